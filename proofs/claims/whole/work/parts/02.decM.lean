theorem dX10_init_0 : decode cX10_init 0 = .ok (.aload_n 0, 1) := by decide +kernel
theorem dX10_init_1 : decode cX10_init 1 = .ok (.invokespecial 1, 3) := by decide +kernel
theorem dX10_init_4 : decode cX10_init 4 = .ok (.aload_n 0, 1) := by decide +kernel
theorem dX10_init_5 : decode cX10_init 5 = .ok (.bipush 12, 2) := by decide +kernel
theorem dX10_init_7 : decode cX10_init 7 = .ok (.newarray .int, 2) := by decide +kernel
theorem dX10_init_9 : decode cX10_init 9 = .ok (.putfield 7, 3) := by decide +kernel
theorem dX10_init_12 : decode cX10_init 12 = .ok (.aload_n 0, 1) := by decide +kernel
theorem dX10_init_13 : decode cX10_init 13 = .ok (.bipush 12, 2) := by decide +kernel
theorem dX10_init_15 : decode cX10_init 15 = .ok (.newarray .int, 2) := by decide +kernel
theorem dX10_init_17 : decode cX10_init 17 = .ok (.putfield 13, 3) := by decide +kernel
theorem dX10_init_20 : decode cX10_init 20 = .ok (.aload_n 0, 1) := by decide +kernel
theorem dX10_init_21 : decode cX10_init 21 = .ok (.bipush 12, 2) := by decide +kernel
theorem dX10_init_23 : decode cX10_init 23 = .ok (.newarray .int, 2) := by decide +kernel
theorem dX10_init_25 : decode cX10_init 25 = .ok (.putfield 16, 3) := by decide +kernel
theorem dX10_init_28 : decode cX10_init 28 = .ok (.aload_n 0, 1) := by decide +kernel
theorem dX10_init_29 : decode cX10_init 29 = .ok (.bipush 12, 2) := by decide +kernel
theorem dX10_init_31 : decode cX10_init 31 = .ok (.newarray .int, 2) := by decide +kernel
theorem dX10_init_33 : decode cX10_init 33 = .ok (.putfield 19, 3) := by decide +kernel
theorem dX10_init_36 : decode cX10_init 36 = .ok (.aload_n 0, 1) := by decide +kernel
theorem dX10_init_37 : decode cX10_init 37 = .ok (.bipush 12, 2) := by decide +kernel
theorem dX10_init_39 : decode cX10_init 39 = .ok (.newarray .int, 2) := by decide +kernel
theorem dX10_init_41 : decode cX10_init 41 = .ok (.putfield 22, 3) := by decide +kernel
theorem dX10_init_44 : decode cX10_init 44 = .ok (.aload_n 0, 1) := by decide +kernel
theorem dX10_init_45 : decode cX10_init 45 = .ok (.bipush 12, 2) := by decide +kernel
theorem dX10_init_47 : decode cX10_init 47 = .ok (.newarray .int, 2) := by decide +kernel
theorem dX10_init_49 : decode cX10_init 49 = .ok (.putfield 25, 3) := by decide +kernel
theorem dX10_init_52 : decode cX10_init 52 = .ok (.aload_n 0, 1) := by decide +kernel
theorem dX10_init_53 : decode cX10_init 53 = .ok (.bipush 12, 2) := by decide +kernel
theorem dX10_init_55 : decode cX10_init 55 = .ok (.newarray .int, 2) := by decide +kernel
theorem dX10_init_57 : decode cX10_init 57 = .ok (.putfield 28, 3) := by decide +kernel
theorem dX10_init_60 : decode cX10_init 60 = .ok (.aload_n 0, 1) := by decide +kernel
theorem dX10_init_61 : decode cX10_init 61 = .ok (.bipush 12, 2) := by decide +kernel
theorem dX10_init_63 : decode cX10_init 63 = .ok (.putfield 31, 3) := by decide +kernel
theorem dX10_init_66 : decode cX10_init 66 = .ok (.aload_n 0, 1) := by decide +kernel
theorem dX10_init_67 : decode cX10_init 67 = .ok (.iconst 1, 1) := by decide +kernel
theorem dX10_init_68 : decode cX10_init 68 = .ok (.putfield 35, 3) := by decide +kernel
theorem dX10_init_71 : decode cX10_init 71 = .ok (.aload_n 0, 1) := by decide +kernel
theorem dX10_init_72 : decode cX10_init 72 = .ok (.bipush 6, 2) := by decide +kernel
theorem dX10_init_74 : decode cX10_init 74 = .ok (.newarray .int, 2) := by decide +kernel
theorem dX10_init_76 : decode cX10_init 76 = .ok (.putfield 38, 3) := by decide +kernel
theorem dX10_init_79 : decode cX10_init 79 = .ok (.aload_n 0, 1) := by decide +kernel
theorem dX10_init_80 : decode cX10_init 80 = .ok (.bipush 6, 2) := by decide +kernel
theorem dX10_init_82 : decode cX10_init 82 = .ok (.newarray .boolean, 2) := by decide +kernel
theorem dX10_init_84 : decode cX10_init 84 = .ok (.putfield 41, 3) := by decide +kernel
theorem dX10_init_87 : decode cX10_init 87 = .ok (.aload_n 0, 1) := by decide +kernel
theorem dX10_init_88 : decode cX10_init 88 = .ok (.sipush 400, 3) := by decide +kernel
theorem dX10_init_91 : decode cX10_init 91 = .ok (.newarray .int, 2) := by decide +kernel
theorem dX10_init_93 : decode cX10_init 93 = .ok (.putfield 45, 3) := by decide +kernel
theorem dX10_init_96 : decode cX10_init 96 = .ok (.aload_n 0, 1) := by decide +kernel
theorem dX10_init_97 : decode cX10_init 97 = .ok (.bipush 60, 2) := by decide +kernel
theorem dX10_init_99 : decode cX10_init 99 = .ok (.newarray .int, 2) := by decide +kernel
theorem dX10_init_101 : decode cX10_init 101 = .ok (.putfield 48, 3) := by decide +kernel
theorem dX10_init_104 : decode cX10_init 104 = .ok (.aload_n 0, 1) := by decide +kernel
theorem dX10_init_105 : decode cX10_init 105 = .ok (.iconst (-1), 1) := by decide +kernel
theorem dX10_init_106 : decode cX10_init 106 = .ok (.putfield 51, 3) := by decide +kernel
theorem dX10_init_109 : decode cX10_init 109 = .ok (.aload_n 0, 1) := by decide +kernel
theorem dX10_init_110 : decode cX10_init 110 = .ok (.sipush 800, 3) := by decide +kernel
theorem dX10_init_113 : decode cX10_init 113 = .ok (.newarray .int, 2) := by decide +kernel
theorem dX10_init_115 : decode cX10_init 115 = .ok (.putfield 54, 3) := by decide +kernel
theorem dX10_init_118 : decode cX10_init 118 = .ok (.aload_n 0, 1) := by decide +kernel
theorem dX10_init_119 : decode cX10_init 119 = .ok (.bipush 10, 2) := by decide +kernel
theorem dX10_init_121 : decode cX10_init 121 = .ok (.newarray .int, 2) := by decide +kernel
theorem dX10_init_123 : decode cX10_init 123 = .ok (.putfield 57, 3) := by decide +kernel
theorem dX10_init_126 : decode cX10_init 126 = .ok (.aload_n 0, 1) := by decide +kernel
theorem dX10_init_127 : decode cX10_init 127 = .ok (.bipush 60, 2) := by decide +kernel
theorem dX10_init_129 : decode cX10_init 129 = .ok (.newarray .int, 2) := by decide +kernel
theorem dX10_init_131 : decode cX10_init 131 = .ok (.putfield 60, 3) := by decide +kernel
theorem dX10_init_134 : decode cX10_init 134 = .ok (.aload_n 0, 1) := by decide +kernel
theorem dX10_init_135 : decode cX10_init 135 = .ok (.bipush 60, 2) := by decide +kernel
theorem dX10_init_137 : decode cX10_init 137 = .ok (.newarray .int, 2) := by decide +kernel
theorem dX10_init_139 : decode cX10_init 139 = .ok (.putfield 63, 3) := by decide +kernel
theorem dX10_init_142 : decode cX10_init 142 = .ok (.aload_n 0, 1) := by decide +kernel
theorem dX10_init_143 : decode cX10_init 143 = .ok (.bipush 60, 2) := by decide +kernel
theorem dX10_init_145 : decode cX10_init 145 = .ok (.newarray .int, 2) := by decide +kernel
theorem dX10_init_147 : decode cX10_init 147 = .ok (.putfield 66, 3) := by decide +kernel
theorem dX10_init_150 : decode cX10_init 150 = .ok (.aload_n 0, 1) := by decide +kernel
theorem dX10_init_151 : decode cX10_init 151 = .ok (.bipush 60, 2) := by decide +kernel
theorem dX10_init_153 : decode cX10_init 153 = .ok (.newarray .int, 2) := by decide +kernel
theorem dX10_init_155 : decode cX10_init 155 = .ok (.putfield 69, 3) := by decide +kernel
theorem dX10_init_158 : decode cX10_init 158 = .ok (.aload_n 0, 1) := by decide +kernel
theorem dX10_init_159 : decode cX10_init 159 = .ok (.bipush 60, 2) := by decide +kernel
theorem dX10_init_161 : decode cX10_init 161 = .ok (.newarray .int, 2) := by decide +kernel
theorem dX10_init_163 : decode cX10_init 163 = .ok (.putfield 72, 3) := by decide +kernel
theorem dX10_init_166 : decode cX10_init 166 = .ok (.aload_n 0, 1) := by decide +kernel
theorem dX10_init_167 : decode cX10_init 167 = .ok (.bipush 20, 2) := by decide +kernel
theorem dX10_init_169 : decode cX10_init 169 = .ok (.newarray .int, 2) := by decide +kernel
theorem dX10_init_171 : decode cX10_init 171 = .ok (.putfield 75, 3) := by decide +kernel
theorem dX10_init_174 : decode cX10_init 174 = .ok (.aload_n 0, 1) := by decide +kernel
theorem dX10_init_175 : decode cX10_init 175 = .ok (.bipush 20, 2) := by decide +kernel
theorem dX10_init_177 : decode cX10_init 177 = .ok (.newarray .int, 2) := by decide +kernel
theorem dX10_init_179 : decode cX10_init 179 = .ok (.putfield 78, 3) := by decide +kernel
theorem dX10_init_182 : decode cX10_init 182 = .ok (.aload_n 0, 1) := by decide +kernel
theorem dX10_init_183 : decode cX10_init 183 = .ok (.iconst 2, 1) := by decide +kernel
theorem dX10_init_184 : decode cX10_init 184 = .ok (.newarray .int, 2) := by decide +kernel
theorem dX10_init_186 : decode cX10_init 186 = .ok (.putfield 81, 3) := by decide +kernel
theorem dX10_init_189 : decode cX10_init 189 = .ok (.aload_n 0, 1) := by decide +kernel
theorem dX10_init_190 : decode cX10_init 190 = .ok (.iconst 2, 1) := by decide +kernel
theorem dX10_init_191 : decode cX10_init 191 = .ok (.newarray .int, 2) := by decide +kernel
theorem dX10_init_193 : decode cX10_init 193 = .ok (.putfield 84, 3) := by decide +kernel
theorem dX10_init_196 : decode cX10_init 196 = .ok (.aload_n 0, 1) := by decide +kernel
theorem dX10_init_197 : decode cX10_init 197 = .ok (.sipush 2000, 3) := by decide +kernel
theorem dX10_init_200 : decode cX10_init 200 = .ok (.newarray .int, 2) := by decide +kernel
theorem dX10_init_202 : decode cX10_init 202 = .ok (.putfield 87, 3) := by decide +kernel
theorem dX10_init_205 : decode cX10_init 205 = .ok (.iconst 0, 1) := by decide +kernel
theorem dX10_init_206 : decode cX10_init 206 = .ok (.istore_n 1, 1) := by decide +kernel
theorem dX10_init_207 : decode cX10_init 207 = .ok (.iload_n 1, 1) := by decide +kernel
theorem dX10_init_208 : decode cX10_init 208 = .ok (.bipush 6, 2) := by decide +kernel
theorem dX10_init_210 : decode cX10_init 210 = .ok (.if_icmp .ge 16, 3) := by decide +kernel
theorem dX10_init_213 : decode cX10_init 213 = .ok (.aload_n 0, 1) := by decide +kernel
theorem dX10_init_214 : decode cX10_init 214 = .ok (.getfield 38, 3) := by decide +kernel
theorem dX10_init_217 : decode cX10_init 217 = .ok (.iload_n 1, 1) := by decide +kernel
theorem dX10_init_218 : decode cX10_init 218 = .ok (.iconst 1, 1) := by decide +kernel
theorem dX10_init_219 : decode cX10_init 219 = .ok (.iastore, 1) := by decide +kernel
theorem dX10_init_220 : decode cX10_init 220 = .ok (.iinc 1 1, 3) := by decide +kernel
theorem dX10_init_223 : decode cX10_init 223 = .ok (.goto (-16), 3) := by decide +kernel
theorem dX10_init_226 : decode cX10_init 226 = .ok (.return_, 1) := by decide +kernel
theorem dX10_isIn_0 : decode cX10_isIn 0 = .ok (.iload_n 0, 1) := by decide +kernel
theorem dX10_isIn_1 : decode cX10_isIn 1 = .ok (.iload_n 1, 1) := by decide +kernel
theorem dX10_isIn_2 : decode cX10_isIn 2 = .ok (.if_icmp .lt 12, 3) := by decide +kernel
theorem dX10_isIn_5 : decode cX10_isIn 5 = .ok (.iload_n 0, 1) := by decide +kernel
theorem dX10_isIn_6 : decode cX10_isIn 6 = .ok (.iload_n 2, 1) := by decide +kernel
theorem dX10_isIn_7 : decode cX10_isIn 7 = .ok (.if_icmp .gt 7, 3) := by decide +kernel
theorem dX10_isIn_10 : decode cX10_isIn 10 = .ok (.iconst 1, 1) := by decide +kernel
theorem dX10_isIn_11 : decode cX10_isIn 11 = .ok (.goto 4, 3) := by decide +kernel
theorem dX10_isIn_14 : decode cX10_isIn 14 = .ok (.iconst 0, 1) := by decide +kernel
theorem dX10_isIn_15 : decode cX10_isIn 15 = .ok (.ireturn, 1) := by decide +kernel
theorem dX10_isStation_0 : decode cX10_isStation 0 = .ok (.iload_n 0, 1) := by decide +kernel
theorem dX10_isStation_1 : decode cX10_isStation 1 = .ok (.iconst 0, 1) := by decide +kernel
theorem dX10_isStation_2 : decode cX10_isStation 2 = .ok (.bipush 9, 2) := by decide +kernel
theorem dX10_isStation_4 : decode cX10_isStation 4 = .ok (.invokestatic 90, 3) := by decide +kernel
theorem dX10_isStation_7 : decode cX10_isStation 7 = .ok (.ireturn, 1) := by decide +kernel
theorem dX10_isFoot_0 : decode cX10_isFoot 0 = .ok (.iload_n 0, 1) := by decide +kernel
theorem dX10_isFoot_1 : decode cX10_isFoot 1 = .ok (.iconst 0, 1) := by decide +kernel
theorem dX10_isFoot_2 : decode cX10_isFoot 2 = .ok (.bipush 79, 2) := by decide +kernel
theorem dX10_isFoot_4 : decode cX10_isFoot 4 = .ok (.invokestatic 90, 3) := by decide +kernel
theorem dX10_isFoot_7 : decode cX10_isFoot 7 = .ok (.ireturn, 1) := by decide +kernel
theorem dX10_isYear_0 : decode cX10_isYear 0 = .ok (.iload_n 0, 1) := by decide +kernel
theorem dX10_isYear_1 : decode cX10_isYear 1 = .ok (.iconst 0, 1) := by decide +kernel
theorem dX10_isYear_2 : decode cX10_isYear 2 = .ok (.sipush 999, 3) := by decide +kernel
theorem dX10_isYear_5 : decode cX10_isYear 5 = .ok (.invokestatic 90, 3) := by decide +kernel
theorem dX10_isYear_8 : decode cX10_isYear 8 = .ok (.ireturn, 1) := by decide +kernel
theorem dX10_isSpan_0 : decode cX10_isSpan 0 = .ok (.iload_n 0, 1) := by decide +kernel
theorem dX10_isSpan_1 : decode cX10_isSpan 1 = .ok (.invokestatic 94, 3) := by decide +kernel
theorem dX10_isSpan_4 : decode cX10_isSpan 4 = .ok (.ifCond .eq 19, 3) := by decide +kernel
theorem dX10_isSpan_7 : decode cX10_isSpan 7 = .ok (.iload_n 1, 1) := by decide +kernel
theorem dX10_isSpan_8 : decode cX10_isSpan 8 = .ok (.invokestatic 94, 3) := by decide +kernel
theorem dX10_isSpan_11 : decode cX10_isSpan 11 = .ok (.ifCond .eq 12, 3) := by decide +kernel
theorem dX10_isSpan_14 : decode cX10_isSpan 14 = .ok (.iload_n 0, 1) := by decide +kernel
theorem dX10_isSpan_15 : decode cX10_isSpan 15 = .ok (.iload_n 1, 1) := by decide +kernel
theorem dX10_isSpan_16 : decode cX10_isSpan 16 = .ok (.if_icmp .gt 7, 3) := by decide +kernel
theorem dX10_isSpan_19 : decode cX10_isSpan 19 = .ok (.iconst 1, 1) := by decide +kernel
theorem dX10_isSpan_20 : decode cX10_isSpan 20 = .ok (.goto 4, 3) := by decide +kernel
theorem dX10_isSpan_23 : decode cX10_isSpan 23 = .ok (.iconst 0, 1) := by decide +kernel
theorem dX10_isSpan_24 : decode cX10_isSpan 24 = .ok (.ireturn, 1) := by decide +kernel
theorem dX10_say_0 : decode cX10_say 0 = .ok (.iload_n 1, 1) := by decide +kernel
theorem dX10_say_1 : decode cX10_say 1 = .ok (.iconst 0, 1) := by decide +kernel
theorem dX10_say_2 : decode cX10_say 2 = .ok (.iconst 5, 1) := by decide +kernel
theorem dX10_say_3 : decode cX10_say 3 = .ok (.invokestatic 90, 3) := by decide +kernel
theorem dX10_say_6 : decode cX10_say 6 = .ok (.ifCond .eq 61, 3) := by decide +kernel
theorem dX10_say_9 : decode cX10_say 9 = .ok (.iload_n 2, 1) := by decide +kernel
theorem dX10_say_10 : decode cX10_say 10 = .ok (.iload_n 3, 1) := by decide +kernel
theorem dX10_say_11 : decode cX10_say 11 = .ok (.invokestatic 98, 3) := by decide +kernel
theorem dX10_say_14 : decode cX10_say 14 = .ok (.ifCond .eq 53, 3) := by decide +kernel
theorem dX10_say_17 : decode cX10_say 17 = .ok (.iload 4, 2) := by decide +kernel
theorem dX10_say_19 : decode cX10_say 19 = .ok (.invokestatic 102, 3) := by decide +kernel
theorem dX10_say_22 : decode cX10_say 22 = .ok (.ifCond .eq 45, 3) := by decide +kernel
theorem dX10_say_25 : decode cX10_say 25 = .ok (.iload 5, 2) := by decide +kernel
theorem dX10_say_27 : decode cX10_say 27 = .ok (.invokestatic 102, 3) := by decide +kernel
theorem dX10_say_30 : decode cX10_say 30 = .ok (.ifCond .eq 37, 3) := by decide +kernel
theorem dX10_say_33 : decode cX10_say 33 = .ok (.iload 4, 2) := by decide +kernel
theorem dX10_say_35 : decode cX10_say 35 = .ok (.iload 5, 2) := by decide +kernel
theorem dX10_say_37 : decode cX10_say 37 = .ok (.if_icmp .gt 30, 3) := by decide +kernel
theorem dX10_say_40 : decode cX10_say 40 = .ok (.iload 6, 2) := by decide +kernel
theorem dX10_say_42 : decode cX10_say 42 = .ok (.invokestatic 105, 3) := by decide +kernel
theorem dX10_say_45 : decode cX10_say 45 = .ok (.ifCond .eq 22, 3) := by decide +kernel
theorem dX10_say_48 : decode cX10_say 48 = .ok (.iload 7, 2) := by decide +kernel
theorem dX10_say_50 : decode cX10_say 50 = .ok (.iconst 0, 1) := by decide +kernel
theorem dX10_say_51 : decode cX10_say 51 = .ok (.iconst 1, 1) := by decide +kernel
theorem dX10_say_52 : decode cX10_say 52 = .ok (.invokestatic 90, 3) := by decide +kernel
theorem dX10_say_55 : decode cX10_say 55 = .ok (.ifCond .eq 12, 3) := by decide +kernel
theorem dX10_say_58 : decode cX10_say 58 = .ok (.aload_n 0, 1) := by decide +kernel
theorem dX10_say_59 : decode cX10_say 59 = .ok (.getfield 108, 3) := by decide +kernel
theorem dX10_say_62 : decode cX10_say 62 = .ok (.bipush 12, 2) := by decide +kernel
theorem dX10_say_64 : decode cX10_say 64 = .ok (.if_icmp .ne 5, 3) := by decide +kernel
theorem dX10_say_67 : decode cX10_say 67 = .ok (.iconst (-1), 1) := by decide +kernel
theorem dX10_say_68 : decode cX10_say 68 = .ok (.ireturn, 1) := by decide +kernel
theorem dX10_say_69 : decode cX10_say 69 = .ok (.aload_n 0, 1) := by decide +kernel
theorem dX10_say_70 : decode cX10_say 70 = .ok (.getfield 7, 3) := by decide +kernel
theorem dX10_say_73 : decode cX10_say 73 = .ok (.aload_n 0, 1) := by decide +kernel
theorem dX10_say_74 : decode cX10_say 74 = .ok (.getfield 108, 3) := by decide +kernel
theorem dX10_say_77 : decode cX10_say 77 = .ok (.iload_n 1, 1) := by decide +kernel
theorem dX10_say_78 : decode cX10_say 78 = .ok (.iastore, 1) := by decide +kernel
theorem dX10_say_79 : decode cX10_say 79 = .ok (.aload_n 0, 1) := by decide +kernel
theorem dX10_say_80 : decode cX10_say 80 = .ok (.getfield 13, 3) := by decide +kernel
theorem dX10_say_83 : decode cX10_say 83 = .ok (.aload_n 0, 1) := by decide +kernel
theorem dX10_say_84 : decode cX10_say 84 = .ok (.getfield 108, 3) := by decide +kernel
theorem dX10_say_87 : decode cX10_say 87 = .ok (.iload_n 2, 1) := by decide +kernel
theorem dX10_say_88 : decode cX10_say 88 = .ok (.iastore, 1) := by decide +kernel
theorem dX10_say_89 : decode cX10_say 89 = .ok (.aload_n 0, 1) := by decide +kernel
theorem dX10_say_90 : decode cX10_say 90 = .ok (.getfield 16, 3) := by decide +kernel
theorem dX10_say_93 : decode cX10_say 93 = .ok (.aload_n 0, 1) := by decide +kernel
theorem dX10_say_94 : decode cX10_say 94 = .ok (.getfield 108, 3) := by decide +kernel
theorem dX10_say_97 : decode cX10_say 97 = .ok (.iload_n 3, 1) := by decide +kernel
theorem dX10_say_98 : decode cX10_say 98 = .ok (.iastore, 1) := by decide +kernel
theorem dX10_say_99 : decode cX10_say 99 = .ok (.aload_n 0, 1) := by decide +kernel
theorem dX10_say_100 : decode cX10_say 100 = .ok (.getfield 19, 3) := by decide +kernel
theorem dX10_say_103 : decode cX10_say 103 = .ok (.aload_n 0, 1) := by decide +kernel
theorem dX10_say_104 : decode cX10_say 104 = .ok (.getfield 108, 3) := by decide +kernel
theorem dX10_say_107 : decode cX10_say 107 = .ok (.iload 4, 2) := by decide +kernel
theorem dX10_say_109 : decode cX10_say 109 = .ok (.iastore, 1) := by decide +kernel
theorem dX10_say_110 : decode cX10_say 110 = .ok (.aload_n 0, 1) := by decide +kernel
theorem dX10_say_111 : decode cX10_say 111 = .ok (.getfield 22, 3) := by decide +kernel
theorem dX10_say_114 : decode cX10_say 114 = .ok (.aload_n 0, 1) := by decide +kernel
theorem dX10_say_115 : decode cX10_say 115 = .ok (.getfield 108, 3) := by decide +kernel
theorem dX10_say_118 : decode cX10_say 118 = .ok (.iload 5, 2) := by decide +kernel
theorem dX10_say_120 : decode cX10_say 120 = .ok (.iastore, 1) := by decide +kernel
theorem dX10_say_121 : decode cX10_say 121 = .ok (.aload_n 0, 1) := by decide +kernel
theorem dX10_say_122 : decode cX10_say 122 = .ok (.getfield 25, 3) := by decide +kernel
theorem dX10_say_125 : decode cX10_say 125 = .ok (.aload_n 0, 1) := by decide +kernel
theorem dX10_say_126 : decode cX10_say 126 = .ok (.getfield 108, 3) := by decide +kernel
theorem dX10_say_129 : decode cX10_say 129 = .ok (.iload 6, 2) := by decide +kernel
theorem dX10_say_131 : decode cX10_say 131 = .ok (.iastore, 1) := by decide +kernel
theorem dX10_say_132 : decode cX10_say 132 = .ok (.aload_n 0, 1) := by decide +kernel
theorem dX10_say_133 : decode cX10_say 133 = .ok (.getfield 28, 3) := by decide +kernel
theorem dX10_say_136 : decode cX10_say 136 = .ok (.aload_n 0, 1) := by decide +kernel
theorem dX10_say_137 : decode cX10_say 137 = .ok (.getfield 108, 3) := by decide +kernel
theorem dX10_say_140 : decode cX10_say 140 = .ok (.iload 7, 2) := by decide +kernel
theorem dX10_say_142 : decode cX10_say 142 = .ok (.iastore, 1) := by decide +kernel
theorem dX10_say_143 : decode cX10_say 143 = .ok (.aload_n 0, 1) := by decide +kernel
theorem dX10_say_144 : decode cX10_say 144 = .ok (.dup, 1) := by decide +kernel
theorem dX10_say_145 : decode cX10_say 145 = .ok (.getfield 108, 3) := by decide +kernel
theorem dX10_say_148 : decode cX10_say 148 = .ok (.iconst 1, 1) := by decide +kernel
theorem dX10_say_149 : decode cX10_say 149 = .ok (.iadd, 1) := by decide +kernel
theorem dX10_say_150 : decode cX10_say 150 = .ok (.putfield 108, 3) := by decide +kernel
theorem dX10_say_153 : decode cX10_say 153 = .ok (.aload_n 0, 1) := by decide +kernel
theorem dX10_say_154 : decode cX10_say 154 = .ok (.getfield 108, 3) := by decide +kernel
theorem dX10_say_157 : decode cX10_say 157 = .ok (.iconst 1, 1) := by decide +kernel
theorem dX10_say_158 : decode cX10_say 158 = .ok (.isub, 1) := by decide +kernel
theorem dX10_say_159 : decode cX10_say 159 = .ok (.ireturn, 1) := by decide +kernel
theorem dX10_feed_0 : decode cX10_feed 0 = .ok (.aload_n 0, 1) := by decide +kernel
theorem dX10_feed_1 : decode cX10_feed 1 = .ok (.getfield 111, 3) := by decide +kernel
theorem dX10_feed_4 : decode cX10_feed 4 = .ok (.bipush 20, 2) := by decide +kernel
theorem dX10_feed_6 : decode cX10_feed 6 = .ok (.iadd, 1) := by decide +kernel
theorem dX10_feed_7 : decode cX10_feed 7 = .ok (.sipush 400, 3) := by decide +kernel
theorem dX10_feed_10 : decode cX10_feed 10 = .ok (.if_icmp .le 5, 3) := by decide +kernel
theorem dX10_feed_13 : decode cX10_feed 13 = .ok (.iconst (-1), 1) := by decide +kernel
theorem dX10_feed_14 : decode cX10_feed 14 = .ok (.ireturn, 1) := by decide +kernel
theorem dX10_feed_15 : decode cX10_feed 15 = .ok (.iconst 0, 1) := by decide +kernel
theorem dX10_feed_16 : decode cX10_feed 16 = .ok (.istore 6, 2) := by decide +kernel
theorem dX10_feed_18 : decode cX10_feed 18 = .ok (.iload 6, 2) := by decide +kernel
theorem dX10_feed_20 : decode cX10_feed 20 = .ok (.bipush 20, 2) := by decide +kernel
theorem dX10_feed_22 : decode cX10_feed 22 = .ok (.if_icmp .ge 93, 3) := by decide +kernel
theorem dX10_feed_25 : decode cX10_feed 25 = .ok (.iload 6, 2) := by decide +kernel
theorem dX10_feed_27 : decode cX10_feed 27 = .ok (.iconst 4, 1) := by decide +kernel
theorem dX10_feed_28 : decode cX10_feed 28 = .ok (.if_icmp .ge 7, 3) := by decide +kernel
theorem dX10_feed_31 : decode cX10_feed 31 = .ok (.iload_n 1, 1) := by decide +kernel
theorem dX10_feed_32 : decode cX10_feed 32 = .ok (.goto 39, 3) := by decide +kernel
theorem dX10_feed_35 : decode cX10_feed 35 = .ok (.iload 6, 2) := by decide +kernel
theorem dX10_feed_37 : decode cX10_feed 37 = .ok (.bipush 8, 2) := by decide +kernel
theorem dX10_feed_39 : decode cX10_feed 39 = .ok (.if_icmp .ge 7, 3) := by decide +kernel
theorem dX10_feed_42 : decode cX10_feed 42 = .ok (.iload_n 2, 1) := by decide +kernel
theorem dX10_feed_43 : decode cX10_feed 43 = .ok (.goto 28, 3) := by decide +kernel
theorem dX10_feed_46 : decode cX10_feed 46 = .ok (.iload 6, 2) := by decide +kernel
theorem dX10_feed_48 : decode cX10_feed 48 = .ok (.bipush 12, 2) := by decide +kernel
theorem dX10_feed_50 : decode cX10_feed 50 = .ok (.if_icmp .ge 7, 3) := by decide +kernel
theorem dX10_feed_53 : decode cX10_feed 53 = .ok (.iload_n 3, 1) := by decide +kernel
theorem dX10_feed_54 : decode cX10_feed 54 = .ok (.goto 17, 3) := by decide +kernel
theorem dX10_feed_57 : decode cX10_feed 57 = .ok (.iload 6, 2) := by decide +kernel
theorem dX10_feed_59 : decode cX10_feed 59 = .ok (.bipush 16, 2) := by decide +kernel
theorem dX10_feed_61 : decode cX10_feed 61 = .ok (.if_icmp .ge 8, 3) := by decide +kernel
theorem dX10_feed_64 : decode cX10_feed 64 = .ok (.iload 4, 2) := by decide +kernel
theorem dX10_feed_66 : decode cX10_feed 66 = .ok (.goto 5, 3) := by decide +kernel
theorem dX10_feed_69 : decode cX10_feed 69 = .ok (.iload 5, 2) := by decide +kernel
theorem dX10_feed_71 : decode cX10_feed 71 = .ok (.istore 7, 2) := by decide +kernel
theorem dX10_feed_73 : decode cX10_feed 73 = .ok (.aload_n 0, 1) := by decide +kernel
theorem dX10_feed_74 : decode cX10_feed 74 = .ok (.getfield 45, 3) := by decide +kernel
theorem dX10_feed_77 : decode cX10_feed 77 = .ok (.aload_n 0, 1) := by decide +kernel
theorem dX10_feed_78 : decode cX10_feed 78 = .ok (.getfield 111, 3) := by decide +kernel
theorem dX10_feed_81 : decode cX10_feed 81 = .ok (.iload 7, 2) := by decide +kernel
theorem dX10_feed_83 : decode cX10_feed 83 = .ok (.bipush 24, 2) := by decide +kernel
theorem dX10_feed_85 : decode cX10_feed 85 = .ok (.bipush 8, 2) := by decide +kernel
theorem dX10_feed_87 : decode cX10_feed 87 = .ok (.iload 6, 2) := by decide +kernel
theorem dX10_feed_89 : decode cX10_feed 89 = .ok (.iconst 4, 1) := by decide +kernel
theorem dX10_feed_90 : decode cX10_feed 90 = .ok (.irem, 1) := by decide +kernel
theorem dX10_feed_91 : decode cX10_feed 91 = .ok (.imul, 1) := by decide +kernel
theorem dX10_feed_92 : decode cX10_feed 92 = .ok (.isub, 1) := by decide +kernel
theorem dX10_feed_93 : decode cX10_feed 93 = .ok (.ishr, 1) := by decide +kernel
theorem dX10_feed_94 : decode cX10_feed 94 = .ok (.sipush 255, 3) := by decide +kernel
theorem dX10_feed_97 : decode cX10_feed 97 = .ok (.iand, 1) := by decide +kernel
theorem dX10_feed_98 : decode cX10_feed 98 = .ok (.iastore, 1) := by decide +kernel
theorem dX10_feed_99 : decode cX10_feed 99 = .ok (.aload_n 0, 1) := by decide +kernel
theorem dX10_feed_100 : decode cX10_feed 100 = .ok (.dup, 1) := by decide +kernel
theorem dX10_feed_101 : decode cX10_feed 101 = .ok (.getfield 111, 3) := by decide +kernel
theorem dX10_feed_104 : decode cX10_feed 104 = .ok (.iconst 1, 1) := by decide +kernel
theorem dX10_feed_105 : decode cX10_feed 105 = .ok (.iadd, 1) := by decide +kernel
theorem dX10_feed_106 : decode cX10_feed 106 = .ok (.putfield 111, 3) := by decide +kernel
theorem dX10_feed_109 : decode cX10_feed 109 = .ok (.iinc 6 1, 3) := by decide +kernel
theorem dX10_feed_112 : decode cX10_feed 112 = .ok (.goto (-94), 3) := by decide +kernel
theorem dX10_feed_115 : decode cX10_feed 115 = .ok (.aload_n 0, 1) := by decide +kernel
theorem dX10_feed_116 : decode cX10_feed 116 = .ok (.getfield 111, 3) := by decide +kernel
theorem dX10_feed_119 : decode cX10_feed 119 = .ok (.ireturn, 1) := by decide +kernel
theorem dX10_end_0 : decode cX10_end 0 = .ok (.iload_n 1, 1) := by decide +kernel
theorem dX10_end_1 : decode cX10_end 1 = .ok (.iconst 0, 1) := by decide +kernel
theorem dX10_end_2 : decode cX10_end 2 = .ok (.aload_n 0, 1) := by decide +kernel
theorem dX10_end_3 : decode cX10_end 3 = .ok (.getfield 111, 3) := by decide +kernel
theorem dX10_end_6 : decode cX10_end 6 = .ok (.invokestatic 90, 3) := by decide +kernel
theorem dX10_end_9 : decode cX10_end 9 = .ok (.ifCond .ne 5, 3) := by decide +kernel
theorem dX10_end_12 : decode cX10_end 12 = .ok (.iconst 0, 1) := by decide +kernel
theorem dX10_end_13 : decode cX10_end 13 = .ok (.ireturn, 1) := by decide +kernel
theorem dX10_end_14 : decode cX10_end 14 = .ok (.aload_n 0, 1) := by decide +kernel
theorem dX10_end_15 : decode cX10_end 15 = .ok (.iload_n 1, 1) := by decide +kernel
theorem dX10_end_16 : decode cX10_end 16 = .ok (.putfield 111, 3) := by decide +kernel
theorem dX10_end_19 : decode cX10_end 19 = .ok (.iconst 1, 1) := by decide +kernel
theorem dX10_end_20 : decode cX10_end 20 = .ok (.ireturn, 1) := by decide +kernel
theorem dX10_see_0 : decode cX10_see 0 = .ok (.iload_n 1, 1) := by decide +kernel
theorem dX10_see_1 : decode cX10_see 1 = .ok (.aload_n 0, 1) := by decide +kernel
theorem dX10_see_2 : decode cX10_see 2 = .ok (.getfield 111, 3) := by decide +kernel
theorem dX10_see_5 : decode cX10_see 5 = .ok (.if_icmp .ge 12, 3) := by decide +kernel
theorem dX10_see_8 : decode cX10_see 8 = .ok (.aload_n 0, 1) := by decide +kernel
theorem dX10_see_9 : decode cX10_see 9 = .ok (.getfield 45, 3) := by decide +kernel
theorem dX10_see_12 : decode cX10_see 12 = .ok (.iload_n 1, 1) := by decide +kernel
theorem dX10_see_13 : decode cX10_see 13 = .ok (.iaload, 1) := by decide +kernel
theorem dX10_see_14 : decode cX10_see 14 = .ok (.goto 4, 3) := by decide +kernel
theorem dX10_see_17 : decode cX10_see 17 = .ok (.iconst (-1), 1) := by decide +kernel
theorem dX10_see_18 : decode cX10_see 18 = .ok (.ireturn, 1) := by decide +kernel
theorem dX10_isLetter_0 : decode cX10_isLetter 0 = .ok (.iload_n 0, 1) := by decide +kernel
theorem dX10_isLetter_1 : decode cX10_isLetter 1 = .ok (.bipush 97, 2) := by decide +kernel
theorem dX10_isLetter_3 : decode cX10_isLetter 3 = .ok (.bipush 122, 2) := by decide +kernel
theorem dX10_isLetter_5 : decode cX10_isLetter 5 = .ok (.invokestatic 90, 3) := by decide +kernel
theorem dX10_isLetter_8 : decode cX10_isLetter 8 = .ok (.ifCond .ne 14, 3) := by decide +kernel
theorem dX10_isLetter_11 : decode cX10_isLetter 11 = .ok (.iload_n 0, 1) := by decide +kernel
theorem dX10_isLetter_12 : decode cX10_isLetter 12 = .ok (.bipush 65, 2) := by decide +kernel
theorem dX10_isLetter_14 : decode cX10_isLetter 14 = .ok (.bipush 90, 2) := by decide +kernel
theorem dX10_isLetter_16 : decode cX10_isLetter 16 = .ok (.invokestatic 90, 3) := by decide +kernel
theorem dX10_isLetter_19 : decode cX10_isLetter 19 = .ok (.ifCond .eq 7, 3) := by decide +kernel
theorem dX10_isLetter_22 : decode cX10_isLetter 22 = .ok (.iconst 1, 1) := by decide +kernel
theorem dX10_isLetter_23 : decode cX10_isLetter 23 = .ok (.goto 4, 3) := by decide +kernel
theorem dX10_isLetter_26 : decode cX10_isLetter 26 = .ok (.iconst 0, 1) := by decide +kernel
theorem dX10_isLetter_27 : decode cX10_isLetter 27 = .ok (.ireturn, 1) := by decide +kernel
theorem dX10_isDigit_0 : decode cX10_isDigit 0 = .ok (.iload_n 0, 1) := by decide +kernel
theorem dX10_isDigit_1 : decode cX10_isDigit 1 = .ok (.bipush 48, 2) := by decide +kernel
theorem dX10_isDigit_3 : decode cX10_isDigit 3 = .ok (.bipush 57, 2) := by decide +kernel
theorem dX10_isDigit_5 : decode cX10_isDigit 5 = .ok (.invokestatic 90, 3) := by decide +kernel
theorem dX10_isDigit_8 : decode cX10_isDigit 8 = .ok (.ireturn, 1) := by decide +kernel
theorem dX10_word_0 : decode cX10_word 0 = .ok (.lload_n 0, 1) := by decide +kernel
theorem dX10_word_1 : decode cX10_word 1 = .ok (.ldc2_w 114, 3) := by decide +kernel
theorem dX10_word_4 : decode cX10_word 4 = .ok (.lcmp, 1) := by decide +kernel
theorem dX10_word_5 : decode cX10_word 5 = .ok (.ifCond .ne 5, 3) := by decide +kernel
theorem dX10_word_8 : decode cX10_word 8 = .ok (.iconst 3, 1) := by decide +kernel
theorem dX10_word_9 : decode cX10_word 9 = .ok (.ireturn, 1) := by decide +kernel
theorem dX10_word_10 : decode cX10_word 10 = .ok (.lload_n 0, 1) := by decide +kernel
theorem dX10_word_11 : decode cX10_word 11 = .ok (.ldc2_w 116, 3) := by decide +kernel
theorem dX10_word_14 : decode cX10_word 14 = .ok (.lcmp, 1) := by decide +kernel
theorem dX10_word_15 : decode cX10_word 15 = .ok (.ifCond .ne 5, 3) := by decide +kernel
theorem dX10_word_18 : decode cX10_word 18 = .ok (.iconst 4, 1) := by decide +kernel
theorem dX10_word_19 : decode cX10_word 19 = .ok (.ireturn, 1) := by decide +kernel
theorem dX10_word_20 : decode cX10_word 20 = .ok (.lload_n 0, 1) := by decide +kernel
theorem dX10_word_21 : decode cX10_word 21 = .ok (.ldc2_w 118, 3) := by decide +kernel
theorem dX10_word_24 : decode cX10_word 24 = .ok (.lcmp, 1) := by decide +kernel
theorem dX10_word_25 : decode cX10_word 25 = .ok (.ifCond .ne 5, 3) := by decide +kernel
theorem dX10_word_28 : decode cX10_word 28 = .ok (.iconst 5, 1) := by decide +kernel
theorem dX10_word_29 : decode cX10_word 29 = .ok (.ireturn, 1) := by decide +kernel
theorem dX10_word_30 : decode cX10_word 30 = .ok (.lload_n 0, 1) := by decide +kernel
theorem dX10_word_31 : decode cX10_word 31 = .ok (.ldc2_w 120, 3) := by decide +kernel
theorem dX10_word_34 : decode cX10_word 34 = .ok (.lcmp, 1) := by decide +kernel
theorem dX10_word_35 : decode cX10_word 35 = .ok (.ifCond .ne 6, 3) := by decide +kernel
theorem dX10_word_38 : decode cX10_word 38 = .ok (.bipush 6, 2) := by decide +kernel
theorem dX10_word_40 : decode cX10_word 40 = .ok (.ireturn, 1) := by decide +kernel
theorem dX10_word_41 : decode cX10_word 41 = .ok (.lload_n 0, 1) := by decide +kernel
theorem dX10_word_42 : decode cX10_word 42 = .ok (.ldc2_w 122, 3) := by decide +kernel
theorem dX10_word_45 : decode cX10_word 45 = .ok (.lcmp, 1) := by decide +kernel
theorem dX10_word_46 : decode cX10_word 46 = .ok (.ifCond .ne 6, 3) := by decide +kernel
theorem dX10_word_49 : decode cX10_word 49 = .ok (.bipush 7, 2) := by decide +kernel
theorem dX10_word_51 : decode cX10_word 51 = .ok (.ireturn, 1) := by decide +kernel
theorem dX10_word_52 : decode cX10_word 52 = .ok (.lload_n 0, 1) := by decide +kernel
theorem dX10_word_53 : decode cX10_word 53 = .ok (.ldc2_w 124, 3) := by decide +kernel
theorem dX10_word_56 : decode cX10_word 56 = .ok (.lcmp, 1) := by decide +kernel
theorem dX10_word_57 : decode cX10_word 57 = .ok (.ifCond .ne 7, 3) := by decide +kernel
theorem dX10_word_60 : decode cX10_word 60 = .ok (.sipush 300, 3) := by decide +kernel
theorem dX10_word_63 : decode cX10_word 63 = .ok (.ireturn, 1) := by decide +kernel
theorem dX10_word_64 : decode cX10_word 64 = .ok (.lload_n 0, 1) := by decide +kernel
theorem dX10_word_65 : decode cX10_word 65 = .ok (.ldc2_w 126, 3) := by decide +kernel
theorem dX10_word_68 : decode cX10_word 68 = .ok (.lcmp, 1) := by decide +kernel
theorem dX10_word_69 : decode cX10_word 69 = .ok (.ifCond .ne 7, 3) := by decide +kernel
theorem dX10_word_72 : decode cX10_word 72 = .ok (.sipush 301, 3) := by decide +kernel
theorem dX10_word_75 : decode cX10_word 75 = .ok (.ireturn, 1) := by decide +kernel
theorem dX10_word_76 : decode cX10_word 76 = .ok (.lload_n 0, 1) := by decide +kernel
theorem dX10_word_77 : decode cX10_word 77 = .ok (.ldc2_w 128, 3) := by decide +kernel
theorem dX10_word_80 : decode cX10_word 80 = .ok (.lcmp, 1) := by decide +kernel
theorem dX10_word_81 : decode cX10_word 81 = .ok (.ifCond .ne 7, 3) := by decide +kernel
theorem dX10_word_84 : decode cX10_word 84 = .ok (.sipush 302, 3) := by decide +kernel
theorem dX10_word_87 : decode cX10_word 87 = .ok (.ireturn, 1) := by decide +kernel
theorem dX10_word_88 : decode cX10_word 88 = .ok (.lload_n 0, 1) := by decide +kernel
theorem dX10_word_89 : decode cX10_word 89 = .ok (.ldc2_w 130, 3) := by decide +kernel
theorem dX10_word_92 : decode cX10_word 92 = .ok (.lcmp, 1) := by decide +kernel
theorem dX10_word_93 : decode cX10_word 93 = .ok (.ifCond .ne 7, 3) := by decide +kernel
theorem dX10_word_96 : decode cX10_word 96 = .ok (.sipush 303, 3) := by decide +kernel
theorem dX10_word_99 : decode cX10_word 99 = .ok (.ireturn, 1) := by decide +kernel
theorem dX10_word_100 : decode cX10_word 100 = .ok (.lload_n 0, 1) := by decide +kernel
theorem dX10_word_101 : decode cX10_word 101 = .ok (.ldc2_w 132, 3) := by decide +kernel
theorem dX10_word_104 : decode cX10_word 104 = .ok (.lcmp, 1) := by decide +kernel
theorem dX10_word_105 : decode cX10_word 105 = .ok (.ifCond .ne 7, 3) := by decide +kernel
theorem dX10_word_108 : decode cX10_word 108 = .ok (.sipush 304, 3) := by decide +kernel
theorem dX10_word_111 : decode cX10_word 111 = .ok (.ireturn, 1) := by decide +kernel
theorem dX10_word_112 : decode cX10_word 112 = .ok (.lload_n 0, 1) := by decide +kernel
theorem dX10_word_113 : decode cX10_word 113 = .ok (.ldc2_w 134, 3) := by decide +kernel
theorem dX10_word_116 : decode cX10_word 116 = .ok (.lcmp, 1) := by decide +kernel
theorem dX10_word_117 : decode cX10_word 117 = .ok (.ifCond .ne 9, 3) := by decide +kernel
theorem dX10_word_120 : decode cX10_word 120 = .ok (.sipush 305, 3) := by decide +kernel
theorem dX10_word_123 : decode cX10_word 123 = .ok (.goto 4, 3) := by decide +kernel
theorem dX10_word_126 : decode cX10_word 126 = .ok (.iconst 1, 1) := by decide +kernel
theorem dX10_word_127 : decode cX10_word 127 = .ok (.ireturn, 1) := by decide +kernel
theorem dX10_next0_0 : decode cX10_next0 0 = .ok (.aload_n 0, 1) := by decide +kernel
theorem dX10_next0_1 : decode cX10_next0 1 = .ok (.aload_n 0, 1) := by decide +kernel
theorem dX10_next0_2 : decode cX10_next0 2 = .ok (.getfield 136, 3) := by decide +kernel
theorem dX10_next0_5 : decode cX10_next0 5 = .ok (.invokevirtual 139, 3) := by decide +kernel
theorem dX10_next0_8 : decode cX10_next0 8 = .ok (.bipush 32, 2) := by decide +kernel
theorem dX10_next0_10 : decode cX10_next0 10 = .ok (.if_icmp .eq 16, 3) := by decide +kernel
theorem dX10_next0_13 : decode cX10_next0 13 = .ok (.aload_n 0, 1) := by decide +kernel
theorem dX10_next0_14 : decode cX10_next0 14 = .ok (.aload_n 0, 1) := by decide +kernel
theorem dX10_next0_15 : decode cX10_next0 15 = .ok (.getfield 136, 3) := by decide +kernel
theorem dX10_next0_18 : decode cX10_next0 18 = .ok (.invokevirtual 139, 3) := by decide +kernel
theorem dX10_next0_21 : decode cX10_next0 21 = .ok (.bipush 10, 2) := by decide +kernel
theorem dX10_next0_23 : decode cX10_next0 23 = .ok (.if_icmp .ne 16, 3) := by decide +kernel
theorem dX10_next0_26 : decode cX10_next0 26 = .ok (.aload_n 0, 1) := by decide +kernel
theorem dX10_next0_27 : decode cX10_next0 27 = .ok (.dup, 1) := by decide +kernel
theorem dX10_next0_28 : decode cX10_next0 28 = .ok (.getfield 136, 3) := by decide +kernel
theorem dX10_next0_31 : decode cX10_next0 31 = .ok (.iconst 1, 1) := by decide +kernel
theorem dX10_next0_32 : decode cX10_next0 32 = .ok (.iadd, 1) := by decide +kernel
theorem dX10_next0_33 : decode cX10_next0 33 = .ok (.putfield 136, 3) := by decide +kernel
theorem dX10_next0_36 : decode cX10_next0 36 = .ok (.goto (-36), 3) := by decide +kernel
theorem dX10_next0_39 : decode cX10_next0 39 = .ok (.aload_n 0, 1) := by decide +kernel
theorem dX10_next0_40 : decode cX10_next0 40 = .ok (.aload_n 0, 1) := by decide +kernel
theorem dX10_next0_41 : decode cX10_next0 41 = .ok (.getfield 136, 3) := by decide +kernel
theorem dX10_next0_44 : decode cX10_next0 44 = .ok (.putfield 143, 3) := by decide +kernel
theorem dX10_next0_47 : decode cX10_next0 47 = .ok (.aload_n 0, 1) := by decide +kernel
theorem dX10_next0_48 : decode cX10_next0 48 = .ok (.aload_n 0, 1) := by decide +kernel
theorem dX10_next0_49 : decode cX10_next0 49 = .ok (.getfield 136, 3) := by decide +kernel
theorem dX10_next0_52 : decode cX10_next0 52 = .ok (.invokevirtual 139, 3) := by decide +kernel
theorem dX10_next0_55 : decode cX10_next0 55 = .ok (.istore_n 1, 1) := by decide +kernel
theorem dX10_next0_56 : decode cX10_next0 56 = .ok (.iconst 0, 1) := by decide +kernel
theorem dX10_next0_57 : decode cX10_next0 57 = .ok (.istore_n 2, 1) := by decide +kernel
theorem dX10_next0_58 : decode cX10_next0 58 = .ok (.iload_n 1, 1) := by decide +kernel
theorem dX10_next0_59 : decode cX10_next0 59 = .ok (.iconst (-1), 1) := by decide +kernel
theorem dX10_next0_60 : decode cX10_next0 60 = .ok (.if_icmp .ne 11, 3) := by decide +kernel
theorem dX10_next0_63 : decode cX10_next0 63 = .ok (.aload_n 0, 1) := by decide +kernel
theorem dX10_next0_64 : decode cX10_next0 64 = .ok (.iconst 0, 1) := by decide +kernel
theorem dX10_next0_65 : decode cX10_next0 65 = .ok (.putfield 146, 3) := by decide +kernel
theorem dX10_next0_68 : decode cX10_next0 68 = .ok (.goto 196, 3) := by decide +kernel
theorem dX10_next0_71 : decode cX10_next0 71 = .ok (.iload_n 1, 1) := by decide +kernel
theorem dX10_next0_72 : decode cX10_next0 72 = .ok (.invokestatic 149, 3) := by decide +kernel
theorem dX10_next0_75 : decode cX10_next0 75 = .ok (.ifCond .eq 77, 3) := by decide +kernel
theorem dX10_next0_78 : decode cX10_next0 78 = .ok (.lconst 0, 1) := by decide +kernel
theorem dX10_next0_79 : decode cX10_next0 79 = .ok (.lstore_n 3, 1) := by decide +kernel
theorem dX10_next0_80 : decode cX10_next0 80 = .ok (.aload_n 0, 1) := by decide +kernel
theorem dX10_next0_81 : decode cX10_next0 81 = .ok (.aload_n 0, 1) := by decide +kernel
theorem dX10_next0_82 : decode cX10_next0 82 = .ok (.getfield 136, 3) := by decide +kernel
theorem dX10_next0_85 : decode cX10_next0 85 = .ok (.invokevirtual 139, 3) := by decide +kernel
theorem dX10_next0_88 : decode cX10_next0 88 = .ok (.invokestatic 149, 3) := by decide +kernel
theorem dX10_next0_91 : decode cX10_next0 91 = .ok (.ifCond .eq 40, 3) := by decide +kernel
theorem dX10_next0_94 : decode cX10_next0 94 = .ok (.iload_n 2, 1) := by decide +kernel
theorem dX10_next0_95 : decode cX10_next0 95 = .ok (.bipush 7, 2) := by decide +kernel
theorem dX10_next0_97 : decode cX10_next0 97 = .ok (.if_icmp .ge 18, 3) := by decide +kernel
theorem dX10_next0_100 : decode cX10_next0 100 = .ok (.lload_n 3, 1) := by decide +kernel
theorem dX10_next0_101 : decode cX10_next0 101 = .ok (.bipush 8, 2) := by decide +kernel
theorem dX10_next0_103 : decode cX10_next0 103 = .ok (.lshl, 1) := by decide +kernel
theorem dX10_next0_104 : decode cX10_next0 104 = .ok (.aload_n 0, 1) := by decide +kernel
theorem dX10_next0_105 : decode cX10_next0 105 = .ok (.aload_n 0, 1) := by decide +kernel
theorem dX10_next0_106 : decode cX10_next0 106 = .ok (.getfield 136, 3) := by decide +kernel
theorem dX10_next0_109 : decode cX10_next0 109 = .ok (.invokevirtual 139, 3) := by decide +kernel
theorem dX10_next0_112 : decode cX10_next0 112 = .ok (.i2l, 1) := by decide +kernel
theorem dX10_next0_113 : decode cX10_next0 113 = .ok (.lor, 1) := by decide +kernel
theorem dX10_next0_114 : decode cX10_next0 114 = .ok (.lstore_n 3, 1) := by decide +kernel
theorem dX10_next0_115 : decode cX10_next0 115 = .ok (.iinc 2 1, 3) := by decide +kernel
theorem dX10_next0_118 : decode cX10_next0 118 = .ok (.aload_n 0, 1) := by decide +kernel
theorem dX10_next0_119 : decode cX10_next0 119 = .ok (.dup, 1) := by decide +kernel
theorem dX10_next0_120 : decode cX10_next0 120 = .ok (.getfield 136, 3) := by decide +kernel
theorem dX10_next0_123 : decode cX10_next0 123 = .ok (.iconst 1, 1) := by decide +kernel
theorem dX10_next0_124 : decode cX10_next0 124 = .ok (.iadd, 1) := by decide +kernel
theorem dX10_next0_125 : decode cX10_next0 125 = .ok (.putfield 136, 3) := by decide +kernel
theorem dX10_next0_128 : decode cX10_next0 128 = .ok (.goto (-48), 3) := by decide +kernel
theorem dX10_next0_131 : decode cX10_next0 131 = .ok (.aload_n 0, 1) := by decide +kernel
theorem dX10_next0_132 : decode cX10_next0 132 = .ok (.iload_n 2, 1) := by decide +kernel
theorem dX10_next0_133 : decode cX10_next0 133 = .ok (.bipush 7, 2) := by decide +kernel
theorem dX10_next0_135 : decode cX10_next0 135 = .ok (.if_icmp .ge 10, 3) := by decide +kernel
theorem dX10_next0_138 : decode cX10_next0 138 = .ok (.lload_n 3, 1) := by decide +kernel
theorem dX10_next0_139 : decode cX10_next0 139 = .ok (.invokestatic 152, 3) := by decide +kernel
theorem dX10_next0_142 : decode cX10_next0 142 = .ok (.goto 4, 3) := by decide +kernel
theorem dX10_next0_145 : decode cX10_next0 145 = .ok (.iconst 1, 1) := by decide +kernel
theorem dX10_next0_146 : decode cX10_next0 146 = .ok (.putfield 146, 3) := by decide +kernel
theorem dX10_next0_149 : decode cX10_next0 149 = .ok (.goto 115, 3) := by decide +kernel
theorem dX10_next0_152 : decode cX10_next0 152 = .ok (.iload_n 1, 1) := by decide +kernel
theorem dX10_next0_153 : decode cX10_next0 153 = .ok (.invokestatic 156, 3) := by decide +kernel
theorem dX10_next0_156 : decode cX10_next0 156 = .ok (.ifCond .eq 83, 3) := by decide +kernel
theorem dX10_next0_159 : decode cX10_next0 159 = .ok (.aload_n 0, 1) := by decide +kernel
theorem dX10_next0_160 : decode cX10_next0 160 = .ok (.iconst 0, 1) := by decide +kernel
theorem dX10_next0_161 : decode cX10_next0 161 = .ok (.putfield 159, 3) := by decide +kernel
theorem dX10_next0_164 : decode cX10_next0 164 = .ok (.aload_n 0, 1) := by decide +kernel
theorem dX10_next0_165 : decode cX10_next0 165 = .ok (.aload_n 0, 1) := by decide +kernel
theorem dX10_next0_166 : decode cX10_next0 166 = .ok (.getfield 136, 3) := by decide +kernel
theorem dX10_next0_169 : decode cX10_next0 169 = .ok (.invokevirtual 139, 3) := by decide +kernel
theorem dX10_next0_172 : decode cX10_next0 172 = .ok (.invokestatic 156, 3) := by decide +kernel
theorem dX10_next0_175 : decode cX10_next0 175 = .ok (.ifCond .eq 47, 3) := by decide +kernel
theorem dX10_next0_178 : decode cX10_next0 178 = .ok (.iload_n 2, 1) := by decide +kernel
theorem dX10_next0_179 : decode cX10_next0 179 = .ok (.iconst 2, 1) := by decide +kernel
theorem dX10_next0_180 : decode cX10_next0 180 = .ok (.if_icmp .ge 26, 3) := by decide +kernel
theorem dX10_next0_183 : decode cX10_next0 183 = .ok (.aload_n 0, 1) := by decide +kernel
theorem dX10_next0_184 : decode cX10_next0 184 = .ok (.bipush 10, 2) := by decide +kernel
theorem dX10_next0_186 : decode cX10_next0 186 = .ok (.aload_n 0, 1) := by decide +kernel
theorem dX10_next0_187 : decode cX10_next0 187 = .ok (.getfield 159, 3) := by decide +kernel
theorem dX10_next0_190 : decode cX10_next0 190 = .ok (.imul, 1) := by decide +kernel
theorem dX10_next0_191 : decode cX10_next0 191 = .ok (.aload_n 0, 1) := by decide +kernel
theorem dX10_next0_192 : decode cX10_next0 192 = .ok (.aload_n 0, 1) := by decide +kernel
theorem dX10_next0_193 : decode cX10_next0 193 = .ok (.getfield 136, 3) := by decide +kernel
theorem dX10_next0_196 : decode cX10_next0 196 = .ok (.invokevirtual 139, 3) := by decide +kernel
theorem dX10_next0_199 : decode cX10_next0 199 = .ok (.iadd, 1) := by decide +kernel
theorem dX10_next0_200 : decode cX10_next0 200 = .ok (.bipush 48, 2) := by decide +kernel
theorem dX10_next0_202 : decode cX10_next0 202 = .ok (.isub, 1) := by decide +kernel
theorem dX10_next0_203 : decode cX10_next0 203 = .ok (.putfield 159, 3) := by decide +kernel
theorem dX10_next0_206 : decode cX10_next0 206 = .ok (.iinc 2 1, 3) := by decide +kernel
theorem dX10_next0_209 : decode cX10_next0 209 = .ok (.aload_n 0, 1) := by decide +kernel
theorem dX10_next0_210 : decode cX10_next0 210 = .ok (.dup, 1) := by decide +kernel
theorem dX10_next0_211 : decode cX10_next0 211 = .ok (.getfield 136, 3) := by decide +kernel
theorem dX10_next0_214 : decode cX10_next0 214 = .ok (.iconst 1, 1) := by decide +kernel
theorem dX10_next0_215 : decode cX10_next0 215 = .ok (.iadd, 1) := by decide +kernel
theorem dX10_next0_216 : decode cX10_next0 216 = .ok (.putfield 136, 3) := by decide +kernel
theorem dX10_next0_219 : decode cX10_next0 219 = .ok (.goto (-55), 3) := by decide +kernel
theorem dX10_next0_222 : decode cX10_next0 222 = .ok (.aload_n 0, 1) := by decide +kernel
theorem dX10_next0_223 : decode cX10_next0 223 = .ok (.iload_n 2, 1) := by decide +kernel
theorem dX10_next0_224 : decode cX10_next0 224 = .ok (.iconst 3, 1) := by decide +kernel
theorem dX10_next0_225 : decode cX10_next0 225 = .ok (.if_icmp .ge 7, 3) := by decide +kernel
theorem dX10_next0_228 : decode cX10_next0 228 = .ok (.iconst 2, 1) := by decide +kernel
theorem dX10_next0_229 : decode cX10_next0 229 = .ok (.goto 4, 3) := by decide +kernel
theorem dX10_next0_232 : decode cX10_next0 232 = .ok (.iconst 1, 1) := by decide +kernel
theorem dX10_next0_233 : decode cX10_next0 233 = .ok (.putfield 146, 3) := by decide +kernel
theorem dX10_next0_236 : decode cX10_next0 236 = .ok (.goto 28, 3) := by decide +kernel
theorem dX10_next0_239 : decode cX10_next0 239 = .ok (.aload_n 0, 1) := by decide +kernel
theorem dX10_next0_240 : decode cX10_next0 240 = .ok (.dup, 1) := by decide +kernel
theorem dX10_next0_241 : decode cX10_next0 241 = .ok (.getfield 136, 3) := by decide +kernel
theorem dX10_next0_244 : decode cX10_next0 244 = .ok (.iconst 1, 1) := by decide +kernel
theorem dX10_next0_245 : decode cX10_next0 245 = .ok (.iadd, 1) := by decide +kernel
theorem dX10_next0_246 : decode cX10_next0 246 = .ok (.putfield 136, 3) := by decide +kernel
theorem dX10_next0_249 : decode cX10_next0 249 = .ok (.aload_n 0, 1) := by decide +kernel
theorem dX10_next0_250 : decode cX10_next0 250 = .ok (.iload_n 1, 1) := by decide +kernel
theorem dX10_next0_251 : decode cX10_next0 251 = .ok (.bipush 59, 2) := by decide +kernel
theorem dX10_next0_253 : decode cX10_next0 253 = .ok (.if_icmp .ne 7, 3) := by decide +kernel
theorem dX10_next0_256 : decode cX10_next0 256 = .ok (.iload_n 1, 1) := by decide +kernel
theorem dX10_next0_257 : decode cX10_next0 257 = .ok (.goto 4, 3) := by decide +kernel
theorem dX10_next0_260 : decode cX10_next0 260 = .ok (.iconst 1, 1) := by decide +kernel
theorem dX10_next0_261 : decode cX10_next0 261 = .ok (.putfield 146, 3) := by decide +kernel
theorem dX10_next0_264 : decode cX10_next0 264 = .ok (.return_, 1) := by decide +kernel
theorem dX10_bad_0 : decode cX10_bad 0 = .ok (.aload_n 0, 1) := by decide +kernel
theorem dX10_bad_1 : decode cX10_bad 1 = .ok (.iload_n 1, 1) := by decide +kernel
theorem dX10_bad_2 : decode cX10_bad 2 = .ok (.putfield 162, 3) := by decide +kernel
theorem dX10_bad_5 : decode cX10_bad 5 = .ok (.aload_n 0, 1) := by decide +kernel
theorem dX10_bad_6 : decode cX10_bad 6 = .ok (.aload_n 0, 1) := by decide +kernel
theorem dX10_bad_7 : decode cX10_bad 7 = .ok (.getfield 143, 3) := by decide +kernel
theorem dX10_bad_10 : decode cX10_bad 10 = .ok (.putfield 165, 3) := by decide +kernel
theorem dX10_bad_13 : decode cX10_bad 13 = .ok (.iconst 0, 1) := by decide +kernel
theorem dX10_bad_14 : decode cX10_bad 14 = .ok (.ireturn, 1) := by decide +kernel
theorem dX10_aKind_0 : decode cX10_aKind 0 = .ok (.aload_n 0, 1) := by decide +kernel
theorem dX10_aKind_1 : decode cX10_aKind 1 = .ok (.getfield 146, 3) := by decide +kernel
theorem dX10_aKind_4 : decode cX10_aKind 4 = .ok (.sipush 300, 3) := by decide +kernel
theorem dX10_aKind_7 : decode cX10_aKind 7 = .ok (.sipush 305, 3) := by decide +kernel
theorem dX10_aKind_10 : decode cX10_aKind 10 = .ok (.invokestatic 90, 3) := by decide +kernel
theorem dX10_aKind_13 : decode cX10_aKind 13 = .ok (.ifCond .ne 9, 3) := by decide +kernel
theorem dX10_aKind_16 : decode cX10_aKind 16 = .ok (.aload_n 0, 1) := by decide +kernel
theorem dX10_aKind_17 : decode cX10_aKind 17 = .ok (.iconst 1, 1) := by decide +kernel
theorem dX10_aKind_18 : decode cX10_aKind 18 = .ok (.invokevirtual 168, 3) := by decide +kernel
theorem dX10_aKind_21 : decode cX10_aKind 21 = .ok (.ireturn, 1) := by decide +kernel
theorem dX10_aKind_22 : decode cX10_aKind 22 = .ok (.aload_n 0, 1) := by decide +kernel
theorem dX10_aKind_23 : decode cX10_aKind 23 = .ok (.getfield 48, 3) := by decide +kernel
theorem dX10_aKind_26 : decode cX10_aKind 26 = .ok (.iconst 3, 1) := by decide +kernel
theorem dX10_aKind_27 : decode cX10_aKind 27 = .ok (.aload_n 0, 1) := by decide +kernel
theorem dX10_aKind_28 : decode cX10_aKind 28 = .ok (.getfield 171, 3) := by decide +kernel
theorem dX10_aKind_31 : decode cX10_aKind 31 = .ok (.imul, 1) := by decide +kernel
theorem dX10_aKind_32 : decode cX10_aKind 32 = .ok (.iconst 1, 1) := by decide +kernel
theorem dX10_aKind_33 : decode cX10_aKind 33 = .ok (.iadd, 1) := by decide +kernel
theorem dX10_aKind_34 : decode cX10_aKind 34 = .ok (.aload_n 0, 1) := by decide +kernel
theorem dX10_aKind_35 : decode cX10_aKind 35 = .ok (.getfield 146, 3) := by decide +kernel
theorem dX10_aKind_38 : decode cX10_aKind 38 = .ok (.sipush 300, 3) := by decide +kernel
theorem dX10_aKind_41 : decode cX10_aKind 41 = .ok (.isub, 1) := by decide +kernel
theorem dX10_aKind_42 : decode cX10_aKind 42 = .ok (.iastore, 1) := by decide +kernel
theorem dX10_aKind_43 : decode cX10_aKind 43 = .ok (.aload_n 0, 1) := by decide +kernel
theorem dX10_aKind_44 : decode cX10_aKind 44 = .ok (.invokevirtual 174, 3) := by decide +kernel
theorem dX10_aKind_47 : decode cX10_aKind 47 = .ok (.iconst 1, 1) := by decide +kernel
theorem dX10_aKind_48 : decode cX10_aKind 48 = .ok (.ireturn, 1) := by decide +kernel
theorem dX10_aNumber_0 : decode cX10_aNumber 0 = .ok (.aload_n 0, 1) := by decide +kernel
theorem dX10_aNumber_1 : decode cX10_aNumber 1 = .ok (.getfield 146, 3) := by decide +kernel
theorem dX10_aNumber_4 : decode cX10_aNumber 4 = .ok (.iconst 2, 1) := by decide +kernel
theorem dX10_aNumber_5 : decode cX10_aNumber 5 = .ok (.if_icmp .eq 9, 3) := by decide +kernel
theorem dX10_aNumber_8 : decode cX10_aNumber 8 = .ok (.aload_n 0, 1) := by decide +kernel
theorem dX10_aNumber_9 : decode cX10_aNumber 9 = .ok (.iconst 1, 1) := by decide +kernel
theorem dX10_aNumber_10 : decode cX10_aNumber 10 = .ok (.invokevirtual 168, 3) := by decide +kernel
theorem dX10_aNumber_13 : decode cX10_aNumber 13 = .ok (.ireturn, 1) := by decide +kernel
theorem dX10_aNumber_14 : decode cX10_aNumber 14 = .ok (.aload_n 0, 1) := by decide +kernel
theorem dX10_aNumber_15 : decode cX10_aNumber 15 = .ok (.getfield 159, 3) := by decide +kernel
theorem dX10_aNumber_18 : decode cX10_aNumber 18 = .ok (.iload_n 1, 1) := by decide +kernel
theorem dX10_aNumber_19 : decode cX10_aNumber 19 = .ok (.iload_n 2, 1) := by decide +kernel
theorem dX10_aNumber_20 : decode cX10_aNumber 20 = .ok (.invokestatic 90, 3) := by decide +kernel
theorem dX10_aNumber_23 : decode cX10_aNumber 23 = .ok (.ifCond .ne 9, 3) := by decide +kernel
theorem dX10_aNumber_26 : decode cX10_aNumber 26 = .ok (.aload_n 0, 1) := by decide +kernel
theorem dX10_aNumber_27 : decode cX10_aNumber 27 = .ok (.iconst 2, 1) := by decide +kernel
theorem dX10_aNumber_28 : decode cX10_aNumber 28 = .ok (.invokevirtual 168, 3) := by decide +kernel
theorem dX10_aNumber_31 : decode cX10_aNumber 31 = .ok (.ireturn, 1) := by decide +kernel
theorem dX10_aNumber_32 : decode cX10_aNumber 32 = .ok (.aload_n 0, 1) := by decide +kernel
theorem dX10_aNumber_33 : decode cX10_aNumber 33 = .ok (.getfield 48, 3) := by decide +kernel
theorem dX10_aNumber_36 : decode cX10_aNumber 36 = .ok (.iconst 3, 1) := by decide +kernel
theorem dX10_aNumber_37 : decode cX10_aNumber 37 = .ok (.aload_n 0, 1) := by decide +kernel
theorem dX10_aNumber_38 : decode cX10_aNumber 38 = .ok (.getfield 171, 3) := by decide +kernel
theorem dX10_aNumber_41 : decode cX10_aNumber 41 = .ok (.imul, 1) := by decide +kernel
theorem dX10_aNumber_42 : decode cX10_aNumber 42 = .ok (.iconst 2, 1) := by decide +kernel
theorem dX10_aNumber_43 : decode cX10_aNumber 43 = .ok (.iadd, 1) := by decide +kernel
theorem dX10_aNumber_44 : decode cX10_aNumber 44 = .ok (.aload_n 0, 1) := by decide +kernel
theorem dX10_aNumber_45 : decode cX10_aNumber 45 = .ok (.getfield 159, 3) := by decide +kernel
theorem dX10_aNumber_48 : decode cX10_aNumber 48 = .ok (.iastore, 1) := by decide +kernel
theorem dX10_aNumber_49 : decode cX10_aNumber 49 = .ok (.aload_n 0, 1) := by decide +kernel
theorem dX10_aNumber_50 : decode cX10_aNumber 50 = .ok (.invokevirtual 174, 3) := by decide +kernel
theorem dX10_aNumber_53 : decode cX10_aNumber 53 = .ok (.iconst 1, 1) := by decide +kernel
theorem dX10_aNumber_54 : decode cX10_aNumber 54 = .ok (.ireturn, 1) := by decide +kernel
theorem dX10_aLine_0 : decode cX10_aLine 0 = .ok (.aload_n 0, 1) := by decide +kernel
theorem dX10_aLine_1 : decode cX10_aLine 1 = .ok (.getfield 146, 3) := by decide +kernel
theorem dX10_aLine_4 : decode cX10_aLine 4 = .ok (.istore_n 1, 1) := by decide +kernel
theorem dX10_aLine_5 : decode cX10_aLine 5 = .ok (.iload_n 1, 1) := by decide +kernel
theorem dX10_aLine_6 : decode cX10_aLine 6 = .ok (.iconst 3, 1) := by decide +kernel
theorem dX10_aLine_7 : decode cX10_aLine 7 = .ok (.bipush 7, 2) := by decide +kernel
theorem dX10_aLine_9 : decode cX10_aLine 9 = .ok (.invokestatic 90, 3) := by decide +kernel
theorem dX10_aLine_12 : decode cX10_aLine 12 = .ok (.ifCond .ne 9, 3) := by decide +kernel
theorem dX10_aLine_15 : decode cX10_aLine 15 = .ok (.aload_n 0, 1) := by decide +kernel
theorem dX10_aLine_16 : decode cX10_aLine 16 = .ok (.iconst 1, 1) := by decide +kernel
theorem dX10_aLine_17 : decode cX10_aLine 17 = .ok (.invokevirtual 168, 3) := by decide +kernel
theorem dX10_aLine_20 : decode cX10_aLine 20 = .ok (.ireturn, 1) := by decide +kernel
theorem dX10_aLine_21 : decode cX10_aLine 21 = .ok (.aload_n 0, 1) := by decide +kernel
theorem dX10_aLine_22 : decode cX10_aLine 22 = .ok (.getfield 171, 3) := by decide +kernel
theorem dX10_aLine_25 : decode cX10_aLine 25 = .ok (.bipush 20, 2) := by decide +kernel
theorem dX10_aLine_27 : decode cX10_aLine 27 = .ok (.if_icmp .ne 9, 3) := by decide +kernel
theorem dX10_aLine_30 : decode cX10_aLine 30 = .ok (.aload_n 0, 1) := by decide +kernel
theorem dX10_aLine_31 : decode cX10_aLine 31 = .ok (.iconst 3, 1) := by decide +kernel
theorem dX10_aLine_32 : decode cX10_aLine 32 = .ok (.invokevirtual 168, 3) := by decide +kernel
theorem dX10_aLine_35 : decode cX10_aLine 35 = .ok (.ireturn, 1) := by decide +kernel
theorem dX10_aLine_36 : decode cX10_aLine 36 = .ok (.aload_n 0, 1) := by decide +kernel
theorem dX10_aLine_37 : decode cX10_aLine 37 = .ok (.getfield 48, 3) := by decide +kernel
theorem dX10_aLine_40 : decode cX10_aLine 40 = .ok (.iconst 3, 1) := by decide +kernel
theorem dX10_aLine_41 : decode cX10_aLine 41 = .ok (.aload_n 0, 1) := by decide +kernel
theorem dX10_aLine_42 : decode cX10_aLine 42 = .ok (.getfield 171, 3) := by decide +kernel
theorem dX10_aLine_45 : decode cX10_aLine 45 = .ok (.imul, 1) := by decide +kernel
theorem dX10_aLine_46 : decode cX10_aLine 46 = .ok (.iload_n 1, 1) := by decide +kernel
theorem dX10_aLine_47 : decode cX10_aLine 47 = .ok (.iastore, 1) := by decide +kernel
theorem dX10_aLine_48 : decode cX10_aLine 48 = .ok (.aload_n 0, 1) := by decide +kernel
theorem dX10_aLine_49 : decode cX10_aLine 49 = .ok (.invokevirtual 174, 3) := by decide +kernel
theorem dX10_aLine_52 : decode cX10_aLine 52 = .ok (.iload_n 1, 1) := by decide +kernel
theorem dX10_aLine_53 : decode cX10_aLine 53 = .ok (.iconst 3, 1) := by decide +kernel
theorem dX10_aLine_54 : decode cX10_aLine 54 = .ok (.if_icmp .eq 9, 3) := by decide +kernel
theorem dX10_aLine_57 : decode cX10_aLine 57 = .ok (.iload_n 1, 1) := by decide +kernel
theorem dX10_aLine_58 : decode cX10_aLine 58 = .ok (.bipush 7, 2) := by decide +kernel
theorem dX10_aLine_60 : decode cX10_aLine 60 = .ok (.if_icmp .ne 12, 3) := by decide +kernel
theorem dX10_aLine_63 : decode cX10_aLine 63 = .ok (.aload_n 0, 1) := by decide +kernel
theorem dX10_aLine_64 : decode cX10_aLine 64 = .ok (.invokevirtual 177, 3) := by decide +kernel
theorem dX10_aLine_67 : decode cX10_aLine 67 = .ok (.ifCond .ne 5, 3) := by decide +kernel
theorem dX10_aLine_70 : decode cX10_aLine 70 = .ok (.iconst 0, 1) := by decide +kernel
theorem dX10_aLine_71 : decode cX10_aLine 71 = .ok (.ireturn, 1) := by decide +kernel
theorem dX10_aLine_72 : decode cX10_aLine 72 = .ok (.iload_n 1, 1) := by decide +kernel
theorem dX10_aLine_73 : decode cX10_aLine 73 = .ok (.bipush 7, 2) := by decide +kernel
theorem dX10_aLine_75 : decode cX10_aLine 75 = .ok (.if_icmp .eq 44, 3) := by decide +kernel
theorem dX10_aLine_78 : decode cX10_aLine 78 = .ok (.aload_n 0, 1) := by decide +kernel
theorem dX10_aLine_79 : decode cX10_aLine 79 = .ok (.iload_n 1, 1) := by decide +kernel
theorem dX10_aLine_80 : decode cX10_aLine 80 = .ok (.iconst 5, 1) := by decide +kernel
theorem dX10_aLine_81 : decode cX10_aLine 81 = .ok (.if_icmp .ne 7, 3) := by decide +kernel
theorem dX10_aLine_84 : decode cX10_aLine 84 = .ok (.iconst 1, 1) := by decide +kernel
theorem dX10_aLine_85 : decode cX10_aLine 85 = .ok (.goto 4, 3) := by decide +kernel
theorem dX10_aLine_88 : decode cX10_aLine 88 = .ok (.iconst 0, 1) := by decide +kernel
theorem dX10_aLine_89 : decode cX10_aLine 89 = .ok (.iload_n 1, 1) := by decide +kernel
theorem dX10_aLine_90 : decode cX10_aLine 90 = .ok (.iconst 3, 1) := by decide +kernel
theorem dX10_aLine_91 : decode cX10_aLine 91 = .ok (.if_icmp .ne 8, 3) := by decide +kernel
theorem dX10_aLine_94 : decode cX10_aLine 94 = .ok (.bipush 20, 2) := by decide +kernel
theorem dX10_aLine_96 : decode cX10_aLine 96 = .ok (.goto 15, 3) := by decide +kernel
theorem dX10_aLine_99 : decode cX10_aLine 99 = .ok (.iload_n 1, 1) := by decide +kernel
theorem dX10_aLine_100 : decode cX10_aLine 100 = .ok (.iconst 5, 1) := by decide +kernel
theorem dX10_aLine_101 : decode cX10_aLine 101 = .ok (.if_icmp .ne 8, 3) := by decide +kernel
theorem dX10_aLine_104 : decode cX10_aLine 104 = .ok (.bipush 99, 2) := by decide +kernel
theorem dX10_aLine_106 : decode cX10_aLine 106 = .ok (.goto 5, 3) := by decide +kernel
theorem dX10_aLine_109 : decode cX10_aLine 109 = .ok (.bipush 9, 2) := by decide +kernel
theorem dX10_aLine_111 : decode cX10_aLine 111 = .ok (.invokevirtual 181, 3) := by decide +kernel
theorem dX10_aLine_114 : decode cX10_aLine 114 = .ok (.ifCond .ne 5, 3) := by decide +kernel
theorem dX10_aLine_117 : decode cX10_aLine 117 = .ok (.iconst 0, 1) := by decide +kernel
theorem dX10_aLine_118 : decode cX10_aLine 118 = .ok (.ireturn, 1) := by decide +kernel
theorem dX10_aLine_119 : decode cX10_aLine 119 = .ok (.aload_n 0, 1) := by decide +kernel
theorem dX10_aLine_120 : decode cX10_aLine 120 = .ok (.dup, 1) := by decide +kernel
theorem dX10_aLine_121 : decode cX10_aLine 121 = .ok (.getfield 171, 3) := by decide +kernel
theorem dX10_aLine_124 : decode cX10_aLine 124 = .ok (.iconst 1, 1) := by decide +kernel
theorem dX10_aLine_125 : decode cX10_aLine 125 = .ok (.iadd, 1) := by decide +kernel
theorem dX10_aLine_126 : decode cX10_aLine 126 = .ok (.putfield 171, 3) := by decide +kernel
theorem dX10_aLine_129 : decode cX10_aLine 129 = .ok (.aload_n 0, 1) := by decide +kernel
theorem dX10_aLine_130 : decode cX10_aLine 130 = .ok (.getfield 146, 3) := by decide +kernel
theorem dX10_aLine_133 : decode cX10_aLine 133 = .ok (.bipush 59, 2) := by decide +kernel
theorem dX10_aLine_135 : decode cX10_aLine 135 = .ok (.if_icmp .eq 9, 3) := by decide +kernel
theorem dX10_aLine_138 : decode cX10_aLine 138 = .ok (.aload_n 0, 1) := by decide +kernel
theorem dX10_aLine_139 : decode cX10_aLine 139 = .ok (.iconst 1, 1) := by decide +kernel
theorem dX10_aLine_140 : decode cX10_aLine 140 = .ok (.invokevirtual 168, 3) := by decide +kernel
theorem dX10_aLine_143 : decode cX10_aLine 143 = .ok (.ireturn, 1) := by decide +kernel
theorem dX10_aLine_144 : decode cX10_aLine 144 = .ok (.aload_n 0, 1) := by decide +kernel
theorem dX10_aLine_145 : decode cX10_aLine 145 = .ok (.invokevirtual 174, 3) := by decide +kernel
theorem dX10_aLine_148 : decode cX10_aLine 148 = .ok (.iconst 1, 1) := by decide +kernel
theorem dX10_aLine_149 : decode cX10_aLine 149 = .ok (.ireturn, 1) := by decide +kernel
theorem dX10_rules_0 : decode cX10_rules 0 = .ok (.aload_n 0, 1) := by decide +kernel
theorem dX10_rules_1 : decode cX10_rules 1 = .ok (.iconst 0, 1) := by decide +kernel
theorem dX10_rules_2 : decode cX10_rules 2 = .ok (.putfield 162, 3) := by decide +kernel
theorem dX10_rules_5 : decode cX10_rules 5 = .ok (.aload_n 0, 1) := by decide +kernel
theorem dX10_rules_6 : decode cX10_rules 6 = .ok (.iconst 0, 1) := by decide +kernel
theorem dX10_rules_7 : decode cX10_rules 7 = .ok (.putfield 136, 3) := by decide +kernel
theorem dX10_rules_10 : decode cX10_rules 10 = .ok (.aload_n 0, 1) := by decide +kernel
theorem dX10_rules_11 : decode cX10_rules 11 = .ok (.iconst 0, 1) := by decide +kernel
theorem dX10_rules_12 : decode cX10_rules 12 = .ok (.putfield 171, 3) := by decide +kernel
theorem dX10_rules_15 : decode cX10_rules 15 = .ok (.aload_n 0, 1) := by decide +kernel
theorem dX10_rules_16 : decode cX10_rules 16 = .ok (.invokevirtual 174, 3) := by decide +kernel
theorem dX10_rules_19 : decode cX10_rules 19 = .ok (.iconst 1, 1) := by decide +kernel
theorem dX10_rules_20 : decode cX10_rules 20 = .ok (.istore_n 1, 1) := by decide +kernel
theorem dX10_rules_21 : decode cX10_rules 21 = .ok (.iload_n 1, 1) := by decide +kernel
theorem dX10_rules_22 : decode cX10_rules 22 = .ok (.ifCond .eq 18, 3) := by decide +kernel
theorem dX10_rules_25 : decode cX10_rules 25 = .ok (.aload_n 0, 1) := by decide +kernel
theorem dX10_rules_26 : decode cX10_rules 26 = .ok (.getfield 146, 3) := by decide +kernel
theorem dX10_rules_29 : decode cX10_rules 29 = .ok (.ifCond .eq 11, 3) := by decide +kernel
theorem dX10_rules_32 : decode cX10_rules 32 = .ok (.aload_n 0, 1) := by decide +kernel
theorem dX10_rules_33 : decode cX10_rules 33 = .ok (.invokevirtual 184, 3) := by decide +kernel
theorem dX10_rules_36 : decode cX10_rules 36 = .ok (.istore_n 1, 1) := by decide +kernel
theorem dX10_rules_37 : decode cX10_rules 37 = .ok (.goto (-16), 3) := by decide +kernel
theorem dX10_rules_40 : decode cX10_rules 40 = .ok (.aload_n 0, 1) := by decide +kernel
theorem dX10_rules_41 : decode cX10_rules 41 = .ok (.iconst 0, 1) := by decide +kernel
theorem dX10_rules_42 : decode cX10_rules 42 = .ok (.putfield 111, 3) := by decide +kernel
theorem dX10_rules_45 : decode cX10_rules 45 = .ok (.aload_n 0, 1) := by decide +kernel
theorem dX10_rules_46 : decode cX10_rules 46 = .ok (.aload_n 0, 1) := by decide +kernel
theorem dX10_rules_47 : decode cX10_rules 47 = .ok (.getfield 162, 3) := by decide +kernel
theorem dX10_rules_50 : decode cX10_rules 50 = .ok (.putfield 187, 3) := by decide +kernel
theorem dX10_rules_53 : decode cX10_rules 53 = .ok (.aload_n 0, 1) := by decide +kernel
theorem dX10_rules_54 : decode cX10_rules 54 = .ok (.iload_n 1, 1) := by decide +kernel
theorem dX10_rules_55 : decode cX10_rules 55 = .ok (.ifCond .eq 7, 3) := by decide +kernel
theorem dX10_rules_58 : decode cX10_rules 58 = .ok (.iconst (-1), 1) := by decide +kernel
theorem dX10_rules_59 : decode cX10_rules 59 = .ok (.goto 7, 3) := by decide +kernel
theorem dX10_rules_62 : decode cX10_rules 62 = .ok (.aload_n 0, 1) := by decide +kernel
theorem dX10_rules_63 : decode cX10_rules 63 = .ok (.getfield 165, 3) := by decide +kernel
theorem dX10_rules_66 : decode cX10_rules 66 = .ok (.putfield 51, 3) := by decide +kernel
theorem dX10_rules_69 : decode cX10_rules 69 = .ok (.iload_n 1, 1) := by decide +kernel
theorem dX10_rules_70 : decode cX10_rules 70 = .ok (.ifCond .ne 5, 3) := by decide +kernel
theorem dX10_rules_73 : decode cX10_rules 73 = .ok (.iconst (-1), 1) := by decide +kernel
theorem dX10_rules_74 : decode cX10_rules 74 = .ok (.ireturn, 1) := by decide +kernel
theorem dX10_rules_75 : decode cX10_rules 75 = .ok (.aload_n 0, 1) := by decide +kernel
theorem dX10_rules_76 : decode cX10_rules 76 = .ok (.iconst 0, 1) := by decide +kernel
theorem dX10_rules_77 : decode cX10_rules 77 = .ok (.putfield 190, 3) := by decide +kernel
theorem dX10_rules_80 : decode cX10_rules 80 = .ok (.aload_n 0, 1) := by decide +kernel
theorem dX10_rules_81 : decode cX10_rules 81 = .ok (.bipush 12, 2) := by decide +kernel
theorem dX10_rules_83 : decode cX10_rules 83 = .ok (.putfield 31, 3) := by decide +kernel
theorem dX10_rules_86 : decode cX10_rules 86 = .ok (.aload_n 0, 1) := by decide +kernel
theorem dX10_rules_87 : decode cX10_rules 87 = .ok (.iconst 1, 1) := by decide +kernel
theorem dX10_rules_88 : decode cX10_rules 88 = .ok (.putfield 35, 3) := by decide +kernel
theorem dX10_rules_91 : decode cX10_rules 91 = .ok (.iconst 0, 1) := by decide +kernel
theorem dX10_rules_92 : decode cX10_rules 92 = .ok (.istore_n 2, 1) := by decide +kernel
theorem dX10_rules_93 : decode cX10_rules 93 = .ok (.iload_n 2, 1) := by decide +kernel
theorem dX10_rules_94 : decode cX10_rules 94 = .ok (.bipush 6, 2) := by decide +kernel
theorem dX10_rules_96 : decode cX10_rules 96 = .ok (.if_icmp .ge 23, 3) := by decide +kernel
theorem dX10_rules_99 : decode cX10_rules 99 = .ok (.aload_n 0, 1) := by decide +kernel
theorem dX10_rules_100 : decode cX10_rules 100 = .ok (.getfield 38, 3) := by decide +kernel
theorem dX10_rules_103 : decode cX10_rules 103 = .ok (.iload_n 2, 1) := by decide +kernel
theorem dX10_rules_104 : decode cX10_rules 104 = .ok (.iconst 1, 1) := by decide +kernel
theorem dX10_rules_105 : decode cX10_rules 105 = .ok (.iastore, 1) := by decide +kernel
theorem dX10_rules_106 : decode cX10_rules 106 = .ok (.aload_n 0, 1) := by decide +kernel
theorem dX10_rules_107 : decode cX10_rules 107 = .ok (.getfield 41, 3) := by decide +kernel
theorem dX10_rules_110 : decode cX10_rules 110 = .ok (.iload_n 2, 1) := by decide +kernel
theorem dX10_rules_111 : decode cX10_rules 111 = .ok (.iconst 0, 1) := by decide +kernel
theorem dX10_rules_112 : decode cX10_rules 112 = .ok (.bastore, 1) := by decide +kernel
theorem dX10_rules_113 : decode cX10_rules 113 = .ok (.iinc 2 1, 3) := by decide +kernel
theorem dX10_rules_116 : decode cX10_rules 116 = .ok (.goto (-23), 3) := by decide +kernel
theorem dX10_rules_119 : decode cX10_rules 119 = .ok (.iconst 0, 1) := by decide +kernel
theorem dX10_rules_120 : decode cX10_rules 120 = .ok (.istore_n 2, 1) := by decide +kernel
theorem dX10_rules_121 : decode cX10_rules 121 = .ok (.iload_n 2, 1) := by decide +kernel
theorem dX10_rules_122 : decode cX10_rules 122 = .ok (.aload_n 0, 1) := by decide +kernel
theorem dX10_rules_123 : decode cX10_rules 123 = .ok (.getfield 171, 3) := by decide +kernel
theorem dX10_rules_126 : decode cX10_rules 126 = .ok (.if_icmp .ge 41, 3) := by decide +kernel
theorem dX10_rules_129 : decode cX10_rules 129 = .ok (.aload_n 0, 1) := by decide +kernel
theorem dX10_rules_130 : decode cX10_rules 130 = .ok (.aload_n 0, 1) := by decide +kernel
theorem dX10_rules_131 : decode cX10_rules 131 = .ok (.getfield 48, 3) := by decide +kernel
theorem dX10_rules_134 : decode cX10_rules 134 = .ok (.iconst 3, 1) := by decide +kernel
theorem dX10_rules_135 : decode cX10_rules 135 = .ok (.iload_n 2, 1) := by decide +kernel
theorem dX10_rules_136 : decode cX10_rules 136 = .ok (.imul, 1) := by decide +kernel
theorem dX10_rules_137 : decode cX10_rules 137 = .ok (.iaload, 1) := by decide +kernel
theorem dX10_rules_138 : decode cX10_rules 138 = .ok (.aload_n 0, 1) := by decide +kernel
theorem dX10_rules_139 : decode cX10_rules 139 = .ok (.getfield 48, 3) := by decide +kernel
theorem dX10_rules_142 : decode cX10_rules 142 = .ok (.iconst 3, 1) := by decide +kernel
theorem dX10_rules_143 : decode cX10_rules 143 = .ok (.iload_n 2, 1) := by decide +kernel
theorem dX10_rules_144 : decode cX10_rules 144 = .ok (.imul, 1) := by decide +kernel
theorem dX10_rules_145 : decode cX10_rules 145 = .ok (.iconst 1, 1) := by decide +kernel
theorem dX10_rules_146 : decode cX10_rules 146 = .ok (.iadd, 1) := by decide +kernel
theorem dX10_rules_147 : decode cX10_rules 147 = .ok (.iaload, 1) := by decide +kernel
theorem dX10_rules_148 : decode cX10_rules 148 = .ok (.aload_n 0, 1) := by decide +kernel
theorem dX10_rules_149 : decode cX10_rules 149 = .ok (.getfield 48, 3) := by decide +kernel
theorem dX10_rules_152 : decode cX10_rules 152 = .ok (.iconst 3, 1) := by decide +kernel
theorem dX10_rules_153 : decode cX10_rules 153 = .ok (.iload_n 2, 1) := by decide +kernel
theorem dX10_rules_154 : decode cX10_rules 154 = .ok (.imul, 1) := by decide +kernel
theorem dX10_rules_155 : decode cX10_rules 155 = .ok (.iconst 2, 1) := by decide +kernel
theorem dX10_rules_156 : decode cX10_rules 156 = .ok (.iadd, 1) := by decide +kernel
theorem dX10_rules_157 : decode cX10_rules 157 = .ok (.iaload, 1) := by decide +kernel
theorem dX10_rules_158 : decode cX10_rules 158 = .ok (.invokevirtual 193, 3) := by decide +kernel
theorem dX10_rules_161 : decode cX10_rules 161 = .ok (.iinc 2 1, 3) := by decide +kernel
theorem dX10_rules_164 : decode cX10_rules 164 = .ok (.goto (-43), 3) := by decide +kernel
theorem dX10_rules_167 : decode cX10_rules 167 = .ok (.aload_n 0, 1) := by decide +kernel
theorem dX10_rules_168 : decode cX10_rules 168 = .ok (.getfield 171, 3) := by decide +kernel
theorem dX10_rules_171 : decode cX10_rules 171 = .ok (.ireturn, 1) := by decide +kernel
theorem dX10_tells_0 : decode cX10_tells 0 = .ok (.iload_n 1, 1) := by decide +kernel
theorem dX10_tells_1 : decode cX10_tells 1 = .ok (.iconst 3, 1) := by decide +kernel
theorem dX10_tells_2 : decode cX10_tells 2 = .ok (.if_icmp .ne 13, 3) := by decide +kernel
theorem dX10_tells_5 : decode cX10_tells 5 = .ok (.aload_n 0, 1) := by decide +kernel
theorem dX10_tells_6 : decode cX10_tells 6 = .ok (.getfield 38, 3) := by decide +kernel
theorem dX10_tells_9 : decode cX10_tells 9 = .ok (.iload_n 2, 1) := by decide +kernel
theorem dX10_tells_10 : decode cX10_tells 10 = .ok (.iload_n 3, 1) := by decide +kernel
theorem dX10_tells_11 : decode cX10_tells 11 = .ok (.iastore, 1) := by decide +kernel
theorem dX10_tells_12 : decode cX10_tells 12 = .ok (.goto 50, 3) := by decide +kernel
theorem dX10_tells_15 : decode cX10_tells 15 = .ok (.iload_n 1, 1) := by decide +kernel
theorem dX10_tells_16 : decode cX10_tells 16 = .ok (.iconst 4, 1) := by decide +kernel
theorem dX10_tells_17 : decode cX10_tells 17 = .ok (.if_icmp .ne 11, 3) := by decide +kernel
theorem dX10_tells_20 : decode cX10_tells 20 = .ok (.aload_n 0, 1) := by decide +kernel
theorem dX10_tells_21 : decode cX10_tells 21 = .ok (.iload_n 3, 1) := by decide +kernel
theorem dX10_tells_22 : decode cX10_tells 22 = .ok (.putfield 190, 3) := by decide +kernel
theorem dX10_tells_25 : decode cX10_tells 25 = .ok (.goto 37, 3) := by decide +kernel
theorem dX10_tells_28 : decode cX10_tells 28 = .ok (.iload_n 1, 1) := by decide +kernel
theorem dX10_tells_29 : decode cX10_tells 29 = .ok (.iconst 5, 1) := by decide +kernel
theorem dX10_tells_30 : decode cX10_tells 30 = .ok (.if_icmp .ne 11, 3) := by decide +kernel
theorem dX10_tells_33 : decode cX10_tells 33 = .ok (.aload_n 0, 1) := by decide +kernel
theorem dX10_tells_34 : decode cX10_tells 34 = .ok (.iload_n 3, 1) := by decide +kernel
theorem dX10_tells_35 : decode cX10_tells 35 = .ok (.putfield 31, 3) := by decide +kernel
theorem dX10_tells_38 : decode cX10_tells 38 = .ok (.goto 24, 3) := by decide +kernel
theorem dX10_tells_41 : decode cX10_tells 41 = .ok (.iload_n 1, 1) := by decide +kernel
theorem dX10_tells_42 : decode cX10_tells 42 = .ok (.bipush 6, 2) := by decide +kernel
theorem dX10_tells_44 : decode cX10_tells 44 = .ok (.if_icmp .ne 11, 3) := by decide +kernel
theorem dX10_tells_47 : decode cX10_tells 47 = .ok (.aload_n 0, 1) := by decide +kernel
theorem dX10_tells_48 : decode cX10_tells 48 = .ok (.iload_n 3, 1) := by decide +kernel
theorem dX10_tells_49 : decode cX10_tells 49 = .ok (.putfield 35, 3) := by decide +kernel
theorem dX10_tells_52 : decode cX10_tells 52 = .ok (.goto 10, 3) := by decide +kernel
theorem dX10_tells_55 : decode cX10_tells 55 = .ok (.aload_n 0, 1) := by decide +kernel
theorem dX10_tells_56 : decode cX10_tells 56 = .ok (.getfield 41, 3) := by decide +kernel
theorem dX10_tells_59 : decode cX10_tells 59 = .ok (.iload_n 2, 1) := by decide +kernel
theorem dX10_tells_60 : decode cX10_tells 60 = .ok (.iconst 1, 1) := by decide +kernel
theorem dX10_tells_61 : decode cX10_tells 61 = .ok (.bastore, 1) := by decide +kernel
theorem dX10_tells_62 : decode cX10_tells 62 = .ok (.return_, 1) := by decide +kernel
theorem dX10_fault_0 : decode cX10_fault 0 = .ok (.iload_n 1, 1) := by decide +kernel
theorem dX10_fault_1 : decode cX10_fault 1 = .ok (.ifCond .ne 10, 3) := by decide +kernel
theorem dX10_fault_4 : decode cX10_fault 4 = .ok (.aload_n 0, 1) := by decide +kernel
theorem dX10_fault_5 : decode cX10_fault 5 = .ok (.getfield 187, 3) := by decide +kernel
theorem dX10_fault_8 : decode cX10_fault 8 = .ok (.goto 16, 3) := by decide +kernel
theorem dX10_fault_11 : decode cX10_fault 11 = .ok (.iload_n 1, 1) := by decide +kernel
theorem dX10_fault_12 : decode cX10_fault 12 = .ok (.iconst 1, 1) := by decide +kernel
theorem dX10_fault_13 : decode cX10_fault 13 = .ok (.if_icmp .ne 10, 3) := by decide +kernel
theorem dX10_fault_16 : decode cX10_fault 16 = .ok (.aload_n 0, 1) := by decide +kernel
theorem dX10_fault_17 : decode cX10_fault 17 = .ok (.getfield 51, 3) := by decide +kernel
theorem dX10_fault_20 : decode cX10_fault 20 = .ok (.goto 4, 3) := by decide +kernel
theorem dX10_fault_23 : decode cX10_fault 23 = .ok (.iconst (-1), 1) := by decide +kernel
theorem dX10_fault_24 : decode cX10_fault 24 = .ok (.ireturn, 1) := by decide +kernel
theorem dX10_look_0 : decode cX10_look 0 = .ok (.iload_n 1, 1) := by decide +kernel
theorem dX10_look_1 : decode cX10_look 1 = .ok (.tableswitch 60 0 4 #[35, 40, 45, 50, 55], 35) := by decide +kernel
theorem dX10_look_36 : decode cX10_look 36 = .ok (.aload_n 0, 1) := by decide +kernel
theorem dX10_look_37 : decode cX10_look 37 = .ok (.getfield 108, 3) := by decide +kernel
theorem dX10_look_40 : decode cX10_look 40 = .ok (.ireturn, 1) := by decide +kernel
theorem dX10_look_41 : decode cX10_look 41 = .ok (.aload_n 0, 1) := by decide +kernel
theorem dX10_look_42 : decode cX10_look 42 = .ok (.getfield 190, 3) := by decide +kernel
theorem dX10_look_45 : decode cX10_look 45 = .ok (.ireturn, 1) := by decide +kernel
theorem dX10_look_46 : decode cX10_look 46 = .ok (.aload_n 0, 1) := by decide +kernel
theorem dX10_look_47 : decode cX10_look 47 = .ok (.getfield 31, 3) := by decide +kernel
theorem dX10_look_50 : decode cX10_look 50 = .ok (.ireturn, 1) := by decide +kernel
theorem dX10_look_51 : decode cX10_look 51 = .ok (.aload_n 0, 1) := by decide +kernel
theorem dX10_look_52 : decode cX10_look 52 = .ok (.getfield 35, 3) := by decide +kernel
theorem dX10_look_55 : decode cX10_look 55 = .ok (.ireturn, 1) := by decide +kernel
theorem dX10_look_56 : decode cX10_look 56 = .ok (.aload_n 0, 1) := by decide +kernel
theorem dX10_look_57 : decode cX10_look 57 = .ok (.getfield 197, 3) := by decide +kernel
theorem dX10_look_60 : decode cX10_look 60 = .ok (.ireturn, 1) := by decide +kernel
theorem dX10_look_61 : decode cX10_look 61 = .ok (.iload_n 1, 1) := by decide +kernel
theorem dX10_look_62 : decode cX10_look 62 = .ok (.bipush 10, 2) := by decide +kernel
theorem dX10_look_64 : decode cX10_look 64 = .ok (.bipush 15, 2) := by decide +kernel
theorem dX10_look_66 : decode cX10_look 66 = .ok (.invokestatic 90, 3) := by decide +kernel
theorem dX10_look_69 : decode cX10_look 69 = .ok (.ifCond .eq 15, 3) := by decide +kernel
theorem dX10_look_72 : decode cX10_look 72 = .ok (.aload_n 0, 1) := by decide +kernel
theorem dX10_look_73 : decode cX10_look 73 = .ok (.getfield 38, 3) := by decide +kernel
theorem dX10_look_76 : decode cX10_look 76 = .ok (.iload_n 1, 1) := by decide +kernel
theorem dX10_look_77 : decode cX10_look 77 = .ok (.bipush 10, 2) := by decide +kernel
theorem dX10_look_79 : decode cX10_look 79 = .ok (.isub, 1) := by decide +kernel
theorem dX10_look_80 : decode cX10_look 80 = .ok (.iaload, 1) := by decide +kernel
theorem dX10_look_81 : decode cX10_look 81 = .ok (.goto 35, 3) := by decide +kernel
theorem dX10_look_84 : decode cX10_look 84 = .ok (.iload_n 1, 1) := by decide +kernel
theorem dX10_look_85 : decode cX10_look 85 = .ok (.bipush 20, 2) := by decide +kernel
theorem dX10_look_87 : decode cX10_look 87 = .ok (.bipush 25, 2) := by decide +kernel
theorem dX10_look_89 : decode cX10_look 89 = .ok (.invokestatic 90, 3) := by decide +kernel
theorem dX10_look_92 : decode cX10_look 92 = .ok (.ifCond .eq 23, 3) := by decide +kernel
theorem dX10_look_95 : decode cX10_look 95 = .ok (.aload_n 0, 1) := by decide +kernel
theorem dX10_look_96 : decode cX10_look 96 = .ok (.getfield 41, 3) := by decide +kernel
theorem dX10_look_99 : decode cX10_look 99 = .ok (.iload_n 1, 1) := by decide +kernel
theorem dX10_look_100 : decode cX10_look 100 = .ok (.bipush 20, 2) := by decide +kernel
theorem dX10_look_102 : decode cX10_look 102 = .ok (.isub, 1) := by decide +kernel
theorem dX10_look_103 : decode cX10_look 103 = .ok (.baload, 1) := by decide +kernel
theorem dX10_look_104 : decode cX10_look 104 = .ok (.ifCond .eq 7, 3) := by decide +kernel
theorem dX10_look_107 : decode cX10_look 107 = .ok (.iconst 1, 1) := by decide +kernel
theorem dX10_look_108 : decode cX10_look 108 = .ok (.goto 8, 3) := by decide +kernel
theorem dX10_look_111 : decode cX10_look 111 = .ok (.iconst 0, 1) := by decide +kernel
theorem dX10_look_112 : decode cX10_look 112 = .ok (.goto 4, 3) := by decide +kernel
theorem dX10_look_115 : decode cX10_look 115 = .ok (.iconst (-1), 1) := by decide +kernel
theorem dX10_look_116 : decode cX10_look 116 = .ok (.ireturn, 1) := by decide +kernel
theorem dX10_moved_0 : decode cX10_moved 0 = .ok (.aload_n 0, 1) := by decide +kernel
theorem dX10_moved_1 : decode cX10_moved 1 = .ok (.getfield 7, 3) := by decide +kernel
theorem dX10_moved_4 : decode cX10_moved 4 = .ok (.iload_n 1, 1) := by decide +kernel
theorem dX10_moved_5 : decode cX10_moved 5 = .ok (.iaload, 1) := by decide +kernel
theorem dX10_moved_6 : decode cX10_moved 6 = .ok (.iconst 2, 1) := by decide +kernel
theorem dX10_moved_7 : decode cX10_moved 7 = .ok (.if_icmp .eq 7, 3) := by decide +kernel
theorem dX10_moved_10 : decode cX10_moved 10 = .ok (.iload_n 2, 1) := by decide +kernel
theorem dX10_moved_11 : decode cX10_moved 11 = .ok (.goto 27, 3) := by decide +kernel
theorem dX10_moved_14 : decode cX10_moved 14 = .ok (.aload_n 0, 1) := by decide +kernel
theorem dX10_moved_15 : decode cX10_moved 15 = .ok (.getfield 28, 3) := by decide +kernel
theorem dX10_moved_18 : decode cX10_moved 18 = .ok (.iload_n 1, 1) := by decide +kernel
theorem dX10_moved_19 : decode cX10_moved 19 = .ok (.iaload, 1) := by decide +kernel
theorem dX10_moved_20 : decode cX10_moved 20 = .ok (.ifCond .ne 12, 3) := by decide +kernel
theorem dX10_moved_23 : decode cX10_moved 23 = .ok (.iload_n 2, 1) := by decide +kernel
theorem dX10_moved_24 : decode cX10_moved 24 = .ok (.aload_n 0, 1) := by decide +kernel
theorem dX10_moved_25 : decode cX10_moved 25 = .ok (.getfield 190, 3) := by decide +kernel
theorem dX10_moved_28 : decode cX10_moved 28 = .ok (.iadd, 1) := by decide +kernel
theorem dX10_moved_29 : decode cX10_moved 29 = .ok (.goto 9, 3) := by decide +kernel
theorem dX10_moved_32 : decode cX10_moved 32 = .ok (.iload_n 2, 1) := by decide +kernel
theorem dX10_moved_33 : decode cX10_moved 33 = .ok (.aload_n 0, 1) := by decide +kernel
theorem dX10_moved_34 : decode cX10_moved 34 = .ok (.getfield 190, 3) := by decide +kernel
theorem dX10_moved_37 : decode cX10_moved 37 = .ok (.isub, 1) := by decide +kernel
theorem dX10_moved_38 : decode cX10_moved 38 = .ok (.istore_n 3, 1) := by decide +kernel
theorem dX10_moved_39 : decode cX10_moved 39 = .ok (.iload_n 3, 1) := by decide +kernel
theorem dX10_moved_40 : decode cX10_moved 40 = .ok (.ifCond .ge 7, 3) := by decide +kernel
theorem dX10_moved_43 : decode cX10_moved 43 = .ok (.iconst 0, 1) := by decide +kernel
theorem dX10_moved_44 : decode cX10_moved 44 = .ok (.goto 15, 3) := by decide +kernel
theorem dX10_moved_47 : decode cX10_moved 47 = .ok (.iload_n 3, 1) := by decide +kernel
theorem dX10_moved_48 : decode cX10_moved 48 = .ok (.bipush 79, 2) := by decide +kernel
theorem dX10_moved_50 : decode cX10_moved 50 = .ok (.if_icmp .le 8, 3) := by decide +kernel
theorem dX10_moved_53 : decode cX10_moved 53 = .ok (.bipush 79, 2) := by decide +kernel
theorem dX10_moved_55 : decode cX10_moved 55 = .ok (.goto 4, 3) := by decide +kernel
theorem dX10_moved_58 : decode cX10_moved 58 = .ok (.iload_n 3, 1) := by decide +kernel
theorem dX10_moved_59 : decode cX10_moved 59 = .ok (.ireturn, 1) := by decide +kernel
theorem dX10_counts_0 : decode cX10_counts 0 = .ok (.iload_n 2, 1) := by decide +kernel
theorem dX10_counts_1 : decode cX10_counts 1 = .ok (.aload_n 0, 1) := by decide +kernel
theorem dX10_counts_2 : decode cX10_counts 2 = .ok (.getfield 13, 3) := by decide +kernel
theorem dX10_counts_5 : decode cX10_counts 5 = .ok (.iload_n 1, 1) := by decide +kernel
theorem dX10_counts_6 : decode cX10_counts 6 = .ok (.iaload, 1) := by decide +kernel
theorem dX10_counts_7 : decode cX10_counts 7 = .ok (.aload_n 0, 1) := by decide +kernel
theorem dX10_counts_8 : decode cX10_counts 8 = .ok (.getfield 16, 3) := by decide +kernel
theorem dX10_counts_11 : decode cX10_counts 11 = .ok (.iload_n 1, 1) := by decide +kernel
theorem dX10_counts_12 : decode cX10_counts 12 = .ok (.iaload, 1) := by decide +kernel
theorem dX10_counts_13 : decode cX10_counts 13 = .ok (.invokestatic 90, 3) := by decide +kernel
theorem dX10_counts_16 : decode cX10_counts 16 = .ok (.ifCond .ne 5, 3) := by decide +kernel
theorem dX10_counts_19 : decode cX10_counts 19 = .ok (.iconst 0, 1) := by decide +kernel
theorem dX10_counts_20 : decode cX10_counts 20 = .ok (.ireturn, 1) := by decide +kernel
theorem dX10_counts_21 : decode cX10_counts 21 = .ok (.iconst 1, 1) := by decide +kernel
theorem dX10_counts_22 : decode cX10_counts 22 = .ok (.istore_n 3, 1) := by decide +kernel
theorem dX10_counts_23 : decode cX10_counts 23 = .ok (.iconst 0, 1) := by decide +kernel
theorem dX10_counts_24 : decode cX10_counts 24 = .ok (.istore 4, 2) := by decide +kernel
theorem dX10_counts_26 : decode cX10_counts 26 = .ok (.iload 4, 2) := by decide +kernel
theorem dX10_counts_28 : decode cX10_counts 28 = .ok (.aload_n 0, 1) := by decide +kernel
theorem dX10_counts_29 : decode cX10_counts 29 = .ok (.getfield 108, 3) := by decide +kernel
theorem dX10_counts_32 : decode cX10_counts 32 = .ok (.if_icmp .ge 86, 3) := by decide +kernel
theorem dX10_counts_35 : decode cX10_counts 35 = .ok (.aload_n 0, 1) := by decide +kernel
theorem dX10_counts_36 : decode cX10_counts 36 = .ok (.getfield 41, 3) := by decide +kernel
theorem dX10_counts_39 : decode cX10_counts 39 = .ok (.aload_n 0, 1) := by decide +kernel
theorem dX10_counts_40 : decode cX10_counts 40 = .ok (.getfield 7, 3) := by decide +kernel
theorem dX10_counts_43 : decode cX10_counts 43 = .ok (.iload_n 1, 1) := by decide +kernel
theorem dX10_counts_44 : decode cX10_counts 44 = .ok (.iaload, 1) := by decide +kernel
theorem dX10_counts_45 : decode cX10_counts 45 = .ok (.baload, 1) := by decide +kernel
theorem dX10_counts_46 : decode cX10_counts 46 = .ok (.ifCond .eq 72, 3) := by decide +kernel
theorem dX10_counts_49 : decode cX10_counts 49 = .ok (.iload_n 3, 1) := by decide +kernel
theorem dX10_counts_50 : decode cX10_counts 50 = .ok (.ifCond .eq 60, 3) := by decide +kernel
theorem dX10_counts_53 : decode cX10_counts 53 = .ok (.aload_n 0, 1) := by decide +kernel
theorem dX10_counts_54 : decode cX10_counts 54 = .ok (.getfield 7, 3) := by decide +kernel
theorem dX10_counts_57 : decode cX10_counts 57 = .ok (.iload 4, 2) := by decide +kernel
theorem dX10_counts_59 : decode cX10_counts 59 = .ok (.iaload, 1) := by decide +kernel
theorem dX10_counts_60 : decode cX10_counts 60 = .ok (.aload_n 0, 1) := by decide +kernel
theorem dX10_counts_61 : decode cX10_counts 61 = .ok (.getfield 7, 3) := by decide +kernel
theorem dX10_counts_64 : decode cX10_counts 64 = .ok (.iload_n 1, 1) := by decide +kernel
theorem dX10_counts_65 : decode cX10_counts 65 = .ok (.iaload, 1) := by decide +kernel
theorem dX10_counts_66 : decode cX10_counts 66 = .ok (.if_icmp .ne 40, 3) := by decide +kernel
theorem dX10_counts_69 : decode cX10_counts 69 = .ok (.iload_n 2, 1) := by decide +kernel
theorem dX10_counts_70 : decode cX10_counts 70 = .ok (.aload_n 0, 1) := by decide +kernel
theorem dX10_counts_71 : decode cX10_counts 71 = .ok (.getfield 13, 3) := by decide +kernel
theorem dX10_counts_74 : decode cX10_counts 74 = .ok (.iload 4, 2) := by decide +kernel
theorem dX10_counts_76 : decode cX10_counts 76 = .ok (.iaload, 1) := by decide +kernel
theorem dX10_counts_77 : decode cX10_counts 77 = .ok (.aload_n 0, 1) := by decide +kernel
theorem dX10_counts_78 : decode cX10_counts 78 = .ok (.getfield 16, 3) := by decide +kernel
theorem dX10_counts_81 : decode cX10_counts 81 = .ok (.iload 4, 2) := by decide +kernel
theorem dX10_counts_83 : decode cX10_counts 83 = .ok (.iaload, 1) := by decide +kernel
theorem dX10_counts_84 : decode cX10_counts 84 = .ok (.invokestatic 90, 3) := by decide +kernel
theorem dX10_counts_87 : decode cX10_counts 87 = .ok (.ifCond .eq 19, 3) := by decide +kernel
theorem dX10_counts_90 : decode cX10_counts 90 = .ok (.aload_n 0, 1) := by decide +kernel
theorem dX10_counts_91 : decode cX10_counts 91 = .ok (.getfield 25, 3) := by decide +kernel
theorem dX10_counts_94 : decode cX10_counts 94 = .ok (.iload 4, 2) := by decide +kernel
theorem dX10_counts_96 : decode cX10_counts 96 = .ok (.iaload, 1) := by decide +kernel
theorem dX10_counts_97 : decode cX10_counts 97 = .ok (.aload_n 0, 1) := by decide +kernel
theorem dX10_counts_98 : decode cX10_counts 98 = .ok (.getfield 25, 3) := by decide +kernel
theorem dX10_counts_101 : decode cX10_counts 101 = .ok (.iload_n 1, 1) := by decide +kernel
theorem dX10_counts_102 : decode cX10_counts 102 = .ok (.iaload, 1) := by decide +kernel
theorem dX10_counts_103 : decode cX10_counts 103 = .ok (.if_icmp .gt 7, 3) := by decide +kernel
theorem dX10_counts_106 : decode cX10_counts 106 = .ok (.iconst 1, 1) := by decide +kernel
theorem dX10_counts_107 : decode cX10_counts 107 = .ok (.goto 4, 3) := by decide +kernel
theorem dX10_counts_110 : decode cX10_counts 110 = .ok (.iconst 0, 1) := by decide +kernel
theorem dX10_counts_111 : decode cX10_counts 111 = .ok (.istore_n 3, 1) := by decide +kernel
theorem dX10_counts_112 : decode cX10_counts 112 = .ok (.iinc 4 1, 3) := by decide +kernel
theorem dX10_counts_115 : decode cX10_counts 115 = .ok (.goto (-89), 3) := by decide +kernel
theorem dX10_counts_118 : decode cX10_counts 118 = .ok (.iload_n 3, 1) := by decide +kernel
theorem dX10_counts_119 : decode cX10_counts 119 = .ok (.ireturn, 1) := by decide +kernel
theorem dX10_said_0 : decode cX10_said 0 = .ok (.iload_n 1, 1) := by decide +kernel
theorem dX10_said_1 : decode cX10_said 1 = .ok (.iconst 0, 1) := by decide +kernel
theorem dX10_said_2 : decode cX10_said 2 = .ok (.aload_n 0, 1) := by decide +kernel
theorem dX10_said_3 : decode cX10_said 3 = .ok (.getfield 108, 3) := by decide +kernel
theorem dX10_said_6 : decode cX10_said 6 = .ok (.iconst 1, 1) := by decide +kernel
theorem dX10_said_7 : decode cX10_said 7 = .ok (.isub, 1) := by decide +kernel
theorem dX10_said_8 : decode cX10_said 8 = .ok (.invokestatic 90, 3) := by decide +kernel
theorem dX10_said_11 : decode cX10_said 11 = .ok (.ifCond .ne 5, 3) := by decide +kernel
theorem dX10_said_14 : decode cX10_said 14 = .ok (.iconst (-1), 1) := by decide +kernel
theorem dX10_said_15 : decode cX10_said 15 = .ok (.ireturn, 1) := by decide +kernel
theorem dX10_said_16 : decode cX10_said 16 = .ok (.iconst 0, 1) := by decide +kernel
theorem dX10_said_17 : decode cX10_said 17 = .ok (.istore_n 3, 1) := by decide +kernel
theorem dX10_said_18 : decode cX10_said 18 = .ok (.iload_n 2, 1) := by decide +kernel
theorem dX10_said_19 : decode cX10_said 19 = .ok (.tableswitch 110 0 4 #[33, 40, 52, 64, 71], 33) := by decide +kernel
theorem dX10_said_52 : decode cX10_said 52 = .ok (.aload_n 0, 1) := by decide +kernel
theorem dX10_said_53 : decode cX10_said 53 = .ok (.getfield 7, 3) := by decide +kernel
theorem dX10_said_56 : decode cX10_said 56 = .ok (.iload_n 1, 1) := by decide +kernel
theorem dX10_said_57 : decode cX10_said 57 = .ok (.iaload, 1) := by decide +kernel
theorem dX10_said_58 : decode cX10_said 58 = .ok (.ireturn, 1) := by decide +kernel
theorem dX10_said_59 : decode cX10_said 59 = .ok (.aload_n 0, 1) := by decide +kernel
theorem dX10_said_60 : decode cX10_said 60 = .ok (.iload_n 1, 1) := by decide +kernel
theorem dX10_said_61 : decode cX10_said 61 = .ok (.aload_n 0, 1) := by decide +kernel
theorem dX10_said_62 : decode cX10_said 62 = .ok (.getfield 19, 3) := by decide +kernel
theorem dX10_said_65 : decode cX10_said 65 = .ok (.iload_n 1, 1) := by decide +kernel
theorem dX10_said_66 : decode cX10_said 66 = .ok (.iaload, 1) := by decide +kernel
theorem dX10_said_67 : decode cX10_said 67 = .ok (.invokevirtual 200, 3) := by decide +kernel
theorem dX10_said_70 : decode cX10_said 70 = .ok (.ireturn, 1) := by decide +kernel
theorem dX10_said_71 : decode cX10_said 71 = .ok (.aload_n 0, 1) := by decide +kernel
theorem dX10_said_72 : decode cX10_said 72 = .ok (.iload_n 1, 1) := by decide +kernel
theorem dX10_said_73 : decode cX10_said 73 = .ok (.aload_n 0, 1) := by decide +kernel
theorem dX10_said_74 : decode cX10_said 74 = .ok (.getfield 22, 3) := by decide +kernel
theorem dX10_said_77 : decode cX10_said 77 = .ok (.iload_n 1, 1) := by decide +kernel
theorem dX10_said_78 : decode cX10_said 78 = .ok (.iaload, 1) := by decide +kernel
theorem dX10_said_79 : decode cX10_said 79 = .ok (.invokevirtual 200, 3) := by decide +kernel
theorem dX10_said_82 : decode cX10_said 82 = .ok (.ireturn, 1) := by decide +kernel
theorem dX10_said_83 : decode cX10_said 83 = .ok (.aload_n 0, 1) := by decide +kernel
theorem dX10_said_84 : decode cX10_said 84 = .ok (.getfield 25, 3) := by decide +kernel
theorem dX10_said_87 : decode cX10_said 87 = .ok (.iload_n 1, 1) := by decide +kernel
theorem dX10_said_88 : decode cX10_said 88 = .ok (.iaload, 1) := by decide +kernel
theorem dX10_said_89 : decode cX10_said 89 = .ok (.ireturn, 1) := by decide +kernel
theorem dX10_said_90 : decode cX10_said 90 = .ok (.iconst 0, 1) := by decide +kernel
theorem dX10_said_91 : decode cX10_said 91 = .ok (.istore 4, 2) := by decide +kernel
theorem dX10_said_93 : decode cX10_said 93 = .ok (.iload 4, 2) := by decide +kernel
theorem dX10_said_95 : decode cX10_said 95 = .ok (.bipush 10, 2) := by decide +kernel
theorem dX10_said_97 : decode cX10_said 97 = .ok (.if_icmp .ge 30, 3) := by decide +kernel
theorem dX10_said_100 : decode cX10_said 100 = .ok (.iload_n 3, 1) := by decide +kernel
theorem dX10_said_101 : decode cX10_said 101 = .ok (.aload_n 0, 1) := by decide +kernel
theorem dX10_said_102 : decode cX10_said 102 = .ok (.iload_n 1, 1) := by decide +kernel
theorem dX10_said_103 : decode cX10_said 103 = .ok (.iload 4, 2) := by decide +kernel
theorem dX10_said_105 : decode cX10_said 105 = .ok (.invokevirtual 204, 3) := by decide +kernel
theorem dX10_said_108 : decode cX10_said 108 = .ok (.ifCond .eq 10, 3) := by decide +kernel
theorem dX10_said_111 : decode cX10_said 111 = .ok (.iconst 1, 1) := by decide +kernel
theorem dX10_said_112 : decode cX10_said 112 = .ok (.iload 4, 2) := by decide +kernel
theorem dX10_said_114 : decode cX10_said 114 = .ok (.ishl, 1) := by decide +kernel
theorem dX10_said_115 : decode cX10_said 115 = .ok (.goto 4, 3) := by decide +kernel
theorem dX10_said_118 : decode cX10_said 118 = .ok (.iconst 0, 1) := by decide +kernel
theorem dX10_said_119 : decode cX10_said 119 = .ok (.ior, 1) := by decide +kernel
theorem dX10_said_120 : decode cX10_said 120 = .ok (.istore_n 3, 1) := by decide +kernel
theorem dX10_said_121 : decode cX10_said 121 = .ok (.iinc 4 1, 3) := by decide +kernel
theorem dX10_said_124 : decode cX10_said 124 = .ok (.goto (-31), 3) := by decide +kernel
theorem dX10_said_127 : decode cX10_said 127 = .ok (.iload_n 3, 1) := by decide +kernel
theorem dX10_said_128 : decode cX10_said 128 = .ok (.ireturn, 1) := by decide +kernel
theorem dX10_said_129 : decode cX10_said 129 = .ok (.iconst (-1), 1) := by decide +kernel
theorem dX10_said_130 : decode cX10_said 130 = .ok (.ireturn, 1) := by decide +kernel
theorem dX10_costAt_0 : decode cX10_costAt 0 = .ok (.iconst 0, 1) := by decide +kernel
theorem dX10_costAt_1 : decode cX10_costAt 1 = .ok (.istore_n 3, 1) := by decide +kernel
theorem dX10_costAt_2 : decode cX10_costAt 2 = .ok (.iconst 0, 1) := by decide +kernel
theorem dX10_costAt_3 : decode cX10_costAt 3 = .ok (.istore 4, 2) := by decide +kernel
theorem dX10_costAt_5 : decode cX10_costAt 5 = .ok (.iload 4, 2) := by decide +kernel
theorem dX10_costAt_7 : decode cX10_costAt 7 = .ok (.aload_n 0, 1) := by decide +kernel
theorem dX10_costAt_8 : decode cX10_costAt 8 = .ok (.getfield 108, 3) := by decide +kernel
theorem dX10_costAt_11 : decode cX10_costAt 11 = .ok (.if_icmp .ge 95, 3) := by decide +kernel
theorem dX10_costAt_14 : decode cX10_costAt 14 = .ok (.aload_n 0, 1) := by decide +kernel
theorem dX10_costAt_15 : decode cX10_costAt 15 = .ok (.iload 4, 2) := by decide +kernel
theorem dX10_costAt_17 : decode cX10_costAt 17 = .ok (.iload_n 1, 1) := by decide +kernel
theorem dX10_costAt_18 : decode cX10_costAt 18 = .ok (.invokevirtual 204, 3) := by decide +kernel
theorem dX10_costAt_21 : decode cX10_costAt 21 = .ok (.ifCond .ne 6, 3) := by decide +kernel
theorem dX10_costAt_24 : decode cX10_costAt 24 = .ok (.goto 76, 3) := by decide +kernel
theorem dX10_costAt_27 : decode cX10_costAt 27 = .ok (.aload_n 0, 1) := by decide +kernel
theorem dX10_costAt_28 : decode cX10_costAt 28 = .ok (.iload 4, 2) := by decide +kernel
theorem dX10_costAt_30 : decode cX10_costAt 30 = .ok (.aload_n 0, 1) := by decide +kernel
theorem dX10_costAt_31 : decode cX10_costAt 31 = .ok (.getfield 19, 3) := by decide +kernel
theorem dX10_costAt_34 : decode cX10_costAt 34 = .ok (.iload 4, 2) := by decide +kernel
theorem dX10_costAt_36 : decode cX10_costAt 36 = .ok (.iaload, 1) := by decide +kernel
theorem dX10_costAt_37 : decode cX10_costAt 37 = .ok (.invokevirtual 200, 3) := by decide +kernel
theorem dX10_costAt_40 : decode cX10_costAt 40 = .ok (.istore 5, 2) := by decide +kernel
theorem dX10_costAt_42 : decode cX10_costAt 42 = .ok (.aload_n 0, 1) := by decide +kernel
theorem dX10_costAt_43 : decode cX10_costAt 43 = .ok (.iload 4, 2) := by decide +kernel
theorem dX10_costAt_45 : decode cX10_costAt 45 = .ok (.aload_n 0, 1) := by decide +kernel
theorem dX10_costAt_46 : decode cX10_costAt 46 = .ok (.getfield 22, 3) := by decide +kernel
theorem dX10_costAt_49 : decode cX10_costAt 49 = .ok (.iload 4, 2) := by decide +kernel
theorem dX10_costAt_51 : decode cX10_costAt 51 = .ok (.iaload, 1) := by decide +kernel
theorem dX10_costAt_52 : decode cX10_costAt 52 = .ok (.invokevirtual 200, 3) := by decide +kernel
theorem dX10_costAt_55 : decode cX10_costAt 55 = .ok (.istore 6, 2) := by decide +kernel
theorem dX10_costAt_57 : decode cX10_costAt 57 = .ok (.iload_n 3, 1) := by decide +kernel
theorem dX10_costAt_58 : decode cX10_costAt 58 = .ok (.aload_n 0, 1) := by decide +kernel
theorem dX10_costAt_59 : decode cX10_costAt 59 = .ok (.getfield 38, 3) := by decide +kernel
theorem dX10_costAt_62 : decode cX10_costAt 62 = .ok (.aload_n 0, 1) := by decide +kernel
theorem dX10_costAt_63 : decode cX10_costAt 63 = .ok (.getfield 7, 3) := by decide +kernel
theorem dX10_costAt_66 : decode cX10_costAt 66 = .ok (.iload 4, 2) := by decide +kernel
theorem dX10_costAt_68 : decode cX10_costAt 68 = .ok (.iaload, 1) := by decide +kernel
theorem dX10_costAt_69 : decode cX10_costAt 69 = .ok (.iaload, 1) := by decide +kernel
theorem dX10_costAt_70 : decode cX10_costAt 70 = .ok (.iload_n 2, 1) := by decide +kernel
theorem dX10_costAt_71 : decode cX10_costAt 71 = .ok (.iload 5, 2) := by decide +kernel
theorem dX10_costAt_73 : decode cX10_costAt 73 = .ok (.if_icmp .ge 10, 3) := by decide +kernel
theorem dX10_costAt_76 : decode cX10_costAt 76 = .ok (.iload 5, 2) := by decide +kernel
theorem dX10_costAt_78 : decode cX10_costAt 78 = .ok (.iload_n 2, 1) := by decide +kernel
theorem dX10_costAt_79 : decode cX10_costAt 79 = .ok (.isub, 1) := by decide +kernel
theorem dX10_costAt_80 : decode cX10_costAt 80 = .ok (.goto 17, 3) := by decide +kernel
theorem dX10_costAt_83 : decode cX10_costAt 83 = .ok (.iload_n 2, 1) := by decide +kernel
theorem dX10_costAt_84 : decode cX10_costAt 84 = .ok (.iload 6, 2) := by decide +kernel
theorem dX10_costAt_86 : decode cX10_costAt 86 = .ok (.if_icmp .le 10, 3) := by decide +kernel
theorem dX10_costAt_89 : decode cX10_costAt 89 = .ok (.iload_n 2, 1) := by decide +kernel
theorem dX10_costAt_90 : decode cX10_costAt 90 = .ok (.iload 6, 2) := by decide +kernel
theorem dX10_costAt_92 : decode cX10_costAt 92 = .ok (.isub, 1) := by decide +kernel
theorem dX10_costAt_93 : decode cX10_costAt 93 = .ok (.goto 4, 3) := by decide +kernel
theorem dX10_costAt_96 : decode cX10_costAt 96 = .ok (.iconst 0, 1) := by decide +kernel
theorem dX10_costAt_97 : decode cX10_costAt 97 = .ok (.imul, 1) := by decide +kernel
theorem dX10_costAt_98 : decode cX10_costAt 98 = .ok (.iadd, 1) := by decide +kernel
theorem dX10_costAt_99 : decode cX10_costAt 99 = .ok (.istore_n 3, 1) := by decide +kernel
theorem dX10_costAt_100 : decode cX10_costAt 100 = .ok (.iinc 4 1, 3) := by decide +kernel
theorem dX10_costAt_103 : decode cX10_costAt 103 = .ok (.goto (-98), 3) := by decide +kernel
theorem dX10_costAt_106 : decode cX10_costAt 106 = .ok (.iload_n 3, 1) := by decide +kernel
theorem dX10_costAt_107 : decode cX10_costAt 107 = .ok (.ireturn, 1) := by decide +kernel
theorem dX10_abs_0 : decode cX10_abs 0 = .ok (.iload_n 0, 1) := by decide +kernel
theorem dX10_abs_1 : decode cX10_abs 1 = .ok (.ifCond .ge 8, 3) := by decide +kernel
theorem dX10_abs_4 : decode cX10_abs 4 = .ok (.iload_n 0, 1) := by decide +kernel
theorem dX10_abs_5 : decode cX10_abs 5 = .ok (.ineg, 1) := by decide +kernel
theorem dX10_abs_6 : decode cX10_abs 6 = .ok (.goto 4, 3) := by decide +kernel
theorem dX10_abs_9 : decode cX10_abs 9 = .ok (.iload_n 0, 1) := by decide +kernel
theorem dX10_abs_10 : decode cX10_abs 10 = .ok (.ireturn, 1) := by decide +kernel
theorem dX10_lines_0 : decode cX10_lines 0 = .ok (.bipush 9, 2) := by decide +kernel
theorem dX10_lines_2 : decode cX10_lines 2 = .ok (.istore_n 1, 1) := by decide +kernel
theorem dX10_lines_3 : decode cX10_lines 3 = .ok (.iload_n 1, 1) := by decide +kernel
theorem dX10_lines_4 : decode cX10_lines 4 = .ok (.ifCond .lt 115, 3) := by decide +kernel
theorem dX10_lines_7 : decode cX10_lines 7 = .ok (.iconst 0, 1) := by decide +kernel
theorem dX10_lines_8 : decode cX10_lines 8 = .ok (.istore_n 2, 1) := by decide +kernel
theorem dX10_lines_9 : decode cX10_lines 9 = .ok (.iload_n 2, 1) := by decide +kernel
theorem dX10_lines_10 : decode cX10_lines 10 = .ok (.bipush 80, 2) := by decide +kernel
theorem dX10_lines_12 : decode cX10_lines 12 = .ok (.if_icmp .ge 101, 3) := by decide +kernel
theorem dX10_lines_15 : decode cX10_lines 15 = .ok (.iconst 0, 1) := by decide +kernel
theorem dX10_lines_16 : decode cX10_lines 16 = .ok (.istore_n 3, 1) := by decide +kernel
theorem dX10_lines_17 : decode cX10_lines 17 = .ok (.iconst 0, 1) := by decide +kernel
theorem dX10_lines_18 : decode cX10_lines 18 = .ok (.istore 4, 2) := by decide +kernel
theorem dX10_lines_20 : decode cX10_lines 20 = .ok (.iload 4, 2) := by decide +kernel
theorem dX10_lines_22 : decode cX10_lines 22 = .ok (.bipush 80, 2) := by decide +kernel
theorem dX10_lines_24 : decode cX10_lines 24 = .ok (.if_icmp .ge 64, 3) := by decide +kernel
theorem dX10_lines_27 : decode cX10_lines 27 = .ok (.iload_n 1, 1) := by decide +kernel
theorem dX10_lines_28 : decode cX10_lines 28 = .ok (.iconst 1, 1) := by decide +kernel
theorem dX10_lines_29 : decode cX10_lines 29 = .ok (.iadd, 1) := by decide +kernel
theorem dX10_lines_30 : decode cX10_lines 30 = .ok (.bipush 10, 2) := by decide +kernel
theorem dX10_lines_32 : decode cX10_lines 32 = .ok (.if_icmp .ge 56, 3) := by decide +kernel
theorem dX10_lines_35 : decode cX10_lines 35 = .ok (.aload_n 0, 1) := by decide +kernel
theorem dX10_lines_36 : decode cX10_lines 36 = .ok (.getfield 54, 3) := by decide +kernel
theorem dX10_lines_39 : decode cX10_lines 39 = .ok (.bipush 80, 2) := by decide +kernel
theorem dX10_lines_41 : decode cX10_lines 41 = .ok (.iload_n 1, 1) := by decide +kernel
theorem dX10_lines_42 : decode cX10_lines 42 = .ok (.iconst 1, 1) := by decide +kernel
theorem dX10_lines_43 : decode cX10_lines 43 = .ok (.iadd, 1) := by decide +kernel
theorem dX10_lines_44 : decode cX10_lines 44 = .ok (.imul, 1) := by decide +kernel
theorem dX10_lines_45 : decode cX10_lines 45 = .ok (.iload 4, 2) := by decide +kernel
theorem dX10_lines_47 : decode cX10_lines 47 = .ok (.iadd, 1) := by decide +kernel
theorem dX10_lines_48 : decode cX10_lines 48 = .ok (.iaload, 1) := by decide +kernel
theorem dX10_lines_49 : decode cX10_lines 49 = .ok (.aload_n 0, 1) := by decide +kernel
theorem dX10_lines_50 : decode cX10_lines 50 = .ok (.getfield 35, 3) := by decide +kernel
theorem dX10_lines_53 : decode cX10_lines 53 = .ok (.iload_n 2, 1) := by decide +kernel
theorem dX10_lines_54 : decode cX10_lines 54 = .ok (.iload 4, 2) := by decide +kernel
theorem dX10_lines_56 : decode cX10_lines 56 = .ok (.isub, 1) := by decide +kernel
theorem dX10_lines_57 : decode cX10_lines 57 = .ok (.invokestatic 207, 3) := by decide +kernel
theorem dX10_lines_60 : decode cX10_lines 60 = .ok (.imul, 1) := by decide +kernel
theorem dX10_lines_61 : decode cX10_lines 61 = .ok (.iadd, 1) := by decide +kernel
theorem dX10_lines_62 : decode cX10_lines 62 = .ok (.istore 5, 2) := by decide +kernel
theorem dX10_lines_64 : decode cX10_lines 64 = .ok (.iload 4, 2) := by decide +kernel
theorem dX10_lines_66 : decode cX10_lines 66 = .ok (.ifCond .eq 9, 3) := by decide +kernel
theorem dX10_lines_69 : decode cX10_lines 69 = .ok (.iload 5, 2) := by decide +kernel
theorem dX10_lines_71 : decode cX10_lines 71 = .ok (.iload_n 3, 1) := by decide +kernel
theorem dX10_lines_72 : decode cX10_lines 72 = .ok (.if_icmp .ge 8, 3) := by decide +kernel
theorem dX10_lines_75 : decode cX10_lines 75 = .ok (.iload 5, 2) := by decide +kernel
theorem dX10_lines_77 : decode cX10_lines 77 = .ok (.goto 4, 3) := by decide +kernel
theorem dX10_lines_80 : decode cX10_lines 80 = .ok (.iload_n 3, 1) := by decide +kernel
theorem dX10_lines_81 : decode cX10_lines 81 = .ok (.istore_n 3, 1) := by decide +kernel
theorem dX10_lines_82 : decode cX10_lines 82 = .ok (.iinc 4 1, 3) := by decide +kernel
theorem dX10_lines_85 : decode cX10_lines 85 = .ok (.goto (-65), 3) := by decide +kernel
theorem dX10_lines_88 : decode cX10_lines 88 = .ok (.aload_n 0, 1) := by decide +kernel
theorem dX10_lines_89 : decode cX10_lines 89 = .ok (.getfield 54, 3) := by decide +kernel
theorem dX10_lines_92 : decode cX10_lines 92 = .ok (.bipush 80, 2) := by decide +kernel
theorem dX10_lines_94 : decode cX10_lines 94 = .ok (.iload_n 1, 1) := by decide +kernel
theorem dX10_lines_95 : decode cX10_lines 95 = .ok (.imul, 1) := by decide +kernel
theorem dX10_lines_96 : decode cX10_lines 96 = .ok (.iload_n 2, 1) := by decide +kernel
theorem dX10_lines_97 : decode cX10_lines 97 = .ok (.iadd, 1) := by decide +kernel
theorem dX10_lines_98 : decode cX10_lines 98 = .ok (.aload_n 0, 1) := by decide +kernel
theorem dX10_lines_99 : decode cX10_lines 99 = .ok (.iload_n 1, 1) := by decide +kernel
theorem dX10_lines_100 : decode cX10_lines 100 = .ok (.iload_n 2, 1) := by decide +kernel
theorem dX10_lines_101 : decode cX10_lines 101 = .ok (.invokevirtual 210, 3) := by decide +kernel
theorem dX10_lines_104 : decode cX10_lines 104 = .ok (.iload_n 3, 1) := by decide +kernel
theorem dX10_lines_105 : decode cX10_lines 105 = .ok (.iadd, 1) := by decide +kernel
theorem dX10_lines_106 : decode cX10_lines 106 = .ok (.iastore, 1) := by decide +kernel
theorem dX10_lines_107 : decode cX10_lines 107 = .ok (.iinc 2 1, 3) := by decide +kernel
theorem dX10_lines_110 : decode cX10_lines 110 = .ok (.goto (-101), 3) := by decide +kernel
theorem dX10_lines_113 : decode cX10_lines 113 = .ok (.iinc 1 (-1), 3) := by decide +kernel
theorem dX10_lines_116 : decode cX10_lines 116 = .ok (.goto (-113), 3) := by decide +kernel
theorem dX10_lines_119 : decode cX10_lines 119 = .ok (.iconst 0, 1) := by decide +kernel
theorem dX10_lines_120 : decode cX10_lines 120 = .ok (.istore_n 1, 1) := by decide +kernel
theorem dX10_lines_121 : decode cX10_lines 121 = .ok (.iload_n 1, 1) := by decide +kernel
theorem dX10_lines_122 : decode cX10_lines 122 = .ok (.bipush 10, 2) := by decide +kernel
theorem dX10_lines_124 : decode cX10_lines 124 = .ok (.if_icmp .ge 49, 3) := by decide +kernel
theorem dX10_lines_127 : decode cX10_lines 127 = .ok (.iconst 0, 1) := by decide +kernel
theorem dX10_lines_128 : decode cX10_lines 128 = .ok (.istore_n 2, 1) := by decide +kernel
theorem dX10_lines_129 : decode cX10_lines 129 = .ok (.iconst 1, 1) := by decide +kernel
theorem dX10_lines_130 : decode cX10_lines 130 = .ok (.istore_n 3, 1) := by decide +kernel
theorem dX10_lines_131 : decode cX10_lines 131 = .ok (.iload_n 3, 1) := by decide +kernel
theorem dX10_lines_132 : decode cX10_lines 132 = .ok (.bipush 80, 2) := by decide +kernel
theorem dX10_lines_134 : decode cX10_lines 134 = .ok (.if_icmp .ge 26, 3) := by decide +kernel
theorem dX10_lines_137 : decode cX10_lines 137 = .ok (.aload_n 0, 1) := by decide +kernel
theorem dX10_lines_138 : decode cX10_lines 138 = .ok (.iload_n 1, 1) := by decide +kernel
theorem dX10_lines_139 : decode cX10_lines 139 = .ok (.iload_n 3, 1) := by decide +kernel
theorem dX10_lines_140 : decode cX10_lines 140 = .ok (.invokevirtual 213, 3) := by decide +kernel
theorem dX10_lines_143 : decode cX10_lines 143 = .ok (.aload_n 0, 1) := by decide +kernel
theorem dX10_lines_144 : decode cX10_lines 144 = .ok (.iload_n 1, 1) := by decide +kernel
theorem dX10_lines_145 : decode cX10_lines 145 = .ok (.iload_n 2, 1) := by decide +kernel
theorem dX10_lines_146 : decode cX10_lines 146 = .ok (.invokevirtual 213, 3) := by decide +kernel
theorem dX10_lines_149 : decode cX10_lines 149 = .ok (.if_icmp .ge 5, 3) := by decide +kernel
theorem dX10_lines_152 : decode cX10_lines 152 = .ok (.iload_n 3, 1) := by decide +kernel
theorem dX10_lines_153 : decode cX10_lines 153 = .ok (.istore_n 2, 1) := by decide +kernel
theorem dX10_lines_154 : decode cX10_lines 154 = .ok (.iinc 3 1, 3) := by decide +kernel
theorem dX10_lines_157 : decode cX10_lines 157 = .ok (.goto (-26), 3) := by decide +kernel
theorem dX10_lines_160 : decode cX10_lines 160 = .ok (.aload_n 0, 1) := by decide +kernel
theorem dX10_lines_161 : decode cX10_lines 161 = .ok (.getfield 57, 3) := by decide +kernel
theorem dX10_lines_164 : decode cX10_lines 164 = .ok (.iload_n 1, 1) := by decide +kernel
theorem dX10_lines_165 : decode cX10_lines 165 = .ok (.iload_n 2, 1) := by decide +kernel
theorem dX10_lines_166 : decode cX10_lines 166 = .ok (.iastore, 1) := by decide +kernel
theorem dX10_lines_167 : decode cX10_lines 167 = .ok (.iinc 1 1, 3) := by decide +kernel
theorem dX10_lines_170 : decode cX10_lines 170 = .ok (.goto (-49), 3) := by decide +kernel
theorem dX10_lines_173 : decode cX10_lines 173 = .ok (.return_, 1) := by decide +kernel
theorem dX10_onFrom_0 : decode cX10_onFrom 0 = .ok (.aload_n 0, 1) := by decide +kernel
theorem dX10_onFrom_1 : decode cX10_onFrom 1 = .ok (.getfield 54, 3) := by decide +kernel
theorem dX10_onFrom_4 : decode cX10_onFrom 4 = .ok (.bipush 80, 2) := by decide +kernel
theorem dX10_onFrom_6 : decode cX10_onFrom 6 = .ok (.iload_n 1, 1) := by decide +kernel
theorem dX10_onFrom_7 : decode cX10_onFrom 7 = .ok (.imul, 1) := by decide +kernel
theorem dX10_onFrom_8 : decode cX10_onFrom 8 = .ok (.iload_n 2, 1) := by decide +kernel
theorem dX10_onFrom_9 : decode cX10_onFrom 9 = .ok (.iadd, 1) := by decide +kernel
theorem dX10_onFrom_10 : decode cX10_onFrom 10 = .ok (.iaload, 1) := by decide +kernel
theorem dX10_onFrom_11 : decode cX10_onFrom 11 = .ok (.iload_n 1, 1) := by decide +kernel
theorem dX10_onFrom_12 : decode cX10_onFrom 12 = .ok (.ifCond .ne 7, 3) := by decide +kernel
theorem dX10_onFrom_15 : decode cX10_onFrom 15 = .ok (.iconst 0, 1) := by decide +kernel
theorem dX10_onFrom_16 : decode cX10_onFrom 16 = .ok (.goto 21, 3) := by decide +kernel
theorem dX10_onFrom_19 : decode cX10_onFrom 19 = .ok (.aload_n 0, 1) := by decide +kernel
theorem dX10_onFrom_20 : decode cX10_onFrom 20 = .ok (.getfield 35, 3) := by decide +kernel
theorem dX10_onFrom_23 : decode cX10_onFrom 23 = .ok (.iload_n 2, 1) := by decide +kernel
theorem dX10_onFrom_24 : decode cX10_onFrom 24 = .ok (.aload_n 0, 1) := by decide +kernel
theorem dX10_onFrom_25 : decode cX10_onFrom 25 = .ok (.getfield 57, 3) := by decide +kernel
theorem dX10_onFrom_28 : decode cX10_onFrom 28 = .ok (.iload_n 1, 1) := by decide +kernel
theorem dX10_onFrom_29 : decode cX10_onFrom 29 = .ok (.iconst 1, 1) := by decide +kernel
theorem dX10_onFrom_30 : decode cX10_onFrom 30 = .ok (.isub, 1) := by decide +kernel
theorem dX10_onFrom_31 : decode cX10_onFrom 31 = .ok (.iaload, 1) := by decide +kernel
theorem dX10_onFrom_32 : decode cX10_onFrom 32 = .ok (.isub, 1) := by decide +kernel
theorem dX10_onFrom_33 : decode cX10_onFrom 33 = .ok (.invokestatic 207, 3) := by decide +kernel
theorem dX10_onFrom_36 : decode cX10_onFrom 36 = .ok (.imul, 1) := by decide +kernel
theorem dX10_onFrom_37 : decode cX10_onFrom 37 = .ok (.iadd, 1) := by decide +kernel
theorem dX10_onFrom_38 : decode cX10_onFrom 38 = .ok (.ireturn, 1) := by decide +kernel
theorem dX10_paper_0 : decode cX10_paper 0 = .ok (.iload_n 1, 1) := by decide +kernel
theorem dX10_paper_1 : decode cX10_paper 1 = .ok (.iconst (-1), 1) := by decide +kernel
theorem dX10_paper_2 : decode cX10_paper 2 = .ok (.bipush 9, 2) := by decide +kernel
theorem dX10_paper_4 : decode cX10_paper 4 = .ok (.invokestatic 90, 3) := by decide +kernel
theorem dX10_paper_7 : decode cX10_paper 7 = .ok (.ifCond .ne 6, 3) := by decide +kernel
theorem dX10_paper_10 : decode cX10_paper 10 = .ok (.bipush (-2), 2) := by decide +kernel
theorem dX10_paper_12 : decode cX10_paper 12 = .ok (.ireturn, 1) := by decide +kernel
theorem dX10_paper_13 : decode cX10_paper 13 = .ok (.aload_n 0, 1) := by decide +kernel
theorem dX10_paper_14 : decode cX10_paper 14 = .ok (.invokevirtual 216, 3) := by decide +kernel
theorem dX10_paper_17 : decode cX10_paper 17 = .ok (.iload_n 1, 1) := by decide +kernel
theorem dX10_paper_18 : decode cX10_paper 18 = .ok (.iconst (-1), 1) := by decide +kernel
theorem dX10_paper_19 : decode cX10_paper 19 = .ok (.if_icmp .ne 17, 3) := by decide +kernel
theorem dX10_paper_22 : decode cX10_paper 22 = .ok (.aload_n 0, 1) := by decide +kernel
theorem dX10_paper_23 : decode cX10_paper 23 = .ok (.getfield 54, 3) := by decide +kernel
theorem dX10_paper_26 : decode cX10_paper 26 = .ok (.aload_n 0, 1) := by decide +kernel
theorem dX10_paper_27 : decode cX10_paper 27 = .ok (.getfield 57, 3) := by decide +kernel
theorem dX10_paper_30 : decode cX10_paper 30 = .ok (.iconst 0, 1) := by decide +kernel
theorem dX10_paper_31 : decode cX10_paper 31 = .ok (.iaload, 1) := by decide +kernel
theorem dX10_paper_32 : decode cX10_paper 32 = .ok (.iaload, 1) := by decide +kernel
theorem dX10_paper_33 : decode cX10_paper 33 = .ok (.goto 9, 3) := by decide +kernel
theorem dX10_paper_36 : decode cX10_paper 36 = .ok (.aload_n 0, 1) := by decide +kernel
theorem dX10_paper_37 : decode cX10_paper 37 = .ok (.getfield 57, 3) := by decide +kernel
theorem dX10_paper_40 : decode cX10_paper 40 = .ok (.iload_n 1, 1) := by decide +kernel
theorem dX10_paper_41 : decode cX10_paper 41 = .ok (.iaload, 1) := by decide +kernel
theorem dX10_paper_42 : decode cX10_paper 42 = .ok (.ireturn, 1) := by decide +kernel
theorem dX10_straight_0 : decode cX10_straight 0 = .ok (.iload_n 1, 1) := by decide +kernel
theorem dX10_straight_1 : decode cX10_straight 1 = .ok (.invokestatic 102, 3) := by decide +kernel
theorem dX10_straight_4 : decode cX10_straight 4 = .ok (.ifCond .ne 5, 3) := by decide +kernel
theorem dX10_straight_7 : decode cX10_straight 7 = .ok (.iconst (-1), 1) := by decide +kernel
theorem dX10_straight_8 : decode cX10_straight 8 = .ok (.ireturn, 1) := by decide +kernel
theorem dX10_straight_9 : decode cX10_straight 9 = .ok (.iconst 0, 1) := by decide +kernel
theorem dX10_straight_10 : decode cX10_straight 10 = .ok (.istore_n 2, 1) := by decide +kernel
theorem dX10_straight_11 : decode cX10_straight 11 = .ok (.iconst 0, 1) := by decide +kernel
theorem dX10_straight_12 : decode cX10_straight 12 = .ok (.istore_n 3, 1) := by decide +kernel
theorem dX10_straight_13 : decode cX10_straight 13 = .ok (.iload_n 3, 1) := by decide +kernel
theorem dX10_straight_14 : decode cX10_straight 14 = .ok (.bipush 10, 2) := by decide +kernel
theorem dX10_straight_16 : decode cX10_straight 16 = .ok (.if_icmp .ge 18, 3) := by decide +kernel
theorem dX10_straight_19 : decode cX10_straight 19 = .ok (.iload_n 2, 1) := by decide +kernel
theorem dX10_straight_20 : decode cX10_straight 20 = .ok (.aload_n 0, 1) := by decide +kernel
theorem dX10_straight_21 : decode cX10_straight 21 = .ok (.iload_n 3, 1) := by decide +kernel
theorem dX10_straight_22 : decode cX10_straight 22 = .ok (.iload_n 1, 1) := by decide +kernel
theorem dX10_straight_23 : decode cX10_straight 23 = .ok (.invokevirtual 210, 3) := by decide +kernel
theorem dX10_straight_26 : decode cX10_straight 26 = .ok (.iadd, 1) := by decide +kernel
theorem dX10_straight_27 : decode cX10_straight 27 = .ok (.istore_n 2, 1) := by decide +kernel
theorem dX10_straight_28 : decode cX10_straight 28 = .ok (.iinc 3 1, 3) := by decide +kernel
theorem dX10_straight_31 : decode cX10_straight 31 = .ok (.goto (-18), 3) := by decide +kernel
theorem dX10_straight_34 : decode cX10_straight 34 = .ok (.iload_n 2, 1) := by decide +kernel
theorem dX10_straight_35 : decode cX10_straight 35 = .ok (.ireturn, 1) := by decide +kernel
theorem dX10_mow_0 : decode cX10_mow 0 = .ok (.iload_n 1, 1) := by decide +kernel
theorem dX10_mow_1 : decode cX10_mow 1 = .ok (.iconst 0, 1) := by decide +kernel
theorem dX10_mow_2 : decode cX10_mow 2 = .ok (.iconst 1, 1) := by decide +kernel
theorem dX10_mow_3 : decode cX10_mow 3 = .ok (.invokestatic 90, 3) := by decide +kernel
theorem dX10_mow_6 : decode cX10_mow 6 = .ok (.ifCond .eq 36, 3) := by decide +kernel
theorem dX10_mow_9 : decode cX10_mow 9 = .ok (.iload_n 2, 1) := by decide +kernel
theorem dX10_mow_10 : decode cX10_mow 10 = .ok (.iload_n 3, 1) := by decide +kernel
theorem dX10_mow_11 : decode cX10_mow 11 = .ok (.invokestatic 98, 3) := by decide +kernel
theorem dX10_mow_14 : decode cX10_mow 14 = .ok (.ifCond .eq 28, 3) := by decide +kernel
theorem dX10_mow_17 : decode cX10_mow 17 = .ok (.iload 4, 2) := by decide +kernel
theorem dX10_mow_19 : decode cX10_mow 19 = .ok (.invokestatic 102, 3) := by decide +kernel
theorem dX10_mow_22 : decode cX10_mow 22 = .ok (.ifCond .eq 20, 3) := by decide +kernel
theorem dX10_mow_25 : decode cX10_mow 25 = .ok (.iload 5, 2) := by decide +kernel
theorem dX10_mow_27 : decode cX10_mow 27 = .ok (.invokestatic 105, 3) := by decide +kernel
theorem dX10_mow_30 : decode cX10_mow 30 = .ok (.ifCond .eq 12, 3) := by decide +kernel
theorem dX10_mow_33 : decode cX10_mow 33 = .ok (.aload_n 0, 1) := by decide +kernel
theorem dX10_mow_34 : decode cX10_mow 34 = .ok (.getfield 197, 3) := by decide +kernel
theorem dX10_mow_37 : decode cX10_mow 37 = .ok (.bipush 60, 2) := by decide +kernel
theorem dX10_mow_39 : decode cX10_mow 39 = .ok (.if_icmp .ne 5, 3) := by decide +kernel
theorem dX10_mow_42 : decode cX10_mow 42 = .ok (.iconst 0, 1) := by decide +kernel
theorem dX10_mow_43 : decode cX10_mow 43 = .ok (.ireturn, 1) := by decide +kernel
theorem dX10_mow_44 : decode cX10_mow 44 = .ok (.aload_n 0, 1) := by decide +kernel
theorem dX10_mow_45 : decode cX10_mow 45 = .ok (.getfield 60, 3) := by decide +kernel
theorem dX10_mow_48 : decode cX10_mow 48 = .ok (.aload_n 0, 1) := by decide +kernel
theorem dX10_mow_49 : decode cX10_mow 49 = .ok (.getfield 197, 3) := by decide +kernel
theorem dX10_mow_52 : decode cX10_mow 52 = .ok (.iload_n 1, 1) := by decide +kernel
theorem dX10_mow_53 : decode cX10_mow 53 = .ok (.iastore, 1) := by decide +kernel
theorem dX10_mow_54 : decode cX10_mow 54 = .ok (.aload_n 0, 1) := by decide +kernel
theorem dX10_mow_55 : decode cX10_mow 55 = .ok (.getfield 63, 3) := by decide +kernel
theorem dX10_mow_58 : decode cX10_mow 58 = .ok (.aload_n 0, 1) := by decide +kernel
theorem dX10_mow_59 : decode cX10_mow 59 = .ok (.getfield 197, 3) := by decide +kernel
theorem dX10_mow_62 : decode cX10_mow 62 = .ok (.iload_n 2, 1) := by decide +kernel
theorem dX10_mow_63 : decode cX10_mow 63 = .ok (.iastore, 1) := by decide +kernel
theorem dX10_mow_64 : decode cX10_mow 64 = .ok (.aload_n 0, 1) := by decide +kernel
theorem dX10_mow_65 : decode cX10_mow 65 = .ok (.getfield 66, 3) := by decide +kernel
theorem dX10_mow_68 : decode cX10_mow 68 = .ok (.aload_n 0, 1) := by decide +kernel
theorem dX10_mow_69 : decode cX10_mow 69 = .ok (.getfield 197, 3) := by decide +kernel
theorem dX10_mow_72 : decode cX10_mow 72 = .ok (.iload_n 3, 1) := by decide +kernel
theorem dX10_mow_73 : decode cX10_mow 73 = .ok (.iastore, 1) := by decide +kernel
theorem dX10_mow_74 : decode cX10_mow 74 = .ok (.aload_n 0, 1) := by decide +kernel
theorem dX10_mow_75 : decode cX10_mow 75 = .ok (.getfield 69, 3) := by decide +kernel
theorem dX10_mow_78 : decode cX10_mow 78 = .ok (.aload_n 0, 1) := by decide +kernel
theorem dX10_mow_79 : decode cX10_mow 79 = .ok (.getfield 197, 3) := by decide +kernel
theorem dX10_mow_82 : decode cX10_mow 82 = .ok (.iload 4, 2) := by decide +kernel
theorem dX10_mow_84 : decode cX10_mow 84 = .ok (.iastore, 1) := by decide +kernel
theorem dX10_mow_85 : decode cX10_mow 85 = .ok (.aload_n 0, 1) := by decide +kernel
theorem dX10_mow_86 : decode cX10_mow 86 = .ok (.getfield 72, 3) := by decide +kernel
theorem dX10_mow_89 : decode cX10_mow 89 = .ok (.aload_n 0, 1) := by decide +kernel
theorem dX10_mow_90 : decode cX10_mow 90 = .ok (.getfield 197, 3) := by decide +kernel
theorem dX10_mow_93 : decode cX10_mow 93 = .ok (.iload 5, 2) := by decide +kernel
theorem dX10_mow_95 : decode cX10_mow 95 = .ok (.iastore, 1) := by decide +kernel
theorem dX10_mow_96 : decode cX10_mow 96 = .ok (.aload_n 0, 1) := by decide +kernel
theorem dX10_mow_97 : decode cX10_mow 97 = .ok (.dup, 1) := by decide +kernel
theorem dX10_mow_98 : decode cX10_mow 98 = .ok (.getfield 197, 3) := by decide +kernel
theorem dX10_mow_101 : decode cX10_mow 101 = .ok (.iconst 1, 1) := by decide +kernel
theorem dX10_mow_102 : decode cX10_mow 102 = .ok (.iadd, 1) := by decide +kernel
theorem dX10_mow_103 : decode cX10_mow 103 = .ok (.putfield 197, 3) := by decide +kernel
theorem dX10_mow_106 : decode cX10_mow 106 = .ok (.iconst 1, 1) := by decide +kernel
theorem dX10_mow_107 : decode cX10_mow 107 = .ok (.ireturn, 1) := by decide +kernel
theorem dX10_isProtested_0 : decode cX10_isProtested 0 = .ok (.iconst 0, 1) := by decide +kernel
theorem dX10_isProtested_1 : decode cX10_isProtested 1 = .ok (.istore_n 3, 1) := by decide +kernel
theorem dX10_isProtested_2 : decode cX10_isProtested 2 = .ok (.iconst 0, 1) := by decide +kernel
theorem dX10_isProtested_3 : decode cX10_isProtested 3 = .ok (.istore 4, 2) := by decide +kernel
theorem dX10_isProtested_5 : decode cX10_isProtested 5 = .ok (.iload 4, 2) := by decide +kernel
theorem dX10_isProtested_7 : decode cX10_isProtested 7 = .ok (.aload_n 0, 1) := by decide +kernel
theorem dX10_isProtested_8 : decode cX10_isProtested 8 = .ok (.getfield 218, 3) := by decide +kernel
theorem dX10_isProtested_11 : decode cX10_isProtested 11 = .ok (.if_icmp .ge 41, 3) := by decide +kernel
theorem dX10_isProtested_14 : decode cX10_isProtested 14 = .ok (.iload_n 3, 1) := by decide +kernel
theorem dX10_isProtested_15 : decode cX10_isProtested 15 = .ok (.ifCond .ne 25, 3) := by decide +kernel
theorem dX10_isProtested_18 : decode cX10_isProtested 18 = .ok (.aload_n 0, 1) := by decide +kernel
theorem dX10_isProtested_19 : decode cX10_isProtested 19 = .ok (.getfield 75, 3) := by decide +kernel
theorem dX10_isProtested_22 : decode cX10_isProtested 22 = .ok (.iload 4, 2) := by decide +kernel
theorem dX10_isProtested_24 : decode cX10_isProtested 24 = .ok (.iaload, 1) := by decide +kernel
theorem dX10_isProtested_25 : decode cX10_isProtested 25 = .ok (.iload_n 1, 1) := by decide +kernel
theorem dX10_isProtested_26 : decode cX10_isProtested 26 = .ok (.if_icmp .ne 18, 3) := by decide +kernel
theorem dX10_isProtested_29 : decode cX10_isProtested 29 = .ok (.aload_n 0, 1) := by decide +kernel
theorem dX10_isProtested_30 : decode cX10_isProtested 30 = .ok (.getfield 78, 3) := by decide +kernel
theorem dX10_isProtested_33 : decode cX10_isProtested 33 = .ok (.iload 4, 2) := by decide +kernel
theorem dX10_isProtested_35 : decode cX10_isProtested 35 = .ok (.iaload, 1) := by decide +kernel
theorem dX10_isProtested_36 : decode cX10_isProtested 36 = .ok (.iload_n 2, 1) := by decide +kernel
theorem dX10_isProtested_37 : decode cX10_isProtested 37 = .ok (.if_icmp .ne 7, 3) := by decide +kernel
theorem dX10_isProtested_40 : decode cX10_isProtested 40 = .ok (.iconst 1, 1) := by decide +kernel
theorem dX10_isProtested_41 : decode cX10_isProtested 41 = .ok (.goto 4, 3) := by decide +kernel
theorem dX10_isProtested_44 : decode cX10_isProtested 44 = .ok (.iconst 0, 1) := by decide +kernel
theorem dX10_isProtested_45 : decode cX10_isProtested 45 = .ok (.istore_n 3, 1) := by decide +kernel
theorem dX10_isProtested_46 : decode cX10_isProtested 46 = .ok (.iinc 4 1, 3) := by decide +kernel
theorem dX10_isProtested_49 : decode cX10_isProtested 49 = .ok (.goto (-44), 3) := by decide +kernel
theorem dX10_isProtested_52 : decode cX10_isProtested 52 = .ok (.iload_n 3, 1) := by decide +kernel
theorem dX10_isProtested_53 : decode cX10_isProtested 53 = .ok (.ireturn, 1) := by decide +kernel
theorem dX10_protest_0 : decode cX10_protest 0 = .ok (.iload_n 1, 1) := by decide +kernel
theorem dX10_protest_1 : decode cX10_protest 1 = .ok (.invokestatic 94, 3) := by decide +kernel
theorem dX10_protest_4 : decode cX10_protest 4 = .ok (.ifCond .eq 28, 3) := by decide +kernel
theorem dX10_protest_7 : decode cX10_protest 7 = .ok (.iload_n 2, 1) := by decide +kernel
theorem dX10_protest_8 : decode cX10_protest 8 = .ok (.invokestatic 105, 3) := by decide +kernel
theorem dX10_protest_11 : decode cX10_protest 11 = .ok (.ifCond .eq 21, 3) := by decide +kernel
theorem dX10_protest_14 : decode cX10_protest 14 = .ok (.aload_n 0, 1) := by decide +kernel
theorem dX10_protest_15 : decode cX10_protest 15 = .ok (.iload_n 1, 1) := by decide +kernel
theorem dX10_protest_16 : decode cX10_protest 16 = .ok (.iload_n 2, 1) := by decide +kernel
theorem dX10_protest_17 : decode cX10_protest 17 = .ok (.invokevirtual 221, 3) := by decide +kernel
theorem dX10_protest_20 : decode cX10_protest 20 = .ok (.ifCond .ne 12, 3) := by decide +kernel
theorem dX10_protest_23 : decode cX10_protest 23 = .ok (.aload_n 0, 1) := by decide +kernel
theorem dX10_protest_24 : decode cX10_protest 24 = .ok (.getfield 218, 3) := by decide +kernel
theorem dX10_protest_27 : decode cX10_protest 27 = .ok (.bipush 20, 2) := by decide +kernel
theorem dX10_protest_29 : decode cX10_protest 29 = .ok (.if_icmp .ne 5, 3) := by decide +kernel
theorem dX10_protest_32 : decode cX10_protest 32 = .ok (.iconst 0, 1) := by decide +kernel
theorem dX10_protest_33 : decode cX10_protest 33 = .ok (.ireturn, 1) := by decide +kernel
theorem dX10_protest_34 : decode cX10_protest 34 = .ok (.aload_n 0, 1) := by decide +kernel
theorem dX10_protest_35 : decode cX10_protest 35 = .ok (.getfield 75, 3) := by decide +kernel
theorem dX10_protest_38 : decode cX10_protest 38 = .ok (.aload_n 0, 1) := by decide +kernel
theorem dX10_protest_39 : decode cX10_protest 39 = .ok (.getfield 218, 3) := by decide +kernel
theorem dX10_protest_42 : decode cX10_protest 42 = .ok (.iload_n 1, 1) := by decide +kernel
theorem dX10_protest_43 : decode cX10_protest 43 = .ok (.iastore, 1) := by decide +kernel
theorem dX10_protest_44 : decode cX10_protest 44 = .ok (.aload_n 0, 1) := by decide +kernel
theorem dX10_protest_45 : decode cX10_protest 45 = .ok (.getfield 78, 3) := by decide +kernel
theorem dX10_protest_48 : decode cX10_protest 48 = .ok (.aload_n 0, 1) := by decide +kernel
theorem dX10_protest_49 : decode cX10_protest 49 = .ok (.getfield 218, 3) := by decide +kernel
theorem dX10_protest_52 : decode cX10_protest 52 = .ok (.iload_n 2, 1) := by decide +kernel
theorem dX10_protest_53 : decode cX10_protest 53 = .ok (.iastore, 1) := by decide +kernel
theorem dX10_protest_54 : decode cX10_protest 54 = .ok (.aload_n 0, 1) := by decide +kernel
theorem dX10_protest_55 : decode cX10_protest 55 = .ok (.dup, 1) := by decide +kernel
theorem dX10_protest_56 : decode cX10_protest 56 = .ok (.getfield 218, 3) := by decide +kernel
theorem dX10_protest_59 : decode cX10_protest 59 = .ok (.iconst 1, 1) := by decide +kernel
theorem dX10_protest_60 : decode cX10_protest 60 = .ok (.iadd, 1) := by decide +kernel
theorem dX10_protest_61 : decode cX10_protest 61 = .ok (.putfield 218, 3) := by decide +kernel
theorem dX10_protest_64 : decode cX10_protest 64 = .ok (.iconst 1, 1) := by decide +kernel
theorem dX10_protest_65 : decode cX10_protest 65 = .ok (.ireturn, 1) := by decide +kernel
theorem dX10_mowedIn_0 : decode cX10_mowedIn 0 = .ok (.iconst (-1), 1) := by decide +kernel
theorem dX10_mowedIn_1 : decode cX10_mowedIn 1 = .ok (.istore 4, 2) := by decide +kernel
theorem dX10_mowedIn_3 : decode cX10_mowedIn 3 = .ok (.iconst 0, 1) := by decide +kernel
theorem dX10_mowedIn_4 : decode cX10_mowedIn 4 = .ok (.istore 5, 2) := by decide +kernel
theorem dX10_mowedIn_6 : decode cX10_mowedIn 6 = .ok (.iload 5, 2) := by decide +kernel
theorem dX10_mowedIn_8 : decode cX10_mowedIn 8 = .ok (.aload_n 0, 1) := by decide +kernel
theorem dX10_mowedIn_9 : decode cX10_mowedIn 9 = .ok (.getfield 197, 3) := by decide +kernel
theorem dX10_mowedIn_12 : decode cX10_mowedIn 12 = .ok (.if_icmp .ge 61, 3) := by decide +kernel
theorem dX10_mowedIn_15 : decode cX10_mowedIn 15 = .ok (.aload_n 0, 1) := by decide +kernel
theorem dX10_mowedIn_16 : decode cX10_mowedIn 16 = .ok (.getfield 60, 3) := by decide +kernel
theorem dX10_mowedIn_19 : decode cX10_mowedIn 19 = .ok (.iload 5, 2) := by decide +kernel
theorem dX10_mowedIn_21 : decode cX10_mowedIn 21 = .ok (.iaload, 1) := by decide +kernel
theorem dX10_mowedIn_22 : decode cX10_mowedIn 22 = .ok (.iload_n 1, 1) := by decide +kernel
theorem dX10_mowedIn_23 : decode cX10_mowedIn 23 = .ok (.if_icmp .ne 44, 3) := by decide +kernel
theorem dX10_mowedIn_26 : decode cX10_mowedIn 26 = .ok (.iload_n 2, 1) := by decide +kernel
theorem dX10_mowedIn_27 : decode cX10_mowedIn 27 = .ok (.aload_n 0, 1) := by decide +kernel
theorem dX10_mowedIn_28 : decode cX10_mowedIn 28 = .ok (.getfield 63, 3) := by decide +kernel
theorem dX10_mowedIn_31 : decode cX10_mowedIn 31 = .ok (.iload 5, 2) := by decide +kernel
theorem dX10_mowedIn_33 : decode cX10_mowedIn 33 = .ok (.iaload, 1) := by decide +kernel
theorem dX10_mowedIn_34 : decode cX10_mowedIn 34 = .ok (.aload_n 0, 1) := by decide +kernel
theorem dX10_mowedIn_35 : decode cX10_mowedIn 35 = .ok (.getfield 66, 3) := by decide +kernel
theorem dX10_mowedIn_38 : decode cX10_mowedIn 38 = .ok (.iload 5, 2) := by decide +kernel
theorem dX10_mowedIn_40 : decode cX10_mowedIn 40 = .ok (.iaload, 1) := by decide +kernel
theorem dX10_mowedIn_41 : decode cX10_mowedIn 41 = .ok (.invokestatic 90, 3) := by decide +kernel
theorem dX10_mowedIn_44 : decode cX10_mowedIn 44 = .ok (.ifCond .eq 23, 3) := by decide +kernel
theorem dX10_mowedIn_47 : decode cX10_mowedIn 47 = .ok (.aload_n 0, 1) := by decide +kernel
theorem dX10_mowedIn_48 : decode cX10_mowedIn 48 = .ok (.getfield 72, 3) := by decide +kernel
theorem dX10_mowedIn_51 : decode cX10_mowedIn 51 = .ok (.iload 5, 2) := by decide +kernel
theorem dX10_mowedIn_53 : decode cX10_mowedIn 53 = .ok (.iaload, 1) := by decide +kernel
theorem dX10_mowedIn_54 : decode cX10_mowedIn 54 = .ok (.iload_n 3, 1) := by decide +kernel
theorem dX10_mowedIn_55 : decode cX10_mowedIn 55 = .ok (.if_icmp .ne 12, 3) := by decide +kernel
theorem dX10_mowedIn_58 : decode cX10_mowedIn 58 = .ok (.aload_n 0, 1) := by decide +kernel
theorem dX10_mowedIn_59 : decode cX10_mowedIn 59 = .ok (.getfield 69, 3) := by decide +kernel
theorem dX10_mowedIn_62 : decode cX10_mowedIn 62 = .ok (.iload 5, 2) := by decide +kernel
theorem dX10_mowedIn_64 : decode cX10_mowedIn 64 = .ok (.iaload, 1) := by decide +kernel
theorem dX10_mowedIn_65 : decode cX10_mowedIn 65 = .ok (.istore 4, 2) := by decide +kernel
theorem dX10_mowedIn_67 : decode cX10_mowedIn 67 = .ok (.iinc 5 1, 3) := by decide +kernel
theorem dX10_mowedIn_70 : decode cX10_mowedIn 70 = .ok (.goto (-64), 3) := by decide +kernel
theorem dX10_mowedIn_73 : decode cX10_mowedIn 73 = .ok (.iload 4, 2) := by decide +kernel
theorem dX10_mowedIn_75 : decode cX10_mowedIn 75 = .ok (.ireturn, 1) := by decide +kernel
theorem dX10_mowed_0 : decode cX10_mowed 0 = .ok (.iload_n 1, 1) := by decide +kernel
theorem dX10_mowed_1 : decode cX10_mowed 1 = .ok (.iconst 0, 1) := by decide +kernel
theorem dX10_mowed_2 : decode cX10_mowed 2 = .ok (.iconst 1, 1) := by decide +kernel
theorem dX10_mowed_3 : decode cX10_mowed 3 = .ok (.invokestatic 90, 3) := by decide +kernel
theorem dX10_mowed_6 : decode cX10_mowed 6 = .ok (.ifCond .eq 27, 3) := by decide +kernel
theorem dX10_mowed_9 : decode cX10_mowed 9 = .ok (.iload_n 2, 1) := by decide +kernel
theorem dX10_mowed_10 : decode cX10_mowed 10 = .ok (.invokestatic 94, 3) := by decide +kernel
theorem dX10_mowed_13 : decode cX10_mowed 13 = .ok (.ifCond .eq 20, 3) := by decide +kernel
theorem dX10_mowed_16 : decode cX10_mowed 16 = .ok (.iload_n 3, 1) := by decide +kernel
theorem dX10_mowed_17 : decode cX10_mowed 17 = .ok (.invokestatic 105, 3) := by decide +kernel
theorem dX10_mowed_20 : decode cX10_mowed 20 = .ok (.ifCond .eq 13, 3) := by decide +kernel
theorem dX10_mowed_23 : decode cX10_mowed 23 = .ok (.aload_n 0, 1) := by decide +kernel
theorem dX10_mowed_24 : decode cX10_mowed 24 = .ok (.iload_n 1, 1) := by decide +kernel
theorem dX10_mowed_25 : decode cX10_mowed 25 = .ok (.iload_n 2, 1) := by decide +kernel
theorem dX10_mowed_26 : decode cX10_mowed 26 = .ok (.iload_n 3, 1) := by decide +kernel
theorem dX10_mowed_27 : decode cX10_mowed 27 = .ok (.invokevirtual 224, 3) := by decide +kernel
theorem dX10_mowed_30 : decode cX10_mowed 30 = .ok (.goto 4, 3) := by decide +kernel
theorem dX10_mowed_33 : decode cX10_mowed 33 = .ok (.iconst (-1), 1) := by decide +kernel
theorem dX10_mowed_34 : decode cX10_mowed 34 = .ok (.ireturn, 1) := by decide +kernel
theorem dX10_spells_0 : decode cX10_spells 0 = .ok (.aload_n 0, 1) := by decide +kernel
theorem dX10_spells_1 : decode cX10_spells 1 = .ok (.invokevirtual 216, 3) := by decide +kernel
theorem dX10_spells_4 : decode cX10_spells 4 = .ok (.aload_n 0, 1) := by decide +kernel
theorem dX10_spells_5 : decode cX10_spells 5 = .ok (.aload_n 0, 1) := by decide +kernel
theorem dX10_spells_6 : decode cX10_spells 6 = .ok (.getfield 57, 3) := by decide +kernel
theorem dX10_spells_9 : decode cX10_spells 9 = .ok (.iload_n 1, 1) := by decide +kernel
theorem dX10_spells_10 : decode cX10_spells 10 = .ok (.iaload, 1) := by decide +kernel
theorem dX10_spells_11 : decode cX10_spells 11 = .ok (.putfield 228, 3) := by decide +kernel
theorem dX10_spells_14 : decode cX10_spells 14 = .ok (.aload_n 0, 1) := by decide +kernel
theorem dX10_spells_15 : decode cX10_spells 15 = .ok (.iconst (-1), 1) := by decide +kernel
theorem dX10_spells_16 : decode cX10_spells 16 = .ok (.putfield 231, 3) := by decide +kernel
theorem dX10_spells_19 : decode cX10_spells 19 = .ok (.aload_n 0, 1) := by decide +kernel
theorem dX10_spells_20 : decode cX10_spells 20 = .ok (.getfield 81, 3) := by decide +kernel
theorem dX10_spells_23 : decode cX10_spells 23 = .ok (.iconst 0, 1) := by decide +kernel
theorem dX10_spells_24 : decode cX10_spells 24 = .ok (.iconst 0, 1) := by decide +kernel
theorem dX10_spells_25 : decode cX10_spells 25 = .ok (.iastore, 1) := by decide +kernel
theorem dX10_spells_26 : decode cX10_spells 26 = .ok (.aload_n 0, 1) := by decide +kernel
theorem dX10_spells_27 : decode cX10_spells 27 = .ok (.getfield 81, 3) := by decide +kernel
theorem dX10_spells_30 : decode cX10_spells 30 = .ok (.iconst 1, 1) := by decide +kernel
theorem dX10_spells_31 : decode cX10_spells 31 = .ok (.iconst 0, 1) := by decide +kernel
theorem dX10_spells_32 : decode cX10_spells 32 = .ok (.iastore, 1) := by decide +kernel
theorem dX10_spells_33 : decode cX10_spells 33 = .ok (.aload_n 0, 1) := by decide +kernel
theorem dX10_spells_34 : decode cX10_spells 34 = .ok (.getfield 84, 3) := by decide +kernel
theorem dX10_spells_37 : decode cX10_spells 37 = .ok (.iconst 0, 1) := by decide +kernel
theorem dX10_spells_38 : decode cX10_spells 38 = .ok (.iconst 0, 1) := by decide +kernel
theorem dX10_spells_39 : decode cX10_spells 39 = .ok (.iastore, 1) := by decide +kernel
theorem dX10_spells_40 : decode cX10_spells 40 = .ok (.aload_n 0, 1) := by decide +kernel
theorem dX10_spells_41 : decode cX10_spells 41 = .ok (.getfield 84, 3) := by decide +kernel
theorem dX10_spells_44 : decode cX10_spells 44 = .ok (.iconst 1, 1) := by decide +kernel
theorem dX10_spells_45 : decode cX10_spells 45 = .ok (.iconst 0, 1) := by decide +kernel
theorem dX10_spells_46 : decode cX10_spells 46 = .ok (.iastore, 1) := by decide +kernel
theorem dX10_spells_47 : decode cX10_spells 47 = .ok (.iconst 0, 1) := by decide +kernel
theorem dX10_spells_48 : decode cX10_spells 48 = .ok (.istore_n 2, 1) := by decide +kernel
theorem dX10_spells_49 : decode cX10_spells 49 = .ok (.iload_n 2, 1) := by decide +kernel
theorem dX10_spells_50 : decode cX10_spells 50 = .ok (.sipush 1000, 3) := by decide +kernel
theorem dX10_spells_53 : decode cX10_spells 53 = .ok (.if_icmp .ge 29, 3) := by decide +kernel
theorem dX10_spells_56 : decode cX10_spells 56 = .ok (.iconst 0, 1) := by decide +kernel
theorem dX10_spells_57 : decode cX10_spells 57 = .ok (.istore_n 3, 1) := by decide +kernel
theorem dX10_spells_58 : decode cX10_spells 58 = .ok (.iload_n 3, 1) := by decide +kernel
theorem dX10_spells_59 : decode cX10_spells 59 = .ok (.iconst 2, 1) := by decide +kernel
theorem dX10_spells_60 : decode cX10_spells 60 = .ok (.if_icmp .ge 16, 3) := by decide +kernel
theorem dX10_spells_63 : decode cX10_spells 63 = .ok (.aload_n 0, 1) := by decide +kernel
theorem dX10_spells_64 : decode cX10_spells 64 = .ok (.iload_n 3, 1) := by decide +kernel
theorem dX10_spells_65 : decode cX10_spells 65 = .ok (.iload_n 1, 1) := by decide +kernel
theorem dX10_spells_66 : decode cX10_spells 66 = .ok (.iload_n 2, 1) := by decide +kernel
theorem dX10_spells_67 : decode cX10_spells 67 = .ok (.invokevirtual 234, 3) := by decide +kernel
theorem dX10_spells_70 : decode cX10_spells 70 = .ok (.iinc 3 1, 3) := by decide +kernel
theorem dX10_spells_73 : decode cX10_spells 73 = .ok (.goto (-15), 3) := by decide +kernel
theorem dX10_spells_76 : decode cX10_spells 76 = .ok (.iinc 2 1, 3) := by decide +kernel
theorem dX10_spells_79 : decode cX10_spells 79 = .ok (.goto (-30), 3) := by decide +kernel
theorem dX10_spells_82 : decode cX10_spells 82 = .ok (.return_, 1) := by decide +kernel
theorem dX10_goes_0 : decode cX10_goes 0 = .ok (.aload_n 0, 1) := by decide +kernel
theorem dX10_goes_1 : decode cX10_goes 1 = .ok (.iload_n 1, 1) := by decide +kernel
theorem dX10_goes_2 : decode cX10_goes 2 = .ok (.iload_n 2, 1) := by decide +kernel
theorem dX10_goes_3 : decode cX10_goes 3 = .ok (.iload_n 3, 1) := by decide +kernel
theorem dX10_goes_4 : decode cX10_goes 4 = .ok (.invokevirtual 224, 3) := by decide +kernel
theorem dX10_goes_7 : decode cX10_goes 7 = .ok (.istore 4, 2) := by decide +kernel
theorem dX10_goes_9 : decode cX10_goes 9 = .ok (.iload 4, 2) := by decide +kernel
theorem dX10_goes_11 : decode cX10_goes 11 = .ok (.iconst (-1), 1) := by decide +kernel
theorem dX10_goes_12 : decode cX10_goes 12 = .ok (.if_icmp .eq 36, 3) := by decide +kernel
theorem dX10_goes_15 : decode cX10_goes 15 = .ok (.iload_n 1, 1) := by decide +kernel
theorem dX10_goes_16 : decode cX10_goes 16 = .ok (.ifCond .ne 17, 3) := by decide +kernel
theorem dX10_goes_19 : decode cX10_goes 19 = .ok (.iload 4, 2) := by decide +kernel
theorem dX10_goes_21 : decode cX10_goes 21 = .ok (.aload_n 0, 1) := by decide +kernel
theorem dX10_goes_22 : decode cX10_goes 22 = .ok (.getfield 57, 3) := by decide +kernel
theorem dX10_goes_25 : decode cX10_goes 25 = .ok (.iload_n 2, 1) := by decide +kernel
theorem dX10_goes_26 : decode cX10_goes 26 = .ok (.iaload, 1) := by decide +kernel
theorem dX10_goes_27 : decode cX10_goes 27 = .ok (.if_icmp .le 21, 3) := by decide +kernel
theorem dX10_goes_30 : decode cX10_goes 30 = .ok (.goto 14, 3) := by decide +kernel
theorem dX10_goes_33 : decode cX10_goes 33 = .ok (.iload 4, 2) := by decide +kernel
theorem dX10_goes_35 : decode cX10_goes 35 = .ok (.aload_n 0, 1) := by decide +kernel
theorem dX10_goes_36 : decode cX10_goes 36 = .ok (.getfield 57, 3) := by decide +kernel
theorem dX10_goes_39 : decode cX10_goes 39 = .ok (.iload_n 2, 1) := by decide +kernel
theorem dX10_goes_40 : decode cX10_goes 40 = .ok (.iaload, 1) := by decide +kernel
theorem dX10_goes_41 : decode cX10_goes 41 = .ok (.if_icmp .ge 7, 3) := by decide +kernel
theorem dX10_goes_44 : decode cX10_goes 44 = .ok (.iconst 1, 1) := by decide +kernel
theorem dX10_goes_45 : decode cX10_goes 45 = .ok (.goto 4, 3) := by decide +kernel
theorem dX10_goes_48 : decode cX10_goes 48 = .ok (.iconst 0, 1) := by decide +kernel
theorem dX10_goes_49 : decode cX10_goes 49 = .ok (.istore 5, 2) := by decide +kernel
theorem dX10_goes_51 : decode cX10_goes 51 = .ok (.iload 5, 2) := by decide +kernel
theorem dX10_goes_53 : decode cX10_goes 53 = .ok (.ifCond .eq 12, 3) := by decide +kernel
theorem dX10_goes_56 : decode cX10_goes 56 = .ok (.aload_n 0, 1) := by decide +kernel
theorem dX10_goes_57 : decode cX10_goes 57 = .ok (.iload_n 2, 1) := by decide +kernel
theorem dX10_goes_58 : decode cX10_goes 58 = .ok (.iload_n 3, 1) := by decide +kernel
theorem dX10_goes_59 : decode cX10_goes 59 = .ok (.invokevirtual 221, 3) := by decide +kernel
theorem dX10_goes_62 : decode cX10_goes 62 = .ok (.ifCond .eq 11, 3) := by decide +kernel
theorem dX10_goes_65 : decode cX10_goes 65 = .ok (.aload_n 0, 1) := by decide +kernel
theorem dX10_goes_66 : decode cX10_goes 66 = .ok (.getfield 84, 3) := by decide +kernel
theorem dX10_goes_69 : decode cX10_goes 69 = .ok (.iload_n 1, 1) := by decide +kernel
theorem dX10_goes_70 : decode cX10_goes 70 = .ok (.iconst 0, 1) := by decide +kernel
theorem dX10_goes_71 : decode cX10_goes 71 = .ok (.iastore, 1) := by decide +kernel
theorem dX10_goes_72 : decode cX10_goes 72 = .ok (.return_, 1) := by decide +kernel
theorem dX10_goes_73 : decode cX10_goes 73 = .ok (.aload_n 0, 1) := by decide +kernel
theorem dX10_goes_74 : decode cX10_goes 74 = .ok (.getfield 87, 3) := by decide +kernel
theorem dX10_goes_77 : decode cX10_goes 77 = .ok (.sipush 1000, 3) := by decide +kernel
theorem dX10_goes_80 : decode cX10_goes 80 = .ok (.iload_n 1, 1) := by decide +kernel
theorem dX10_goes_81 : decode cX10_goes 81 = .ok (.imul, 1) := by decide +kernel
theorem dX10_goes_82 : decode cX10_goes 82 = .ok (.iload_n 3, 1) := by decide +kernel
theorem dX10_goes_83 : decode cX10_goes 83 = .ok (.iadd, 1) := by decide +kernel
theorem dX10_goes_84 : decode cX10_goes 84 = .ok (.iload 4, 2) := by decide +kernel
theorem dX10_goes_86 : decode cX10_goes 86 = .ok (.iastore, 1) := by decide +kernel
theorem dX10_goes_87 : decode cX10_goes 87 = .ok (.aload_n 0, 1) := by decide +kernel
theorem dX10_goes_88 : decode cX10_goes 88 = .ok (.getfield 84, 3) := by decide +kernel
theorem dX10_goes_91 : decode cX10_goes 91 = .ok (.iload_n 1, 1) := by decide +kernel
theorem dX10_goes_92 : decode cX10_goes 92 = .ok (.dup2, 1) := by decide +kernel
theorem dX10_goes_93 : decode cX10_goes 93 = .ok (.iaload, 1) := by decide +kernel
theorem dX10_goes_94 : decode cX10_goes 94 = .ok (.iconst 1, 1) := by decide +kernel
theorem dX10_goes_95 : decode cX10_goes 95 = .ok (.iadd, 1) := by decide +kernel
theorem dX10_goes_96 : decode cX10_goes 96 = .ok (.iastore, 1) := by decide +kernel
theorem dX10_goes_97 : decode cX10_goes 97 = .ok (.aload_n 0, 1) := by decide +kernel
theorem dX10_goes_98 : decode cX10_goes 98 = .ok (.getfield 84, 3) := by decide +kernel
theorem dX10_goes_101 : decode cX10_goes 101 = .ok (.iload_n 1, 1) := by decide +kernel
theorem dX10_goes_102 : decode cX10_goes 102 = .ok (.iaload, 1) := by decide +kernel
theorem dX10_goes_103 : decode cX10_goes 103 = .ok (.aload_n 0, 1) := by decide +kernel
theorem dX10_goes_104 : decode cX10_goes 104 = .ok (.getfield 31, 3) := by decide +kernel
theorem dX10_goes_107 : decode cX10_goes 107 = .ok (.if_icmp .ge 4, 3) := by decide +kernel
theorem dX10_goes_110 : decode cX10_goes 110 = .ok (.return_, 1) := by decide +kernel
theorem dX10_goes_111 : decode cX10_goes 111 = .ok (.aload_n 0, 1) := by decide +kernel
theorem dX10_goes_112 : decode cX10_goes 112 = .ok (.getfield 81, 3) := by decide +kernel
theorem dX10_goes_115 : decode cX10_goes 115 = .ok (.iload_n 1, 1) := by decide +kernel
theorem dX10_goes_116 : decode cX10_goes 116 = .ok (.dup2, 1) := by decide +kernel
theorem dX10_goes_117 : decode cX10_goes 117 = .ok (.iaload, 1) := by decide +kernel
theorem dX10_goes_118 : decode cX10_goes 118 = .ok (.iconst 1, 1) := by decide +kernel
theorem dX10_goes_119 : decode cX10_goes 119 = .ok (.iadd, 1) := by decide +kernel
theorem dX10_goes_120 : decode cX10_goes 120 = .ok (.iastore, 1) := by decide +kernel
theorem dX10_goes_121 : decode cX10_goes 121 = .ok (.iload 4, 2) := by decide +kernel
theorem dX10_goes_123 : decode cX10_goes 123 = .ok (.istore 6, 2) := by decide +kernel
theorem dX10_goes_125 : decode cX10_goes 125 = .ok (.iload_n 3, 1) := by decide +kernel
theorem dX10_goes_126 : decode cX10_goes 126 = .ok (.aload_n 0, 1) := by decide +kernel
theorem dX10_goes_127 : decode cX10_goes 127 = .ok (.getfield 31, 3) := by decide +kernel
theorem dX10_goes_130 : decode cX10_goes 130 = .ok (.isub, 1) := by decide +kernel
theorem dX10_goes_131 : decode cX10_goes 131 = .ok (.iconst 1, 1) := by decide +kernel
theorem dX10_goes_132 : decode cX10_goes 132 = .ok (.iadd, 1) := by decide +kernel
theorem dX10_goes_133 : decode cX10_goes 133 = .ok (.istore 7, 2) := by decide +kernel
theorem dX10_goes_135 : decode cX10_goes 135 = .ok (.iload 7, 2) := by decide +kernel
theorem dX10_goes_137 : decode cX10_goes 137 = .ok (.iload_n 3, 1) := by decide +kernel
theorem dX10_goes_138 : decode cX10_goes 138 = .ok (.if_icmp .ge 61, 3) := by decide +kernel
theorem dX10_goes_141 : decode cX10_goes 141 = .ok (.aload_n 0, 1) := by decide +kernel
theorem dX10_goes_142 : decode cX10_goes 142 = .ok (.getfield 87, 3) := by decide +kernel
theorem dX10_goes_145 : decode cX10_goes 145 = .ok (.sipush 1000, 3) := by decide +kernel
theorem dX10_goes_148 : decode cX10_goes 148 = .ok (.iload_n 1, 1) := by decide +kernel
theorem dX10_goes_149 : decode cX10_goes 149 = .ok (.imul, 1) := by decide +kernel
theorem dX10_goes_150 : decode cX10_goes 150 = .ok (.iload 7, 2) := by decide +kernel
theorem dX10_goes_152 : decode cX10_goes 152 = .ok (.iadd, 1) := by decide +kernel
theorem dX10_goes_153 : decode cX10_goes 153 = .ok (.iaload, 1) := by decide +kernel
theorem dX10_goes_154 : decode cX10_goes 154 = .ok (.istore 8, 2) := by decide +kernel
theorem dX10_goes_156 : decode cX10_goes 156 = .ok (.iload_n 1, 1) := by decide +kernel
theorem dX10_goes_157 : decode cX10_goes 157 = .ok (.ifCond .ne 20, 3) := by decide +kernel
theorem dX10_goes_160 : decode cX10_goes 160 = .ok (.iload 8, 2) := by decide +kernel
theorem dX10_goes_162 : decode cX10_goes 162 = .ok (.iload 6, 2) := by decide +kernel
theorem dX10_goes_164 : decode cX10_goes 164 = .ok (.if_icmp .ge 8, 3) := by decide +kernel
theorem dX10_goes_167 : decode cX10_goes 167 = .ok (.iload 8, 2) := by decide +kernel
theorem dX10_goes_169 : decode cX10_goes 169 = .ok (.goto 22, 3) := by decide +kernel
theorem dX10_goes_172 : decode cX10_goes 172 = .ok (.iload 6, 2) := by decide +kernel
theorem dX10_goes_174 : decode cX10_goes 174 = .ok (.goto 17, 3) := by decide +kernel
theorem dX10_goes_177 : decode cX10_goes 177 = .ok (.iload 8, 2) := by decide +kernel
theorem dX10_goes_179 : decode cX10_goes 179 = .ok (.iload 6, 2) := by decide +kernel
theorem dX10_goes_181 : decode cX10_goes 181 = .ok (.if_icmp .le 8, 3) := by decide +kernel
theorem dX10_goes_184 : decode cX10_goes 184 = .ok (.iload 8, 2) := by decide +kernel
theorem dX10_goes_186 : decode cX10_goes 186 = .ok (.goto 5, 3) := by decide +kernel
theorem dX10_goes_189 : decode cX10_goes 189 = .ok (.iload 6, 2) := by decide +kernel
theorem dX10_goes_191 : decode cX10_goes 191 = .ok (.istore 6, 2) := by decide +kernel
theorem dX10_goes_193 : decode cX10_goes 193 = .ok (.iinc 7 1, 3) := by decide +kernel
theorem dX10_goes_196 : decode cX10_goes 196 = .ok (.goto (-61), 3) := by decide +kernel
theorem dX10_goes_199 : decode cX10_goes 199 = .ok (.iload_n 1, 1) := by decide +kernel
theorem dX10_goes_200 : decode cX10_goes 200 = .ok (.ifCond .ne 15, 3) := by decide +kernel
theorem dX10_goes_203 : decode cX10_goes 203 = .ok (.iload 6, 2) := by decide +kernel
theorem dX10_goes_205 : decode cX10_goes 205 = .ok (.aload_n 0, 1) := by decide +kernel
theorem dX10_goes_206 : decode cX10_goes 206 = .ok (.getfield 228, 3) := by decide +kernel
theorem dX10_goes_209 : decode cX10_goes 209 = .ok (.if_icmp .gt 16, 3) := by decide +kernel
theorem dX10_goes_212 : decode cX10_goes 212 = .ok (.goto 12, 3) := by decide +kernel
theorem dX10_goes_215 : decode cX10_goes 215 = .ok (.iload 6, 2) := by decide +kernel
theorem dX10_goes_217 : decode cX10_goes 217 = .ok (.aload_n 0, 1) := by decide +kernel
theorem dX10_goes_218 : decode cX10_goes 218 = .ok (.getfield 228, 3) := by decide +kernel
theorem dX10_goes_221 : decode cX10_goes 221 = .ok (.if_icmp .lt 4, 3) := by decide +kernel
theorem dX10_goes_224 : decode cX10_goes 224 = .ok (.return_, 1) := by decide +kernel
theorem dX10_goes_225 : decode cX10_goes 225 = .ok (.aload_n 0, 1) := by decide +kernel
theorem dX10_goes_226 : decode cX10_goes 226 = .ok (.iload 6, 2) := by decide +kernel
theorem dX10_goes_228 : decode cX10_goes 228 = .ok (.putfield 228, 3) := by decide +kernel
theorem dX10_goes_231 : decode cX10_goes 231 = .ok (.aload_n 0, 1) := by decide +kernel
theorem dX10_goes_232 : decode cX10_goes 232 = .ok (.iload_n 3, 1) := by decide +kernel
theorem dX10_goes_233 : decode cX10_goes 233 = .ok (.putfield 231, 3) := by decide +kernel
theorem dX10_goes_236 : decode cX10_goes 236 = .ok (.return_, 1) := by decide +kernel
theorem dX10_spells__0 : decode cX10_spells_ 0 = .ok (.iload_n 1, 1) := by decide +kernel
theorem dX10_spells__1 : decode cX10_spells_ 1 = .ok (.invokestatic 94, 3) := by decide +kernel
theorem dX10_spells__4 : decode cX10_spells_ 4 = .ok (.ifCond .eq 12, 3) := by decide +kernel
theorem dX10_spells__7 : decode cX10_spells_ 7 = .ok (.iload_n 2, 1) := by decide +kernel
theorem dX10_spells__8 : decode cX10_spells_ 8 = .ok (.iconst 0, 1) := by decide +kernel
theorem dX10_spells__9 : decode cX10_spells_ 9 = .ok (.iconst 2, 1) := by decide +kernel
theorem dX10_spells__10 : decode cX10_spells_ 10 = .ok (.invokestatic 90, 3) := by decide +kernel
theorem dX10_spells__13 : decode cX10_spells_ 13 = .ok (.ifCond .ne 5, 3) := by decide +kernel
theorem dX10_spells__16 : decode cX10_spells_ 16 = .ok (.iconst (-1), 1) := by decide +kernel
theorem dX10_spells__17 : decode cX10_spells_ 17 = .ok (.ireturn, 1) := by decide +kernel
theorem dX10_spells__18 : decode cX10_spells_ 18 = .ok (.aload_n 0, 1) := by decide +kernel
theorem dX10_spells__19 : decode cX10_spells_ 19 = .ok (.iload_n 1, 1) := by decide +kernel
theorem dX10_spells__20 : decode cX10_spells_ 20 = .ok (.invokevirtual 237, 3) := by decide +kernel
theorem dX10_spells__23 : decode cX10_spells_ 23 = .ok (.iload_n 2, 1) := by decide +kernel
theorem dX10_spells__24 : decode cX10_spells_ 24 = .ok (.iconst 2, 1) := by decide +kernel
theorem dX10_spells__25 : decode cX10_spells_ 25 = .ok (.if_icmp .ne 10, 3) := by decide +kernel
theorem dX10_spells__28 : decode cX10_spells_ 28 = .ok (.aload_n 0, 1) := by decide +kernel
theorem dX10_spells__29 : decode cX10_spells_ 29 = .ok (.getfield 231, 3) := by decide +kernel
theorem dX10_spells__32 : decode cX10_spells_ 32 = .ok (.goto 9, 3) := by decide +kernel
theorem dX10_spells__35 : decode cX10_spells_ 35 = .ok (.aload_n 0, 1) := by decide +kernel
theorem dX10_spells__36 : decode cX10_spells_ 36 = .ok (.getfield 81, 3) := by decide +kernel
theorem dX10_spells__39 : decode cX10_spells_ 39 = .ok (.iload_n 2, 1) := by decide +kernel
theorem dX10_spells__40 : decode cX10_spells_ 40 = .ok (.iaload, 1) := by decide +kernel
theorem dX10_spells__41 : decode cX10_spells_ 41 = .ok (.ireturn, 1) := by decide +kernel
theorem dX10_line_0 : decode cX10_line 0 = .ok (.iload_n 1, 1) := by decide +kernel
theorem dX10_line_1 : decode cX10_line 1 = .ok (.invokestatic 94, 3) := by decide +kernel
theorem dX10_line_4 : decode cX10_line 4 = .ok (.ifCond .ne 5, 3) := by decide +kernel
theorem dX10_line_7 : decode cX10_line 7 = .ok (.iconst (-1), 1) := by decide +kernel
theorem dX10_line_8 : decode cX10_line 8 = .ok (.ireturn, 1) := by decide +kernel
theorem dX10_line_9 : decode cX10_line 9 = .ok (.aload_n 0, 1) := by decide +kernel
theorem dX10_line_10 : decode cX10_line 10 = .ok (.iload_n 1, 1) := by decide +kernel
theorem dX10_line_11 : decode cX10_line 11 = .ok (.invokevirtual 237, 3) := by decide +kernel
theorem dX10_line_14 : decode cX10_line 14 = .ok (.aload_n 0, 1) := by decide +kernel
theorem dX10_line_15 : decode cX10_line 15 = .ok (.getfield 228, 3) := by decide +kernel
theorem dX10_line_18 : decode cX10_line 18 = .ok (.ireturn, 1) := by decide +kernel
theorem dX10_quarrel_0 : decode cX10_quarrel 0 = .ok (.iload_n 1, 1) := by decide +kernel
theorem dX10_quarrel_1 : decode cX10_quarrel 1 = .ok (.invokestatic 102, 3) := by decide +kernel
theorem dX10_quarrel_4 : decode cX10_quarrel 4 = .ok (.ifCond .eq 82, 3) := by decide +kernel
theorem dX10_quarrel_7 : decode cX10_quarrel 7 = .ok (.iload_n 2, 1) := by decide +kernel
theorem dX10_quarrel_8 : decode cX10_quarrel 8 = .ok (.invokestatic 102, 3) := by decide +kernel
theorem dX10_quarrel_11 : decode cX10_quarrel 11 = .ok (.ifCond .eq 75, 3) := by decide +kernel
theorem dX10_quarrel_14 : decode cX10_quarrel 14 = .ok (.iload_n 1, 1) := by decide +kernel
theorem dX10_quarrel_15 : decode cX10_quarrel 15 = .ok (.iload_n 2, 1) := by decide +kernel
theorem dX10_quarrel_16 : decode cX10_quarrel 16 = .ok (.if_icmp .le 70, 3) := by decide +kernel
theorem dX10_quarrel_19 : decode cX10_quarrel 19 = .ok (.iload_n 3, 1) := by decide +kernel
theorem dX10_quarrel_20 : decode cX10_quarrel 20 = .ok (.iconst 0, 1) := by decide +kernel
theorem dX10_quarrel_21 : decode cX10_quarrel 21 = .ok (.bipush 99, 2) := by decide +kernel
theorem dX10_quarrel_23 : decode cX10_quarrel 23 = .ok (.invokestatic 90, 3) := by decide +kernel
theorem dX10_quarrel_26 : decode cX10_quarrel 26 = .ok (.ifCond .eq 60, 3) := by decide +kernel
theorem dX10_quarrel_29 : decode cX10_quarrel 29 = .ok (.iload 4, 2) := by decide +kernel
theorem dX10_quarrel_31 : decode cX10_quarrel 31 = .ok (.iconst 0, 1) := by decide +kernel
theorem dX10_quarrel_32 : decode cX10_quarrel 32 = .ok (.bipush 99, 2) := by decide +kernel
theorem dX10_quarrel_34 : decode cX10_quarrel 34 = .ok (.invokestatic 90, 3) := by decide +kernel
theorem dX10_quarrel_37 : decode cX10_quarrel 37 = .ok (.ifCond .eq 49, 3) := by decide +kernel
theorem dX10_quarrel_40 : decode cX10_quarrel 40 = .ok (.iload 5, 2) := by decide +kernel
theorem dX10_quarrel_42 : decode cX10_quarrel 42 = .ok (.iconst 0, 1) := by decide +kernel
theorem dX10_quarrel_43 : decode cX10_quarrel 43 = .ok (.sipush 999, 3) := by decide +kernel
theorem dX10_quarrel_46 : decode cX10_quarrel 46 = .ok (.invokestatic 90, 3) := by decide +kernel
theorem dX10_quarrel_49 : decode cX10_quarrel 49 = .ok (.ifCond .eq 37, 3) := by decide +kernel
theorem dX10_quarrel_52 : decode cX10_quarrel 52 = .ok (.iload 6, 2) := by decide +kernel
theorem dX10_quarrel_54 : decode cX10_quarrel 54 = .ok (.iconst 0, 1) := by decide +kernel
theorem dX10_quarrel_55 : decode cX10_quarrel 55 = .ok (.sipush 999, 3) := by decide +kernel
theorem dX10_quarrel_58 : decode cX10_quarrel 58 = .ok (.invokestatic 90, 3) := by decide +kernel
theorem dX10_quarrel_61 : decode cX10_quarrel 61 = .ok (.ifCond .eq 25, 3) := by decide +kernel
theorem dX10_quarrel_64 : decode cX10_quarrel 64 = .ok (.iload 7, 2) := by decide +kernel
theorem dX10_quarrel_66 : decode cX10_quarrel 66 = .ok (.iconst 1, 1) := by decide +kernel
theorem dX10_quarrel_67 : decode cX10_quarrel 67 = .ok (.bipush 99, 2) := by decide +kernel
theorem dX10_quarrel_69 : decode cX10_quarrel 69 = .ok (.invokestatic 90, 3) := by decide +kernel
theorem dX10_quarrel_72 : decode cX10_quarrel 72 = .ok (.ifCond .eq 14, 3) := by decide +kernel
theorem dX10_quarrel_75 : decode cX10_quarrel 75 = .ok (.iload 8, 2) := by decide +kernel
theorem dX10_quarrel_77 : decode cX10_quarrel 77 = .ok (.iconst 1, 1) := by decide +kernel
theorem dX10_quarrel_78 : decode cX10_quarrel 78 = .ok (.bipush 99, 2) := by decide +kernel
theorem dX10_quarrel_80 : decode cX10_quarrel 80 = .ok (.invokestatic 90, 3) := by decide +kernel
theorem dX10_quarrel_83 : decode cX10_quarrel 83 = .ok (.ifCond .ne 5, 3) := by decide +kernel
theorem dX10_quarrel_86 : decode cX10_quarrel 86 = .ok (.iconst 0, 1) := by decide +kernel
theorem dX10_quarrel_87 : decode cX10_quarrel 87 = .ok (.ireturn, 1) := by decide +kernel
theorem dX10_quarrel_88 : decode cX10_quarrel 88 = .ok (.aload_n 0, 1) := by decide +kernel
theorem dX10_quarrel_89 : decode cX10_quarrel 89 = .ok (.iconst 1, 1) := by decide +kernel
theorem dX10_quarrel_90 : decode cX10_quarrel 90 = .ok (.putfield 241, 3) := by decide +kernel
theorem dX10_quarrel_93 : decode cX10_quarrel 93 = .ok (.aload_n 0, 1) := by decide +kernel
theorem dX10_quarrel_94 : decode cX10_quarrel 94 = .ok (.iload_n 1, 1) := by decide +kernel
theorem dX10_quarrel_95 : decode cX10_quarrel 95 = .ok (.putfield 245, 3) := by decide +kernel
theorem dX10_quarrel_98 : decode cX10_quarrel 98 = .ok (.aload_n 0, 1) := by decide +kernel
theorem dX10_quarrel_99 : decode cX10_quarrel 99 = .ok (.iload_n 2, 1) := by decide +kernel
theorem dX10_quarrel_100 : decode cX10_quarrel 100 = .ok (.putfield 248, 3) := by decide +kernel
theorem dX10_quarrel_103 : decode cX10_quarrel 103 = .ok (.aload_n 0, 1) := by decide +kernel
theorem dX10_quarrel_104 : decode cX10_quarrel 104 = .ok (.iload_n 3, 1) := by decide +kernel
theorem dX10_quarrel_105 : decode cX10_quarrel 105 = .ok (.putfield 251, 3) := by decide +kernel
theorem dX10_quarrel_108 : decode cX10_quarrel 108 = .ok (.aload_n 0, 1) := by decide +kernel
theorem dX10_quarrel_109 : decode cX10_quarrel 109 = .ok (.iload 4, 2) := by decide +kernel
theorem dX10_quarrel_111 : decode cX10_quarrel 111 = .ok (.putfield 254, 3) := by decide +kernel
theorem dX10_quarrel_114 : decode cX10_quarrel 114 = .ok (.aload_n 0, 1) := by decide +kernel
theorem dX10_quarrel_115 : decode cX10_quarrel 115 = .ok (.iload 5, 2) := by decide +kernel
theorem dX10_quarrel_117 : decode cX10_quarrel 117 = .ok (.putfield 257, 3) := by decide +kernel
theorem dX10_quarrel_120 : decode cX10_quarrel 120 = .ok (.aload_n 0, 1) := by decide +kernel
theorem dX10_quarrel_121 : decode cX10_quarrel 121 = .ok (.iload 6, 2) := by decide +kernel
theorem dX10_quarrel_123 : decode cX10_quarrel 123 = .ok (.putfield 260, 3) := by decide +kernel
theorem dX10_quarrel_126 : decode cX10_quarrel 126 = .ok (.aload_n 0, 1) := by decide +kernel
theorem dX10_quarrel_127 : decode cX10_quarrel 127 = .ok (.iload 7, 2) := by decide +kernel
theorem dX10_quarrel_129 : decode cX10_quarrel 129 = .ok (.putfield 263, 3) := by decide +kernel
theorem dX10_quarrel_132 : decode cX10_quarrel 132 = .ok (.aload_n 0, 1) := by decide +kernel
theorem dX10_quarrel_133 : decode cX10_quarrel 133 = .ok (.iload 8, 2) := by decide +kernel
theorem dX10_quarrel_135 : decode cX10_quarrel 135 = .ok (.putfield 266, 3) := by decide +kernel
theorem dX10_quarrel_138 : decode cX10_quarrel 138 = .ok (.iconst 1, 1) := by decide +kernel
theorem dX10_quarrel_139 : decode cX10_quarrel 139 = .ok (.ireturn, 1) := by decide +kernel
theorem dX10_gain_0 : decode cX10_gain 0 = .ok (.aload_n 0, 1) := by decide +kernel
theorem dX10_gain_1 : decode cX10_gain 1 = .ok (.getfield 251, 3) := by decide +kernel
theorem dX10_gain_4 : decode cX10_gain 4 = .ok (.iload_n 1, 1) := by decide +kernel
theorem dX10_gain_5 : decode cX10_gain 5 = .ok (.aload_n 0, 1) := by decide +kernel
theorem dX10_gain_6 : decode cX10_gain 6 = .ok (.getfield 248, 3) := by decide +kernel
theorem dX10_gain_9 : decode cX10_gain 9 = .ok (.isub, 1) := by decide +kernel
theorem dX10_gain_10 : decode cX10_gain 10 = .ok (.imul, 1) := by decide +kernel
theorem dX10_gain_11 : decode cX10_gain 11 = .ok (.aload_n 0, 1) := by decide +kernel
theorem dX10_gain_12 : decode cX10_gain 12 = .ok (.getfield 263, 3) := by decide +kernel
theorem dX10_gain_15 : decode cX10_gain 15 = .ok (.aload_n 0, 1) := by decide +kernel
theorem dX10_gain_16 : decode cX10_gain 16 = .ok (.getfield 266, 3) := by decide +kernel
theorem dX10_gain_19 : decode cX10_gain 19 = .ok (.iadd, 1) := by decide +kernel
theorem dX10_gain_20 : decode cX10_gain 20 = .ok (.imul, 1) := by decide +kernel
theorem dX10_gain_21 : decode cX10_gain 21 = .ok (.aload_n 0, 1) := by decide +kernel
theorem dX10_gain_22 : decode cX10_gain 22 = .ok (.getfield 251, 3) := by decide +kernel
theorem dX10_gain_25 : decode cX10_gain 25 = .ok (.aload_n 0, 1) := by decide +kernel
theorem dX10_gain_26 : decode cX10_gain 26 = .ok (.getfield 245, 3) := by decide +kernel
theorem dX10_gain_29 : decode cX10_gain 29 = .ok (.aload_n 0, 1) := by decide +kernel
theorem dX10_gain_30 : decode cX10_gain 30 = .ok (.getfield 248, 3) := by decide +kernel
theorem dX10_gain_33 : decode cX10_gain 33 = .ok (.isub, 1) := by decide +kernel
theorem dX10_gain_34 : decode cX10_gain 34 = .ok (.imul, 1) := by decide +kernel
theorem dX10_gain_35 : decode cX10_gain 35 = .ok (.aload_n 0, 1) := by decide +kernel
theorem dX10_gain_36 : decode cX10_gain 36 = .ok (.getfield 263, 3) := by decide +kernel
theorem dX10_gain_39 : decode cX10_gain 39 = .ok (.imul, 1) := by decide +kernel
theorem dX10_gain_40 : decode cX10_gain 40 = .ok (.isub, 1) := by decide +kernel
theorem dX10_gain_41 : decode cX10_gain 41 = .ok (.aload_n 0, 1) := by decide +kernel
theorem dX10_gain_42 : decode cX10_gain 42 = .ok (.getfield 257, 3) := by decide +kernel
theorem dX10_gain_45 : decode cX10_gain 45 = .ok (.aload_n 0, 1) := by decide +kernel
theorem dX10_gain_46 : decode cX10_gain 46 = .ok (.getfield 263, 3) := by decide +kernel
theorem dX10_gain_49 : decode cX10_gain 49 = .ok (.aload_n 0, 1) := by decide +kernel
theorem dX10_gain_50 : decode cX10_gain 50 = .ok (.getfield 266, 3) := by decide +kernel
theorem dX10_gain_53 : decode cX10_gain 53 = .ok (.iadd, 1) := by decide +kernel
theorem dX10_gain_54 : decode cX10_gain 54 = .ok (.imul, 1) := by decide +kernel
theorem dX10_gain_55 : decode cX10_gain 55 = .ok (.iadd, 1) := by decide +kernel
theorem dX10_gain_56 : decode cX10_gain 56 = .ok (.istore_n 2, 1) := by decide +kernel
theorem dX10_gain_57 : decode cX10_gain 57 = .ok (.aload_n 0, 1) := by decide +kernel
theorem dX10_gain_58 : decode cX10_gain 58 = .ok (.getfield 254, 3) := by decide +kernel
theorem dX10_gain_61 : decode cX10_gain 61 = .ok (.aload_n 0, 1) := by decide +kernel
theorem dX10_gain_62 : decode cX10_gain 62 = .ok (.getfield 245, 3) := by decide +kernel
theorem dX10_gain_65 : decode cX10_gain 65 = .ok (.iload_n 1, 1) := by decide +kernel
theorem dX10_gain_66 : decode cX10_gain 66 = .ok (.isub, 1) := by decide +kernel
theorem dX10_gain_67 : decode cX10_gain 67 = .ok (.imul, 1) := by decide +kernel
theorem dX10_gain_68 : decode cX10_gain 68 = .ok (.aload_n 0, 1) := by decide +kernel
theorem dX10_gain_69 : decode cX10_gain 69 = .ok (.getfield 263, 3) := by decide +kernel
theorem dX10_gain_72 : decode cX10_gain 72 = .ok (.aload_n 0, 1) := by decide +kernel
theorem dX10_gain_73 : decode cX10_gain 73 = .ok (.getfield 266, 3) := by decide +kernel
theorem dX10_gain_76 : decode cX10_gain 76 = .ok (.iadd, 1) := by decide +kernel
theorem dX10_gain_77 : decode cX10_gain 77 = .ok (.imul, 1) := by decide +kernel
theorem dX10_gain_78 : decode cX10_gain 78 = .ok (.aload_n 0, 1) := by decide +kernel
theorem dX10_gain_79 : decode cX10_gain 79 = .ok (.getfield 254, 3) := by decide +kernel
theorem dX10_gain_82 : decode cX10_gain 82 = .ok (.aload_n 0, 1) := by decide +kernel
theorem dX10_gain_83 : decode cX10_gain 83 = .ok (.getfield 245, 3) := by decide +kernel
theorem dX10_gain_86 : decode cX10_gain 86 = .ok (.aload_n 0, 1) := by decide +kernel
theorem dX10_gain_87 : decode cX10_gain 87 = .ok (.getfield 248, 3) := by decide +kernel
theorem dX10_gain_90 : decode cX10_gain 90 = .ok (.isub, 1) := by decide +kernel
theorem dX10_gain_91 : decode cX10_gain 91 = .ok (.imul, 1) := by decide +kernel
theorem dX10_gain_92 : decode cX10_gain 92 = .ok (.aload_n 0, 1) := by decide +kernel
theorem dX10_gain_93 : decode cX10_gain 93 = .ok (.getfield 266, 3) := by decide +kernel
theorem dX10_gain_96 : decode cX10_gain 96 = .ok (.imul, 1) := by decide +kernel
theorem dX10_gain_97 : decode cX10_gain 97 = .ok (.isub, 1) := by decide +kernel
theorem dX10_gain_98 : decode cX10_gain 98 = .ok (.aload_n 0, 1) := by decide +kernel
theorem dX10_gain_99 : decode cX10_gain 99 = .ok (.getfield 260, 3) := by decide +kernel
theorem dX10_gain_102 : decode cX10_gain 102 = .ok (.aload_n 0, 1) := by decide +kernel
theorem dX10_gain_103 : decode cX10_gain 103 = .ok (.getfield 263, 3) := by decide +kernel
theorem dX10_gain_106 : decode cX10_gain 106 = .ok (.aload_n 0, 1) := by decide +kernel
theorem dX10_gain_107 : decode cX10_gain 107 = .ok (.getfield 266, 3) := by decide +kernel
theorem dX10_gain_110 : decode cX10_gain 110 = .ok (.iadd, 1) := by decide +kernel
theorem dX10_gain_111 : decode cX10_gain 111 = .ok (.imul, 1) := by decide +kernel
theorem dX10_gain_112 : decode cX10_gain 112 = .ok (.iadd, 1) := by decide +kernel
theorem dX10_gain_113 : decode cX10_gain 113 = .ok (.istore_n 3, 1) := by decide +kernel
theorem dX10_gain_114 : decode cX10_gain 114 = .ok (.iload_n 2, 1) := by decide +kernel
theorem dX10_gain_115 : decode cX10_gain 115 = .ok (.iload_n 3, 1) := by decide +kernel
theorem dX10_gain_116 : decode cX10_gain 116 = .ok (.if_icmp .ge 7, 3) := by decide +kernel
theorem dX10_gain_119 : decode cX10_gain 119 = .ok (.iload_n 2, 1) := by decide +kernel
theorem dX10_gain_120 : decode cX10_gain 120 = .ok (.goto 4, 3) := by decide +kernel
theorem dX10_gain_123 : decode cX10_gain 123 = .ok (.iload_n 3, 1) := by decide +kernel
theorem dX10_gain_124 : decode cX10_gain 124 = .ok (.ireturn, 1) := by decide +kernel
theorem dX10_split_0 : decode cX10_split 0 = .ok (.aload_n 0, 1) := by decide +kernel
theorem dX10_split_1 : decode cX10_split 1 = .ok (.getfield 241, 3) := by decide +kernel
theorem dX10_split_4 : decode cX10_split 4 = .ok (.ifCond .eq 12, 3) := by decide +kernel
theorem dX10_split_7 : decode cX10_split 7 = .ok (.iload_n 1, 1) := by decide +kernel
theorem dX10_split_8 : decode cX10_split 8 = .ok (.iconst 0, 1) := by decide +kernel
theorem dX10_split_9 : decode cX10_split 9 = .ok (.iconst 3, 1) := by decide +kernel
theorem dX10_split_10 : decode cX10_split 10 = .ok (.invokestatic 90, 3) := by decide +kernel
theorem dX10_split_13 : decode cX10_split 13 = .ok (.ifCond .ne 5, 3) := by decide +kernel
theorem dX10_split_16 : decode cX10_split 16 = .ok (.iconst (-1), 1) := by decide +kernel
theorem dX10_split_17 : decode cX10_split 17 = .ok (.ireturn, 1) := by decide +kernel
theorem dX10_split_18 : decode cX10_split 18 = .ok (.iconst 0, 1) := by decide +kernel
theorem dX10_split_19 : decode cX10_split 19 = .ok (.istore_n 2, 1) := by decide +kernel
theorem dX10_split_20 : decode cX10_split 20 = .ok (.iconst (-1), 1) := by decide +kernel
theorem dX10_split_21 : decode cX10_split 21 = .ok (.istore_n 3, 1) := by decide +kernel
theorem dX10_split_22 : decode cX10_split 22 = .ok (.iconst (-1), 1) := by decide +kernel
theorem dX10_split_23 : decode cX10_split 23 = .ok (.istore 4, 2) := by decide +kernel
theorem dX10_split_25 : decode cX10_split 25 = .ok (.iconst (-1), 1) := by decide +kernel
theorem dX10_split_26 : decode cX10_split 26 = .ok (.istore 5, 2) := by decide +kernel
theorem dX10_split_28 : decode cX10_split 28 = .ok (.aload_n 0, 1) := by decide +kernel
theorem dX10_split_29 : decode cX10_split 29 = .ok (.getfield 248, 3) := by decide +kernel
theorem dX10_split_32 : decode cX10_split 32 = .ok (.istore 6, 2) := by decide +kernel
theorem dX10_split_34 : decode cX10_split 34 = .ok (.iload 6, 2) := by decide +kernel
theorem dX10_split_36 : decode cX10_split 36 = .ok (.aload_n 0, 1) := by decide +kernel
theorem dX10_split_37 : decode cX10_split 37 = .ok (.getfield 245, 3) := by decide +kernel
theorem dX10_split_40 : decode cX10_split 40 = .ok (.if_icmp .gt 70, 3) := by decide +kernel
theorem dX10_split_43 : decode cX10_split 43 = .ok (.aload_n 0, 1) := by decide +kernel
theorem dX10_split_44 : decode cX10_split 44 = .ok (.iload 6, 2) := by decide +kernel
theorem dX10_split_46 : decode cX10_split 46 = .ok (.invokevirtual 269, 3) := by decide +kernel
theorem dX10_split_49 : decode cX10_split 49 = .ok (.ifCond .ge 6, 3) := by decide +kernel
theorem dX10_split_52 : decode cX10_split 52 = .ok (.goto 52, 3) := by decide +kernel
theorem dX10_split_55 : decode cX10_split 55 = .ok (.iinc 2 1, 3) := by decide +kernel
theorem dX10_split_58 : decode cX10_split 58 = .ok (.iload_n 3, 1) := by decide +kernel
theorem dX10_split_59 : decode cX10_split 59 = .ok (.iconst (-1), 1) := by decide +kernel
theorem dX10_split_60 : decode cX10_split 60 = .ok (.if_icmp .ne 8, 3) := by decide +kernel
theorem dX10_split_63 : decode cX10_split 63 = .ok (.iload 6, 2) := by decide +kernel
theorem dX10_split_65 : decode cX10_split 65 = .ok (.goto 4, 3) := by decide +kernel
theorem dX10_split_68 : decode cX10_split 68 = .ok (.iload_n 3, 1) := by decide +kernel
theorem dX10_split_69 : decode cX10_split 69 = .ok (.istore_n 3, 1) := by decide +kernel
theorem dX10_split_70 : decode cX10_split 70 = .ok (.iload 6, 2) := by decide +kernel
theorem dX10_split_72 : decode cX10_split 72 = .ok (.istore 4, 2) := by decide +kernel
theorem dX10_split_74 : decode cX10_split 74 = .ok (.iload 5, 2) := by decide +kernel
theorem dX10_split_76 : decode cX10_split 76 = .ok (.iconst (-1), 1) := by decide +kernel
theorem dX10_split_77 : decode cX10_split 77 = .ok (.if_icmp .eq 18, 3) := by decide +kernel
theorem dX10_split_80 : decode cX10_split 80 = .ok (.aload_n 0, 1) := by decide +kernel
theorem dX10_split_81 : decode cX10_split 81 = .ok (.iload 6, 2) := by decide +kernel
theorem dX10_split_83 : decode cX10_split 83 = .ok (.invokevirtual 269, 3) := by decide +kernel
theorem dX10_split_86 : decode cX10_split 86 = .ok (.aload_n 0, 1) := by decide +kernel
theorem dX10_split_87 : decode cX10_split 87 = .ok (.iload 5, 2) := by decide +kernel
theorem dX10_split_89 : decode cX10_split 89 = .ok (.invokevirtual 269, 3) := by decide +kernel
theorem dX10_split_92 : decode cX10_split 92 = .ok (.if_icmp .le 8, 3) := by decide +kernel
theorem dX10_split_95 : decode cX10_split 95 = .ok (.iload 6, 2) := by decide +kernel
theorem dX10_split_97 : decode cX10_split 97 = .ok (.goto 5, 3) := by decide +kernel
theorem dX10_split_100 : decode cX10_split 100 = .ok (.iload 5, 2) := by decide +kernel
theorem dX10_split_102 : decode cX10_split 102 = .ok (.istore 5, 2) := by decide +kernel
theorem dX10_split_104 : decode cX10_split 104 = .ok (.iinc 6 1, 3) := by decide +kernel
theorem dX10_split_107 : decode cX10_split 107 = .ok (.goto (-73), 3) := by decide +kernel
theorem dX10_split_110 : decode cX10_split 110 = .ok (.iload_n 1, 1) := by decide +kernel
theorem dX10_split_111 : decode cX10_split 111 = .ok (.ifCond .ne 7, 3) := by decide +kernel
theorem dX10_split_114 : decode cX10_split 114 = .ok (.iload_n 2, 1) := by decide +kernel
theorem dX10_split_115 : decode cX10_split 115 = .ok (.goto 24, 3) := by decide +kernel
theorem dX10_split_118 : decode cX10_split 118 = .ok (.iload_n 1, 1) := by decide +kernel
theorem dX10_split_119 : decode cX10_split 119 = .ok (.iconst 1, 1) := by decide +kernel
theorem dX10_split_120 : decode cX10_split 120 = .ok (.if_icmp .ne 7, 3) := by decide +kernel
theorem dX10_split_123 : decode cX10_split 123 = .ok (.iload_n 3, 1) := by decide +kernel
theorem dX10_split_124 : decode cX10_split 124 = .ok (.goto 15, 3) := by decide +kernel
theorem dX10_split_127 : decode cX10_split 127 = .ok (.iload_n 1, 1) := by decide +kernel
theorem dX10_split_128 : decode cX10_split 128 = .ok (.iconst 2, 1) := by decide +kernel
theorem dX10_split_129 : decode cX10_split 129 = .ok (.if_icmp .ne 8, 3) := by decide +kernel
theorem dX10_split_132 : decode cX10_split 132 = .ok (.iload 4, 2) := by decide +kernel
theorem dX10_split_134 : decode cX10_split 134 = .ok (.goto 5, 3) := by decide +kernel
theorem dX10_split_137 : decode cX10_split 137 = .ok (.iload 5, 2) := by decide +kernel
theorem dX10_split_139 : decode cX10_split 139 = .ok (.ireturn, 1) := by decide +kernel
