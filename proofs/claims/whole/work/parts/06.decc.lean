theorem dX8_init_0 : decode cX8_init 0 = .ok (.aload_n 0, 1) := by decide +kernel
theorem dX8_init_1 : decode cX8_init 1 = .ok (.invokespecial 1, 3) := by decide +kernel
theorem dX8_init_4 : decode cX8_init 4 = .ok (.aload_n 0, 1) := by decide +kernel
theorem dX8_init_5 : decode cX8_init 5 = .ok (.iconst 3, 1) := by decide +kernel
theorem dX8_init_6 : decode cX8_init 6 = .ok (.putfield 7, 3) := by decide +kernel
theorem dX8_init_9 : decode cX8_init 9 = .ok (.aload_n 0, 1) := by decide +kernel
theorem dX8_init_10 : decode cX8_init 10 = .ok (.bipush 6, 2) := by decide +kernel
theorem dX8_init_12 : decode cX8_init 12 = .ok (.newarray .int, 2) := by decide +kernel
theorem dX8_init_14 : decode cX8_init 14 = .ok (.putfield 13, 3) := by decide +kernel
theorem dX8_init_17 : decode cX8_init 17 = .ok (.aload_n 0, 1) := by decide +kernel
theorem dX8_init_18 : decode cX8_init 18 = .ok (.bipush 6, 2) := by decide +kernel
theorem dX8_init_20 : decode cX8_init 20 = .ok (.newarray .int, 2) := by decide +kernel
theorem dX8_init_22 : decode cX8_init 22 = .ok (.putfield 17, 3) := by decide +kernel
theorem dX8_init_25 : decode cX8_init 25 = .ok (.aload_n 0, 1) := by decide +kernel
theorem dX8_init_26 : decode cX8_init 26 = .ok (.bipush 6, 2) := by decide +kernel
theorem dX8_init_28 : decode cX8_init 28 = .ok (.newarray .int, 2) := by decide +kernel
theorem dX8_init_30 : decode cX8_init 30 = .ok (.putfield 20, 3) := by decide +kernel
theorem dX8_init_33 : decode cX8_init 33 = .ok (.aload_n 0, 1) := by decide +kernel
theorem dX8_init_34 : decode cX8_init 34 = .ok (.sipush 906, 3) := by decide +kernel
theorem dX8_init_37 : decode cX8_init 37 = .ok (.newarray .int, 2) := by decide +kernel
theorem dX8_init_39 : decode cX8_init 39 = .ok (.putfield 23, 3) := by decide +kernel
theorem dX8_init_42 : decode cX8_init 42 = .ok (.aload_n 0, 1) := by decide +kernel
theorem dX8_init_43 : decode cX8_init 43 = .ok (.sipush 906, 3) := by decide +kernel
theorem dX8_init_46 : decode cX8_init 46 = .ok (.newarray .int, 2) := by decide +kernel
theorem dX8_init_48 : decode cX8_init 48 = .ok (.putfield 26, 3) := by decide +kernel
theorem dX8_init_51 : decode cX8_init 51 = .ok (.aload_n 0, 1) := by decide +kernel
theorem dX8_init_52 : decode cX8_init 52 = .ok (.sipush 906, 3) := by decide +kernel
theorem dX8_init_55 : decode cX8_init 55 = .ok (.newarray .int, 2) := by decide +kernel
theorem dX8_init_57 : decode cX8_init 57 = .ok (.putfield 29, 3) := by decide +kernel
theorem dX8_init_60 : decode cX8_init 60 = .ok (.aload_n 0, 1) := by decide +kernel
theorem dX8_init_61 : decode cX8_init 61 = .ok (.bipush 6, 2) := by decide +kernel
theorem dX8_init_63 : decode cX8_init 63 = .ok (.newarray .boolean, 2) := by decide +kernel
theorem dX8_init_65 : decode cX8_init 65 = .ok (.putfield 32, 3) := by decide +kernel
theorem dX8_init_68 : decode cX8_init 68 = .ok (.aload_n 0, 1) := by decide +kernel
theorem dX8_init_69 : decode cX8_init 69 = .ok (.bipush 36, 2) := by decide +kernel
theorem dX8_init_71 : decode cX8_init 71 = .ok (.newarray .int, 2) := by decide +kernel
theorem dX8_init_73 : decode cX8_init 73 = .ok (.putfield 36, 3) := by decide +kernel
theorem dX8_init_76 : decode cX8_init 76 = .ok (.aload_n 0, 1) := by decide +kernel
theorem dX8_init_77 : decode cX8_init 77 = .ok (.sipush 200, 3) := by decide +kernel
theorem dX8_init_80 : decode cX8_init 80 = .ok (.newarray .int, 2) := by decide +kernel
theorem dX8_init_82 : decode cX8_init 82 = .ok (.putfield 39, 3) := by decide +kernel
theorem dX8_init_85 : decode cX8_init 85 = .ok (.aload_n 0, 1) := by decide +kernel
theorem dX8_init_86 : decode cX8_init 86 = .ok (.sipush 200, 3) := by decide +kernel
theorem dX8_init_89 : decode cX8_init 89 = .ok (.newarray .int, 2) := by decide +kernel
theorem dX8_init_91 : decode cX8_init 91 = .ok (.putfield 42, 3) := by decide +kernel
theorem dX8_init_94 : decode cX8_init 94 = .ok (.aload_n 0, 1) := by decide +kernel
theorem dX8_init_95 : decode cX8_init 95 = .ok (.sipush 200, 3) := by decide +kernel
theorem dX8_init_98 : decode cX8_init 98 = .ok (.newarray .int, 2) := by decide +kernel
theorem dX8_init_100 : decode cX8_init 100 = .ok (.putfield 45, 3) := by decide +kernel
theorem dX8_init_103 : decode cX8_init 103 = .ok (.aload_n 0, 1) := by decide +kernel
theorem dX8_init_104 : decode cX8_init 104 = .ok (.sipush 200, 3) := by decide +kernel
theorem dX8_init_107 : decode cX8_init 107 = .ok (.newarray .int, 2) := by decide +kernel
theorem dX8_init_109 : decode cX8_init 109 = .ok (.putfield 48, 3) := by decide +kernel
theorem dX8_init_112 : decode cX8_init 112 = .ok (.aload_n 0, 1) := by decide +kernel
theorem dX8_init_113 : decode cX8_init 113 = .ok (.sipush 200, 3) := by decide +kernel
theorem dX8_init_116 : decode cX8_init 116 = .ok (.newarray .int, 2) := by decide +kernel
theorem dX8_init_118 : decode cX8_init 118 = .ok (.putfield 51, 3) := by decide +kernel
theorem dX8_init_121 : decode cX8_init 121 = .ok (.aload_n 0, 1) := by decide +kernel
theorem dX8_init_122 : decode cX8_init 122 = .ok (.sipush 200, 3) := by decide +kernel
theorem dX8_init_125 : decode cX8_init 125 = .ok (.newarray .long, 2) := by decide +kernel
theorem dX8_init_127 : decode cX8_init 127 = .ok (.putfield 54, 3) := by decide +kernel
theorem dX8_init_130 : decode cX8_init 130 = .ok (.aload_n 0, 1) := by decide +kernel
theorem dX8_init_131 : decode cX8_init 131 = .ok (.sipush 200, 3) := by decide +kernel
theorem dX8_init_134 : decode cX8_init 134 = .ok (.newarray .long, 2) := by decide +kernel
theorem dX8_init_136 : decode cX8_init 136 = .ok (.putfield 58, 3) := by decide +kernel
theorem dX8_init_139 : decode cX8_init 139 = .ok (.aload_n 0, 1) := by decide +kernel
theorem dX8_init_140 : decode cX8_init 140 = .ok (.sipush 600, 3) := by decide +kernel
theorem dX8_init_143 : decode cX8_init 143 = .ok (.newarray .int, 2) := by decide +kernel
theorem dX8_init_145 : decode cX8_init 145 = .ok (.putfield 61, 3) := by decide +kernel
theorem dX8_init_148 : decode cX8_init 148 = .ok (.aload_n 0, 1) := by decide +kernel
theorem dX8_init_149 : decode cX8_init 149 = .ok (.sipush 600, 3) := by decide +kernel
theorem dX8_init_152 : decode cX8_init 152 = .ok (.newarray .int, 2) := by decide +kernel
theorem dX8_init_154 : decode cX8_init 154 = .ok (.putfield 64, 3) := by decide +kernel
theorem dX8_init_157 : decode cX8_init 157 = .ok (.aload_n 0, 1) := by decide +kernel
theorem dX8_init_158 : decode cX8_init 158 = .ok (.sipush 600, 3) := by decide +kernel
theorem dX8_init_161 : decode cX8_init 161 = .ok (.newarray .int, 2) := by decide +kernel
theorem dX8_init_163 : decode cX8_init 163 = .ok (.putfield 67, 3) := by decide +kernel
theorem dX8_init_166 : decode cX8_init 166 = .ok (.aload_n 0, 1) := by decide +kernel
theorem dX8_init_167 : decode cX8_init 167 = .ok (.bipush 6, 2) := by decide +kernel
theorem dX8_init_169 : decode cX8_init 169 = .ok (.newarray .int, 2) := by decide +kernel
theorem dX8_init_171 : decode cX8_init 171 = .ok (.putfield 70, 3) := by decide +kernel
theorem dX8_init_174 : decode cX8_init 174 = .ok (.aload_n 0, 1) := by decide +kernel
theorem dX8_init_175 : decode cX8_init 175 = .ok (.sipush 1800, 3) := by decide +kernel
theorem dX8_init_178 : decode cX8_init 178 = .ok (.newarray .int, 2) := by decide +kernel
theorem dX8_init_180 : decode cX8_init 180 = .ok (.putfield 73, 3) := by decide +kernel
theorem dX8_init_183 : decode cX8_init 183 = .ok (.aload_n 0, 1) := by decide +kernel
theorem dX8_init_184 : decode cX8_init 184 = .ok (.sipush 1800, 3) := by decide +kernel
theorem dX8_init_187 : decode cX8_init 187 = .ok (.newarray .int, 2) := by decide +kernel
theorem dX8_init_189 : decode cX8_init 189 = .ok (.putfield 76, 3) := by decide +kernel
theorem dX8_init_192 : decode cX8_init 192 = .ok (.aload_n 0, 1) := by decide +kernel
theorem dX8_init_193 : decode cX8_init 193 = .ok (.sipush 1800, 3) := by decide +kernel
theorem dX8_init_196 : decode cX8_init 196 = .ok (.newarray .long, 2) := by decide +kernel
theorem dX8_init_198 : decode cX8_init 198 = .ok (.putfield 79, 3) := by decide +kernel
theorem dX8_init_201 : decode cX8_init 201 = .ok (.aload_n 0, 1) := by decide +kernel
theorem dX8_init_202 : decode cX8_init 202 = .ok (.sipush 1800, 3) := by decide +kernel
theorem dX8_init_205 : decode cX8_init 205 = .ok (.newarray .boolean, 2) := by decide +kernel
theorem dX8_init_207 : decode cX8_init 207 = .ok (.putfield 82, 3) := by decide +kernel
theorem dX8_init_210 : decode cX8_init 210 = .ok (.aload_n 0, 1) := by decide +kernel
theorem dX8_init_211 : decode cX8_init 211 = .ok (.bipush 40, 2) := by decide +kernel
theorem dX8_init_213 : decode cX8_init 213 = .ok (.newarray .int, 2) := by decide +kernel
theorem dX8_init_215 : decode cX8_init 215 = .ok (.putfield 85, 3) := by decide +kernel
theorem dX8_init_218 : decode cX8_init 218 = .ok (.aload_n 0, 1) := by decide +kernel
theorem dX8_init_219 : decode cX8_init 219 = .ok (.ldc 88, 2) := by decide +kernel
theorem dX8_init_221 : decode cX8_init 221 = .ok (.newarray .byte, 2) := by decide +kernel
theorem dX8_init_223 : decode cX8_init 223 = .ok (.putfield 89, 3) := by decide +kernel
theorem dX8_init_226 : decode cX8_init 226 = .ok (.aload_n 0, 1) := by decide +kernel
theorem dX8_init_227 : decode cX8_init 227 = .ok (.sipush 151, 3) := by decide +kernel
theorem dX8_init_230 : decode cX8_init 230 = .ok (.newarray .int, 2) := by decide +kernel
theorem dX8_init_232 : decode cX8_init 232 = .ok (.putfield 93, 3) := by decide +kernel
theorem dX8_init_235 : decode cX8_init 235 = .ok (.aload_n 0, 1) := by decide +kernel
theorem dX8_init_236 : decode cX8_init 236 = .ok (.sipush 151, 3) := by decide +kernel
theorem dX8_init_239 : decode cX8_init 239 = .ok (.newarray .int, 2) := by decide +kernel
theorem dX8_init_241 : decode cX8_init 241 = .ok (.putfield 96, 3) := by decide +kernel
theorem dX8_init_244 : decode cX8_init 244 = .ok (.aload_n 0, 1) := by decide +kernel
theorem dX8_init_245 : decode cX8_init 245 = .ok (.sipush 151, 3) := by decide +kernel
theorem dX8_init_248 : decode cX8_init 248 = .ok (.newarray .int, 2) := by decide +kernel
theorem dX8_init_250 : decode cX8_init 250 = .ok (.putfield 99, 3) := by decide +kernel
theorem dX8_init_253 : decode cX8_init 253 = .ok (.return_, 1) := by decide +kernel
theorem dX8_thrown_0 : decode cX8_thrown 0 = .ok (.aload_n 0, 1) := by decide +kernel
theorem dX8_thrown_1 : decode cX8_thrown 1 = .ok (.getfield 102, 3) := by decide +kernel
theorem dX8_thrown_4 : decode cX8_thrown 4 = .ok (.ireturn, 1) := by decide +kernel
theorem dX8_open_0 : decode cX8_open 0 = .ok (.aload_n 0, 1) := by decide +kernel
theorem dX8_open_1 : decode cX8_open 1 = .ok (.iload_n 1, 1) := by decide +kernel
theorem dX8_open_2 : decode cX8_open 2 = .ok (.iconst 3, 1) := by decide +kernel
theorem dX8_open_3 : decode cX8_open 3 = .ok (.if_icmp .lt 9, 3) := by decide +kernel
theorem dX8_open_6 : decode cX8_open 6 = .ok (.iload_n 1, 1) := by decide +kernel
theorem dX8_open_7 : decode cX8_open 7 = .ok (.bipush 6, 2) := by decide +kernel
theorem dX8_open_9 : decode cX8_open 9 = .ok (.if_icmp .le 7, 3) := by decide +kernel
theorem dX8_open_12 : decode cX8_open 12 = .ok (.iconst 1, 1) := by decide +kernel
theorem dX8_open_13 : decode cX8_open 13 = .ok (.goto 4, 3) := by decide +kernel
theorem dX8_open_16 : decode cX8_open 16 = .ok (.iconst 0, 1) := by decide +kernel
theorem dX8_open_17 : decode cX8_open 17 = .ok (.putfield 102, 3) := by decide +kernel
theorem dX8_open_20 : decode cX8_open 20 = .ok (.aload_n 0, 1) := by decide +kernel
theorem dX8_open_21 : decode cX8_open 21 = .ok (.getfield 102, 3) := by decide +kernel
theorem dX8_open_24 : decode cX8_open 24 = .ok (.ifCond .le 4, 3) := by decide +kernel
theorem dX8_open_27 : decode cX8_open 27 = .ok (.return_, 1) := by decide +kernel
theorem dX8_open_28 : decode cX8_open 28 = .ok (.aload_n 0, 1) := by decide +kernel
theorem dX8_open_29 : decode cX8_open 29 = .ok (.iload_n 1, 1) := by decide +kernel
theorem dX8_open_30 : decode cX8_open 30 = .ok (.putfield 7, 3) := by decide +kernel
theorem dX8_open_33 : decode cX8_open 33 = .ok (.aload_n 0, 1) := by decide +kernel
theorem dX8_open_34 : decode cX8_open 34 = .ok (.iconst 0, 1) := by decide +kernel
theorem dX8_open_35 : decode cX8_open 35 = .ok (.putfield 105, 3) := by decide +kernel
theorem dX8_open_38 : decode cX8_open 38 = .ok (.aload_n 0, 1) := by decide +kernel
theorem dX8_open_39 : decode cX8_open 39 = .ok (.iconst 0, 1) := by decide +kernel
theorem dX8_open_40 : decode cX8_open 40 = .ok (.putfield 108, 3) := by decide +kernel
theorem dX8_open_43 : decode cX8_open 43 = .ok (.aload_n 0, 1) := by decide +kernel
theorem dX8_open_44 : decode cX8_open 44 = .ok (.iconst 0, 1) := by decide +kernel
theorem dX8_open_45 : decode cX8_open 45 = .ok (.putfield 111, 3) := by decide +kernel
theorem dX8_open_48 : decode cX8_open 48 = .ok (.aload_n 0, 1) := by decide +kernel
theorem dX8_open_49 : decode cX8_open 49 = .ok (.iconst 0, 1) := by decide +kernel
theorem dX8_open_50 : decode cX8_open 50 = .ok (.putfield 114, 3) := by decide +kernel
theorem dX8_open_53 : decode cX8_open 53 = .ok (.iconst 0, 1) := by decide +kernel
theorem dX8_open_54 : decode cX8_open 54 = .ok (.istore_n 2, 1) := by decide +kernel
theorem dX8_open_55 : decode cX8_open 55 = .ok (.iload_n 2, 1) := by decide +kernel
theorem dX8_open_56 : decode cX8_open 56 = .ok (.bipush 6, 2) := by decide +kernel
theorem dX8_open_58 : decode cX8_open 58 = .ok (.if_icmp .ge 44, 3) := by decide +kernel
theorem dX8_open_61 : decode cX8_open 61 = .ok (.aload_n 0, 1) := by decide +kernel
theorem dX8_open_62 : decode cX8_open 62 = .ok (.getfield 13, 3) := by decide +kernel
theorem dX8_open_65 : decode cX8_open 65 = .ok (.iload_n 2, 1) := by decide +kernel
theorem dX8_open_66 : decode cX8_open 66 = .ok (.iconst 0, 1) := by decide +kernel
theorem dX8_open_67 : decode cX8_open 67 = .ok (.iastore, 1) := by decide +kernel
theorem dX8_open_68 : decode cX8_open 68 = .ok (.aload_n 0, 1) := by decide +kernel
theorem dX8_open_69 : decode cX8_open 69 = .ok (.getfield 17, 3) := by decide +kernel
theorem dX8_open_72 : decode cX8_open 72 = .ok (.iload_n 2, 1) := by decide +kernel
theorem dX8_open_73 : decode cX8_open 73 = .ok (.iconst 0, 1) := by decide +kernel
theorem dX8_open_74 : decode cX8_open 74 = .ok (.iastore, 1) := by decide +kernel
theorem dX8_open_75 : decode cX8_open 75 = .ok (.aload_n 0, 1) := by decide +kernel
theorem dX8_open_76 : decode cX8_open 76 = .ok (.getfield 20, 3) := by decide +kernel
theorem dX8_open_79 : decode cX8_open 79 = .ok (.iload_n 2, 1) := by decide +kernel
theorem dX8_open_80 : decode cX8_open 80 = .ok (.iconst 0, 1) := by decide +kernel
theorem dX8_open_81 : decode cX8_open 81 = .ok (.iastore, 1) := by decide +kernel
theorem dX8_open_82 : decode cX8_open 82 = .ok (.aload_n 0, 1) := by decide +kernel
theorem dX8_open_83 : decode cX8_open 83 = .ok (.getfield 32, 3) := by decide +kernel
theorem dX8_open_86 : decode cX8_open 86 = .ok (.iload_n 2, 1) := by decide +kernel
theorem dX8_open_87 : decode cX8_open 87 = .ok (.iconst 0, 1) := by decide +kernel
theorem dX8_open_88 : decode cX8_open 88 = .ok (.bastore, 1) := by decide +kernel
theorem dX8_open_89 : decode cX8_open 89 = .ok (.aload_n 0, 1) := by decide +kernel
theorem dX8_open_90 : decode cX8_open 90 = .ok (.getfield 70, 3) := by decide +kernel
theorem dX8_open_93 : decode cX8_open 93 = .ok (.iload_n 2, 1) := by decide +kernel
theorem dX8_open_94 : decode cX8_open 94 = .ok (.iconst 0, 1) := by decide +kernel
theorem dX8_open_95 : decode cX8_open 95 = .ok (.iastore, 1) := by decide +kernel
theorem dX8_open_96 : decode cX8_open 96 = .ok (.iinc 2 1, 3) := by decide +kernel
theorem dX8_open_99 : decode cX8_open 99 = .ok (.goto (-44), 3) := by decide +kernel
theorem dX8_open_102 : decode cX8_open 102 = .ok (.iconst 0, 1) := by decide +kernel
theorem dX8_open_103 : decode cX8_open 103 = .ok (.istore_n 2, 1) := by decide +kernel
theorem dX8_open_104 : decode cX8_open 104 = .ok (.iload_n 2, 1) := by decide +kernel
theorem dX8_open_105 : decode cX8_open 105 = .ok (.bipush 36, 2) := by decide +kernel
theorem dX8_open_107 : decode cX8_open 107 = .ok (.if_icmp .ge 16, 3) := by decide +kernel
theorem dX8_open_110 : decode cX8_open 110 = .ok (.aload_n 0, 1) := by decide +kernel
theorem dX8_open_111 : decode cX8_open 111 = .ok (.getfield 36, 3) := by decide +kernel
theorem dX8_open_114 : decode cX8_open 114 = .ok (.iload_n 2, 1) := by decide +kernel
theorem dX8_open_115 : decode cX8_open 115 = .ok (.iconst 0, 1) := by decide +kernel
theorem dX8_open_116 : decode cX8_open 116 = .ok (.iastore, 1) := by decide +kernel
theorem dX8_open_117 : decode cX8_open 117 = .ok (.iinc 2 1, 3) := by decide +kernel
theorem dX8_open_120 : decode cX8_open 120 = .ok (.goto (-16), 3) := by decide +kernel
theorem dX8_open_123 : decode cX8_open 123 = .ok (.return_, 1) := by decide +kernel
theorem dX8_mix_0 : decode cX8_mix 0 = .ok (.lload_n 0, 1) := by decide +kernel
theorem dX8_mix_1 : decode cX8_mix 1 = .ok (.lload_n 2, 1) := by decide +kernel
theorem dX8_mix_2 : decode cX8_mix 2 = .ok (.lxor, 1) := by decide +kernel
theorem dX8_mix_3 : decode cX8_mix 3 = .ok (.ldc2_w 117, 3) := by decide +kernel
theorem dX8_mix_6 : decode cX8_mix 6 = .ok (.lmul, 1) := by decide +kernel
theorem dX8_mix_7 : decode cX8_mix 7 = .ok (.lstore 4, 2) := by decide +kernel
theorem dX8_mix_9 : decode cX8_mix 9 = .ok (.lload 4, 2) := by decide +kernel
theorem dX8_mix_11 : decode cX8_mix 11 = .ok (.lload 4, 2) := by decide +kernel
theorem dX8_mix_13 : decode cX8_mix 13 = .ok (.bipush 29, 2) := by decide +kernel
theorem dX8_mix_15 : decode cX8_mix 15 = .ok (.lushr, 1) := by decide +kernel
theorem dX8_mix_16 : decode cX8_mix 16 = .ok (.lxor, 1) := by decide +kernel
theorem dX8_mix_17 : decode cX8_mix 17 = .ok (.lreturn, 1) := by decide +kernel
set_option maxRecDepth 20000 in
theorem ggX8_headBehind_X8_mix : GoodIn wsX8_headBehind wsX8_mix := goodIn_r _ [5, 6] (by decide +kernel) (by decide +kernel)
set_option maxRecDepth 20000 in
theorem gX8_headBehind_X8_mix : GoodIn wsX8_headBehind (va_wsS RX8 121 yX8_mix wsX8_mix) := goodIn_app (goodIn_of _ (by decide +kernel)) ggX8_headBehind_X8_mix
theorem dX8_headBehind_0 : decode cX8_headBehind 0 = .ok (.ldc2_w 119, 3) := by decide +kernel
theorem dX8_headBehind_3 : decode cX8_headBehind 3 = .ok (.lload_n 0, 1) := by decide +kernel
theorem dX8_headBehind_4 : decode cX8_headBehind 4 = .ok (.invokestatic 121, 3) := by decide +kernel
theorem dX8_headBehind_7 : decode cX8_headBehind 7 = .ok (.iload_n 2, 1) := by decide +kernel
theorem dX8_headBehind_8 : decode cX8_headBehind 8 = .ok (.i2l, 1) := by decide +kernel
theorem dX8_headBehind_9 : decode cX8_headBehind 9 = .ok (.invokestatic 121, 3) := by decide +kernel
theorem dX8_headBehind_12 : decode cX8_headBehind 12 = .ok (.iload_n 3, 1) := by decide +kernel
theorem dX8_headBehind_13 : decode cX8_headBehind 13 = .ok (.i2l, 1) := by decide +kernel
theorem dX8_headBehind_14 : decode cX8_headBehind 14 = .ok (.invokestatic 121, 3) := by decide +kernel
theorem dX8_headBehind_17 : decode cX8_headBehind 17 = .ok (.iload 4, 2) := by decide +kernel
theorem dX8_headBehind_19 : decode cX8_headBehind 19 = .ok (.i2l, 1) := by decide +kernel
theorem dX8_headBehind_20 : decode cX8_headBehind 20 = .ok (.invokestatic 121, 3) := by decide +kernel
theorem dX8_headBehind_23 : decode cX8_headBehind 23 = .ok (.lreturn, 1) := by decide +kernel
set_option maxRecDepth 20000 in
theorem ggX8_signature_X8_mix : GoodIn wsX8_signature wsX8_mix := goodIn_r _ [5, 6] (by decide +kernel) (by decide +kernel)
set_option maxRecDepth 20000 in
theorem gX8_signature_X8_mix : GoodIn wsX8_signature (va_wsS RX8 121 yX8_mix wsX8_mix) := goodIn_app (goodIn_of _ (by decide +kernel)) ggX8_signature_X8_mix
theorem dX8_signature_0 : decode cX8_signature 0 = .ok (.ldc2_w 119, 3) := by decide +kernel
theorem dX8_signature_3 : decode cX8_signature 3 = .ok (.iconst (-1), 1) := by decide +kernel
theorem dX8_signature_4 : decode cX8_signature 4 = .ok (.iload_n 0, 1) := by decide +kernel
theorem dX8_signature_5 : decode cX8_signature 5 = .ok (.isub, 1) := by decide +kernel
theorem dX8_signature_6 : decode cX8_signature 6 = .ok (.i2l, 1) := by decide +kernel
theorem dX8_signature_7 : decode cX8_signature 7 = .ok (.invokestatic 121, 3) := by decide +kernel
theorem dX8_signature_10 : decode cX8_signature 10 = .ok (.iload_n 1, 1) := by decide +kernel
theorem dX8_signature_11 : decode cX8_signature 11 = .ok (.i2l, 1) := by decide +kernel
theorem dX8_signature_12 : decode cX8_signature 12 = .ok (.invokestatic 121, 3) := by decide +kernel
theorem dX8_signature_15 : decode cX8_signature 15 = .ok (.lload_n 2, 1) := by decide +kernel
theorem dX8_signature_16 : decode cX8_signature 16 = .ok (.invokestatic 121, 3) := by decide +kernel
theorem dX8_signature_19 : decode cX8_signature 19 = .ok (.lreturn, 1) := by decide +kernel
set_option maxRecDepth 20000 in
theorem ggX8_headOf_X8_headBehind : GoodIn wsX8_headOf wsX8_headBehind := goodIn_r _ [7, 8, 9, 10, 6, 11, 12] (by decide +kernel) (by decide +kernel)
set_option maxRecDepth 20000 in
theorem gX8_headOf_X8_headBehind : GoodIn wsX8_headOf (va_wsS RX8 125 yX8_headBehind wsX8_headBehind) := goodIn_app (goodIn_of _ (by decide +kernel)) ggX8_headOf_X8_headBehind
theorem dX8_headOf_0 : decode cX8_headOf 0 = .ok (.lconst 0, 1) := by decide +kernel
theorem dX8_headOf_1 : decode cX8_headOf 1 = .ok (.lstore_n 3, 1) := by decide +kernel
theorem dX8_headOf_2 : decode cX8_headOf 2 = .ok (.iconst 0, 1) := by decide +kernel
theorem dX8_headOf_3 : decode cX8_headOf 3 = .ok (.istore 5, 2) := by decide +kernel
theorem dX8_headOf_5 : decode cX8_headOf 5 = .ok (.iload 5, 2) := by decide +kernel
theorem dX8_headOf_7 : decode cX8_headOf 7 = .ok (.iload_n 2, 1) := by decide +kernel
theorem dX8_headOf_8 : decode cX8_headOf 8 = .ok (.if_icmp .ge 53, 3) := by decide +kernel
theorem dX8_headOf_11 : decode cX8_headOf 11 = .ok (.lload_n 3, 1) := by decide +kernel
theorem dX8_headOf_12 : decode cX8_headOf 12 = .ok (.aload_n 0, 1) := by decide +kernel
theorem dX8_headOf_13 : decode cX8_headOf 13 = .ok (.getfield 23, 3) := by decide +kernel
theorem dX8_headOf_16 : decode cX8_headOf 16 = .ok (.sipush 151, 3) := by decide +kernel
theorem dX8_headOf_19 : decode cX8_headOf 19 = .ok (.iload_n 1, 1) := by decide +kernel
theorem dX8_headOf_20 : decode cX8_headOf 20 = .ok (.imul, 1) := by decide +kernel
theorem dX8_headOf_21 : decode cX8_headOf 21 = .ok (.iload 5, 2) := by decide +kernel
theorem dX8_headOf_23 : decode cX8_headOf 23 = .ok (.iadd, 1) := by decide +kernel
theorem dX8_headOf_24 : decode cX8_headOf 24 = .ok (.iaload, 1) := by decide +kernel
theorem dX8_headOf_25 : decode cX8_headOf 25 = .ok (.aload_n 0, 1) := by decide +kernel
theorem dX8_headOf_26 : decode cX8_headOf 26 = .ok (.getfield 26, 3) := by decide +kernel
theorem dX8_headOf_29 : decode cX8_headOf 29 = .ok (.sipush 151, 3) := by decide +kernel
theorem dX8_headOf_32 : decode cX8_headOf 32 = .ok (.iload_n 1, 1) := by decide +kernel
theorem dX8_headOf_33 : decode cX8_headOf 33 = .ok (.imul, 1) := by decide +kernel
theorem dX8_headOf_34 : decode cX8_headOf 34 = .ok (.iload 5, 2) := by decide +kernel
theorem dX8_headOf_36 : decode cX8_headOf 36 = .ok (.iadd, 1) := by decide +kernel
theorem dX8_headOf_37 : decode cX8_headOf 37 = .ok (.iaload, 1) := by decide +kernel
theorem dX8_headOf_38 : decode cX8_headOf 38 = .ok (.aload_n 0, 1) := by decide +kernel
theorem dX8_headOf_39 : decode cX8_headOf 39 = .ok (.getfield 29, 3) := by decide +kernel
theorem dX8_headOf_42 : decode cX8_headOf 42 = .ok (.sipush 151, 3) := by decide +kernel
theorem dX8_headOf_45 : decode cX8_headOf 45 = .ok (.iload_n 1, 1) := by decide +kernel
theorem dX8_headOf_46 : decode cX8_headOf 46 = .ok (.imul, 1) := by decide +kernel
theorem dX8_headOf_47 : decode cX8_headOf 47 = .ok (.iload 5, 2) := by decide +kernel
theorem dX8_headOf_49 : decode cX8_headOf 49 = .ok (.iadd, 1) := by decide +kernel
theorem dX8_headOf_50 : decode cX8_headOf 50 = .ok (.iaload, 1) := by decide +kernel
theorem dX8_headOf_51 : decode cX8_headOf 51 = .ok (.invokestatic 125, 3) := by decide +kernel
theorem dX8_headOf_54 : decode cX8_headOf 54 = .ok (.lstore_n 3, 1) := by decide +kernel
theorem dX8_headOf_55 : decode cX8_headOf 55 = .ok (.iinc 5 1, 3) := by decide +kernel
theorem dX8_headOf_58 : decode cX8_headOf 58 = .ok (.goto (-53), 3) := by decide +kernel
theorem dX8_headOf_61 : decode cX8_headOf 61 = .ok (.lload_n 3, 1) := by decide +kernel
theorem dX8_headOf_62 : decode cX8_headOf 62 = .ok (.lreturn, 1) := by decide +kernel
theorem dX8_no_0 : decode cX8_no 0 = .ok (.iload_n 1, 1) := by decide +kernel
theorem dX8_no_1 : decode cX8_no 1 = .ok (.ifCond .lt 11, 3) := by decide +kernel
theorem dX8_no_4 : decode cX8_no 4 = .ok (.iload_n 1, 1) := by decide +kernel
theorem dX8_no_5 : decode cX8_no 5 = .ok (.aload_n 0, 1) := by decide +kernel
theorem dX8_no_6 : decode cX8_no 6 = .ok (.getfield 7, 3) := by decide +kernel
theorem dX8_no_9 : decode cX8_no 9 = .ok (.if_icmp .lt 7, 3) := by decide +kernel
theorem dX8_no_12 : decode cX8_no 12 = .ok (.iconst 1, 1) := by decide +kernel
theorem dX8_no_13 : decode cX8_no 13 = .ok (.goto 4, 3) := by decide +kernel
theorem dX8_no_16 : decode cX8_no 16 = .ok (.iconst 0, 1) := by decide +kernel
theorem dX8_no_17 : decode cX8_no 17 = .ok (.ireturn, 1) := by decide +kernel
theorem dX8_enter_0 : decode cX8_enter 0 = .ok (.sipush 151, 3) := by decide +kernel
theorem dX8_enter_3 : decode cX8_enter 3 = .ok (.iload_n 1, 1) := by decide +kernel
theorem dX8_enter_4 : decode cX8_enter 4 = .ok (.imul, 1) := by decide +kernel
theorem dX8_enter_5 : decode cX8_enter 5 = .ok (.aload_n 0, 1) := by decide +kernel
theorem dX8_enter_6 : decode cX8_enter 6 = .ok (.getfield 20, 3) := by decide +kernel
theorem dX8_enter_9 : decode cX8_enter 9 = .ok (.iload_n 1, 1) := by decide +kernel
theorem dX8_enter_10 : decode cX8_enter 10 = .ok (.iaload, 1) := by decide +kernel
theorem dX8_enter_11 : decode cX8_enter 11 = .ok (.iadd, 1) := by decide +kernel
theorem dX8_enter_12 : decode cX8_enter 12 = .ok (.istore 5, 2) := by decide +kernel
theorem dX8_enter_14 : decode cX8_enter 14 = .ok (.aload_n 0, 1) := by decide +kernel
theorem dX8_enter_15 : decode cX8_enter 15 = .ok (.getfield 23, 3) := by decide +kernel
theorem dX8_enter_18 : decode cX8_enter 18 = .ok (.iload 5, 2) := by decide +kernel
theorem dX8_enter_20 : decode cX8_enter 20 = .ok (.iload_n 2, 1) := by decide +kernel
theorem dX8_enter_21 : decode cX8_enter 21 = .ok (.iastore, 1) := by decide +kernel
theorem dX8_enter_22 : decode cX8_enter 22 = .ok (.aload_n 0, 1) := by decide +kernel
theorem dX8_enter_23 : decode cX8_enter 23 = .ok (.getfield 26, 3) := by decide +kernel
theorem dX8_enter_26 : decode cX8_enter 26 = .ok (.iload 5, 2) := by decide +kernel
theorem dX8_enter_28 : decode cX8_enter 28 = .ok (.iload_n 3, 1) := by decide +kernel
theorem dX8_enter_29 : decode cX8_enter 29 = .ok (.iastore, 1) := by decide +kernel
theorem dX8_enter_30 : decode cX8_enter 30 = .ok (.aload_n 0, 1) := by decide +kernel
theorem dX8_enter_31 : decode cX8_enter 31 = .ok (.getfield 29, 3) := by decide +kernel
theorem dX8_enter_34 : decode cX8_enter 34 = .ok (.iload 5, 2) := by decide +kernel
theorem dX8_enter_36 : decode cX8_enter 36 = .ok (.iload 4, 2) := by decide +kernel
theorem dX8_enter_38 : decode cX8_enter 38 = .ok (.iastore, 1) := by decide +kernel
theorem dX8_enter_39 : decode cX8_enter 39 = .ok (.aload_n 0, 1) := by decide +kernel
theorem dX8_enter_40 : decode cX8_enter 40 = .ok (.getfield 20, 3) := by decide +kernel
theorem dX8_enter_43 : decode cX8_enter 43 = .ok (.iload_n 1, 1) := by decide +kernel
theorem dX8_enter_44 : decode cX8_enter 44 = .ok (.dup2, 1) := by decide +kernel
theorem dX8_enter_45 : decode cX8_enter 45 = .ok (.iaload, 1) := by decide +kernel
theorem dX8_enter_46 : decode cX8_enter 46 = .ok (.iconst 1, 1) := by decide +kernel
theorem dX8_enter_47 : decode cX8_enter 47 = .ok (.iadd, 1) := by decide +kernel
theorem dX8_enter_48 : decode cX8_enter 48 = .ok (.iastore, 1) := by decide +kernel
theorem dX8_enter_49 : decode cX8_enter 49 = .ok (.return_, 1) := by decide +kernel
theorem dX8_letter_0 : decode cX8_letter 0 = .ok (.aload_n 0, 1) := by decide +kernel
theorem dX8_letter_1 : decode cX8_letter 1 = .ok (.dup, 1) := by decide +kernel
theorem dX8_letter_2 : decode cX8_letter 2 = .ok (.getfield 108, 3) := by decide +kernel
theorem dX8_letter_5 : decode cX8_letter 5 = .ok (.iconst 1, 1) := by decide +kernel
theorem dX8_letter_6 : decode cX8_letter 6 = .ok (.iadd, 1) := by decide +kernel
theorem dX8_letter_7 : decode cX8_letter 7 = .ok (.putfield 108, 3) := by decide +kernel
theorem dX8_letter_10 : decode cX8_letter 10 = .ok (.aload_n 0, 1) := by decide +kernel
theorem dX8_letter_11 : decode cX8_letter 11 = .ok (.getfield 105, 3) := by decide +kernel
theorem dX8_letter_14 : decode cX8_letter 14 = .ok (.sipush 200, 3) := by decide +kernel
theorem dX8_letter_17 : decode cX8_letter 17 = .ok (.if_icmp .ne 4, 3) := by decide +kernel
theorem dX8_letter_20 : decode cX8_letter 20 = .ok (.return_, 1) := by decide +kernel
theorem dX8_letter_21 : decode cX8_letter 21 = .ok (.aload_n 0, 1) := by decide +kernel
theorem dX8_letter_22 : decode cX8_letter 22 = .ok (.getfield 39, 3) := by decide +kernel
theorem dX8_letter_25 : decode cX8_letter 25 = .ok (.aload_n 0, 1) := by decide +kernel
theorem dX8_letter_26 : decode cX8_letter 26 = .ok (.getfield 105, 3) := by decide +kernel
theorem dX8_letter_29 : decode cX8_letter 29 = .ok (.iload_n 1, 1) := by decide +kernel
theorem dX8_letter_30 : decode cX8_letter 30 = .ok (.iastore, 1) := by decide +kernel
theorem dX8_letter_31 : decode cX8_letter 31 = .ok (.aload_n 0, 1) := by decide +kernel
theorem dX8_letter_32 : decode cX8_letter 32 = .ok (.getfield 42, 3) := by decide +kernel
theorem dX8_letter_35 : decode cX8_letter 35 = .ok (.aload_n 0, 1) := by decide +kernel
theorem dX8_letter_36 : decode cX8_letter 36 = .ok (.getfield 105, 3) := by decide +kernel
theorem dX8_letter_39 : decode cX8_letter 39 = .ok (.iload_n 2, 1) := by decide +kernel
theorem dX8_letter_40 : decode cX8_letter 40 = .ok (.iastore, 1) := by decide +kernel
theorem dX8_letter_41 : decode cX8_letter 41 = .ok (.aload_n 0, 1) := by decide +kernel
theorem dX8_letter_42 : decode cX8_letter 42 = .ok (.getfield 45, 3) := by decide +kernel
theorem dX8_letter_45 : decode cX8_letter 45 = .ok (.aload_n 0, 1) := by decide +kernel
theorem dX8_letter_46 : decode cX8_letter 46 = .ok (.getfield 105, 3) := by decide +kernel
theorem dX8_letter_49 : decode cX8_letter 49 = .ok (.iload_n 3, 1) := by decide +kernel
theorem dX8_letter_50 : decode cX8_letter 50 = .ok (.iastore, 1) := by decide +kernel
theorem dX8_letter_51 : decode cX8_letter 51 = .ok (.aload_n 0, 1) := by decide +kernel
theorem dX8_letter_52 : decode cX8_letter 52 = .ok (.getfield 48, 3) := by decide +kernel
theorem dX8_letter_55 : decode cX8_letter 55 = .ok (.aload_n 0, 1) := by decide +kernel
theorem dX8_letter_56 : decode cX8_letter 56 = .ok (.getfield 105, 3) := by decide +kernel
theorem dX8_letter_59 : decode cX8_letter 59 = .ok (.iload 4, 2) := by decide +kernel
theorem dX8_letter_61 : decode cX8_letter 61 = .ok (.iastore, 1) := by decide +kernel
theorem dX8_letter_62 : decode cX8_letter 62 = .ok (.aload_n 0, 1) := by decide +kernel
theorem dX8_letter_63 : decode cX8_letter 63 = .ok (.getfield 51, 3) := by decide +kernel
theorem dX8_letter_66 : decode cX8_letter 66 = .ok (.aload_n 0, 1) := by decide +kernel
theorem dX8_letter_67 : decode cX8_letter 67 = .ok (.getfield 105, 3) := by decide +kernel
theorem dX8_letter_70 : decode cX8_letter 70 = .ok (.iload 5, 2) := by decide +kernel
theorem dX8_letter_72 : decode cX8_letter 72 = .ok (.iastore, 1) := by decide +kernel
theorem dX8_letter_73 : decode cX8_letter 73 = .ok (.aload_n 0, 1) := by decide +kernel
theorem dX8_letter_74 : decode cX8_letter 74 = .ok (.getfield 54, 3) := by decide +kernel
theorem dX8_letter_77 : decode cX8_letter 77 = .ok (.aload_n 0, 1) := by decide +kernel
theorem dX8_letter_78 : decode cX8_letter 78 = .ok (.getfield 105, 3) := by decide +kernel
theorem dX8_letter_81 : decode cX8_letter 81 = .ok (.lload 6, 2) := by decide +kernel
theorem dX8_letter_83 : decode cX8_letter 83 = .ok (.lastore, 1) := by decide +kernel
theorem dX8_letter_84 : decode cX8_letter 84 = .ok (.aload_n 0, 1) := by decide +kernel
theorem dX8_letter_85 : decode cX8_letter 85 = .ok (.getfield 58, 3) := by decide +kernel
theorem dX8_letter_88 : decode cX8_letter 88 = .ok (.aload_n 0, 1) := by decide +kernel
theorem dX8_letter_89 : decode cX8_letter 89 = .ok (.getfield 105, 3) := by decide +kernel
theorem dX8_letter_92 : decode cX8_letter 92 = .ok (.lload 8, 2) := by decide +kernel
theorem dX8_letter_94 : decode cX8_letter 94 = .ok (.lastore, 1) := by decide +kernel
theorem dX8_letter_95 : decode cX8_letter 95 = .ok (.aload_n 0, 1) := by decide +kernel
theorem dX8_letter_96 : decode cX8_letter 96 = .ok (.dup, 1) := by decide +kernel
theorem dX8_letter_97 : decode cX8_letter 97 = .ok (.getfield 105, 3) := by decide +kernel
theorem dX8_letter_100 : decode cX8_letter 100 = .ok (.iconst 1, 1) := by decide +kernel
theorem dX8_letter_101 : decode cX8_letter 101 = .ok (.iadd, 1) := by decide +kernel
theorem dX8_letter_102 : decode cX8_letter 102 = .ok (.putfield 105, 3) := by decide +kernel
theorem dX8_letter_105 : decode cX8_letter 105 = .ok (.return_, 1) := by decide +kernel
set_option maxRecDepth 20000 in
theorem ggX8_send_X8_headOf : GoodIn wsX8_send wsX8_headOf := goodIn_r _ [6, 7, 8, 9, 10, 11, 5, 12, 13, 14, 15, 16, 17, 38, 39, 40, 41, 42, 43, 44, 45, 46, 47, 48, 49, 50, 51, 52, 53, 54, 55, 56, 57, 58, 59, 60, 61, 62, 63, 64, 65, 66, 67, 68, 69, 70, 71, 72] (by decide +kernel) (by decide +kernel)
set_option maxRecDepth 20000 in
theorem gX8_send_X8_headOf : GoodIn wsX8_send (wsV RX8 129 RX8 yX8_headOf wsX8_headOf) := goodIn_app (goodIn_of _ (by decide +kernel)) ggX8_send_X8_headOf
set_option maxRecDepth 20000 in
theorem ggX8_send_X8_enter : GoodIn wsX8_send wsX8_enter := goodIn_r _ [21, 1, 7, 8, 9, 38, 39, 40, 41, 42, 43, 44, 45, 46, 47, 48, 49, 50, 51, 52, 53, 54, 55, 56, 57, 58, 59, 60, 61, 62, 63, 64, 65, 66, 67, 68, 69, 70, 71, 72] (by decide +kernel) (by decide +kernel)
set_option maxRecDepth 20000 in
theorem gX8_send_X8_enter : GoodIn wsX8_send (wsV RX8 133 RX8 yX8_enter wsX8_enter) := goodIn_app (goodIn_of _ (by decide +kernel)) ggX8_send_X8_enter
set_option maxRecDepth 20000 in
theorem ggX8_send_X8_signature : GoodIn wsX8_send wsX8_signature := goodIn_r _ [24, 13, 14, 15, 5, 16, 17] (by decide +kernel) (by decide +kernel)
set_option maxRecDepth 20000 in
theorem gX8_send_X8_signature : GoodIn wsX8_send (va_wsS RX8 137 yX8_signature wsX8_signature) := goodIn_app (goodIn_of _ (by decide +kernel)) ggX8_send_X8_signature
set_option maxRecDepth 20000 in
theorem ggX8_send_X8_letter : GoodIn wsX8_send wsX8_letter := goodIn_r _ [28, 29, 30, 31, 32, 33, 34, 35, 36, 37, 38, 39, 40, 41, 42, 43, 44, 45, 46, 47, 48, 49, 50, 51, 52, 53, 54, 55, 56, 57, 58, 59, 60, 61, 62, 63, 64, 65, 66, 67, 68, 69, 70, 71, 72] (by decide +kernel) (by decide +kernel)
set_option maxRecDepth 20000 in
theorem gX8_send_X8_letter : GoodIn wsX8_send (wsV RX8 141 RX8 yX8_letter wsX8_letter) := goodIn_app (goodIn_of _ (by decide +kernel)) ggX8_send_X8_letter
theorem dX8_send_0 : decode cX8_send 0 = .ok (.aload_n 0, 1) := by decide +kernel
theorem dX8_send_1 : decode cX8_send 1 = .ok (.iload_n 1, 1) := by decide +kernel
theorem dX8_send_2 : decode cX8_send 2 = .ok (.aload_n 0, 1) := by decide +kernel
theorem dX8_send_3 : decode cX8_send 3 = .ok (.getfield 20, 3) := by decide +kernel
theorem dX8_send_6 : decode cX8_send 6 = .ok (.iload_n 1, 1) := by decide +kernel
theorem dX8_send_7 : decode cX8_send 7 = .ok (.iaload, 1) := by decide +kernel
theorem dX8_send_8 : decode cX8_send 8 = .ok (.invokevirtual 129, 3) := by decide +kernel
theorem dX8_send_11 : decode cX8_send 11 = .ok (.lstore 4, 2) := by decide +kernel
theorem dX8_send_13 : decode cX8_send 13 = .ok (.aload_n 0, 1) := by decide +kernel
theorem dX8_send_14 : decode cX8_send 14 = .ok (.iload_n 1, 1) := by decide +kernel
theorem dX8_send_15 : decode cX8_send 15 = .ok (.iconst 3, 1) := by decide +kernel
theorem dX8_send_16 : decode cX8_send 16 = .ok (.iload_n 2, 1) := by decide +kernel
theorem dX8_send_17 : decode cX8_send 17 = .ok (.iload_n 3, 1) := by decide +kernel
theorem dX8_send_18 : decode cX8_send 18 = .ok (.invokevirtual 133, 3) := by decide +kernel
theorem dX8_send_21 : decode cX8_send 21 = .ok (.aload_n 0, 1) := by decide +kernel
theorem dX8_send_22 : decode cX8_send 22 = .ok (.iconst 1, 1) := by decide +kernel
theorem dX8_send_23 : decode cX8_send 23 = .ok (.iload_n 2, 1) := by decide +kernel
theorem dX8_send_24 : decode cX8_send 24 = .ok (.iload_n 1, 1) := by decide +kernel
theorem dX8_send_25 : decode cX8_send 25 = .ok (.iload_n 3, 1) := by decide +kernel
theorem dX8_send_26 : decode cX8_send 26 = .ok (.aload_n 0, 1) := by decide +kernel
theorem dX8_send_27 : decode cX8_send 27 = .ok (.getfield 20, 3) := by decide +kernel
theorem dX8_send_30 : decode cX8_send 30 = .ok (.iload_n 1, 1) := by decide +kernel
theorem dX8_send_31 : decode cX8_send 31 = .ok (.iaload, 1) := by decide +kernel
theorem dX8_send_32 : decode cX8_send 32 = .ok (.lload 4, 2) := by decide +kernel
theorem dX8_send_34 : decode cX8_send 34 = .ok (.iload_n 1, 1) := by decide +kernel
theorem dX8_send_35 : decode cX8_send 35 = .ok (.aload_n 0, 1) := by decide +kernel
theorem dX8_send_36 : decode cX8_send 36 = .ok (.getfield 20, 3) := by decide +kernel
theorem dX8_send_39 : decode cX8_send 39 = .ok (.iload_n 1, 1) := by decide +kernel
theorem dX8_send_40 : decode cX8_send 40 = .ok (.iaload, 1) := by decide +kernel
theorem dX8_send_41 : decode cX8_send 41 = .ok (.aload_n 0, 1) := by decide +kernel
theorem dX8_send_42 : decode cX8_send 42 = .ok (.iload_n 1, 1) := by decide +kernel
theorem dX8_send_43 : decode cX8_send 43 = .ok (.aload_n 0, 1) := by decide +kernel
theorem dX8_send_44 : decode cX8_send 44 = .ok (.getfield 20, 3) := by decide +kernel
theorem dX8_send_47 : decode cX8_send 47 = .ok (.iload_n 1, 1) := by decide +kernel
theorem dX8_send_48 : decode cX8_send 48 = .ok (.iaload, 1) := by decide +kernel
theorem dX8_send_49 : decode cX8_send 49 = .ok (.invokevirtual 129, 3) := by decide +kernel
theorem dX8_send_52 : decode cX8_send 52 = .ok (.invokestatic 137, 3) := by decide +kernel
theorem dX8_send_55 : decode cX8_send 55 = .ok (.invokevirtual 141, 3) := by decide +kernel
theorem dX8_send_58 : decode cX8_send 58 = .ok (.return_, 1) := by decide +kernel
theorem dX8_sendsByInput_0 : decode cX8_sendsByInput 0 = .ok (.iload_n 0, 1) := by decide +kernel
theorem dX8_sendsByInput_1 : decode cX8_sendsByInput 1 = .ok (.iconst 2, 1) := by decide +kernel
theorem dX8_sendsByInput_2 : decode cX8_sendsByInput 2 = .ok (.irem, 1) := by decide +kernel
theorem dX8_sendsByInput_3 : decode cX8_sendsByInput 3 = .ok (.ifCond .ne 7, 3) := by decide +kernel
theorem dX8_sendsByInput_6 : decode cX8_sendsByInput 6 = .ok (.iconst 1, 1) := by decide +kernel
theorem dX8_sendsByInput_7 : decode cX8_sendsByInput 7 = .ok (.goto 4, 3) := by decide +kernel
theorem dX8_sendsByInput_10 : decode cX8_sendsByInput 10 = .ok (.iconst 0, 1) := by decide +kernel
theorem dX8_sendsByInput_11 : decode cX8_sendsByInput 11 = .ok (.ireturn, 1) := by decide +kernel
theorem dX8_target_0 : decode cX8_target 0 = .ok (.iload_n 1, 1) := by decide +kernel
theorem dX8_target_1 : decode cX8_target 1 = .ok (.iconst 1, 1) := by decide +kernel
theorem dX8_target_2 : decode cX8_target 2 = .ok (.iadd, 1) := by decide +kernel
theorem dX8_target_3 : decode cX8_target 3 = .ok (.iload_n 2, 1) := by decide +kernel
theorem dX8_target_4 : decode cX8_target 4 = .ok (.bipush 8, 2) := by decide +kernel
theorem dX8_target_6 : decode cX8_target 6 = .ok (.iushr, 1) := by decide +kernel
theorem dX8_target_7 : decode cX8_target 7 = .ok (.bipush 127, 2) := by decide +kernel
theorem dX8_target_9 : decode cX8_target 9 = .ok (.iand, 1) := by decide +kernel
theorem dX8_target_10 : decode cX8_target 10 = .ok (.aload_n 0, 1) := by decide +kernel
theorem dX8_target_11 : decode cX8_target 11 = .ok (.getfield 7, 3) := by decide +kernel
theorem dX8_target_14 : decode cX8_target 14 = .ok (.iconst 1, 1) := by decide +kernel
theorem dX8_target_15 : decode cX8_target 15 = .ok (.isub, 1) := by decide +kernel
theorem dX8_target_16 : decode cX8_target 16 = .ok (.irem, 1) := by decide +kernel
theorem dX8_target_17 : decode cX8_target 17 = .ok (.iadd, 1) := by decide +kernel
theorem dX8_target_18 : decode cX8_target 18 = .ok (.aload_n 0, 1) := by decide +kernel
theorem dX8_target_19 : decode cX8_target 19 = .ok (.getfield 7, 3) := by decide +kernel
theorem dX8_target_22 : decode cX8_target 22 = .ok (.irem, 1) := by decide +kernel
theorem dX8_target_23 : decode cX8_target 23 = .ok (.ireturn, 1) := by decide +kernel
theorem dX8_turned_0 : decode cX8_turned 0 = .ok (.iload_n 0, 1) := by decide +kernel
theorem dX8_turned_1 : decode cX8_turned 1 = .ok (.iconst 5, 1) := by decide +kernel
theorem dX8_turned_2 : decode cX8_turned 2 = .ok (.ishl, 1) := by decide +kernel
theorem dX8_turned_3 : decode cX8_turned 3 = .ok (.iload_n 0, 1) := by decide +kernel
theorem dX8_turned_4 : decode cX8_turned 4 = .ok (.bipush 27, 2) := by decide +kernel
theorem dX8_turned_6 : decode cX8_turned 6 = .ok (.iushr, 1) := by decide +kernel
theorem dX8_turned_7 : decode cX8_turned 7 = .ok (.ior, 1) := by decide +kernel
theorem dX8_turned_8 : decode cX8_turned 8 = .ok (.ireturn, 1) := by decide +kernel
set_option maxRecDepth 20000 in
theorem ggX8_input_X8_no : GoodIn wsX8_input wsX8_no := goodIn_r _ [9, 10, 57, 58, 59, 60, 61, 62, 63, 64, 65, 66, 67, 68, 69, 70, 71, 72, 73, 74, 75, 76, 77, 78, 79, 80, 81, 82, 83, 84, 85, 86, 87, 88, 89, 90, 91] (by decide +kernel) (by decide +kernel)
set_option maxRecDepth 20000 in
theorem gX8_input_X8_no : GoodIn wsX8_input (wsV RX8 145 RX8 yX8_no wsX8_no) := goodIn_app (goodIn_of _ (by decide +kernel)) ggX8_input_X8_no
set_option maxRecDepth 20000 in
theorem ggX8_input_X8_enter : GoodIn wsX8_input wsX8_enter := goodIn_r _ [14, 1, 15, 16, 17, 57, 58, 59, 60, 61, 62, 63, 64, 65, 66, 67, 68, 69, 70, 71, 72, 73, 74, 75, 76, 77, 78, 79, 80, 81, 82, 83, 84, 85, 86, 87, 88, 89, 90, 91] (by decide +kernel) (by decide +kernel)
set_option maxRecDepth 20000 in
theorem gX8_input_X8_enter : GoodIn wsX8_input (wsV RX8 133 RX8 yX8_enter wsX8_enter) := goodIn_app (goodIn_of _ (by decide +kernel)) ggX8_input_X8_enter
set_option maxRecDepth 20000 in
theorem ggX8_input_X8_sendsByInput : GoodIn wsX8_input wsX8_sendsByInput := goodIn_r _ [20] (by decide +kernel) (by decide +kernel)
set_option maxRecDepth 20000 in
theorem gX8_input_X8_sendsByInput : GoodIn wsX8_input (va_wsS RX8 149 yX8_sendsByInput wsX8_sendsByInput) := goodIn_app (goodIn_of _ (by decide +kernel)) ggX8_input_X8_sendsByInput
set_option maxRecDepth 20000 in
theorem ggX8_input_X8_target : GoodIn wsX8_input wsX8_target := goodIn_r _ [24, 10, 57, 58, 59, 60, 61, 62, 63, 64, 65, 66, 67, 68, 69, 70, 71, 72, 73, 74, 75, 76, 77, 78, 79, 80, 81, 82, 83, 84, 85, 86, 87, 88, 89, 90, 91] (by decide +kernel) (by decide +kernel)
set_option maxRecDepth 20000 in
theorem gX8_input_X8_target : GoodIn wsX8_input (wsV RX8 152 RX8 yX8_target wsX8_target) := goodIn_app (goodIn_of _ (by decide +kernel)) ggX8_input_X8_target
set_option maxRecDepth 20000 in
theorem ggX8_input_X8_send : GoodIn wsX8_input wsX8_send := goodIn_r _ [28, 1, 29, 30, 31, 8, 32, 15, 16, 17, 33, 34, 35, 36, 37, 38, 39, 40, 11, 12, 13, 14, 41, 42, 43, 44, 45, 46, 47, 48, 49, 50, 51, 52, 53, 54, 55, 56, 57, 58, 59, 60, 61, 62, 63, 64, 65, 66, 67, 68, 69, 70, 71, 72, 73, 74, 75, 76, 77, 78, 79, 80, 81, 82, 83, 84, 85, 86, 87, 88, 89, 90, 91] (by decide +kernel) (by decide +kernel)
set_option maxRecDepth 20000 in
theorem gX8_input_X8_send : GoodIn wsX8_input (wsV RX8 156 RX8 yX8_send wsX8_send) := goodIn_app (goodIn_of _ (by decide +kernel)) ggX8_input_X8_send
theorem dX8_input_0 : decode cX8_input 0 = .ok (.aload_n 0, 1) := by decide +kernel
theorem dX8_input_1 : decode cX8_input 1 = .ok (.aload_n 0, 1) := by decide +kernel
theorem dX8_input_2 : decode cX8_input 2 = .ok (.iload_n 1, 1) := by decide +kernel
theorem dX8_input_3 : decode cX8_input 3 = .ok (.invokevirtual 145, 3) := by decide +kernel
theorem dX8_input_6 : decode cX8_input 6 = .ok (.ifCond .eq 7, 3) := by decide +kernel
theorem dX8_input_9 : decode cX8_input 9 = .ok (.iconst 1, 1) := by decide +kernel
theorem dX8_input_10 : decode cX8_input 10 = .ok (.goto 20, 3) := by decide +kernel
theorem dX8_input_13 : decode cX8_input 13 = .ok (.aload_n 0, 1) := by decide +kernel
theorem dX8_input_14 : decode cX8_input 14 = .ok (.getfield 20, 3) := by decide +kernel
theorem dX8_input_17 : decode cX8_input 17 = .ok (.iload_n 1, 1) := by decide +kernel
theorem dX8_input_18 : decode cX8_input 18 = .ok (.iaload, 1) := by decide +kernel
theorem dX8_input_19 : decode cX8_input 19 = .ok (.sipush 148, 3) := by decide +kernel
theorem dX8_input_22 : decode cX8_input 22 = .ok (.if_icmp .le 7, 3) := by decide +kernel
theorem dX8_input_25 : decode cX8_input 25 = .ok (.iconst 2, 1) := by decide +kernel
theorem dX8_input_26 : decode cX8_input 26 = .ok (.goto 4, 3) := by decide +kernel
theorem dX8_input_29 : decode cX8_input 29 = .ok (.iconst 0, 1) := by decide +kernel
theorem dX8_input_30 : decode cX8_input 30 = .ok (.putfield 102, 3) := by decide +kernel
theorem dX8_input_33 : decode cX8_input 33 = .ok (.aload_n 0, 1) := by decide +kernel
theorem dX8_input_34 : decode cX8_input 34 = .ok (.getfield 102, 3) := by decide +kernel
theorem dX8_input_37 : decode cX8_input 37 = .ok (.ifCond .le 5, 3) := by decide +kernel
theorem dX8_input_40 : decode cX8_input 40 = .ok (.iconst 0, 1) := by decide +kernel
theorem dX8_input_41 : decode cX8_input 41 = .ok (.ireturn, 1) := by decide +kernel
theorem dX8_input_42 : decode cX8_input 42 = .ok (.aload_n 0, 1) := by decide +kernel
theorem dX8_input_43 : decode cX8_input 43 = .ok (.iload_n 1, 1) := by decide +kernel
theorem dX8_input_44 : decode cX8_input 44 = .ok (.iconst 1, 1) := by decide +kernel
theorem dX8_input_45 : decode cX8_input 45 = .ok (.iconst 0, 1) := by decide +kernel
theorem dX8_input_46 : decode cX8_input 46 = .ok (.iload_n 2, 1) := by decide +kernel
theorem dX8_input_47 : decode cX8_input 47 = .ok (.invokevirtual 133, 3) := by decide +kernel
theorem dX8_input_50 : decode cX8_input 50 = .ok (.aload_n 0, 1) := by decide +kernel
theorem dX8_input_51 : decode cX8_input 51 = .ok (.getfield 13, 3) := by decide +kernel
theorem dX8_input_54 : decode cX8_input 54 = .ok (.iload_n 1, 1) := by decide +kernel
theorem dX8_input_55 : decode cX8_input 55 = .ok (.bipush 31, 2) := by decide +kernel
theorem dX8_input_57 : decode cX8_input 57 = .ok (.aload_n 0, 1) := by decide +kernel
theorem dX8_input_58 : decode cX8_input 58 = .ok (.getfield 13, 3) := by decide +kernel
theorem dX8_input_61 : decode cX8_input 61 = .ok (.iload_n 1, 1) := by decide +kernel
theorem dX8_input_62 : decode cX8_input 62 = .ok (.iaload, 1) := by decide +kernel
theorem dX8_input_63 : decode cX8_input 63 = .ok (.imul, 1) := by decide +kernel
theorem dX8_input_64 : decode cX8_input 64 = .ok (.iload_n 2, 1) := by decide +kernel
theorem dX8_input_65 : decode cX8_input 65 = .ok (.iadd, 1) := by decide +kernel
theorem dX8_input_66 : decode cX8_input 66 = .ok (.iastore, 1) := by decide +kernel
theorem dX8_input_67 : decode cX8_input 67 = .ok (.aload_n 0, 1) := by decide +kernel
theorem dX8_input_68 : decode cX8_input 68 = .ok (.getfield 13, 3) := by decide +kernel
theorem dX8_input_71 : decode cX8_input 71 = .ok (.iload_n 1, 1) := by decide +kernel
theorem dX8_input_72 : decode cX8_input 72 = .ok (.iaload, 1) := by decide +kernel
theorem dX8_input_73 : decode cX8_input 73 = .ok (.invokestatic 149, 3) := by decide +kernel
theorem dX8_input_76 : decode cX8_input 76 = .ok (.ifCond .eq 34, 3) := by decide +kernel
theorem dX8_input_79 : decode cX8_input 79 = .ok (.aload_n 0, 1) := by decide +kernel
theorem dX8_input_80 : decode cX8_input 80 = .ok (.iload_n 1, 1) := by decide +kernel
theorem dX8_input_81 : decode cX8_input 81 = .ok (.aload_n 0, 1) := by decide +kernel
theorem dX8_input_82 : decode cX8_input 82 = .ok (.iload_n 1, 1) := by decide +kernel
theorem dX8_input_83 : decode cX8_input 83 = .ok (.aload_n 0, 1) := by decide +kernel
theorem dX8_input_84 : decode cX8_input 84 = .ok (.getfield 13, 3) := by decide +kernel
theorem dX8_input_87 : decode cX8_input 87 = .ok (.iload_n 1, 1) := by decide +kernel
theorem dX8_input_88 : decode cX8_input 88 = .ok (.iaload, 1) := by decide +kernel
theorem dX8_input_89 : decode cX8_input 89 = .ok (.invokevirtual 152, 3) := by decide +kernel
theorem dX8_input_92 : decode cX8_input 92 = .ok (.aload_n 0, 1) := by decide +kernel
theorem dX8_input_93 : decode cX8_input 93 = .ok (.getfield 13, 3) := by decide +kernel
theorem dX8_input_96 : decode cX8_input 96 = .ok (.iload_n 1, 1) := by decide +kernel
theorem dX8_input_97 : decode cX8_input 97 = .ok (.iaload, 1) := by decide +kernel
theorem dX8_input_98 : decode cX8_input 98 = .ok (.iconst 1, 1) := by decide +kernel
theorem dX8_input_99 : decode cX8_input 99 = .ok (.iushr, 1) := by decide +kernel
theorem dX8_input_100 : decode cX8_input 100 = .ok (.aload_n 0, 1) := by decide +kernel
theorem dX8_input_101 : decode cX8_input 101 = .ok (.getfield 17, 3) := by decide +kernel
theorem dX8_input_104 : decode cX8_input 104 = .ok (.iload_n 1, 1) := by decide +kernel
theorem dX8_input_105 : decode cX8_input 105 = .ok (.iaload, 1) := by decide +kernel
theorem dX8_input_106 : decode cX8_input 106 = .ok (.ixor, 1) := by decide +kernel
theorem dX8_input_107 : decode cX8_input 107 = .ok (.invokevirtual 156, 3) := by decide +kernel
theorem dX8_input_110 : decode cX8_input 110 = .ok (.aload_n 0, 1) := by decide +kernel
theorem dX8_input_111 : decode cX8_input 111 = .ok (.getfield 20, 3) := by decide +kernel
theorem dX8_input_114 : decode cX8_input 114 = .ok (.iload_n 1, 1) := by decide +kernel
theorem dX8_input_115 : decode cX8_input 115 = .ok (.iaload, 1) := by decide +kernel
theorem dX8_input_116 : decode cX8_input 116 = .ok (.ireturn, 1) := by decide +kernel
set_option maxRecDepth 20000 in
theorem ggX8_lie_X8_no : GoodIn wsX8_lie wsX8_no := goodIn_r _ [7, 8, 48, 49, 50, 51, 52, 53, 54, 55, 56, 57, 58, 59, 60, 61, 62, 63, 64, 65, 66, 67, 68, 69, 70, 71, 72, 73, 74, 75, 76, 77, 78, 79, 80, 81, 82] (by decide +kernel) (by decide +kernel)
set_option maxRecDepth 20000 in
theorem gX8_lie_X8_no : GoodIn wsX8_lie (wsV RX8 145 RX8 yX8_no wsX8_no) := goodIn_app (goodIn_of _ (by decide +kernel)) ggX8_lie_X8_no
set_option maxRecDepth 20000 in
theorem ggX8_lie_X8_send : GoodIn wsX8_lie wsX8_send := goodIn_r _ [12, 1, 13, 14, 15, 6, 16, 17, 18, 19, 20, 21, 22, 23, 24, 25, 26, 27, 28, 29, 30, 31, 32, 33, 34, 35, 36, 37, 38, 39, 40, 41, 42, 43, 44, 45, 46, 47, 48, 49, 50, 51, 52, 53, 54, 55, 56, 57, 58, 59, 60, 61, 62, 63, 64, 65, 66, 67, 68, 69, 70, 71, 72, 73, 74, 75, 76, 77, 78, 79, 80, 81, 82] (by decide +kernel) (by decide +kernel)
set_option maxRecDepth 20000 in
theorem gX8_lie_X8_send : GoodIn wsX8_lie (wsV RX8 156 RX8 yX8_send wsX8_send) := goodIn_app (goodIn_of _ (by decide +kernel)) ggX8_lie_X8_send
theorem dX8_lie_0 : decode cX8_lie 0 = .ok (.aload_n 0, 1) := by decide +kernel
theorem dX8_lie_1 : decode cX8_lie 1 = .ok (.aload_n 0, 1) := by decide +kernel
theorem dX8_lie_2 : decode cX8_lie 2 = .ok (.iload_n 1, 1) := by decide +kernel
theorem dX8_lie_3 : decode cX8_lie 3 = .ok (.invokevirtual 145, 3) := by decide +kernel
theorem dX8_lie_6 : decode cX8_lie 6 = .ok (.ifCond .ne 16, 3) := by decide +kernel
theorem dX8_lie_9 : decode cX8_lie 9 = .ok (.aload_n 0, 1) := by decide +kernel
theorem dX8_lie_10 : decode cX8_lie 10 = .ok (.iload_n 2, 1) := by decide +kernel
theorem dX8_lie_11 : decode cX8_lie 11 = .ok (.invokevirtual 145, 3) := by decide +kernel
theorem dX8_lie_14 : decode cX8_lie 14 = .ok (.ifCond .ne 8, 3) := by decide +kernel
theorem dX8_lie_17 : decode cX8_lie 17 = .ok (.iload_n 1, 1) := by decide +kernel
theorem dX8_lie_18 : decode cX8_lie 18 = .ok (.iload_n 2, 1) := by decide +kernel
theorem dX8_lie_19 : decode cX8_lie 19 = .ok (.if_icmp .ne 7, 3) := by decide +kernel
theorem dX8_lie_22 : decode cX8_lie 22 = .ok (.iconst 1, 1) := by decide +kernel
theorem dX8_lie_23 : decode cX8_lie 23 = .ok (.goto 20, 3) := by decide +kernel
theorem dX8_lie_26 : decode cX8_lie 26 = .ok (.aload_n 0, 1) := by decide +kernel
theorem dX8_lie_27 : decode cX8_lie 27 = .ok (.getfield 20, 3) := by decide +kernel
theorem dX8_lie_30 : decode cX8_lie 30 = .ok (.iload_n 1, 1) := by decide +kernel
theorem dX8_lie_31 : decode cX8_lie 31 = .ok (.iaload, 1) := by decide +kernel
theorem dX8_lie_32 : decode cX8_lie 32 = .ok (.sipush 148, 3) := by decide +kernel
theorem dX8_lie_35 : decode cX8_lie 35 = .ok (.if_icmp .le 7, 3) := by decide +kernel
theorem dX8_lie_38 : decode cX8_lie 38 = .ok (.iconst 2, 1) := by decide +kernel
theorem dX8_lie_39 : decode cX8_lie 39 = .ok (.goto 4, 3) := by decide +kernel
theorem dX8_lie_42 : decode cX8_lie 42 = .ok (.iconst 0, 1) := by decide +kernel
theorem dX8_lie_43 : decode cX8_lie 43 = .ok (.putfield 102, 3) := by decide +kernel
theorem dX8_lie_46 : decode cX8_lie 46 = .ok (.aload_n 0, 1) := by decide +kernel
theorem dX8_lie_47 : decode cX8_lie 47 = .ok (.getfield 102, 3) := by decide +kernel
theorem dX8_lie_50 : decode cX8_lie 50 = .ok (.ifCond .le 5, 3) := by decide +kernel
theorem dX8_lie_53 : decode cX8_lie 53 = .ok (.iconst 0, 1) := by decide +kernel
theorem dX8_lie_54 : decode cX8_lie 54 = .ok (.ireturn, 1) := by decide +kernel
theorem dX8_lie_55 : decode cX8_lie 55 = .ok (.aload_n 0, 1) := by decide +kernel
theorem dX8_lie_56 : decode cX8_lie 56 = .ok (.iload_n 1, 1) := by decide +kernel
theorem dX8_lie_57 : decode cX8_lie 57 = .ok (.iload_n 2, 1) := by decide +kernel
theorem dX8_lie_58 : decode cX8_lie 58 = .ok (.iload_n 3, 1) := by decide +kernel
theorem dX8_lie_59 : decode cX8_lie 59 = .ok (.invokevirtual 156, 3) := by decide +kernel
theorem dX8_lie_62 : decode cX8_lie 62 = .ok (.aload_n 0, 1) := by decide +kernel
theorem dX8_lie_63 : decode cX8_lie 63 = .ok (.getfield 20, 3) := by decide +kernel
theorem dX8_lie_66 : decode cX8_lie 66 = .ok (.iload_n 1, 1) := by decide +kernel
theorem dX8_lie_67 : decode cX8_lie 67 = .ok (.iaload, 1) := by decide +kernel
theorem dX8_lie_68 : decode cX8_lie 68 = .ok (.ireturn, 1) := by decide +kernel
theorem dX8_take_0 : decode cX8_take 0 = .ok (.iload_n 1, 1) := by decide +kernel
theorem dX8_take_1 : decode cX8_take 1 = .ok (.istore_n 2, 1) := by decide +kernel
theorem dX8_take_2 : decode cX8_take 2 = .ok (.iload_n 2, 1) := by decide +kernel
theorem dX8_take_3 : decode cX8_take 3 = .ok (.iconst 1, 1) := by decide +kernel
theorem dX8_take_4 : decode cX8_take 4 = .ok (.iadd, 1) := by decide +kernel
theorem dX8_take_5 : decode cX8_take 5 = .ok (.aload_n 0, 1) := by decide +kernel
theorem dX8_take_6 : decode cX8_take 6 = .ok (.getfield 105, 3) := by decide +kernel
theorem dX8_take_9 : decode cX8_take 9 = .ok (.if_icmp .ge 107, 3) := by decide +kernel
theorem dX8_take_12 : decode cX8_take 12 = .ok (.aload_n 0, 1) := by decide +kernel
theorem dX8_take_13 : decode cX8_take 13 = .ok (.getfield 39, 3) := by decide +kernel
theorem dX8_take_16 : decode cX8_take 16 = .ok (.iload_n 2, 1) := by decide +kernel
theorem dX8_take_17 : decode cX8_take 17 = .ok (.aload_n 0, 1) := by decide +kernel
theorem dX8_take_18 : decode cX8_take 18 = .ok (.getfield 39, 3) := by decide +kernel
theorem dX8_take_21 : decode cX8_take 21 = .ok (.iload_n 2, 1) := by decide +kernel
theorem dX8_take_22 : decode cX8_take 22 = .ok (.iconst 1, 1) := by decide +kernel
theorem dX8_take_23 : decode cX8_take 23 = .ok (.iadd, 1) := by decide +kernel
theorem dX8_take_24 : decode cX8_take 24 = .ok (.iaload, 1) := by decide +kernel
theorem dX8_take_25 : decode cX8_take 25 = .ok (.iastore, 1) := by decide +kernel
theorem dX8_take_26 : decode cX8_take 26 = .ok (.aload_n 0, 1) := by decide +kernel
theorem dX8_take_27 : decode cX8_take 27 = .ok (.getfield 42, 3) := by decide +kernel
theorem dX8_take_30 : decode cX8_take 30 = .ok (.iload_n 2, 1) := by decide +kernel
theorem dX8_take_31 : decode cX8_take 31 = .ok (.aload_n 0, 1) := by decide +kernel
theorem dX8_take_32 : decode cX8_take 32 = .ok (.getfield 42, 3) := by decide +kernel
theorem dX8_take_35 : decode cX8_take 35 = .ok (.iload_n 2, 1) := by decide +kernel
theorem dX8_take_36 : decode cX8_take 36 = .ok (.iconst 1, 1) := by decide +kernel
theorem dX8_take_37 : decode cX8_take 37 = .ok (.iadd, 1) := by decide +kernel
theorem dX8_take_38 : decode cX8_take 38 = .ok (.iaload, 1) := by decide +kernel
theorem dX8_take_39 : decode cX8_take 39 = .ok (.iastore, 1) := by decide +kernel
theorem dX8_take_40 : decode cX8_take 40 = .ok (.aload_n 0, 1) := by decide +kernel
theorem dX8_take_41 : decode cX8_take 41 = .ok (.getfield 45, 3) := by decide +kernel
theorem dX8_take_44 : decode cX8_take 44 = .ok (.iload_n 2, 1) := by decide +kernel
theorem dX8_take_45 : decode cX8_take 45 = .ok (.aload_n 0, 1) := by decide +kernel
theorem dX8_take_46 : decode cX8_take 46 = .ok (.getfield 45, 3) := by decide +kernel
theorem dX8_take_49 : decode cX8_take 49 = .ok (.iload_n 2, 1) := by decide +kernel
theorem dX8_take_50 : decode cX8_take 50 = .ok (.iconst 1, 1) := by decide +kernel
theorem dX8_take_51 : decode cX8_take 51 = .ok (.iadd, 1) := by decide +kernel
theorem dX8_take_52 : decode cX8_take 52 = .ok (.iaload, 1) := by decide +kernel
theorem dX8_take_53 : decode cX8_take 53 = .ok (.iastore, 1) := by decide +kernel
theorem dX8_take_54 : decode cX8_take 54 = .ok (.aload_n 0, 1) := by decide +kernel
theorem dX8_take_55 : decode cX8_take 55 = .ok (.getfield 48, 3) := by decide +kernel
theorem dX8_take_58 : decode cX8_take 58 = .ok (.iload_n 2, 1) := by decide +kernel
theorem dX8_take_59 : decode cX8_take 59 = .ok (.aload_n 0, 1) := by decide +kernel
theorem dX8_take_60 : decode cX8_take 60 = .ok (.getfield 48, 3) := by decide +kernel
theorem dX8_take_63 : decode cX8_take 63 = .ok (.iload_n 2, 1) := by decide +kernel
theorem dX8_take_64 : decode cX8_take 64 = .ok (.iconst 1, 1) := by decide +kernel
theorem dX8_take_65 : decode cX8_take 65 = .ok (.iadd, 1) := by decide +kernel
theorem dX8_take_66 : decode cX8_take 66 = .ok (.iaload, 1) := by decide +kernel
theorem dX8_take_67 : decode cX8_take 67 = .ok (.iastore, 1) := by decide +kernel
theorem dX8_take_68 : decode cX8_take 68 = .ok (.aload_n 0, 1) := by decide +kernel
theorem dX8_take_69 : decode cX8_take 69 = .ok (.getfield 51, 3) := by decide +kernel
theorem dX8_take_72 : decode cX8_take 72 = .ok (.iload_n 2, 1) := by decide +kernel
theorem dX8_take_73 : decode cX8_take 73 = .ok (.aload_n 0, 1) := by decide +kernel
theorem dX8_take_74 : decode cX8_take 74 = .ok (.getfield 51, 3) := by decide +kernel
theorem dX8_take_77 : decode cX8_take 77 = .ok (.iload_n 2, 1) := by decide +kernel
theorem dX8_take_78 : decode cX8_take 78 = .ok (.iconst 1, 1) := by decide +kernel
theorem dX8_take_79 : decode cX8_take 79 = .ok (.iadd, 1) := by decide +kernel
theorem dX8_take_80 : decode cX8_take 80 = .ok (.iaload, 1) := by decide +kernel
theorem dX8_take_81 : decode cX8_take 81 = .ok (.iastore, 1) := by decide +kernel
theorem dX8_take_82 : decode cX8_take 82 = .ok (.aload_n 0, 1) := by decide +kernel
theorem dX8_take_83 : decode cX8_take 83 = .ok (.getfield 54, 3) := by decide +kernel
theorem dX8_take_86 : decode cX8_take 86 = .ok (.iload_n 2, 1) := by decide +kernel
theorem dX8_take_87 : decode cX8_take 87 = .ok (.aload_n 0, 1) := by decide +kernel
theorem dX8_take_88 : decode cX8_take 88 = .ok (.getfield 54, 3) := by decide +kernel
theorem dX8_take_91 : decode cX8_take 91 = .ok (.iload_n 2, 1) := by decide +kernel
theorem dX8_take_92 : decode cX8_take 92 = .ok (.iconst 1, 1) := by decide +kernel
theorem dX8_take_93 : decode cX8_take 93 = .ok (.iadd, 1) := by decide +kernel
theorem dX8_take_94 : decode cX8_take 94 = .ok (.laload, 1) := by decide +kernel
theorem dX8_take_95 : decode cX8_take 95 = .ok (.lastore, 1) := by decide +kernel
theorem dX8_take_96 : decode cX8_take 96 = .ok (.aload_n 0, 1) := by decide +kernel
theorem dX8_take_97 : decode cX8_take 97 = .ok (.getfield 58, 3) := by decide +kernel
theorem dX8_take_100 : decode cX8_take 100 = .ok (.iload_n 2, 1) := by decide +kernel
theorem dX8_take_101 : decode cX8_take 101 = .ok (.aload_n 0, 1) := by decide +kernel
theorem dX8_take_102 : decode cX8_take 102 = .ok (.getfield 58, 3) := by decide +kernel
theorem dX8_take_105 : decode cX8_take 105 = .ok (.iload_n 2, 1) := by decide +kernel
theorem dX8_take_106 : decode cX8_take 106 = .ok (.iconst 1, 1) := by decide +kernel
theorem dX8_take_107 : decode cX8_take 107 = .ok (.iadd, 1) := by decide +kernel
theorem dX8_take_108 : decode cX8_take 108 = .ok (.laload, 1) := by decide +kernel
theorem dX8_take_109 : decode cX8_take 109 = .ok (.lastore, 1) := by decide +kernel
theorem dX8_take_110 : decode cX8_take 110 = .ok (.iinc 2 1, 3) := by decide +kernel
theorem dX8_take_113 : decode cX8_take 113 = .ok (.goto (-111), 3) := by decide +kernel
theorem dX8_take_116 : decode cX8_take 116 = .ok (.aload_n 0, 1) := by decide +kernel
theorem dX8_take_117 : decode cX8_take 117 = .ok (.dup, 1) := by decide +kernel
theorem dX8_take_118 : decode cX8_take 118 = .ok (.getfield 105, 3) := by decide +kernel
theorem dX8_take_121 : decode cX8_take 121 = .ok (.iconst 1, 1) := by decide +kernel
theorem dX8_take_122 : decode cX8_take 122 = .ok (.isub, 1) := by decide +kernel
theorem dX8_take_123 : decode cX8_take 123 = .ok (.putfield 105, 3) := by decide +kernel
theorem dX8_take_126 : decode cX8_take 126 = .ok (.return_, 1) := by decide +kernel
theorem dX8_isKept_0 : decode cX8_isKept 0 = .ok (.iconst 0, 1) := by decide +kernel
theorem dX8_isKept_1 : decode cX8_isKept 1 = .ok (.istore 6, 2) := by decide +kernel
theorem dX8_isKept_3 : decode cX8_isKept 3 = .ok (.iload 6, 2) := by decide +kernel
theorem dX8_isKept_5 : decode cX8_isKept 5 = .ok (.aload_n 0, 1) := by decide +kernel
theorem dX8_isKept_6 : decode cX8_isKept 6 = .ok (.getfield 70, 3) := by decide +kernel
theorem dX8_isKept_9 : decode cX8_isKept 9 = .ok (.iload_n 1, 1) := by decide +kernel
theorem dX8_isKept_10 : decode cX8_isKept 10 = .ok (.iaload, 1) := by decide +kernel
theorem dX8_isKept_11 : decode cX8_isKept 11 = .ok (.if_icmp .ge 56, 3) := by decide +kernel
theorem dX8_isKept_14 : decode cX8_isKept 14 = .ok (.sipush 300, 3) := by decide +kernel
theorem dX8_isKept_17 : decode cX8_isKept 17 = .ok (.iload_n 1, 1) := by decide +kernel
theorem dX8_isKept_18 : decode cX8_isKept 18 = .ok (.imul, 1) := by decide +kernel
theorem dX8_isKept_19 : decode cX8_isKept 19 = .ok (.iload 6, 2) := by decide +kernel
theorem dX8_isKept_21 : decode cX8_isKept 21 = .ok (.iadd, 1) := by decide +kernel
theorem dX8_isKept_22 : decode cX8_isKept 22 = .ok (.istore 7, 2) := by decide +kernel
theorem dX8_isKept_24 : decode cX8_isKept 24 = .ok (.aload_n 0, 1) := by decide +kernel
theorem dX8_isKept_25 : decode cX8_isKept 25 = .ok (.getfield 73, 3) := by decide +kernel
theorem dX8_isKept_28 : decode cX8_isKept 28 = .ok (.iload 7, 2) := by decide +kernel
theorem dX8_isKept_30 : decode cX8_isKept 30 = .ok (.iaload, 1) := by decide +kernel
theorem dX8_isKept_31 : decode cX8_isKept 31 = .ok (.iload_n 2, 1) := by decide +kernel
theorem dX8_isKept_32 : decode cX8_isKept 32 = .ok (.if_icmp .ne 29, 3) := by decide +kernel
theorem dX8_isKept_35 : decode cX8_isKept 35 = .ok (.aload_n 0, 1) := by decide +kernel
theorem dX8_isKept_36 : decode cX8_isKept 36 = .ok (.getfield 76, 3) := by decide +kernel
theorem dX8_isKept_39 : decode cX8_isKept 39 = .ok (.iload 7, 2) := by decide +kernel
theorem dX8_isKept_41 : decode cX8_isKept 41 = .ok (.iaload, 1) := by decide +kernel
theorem dX8_isKept_42 : decode cX8_isKept 42 = .ok (.iload_n 3, 1) := by decide +kernel
theorem dX8_isKept_43 : decode cX8_isKept 43 = .ok (.if_icmp .ne 18, 3) := by decide +kernel
theorem dX8_isKept_46 : decode cX8_isKept 46 = .ok (.aload_n 0, 1) := by decide +kernel
theorem dX8_isKept_47 : decode cX8_isKept 47 = .ok (.getfield 79, 3) := by decide +kernel
theorem dX8_isKept_50 : decode cX8_isKept 50 = .ok (.iload 7, 2) := by decide +kernel
theorem dX8_isKept_52 : decode cX8_isKept 52 = .ok (.laload, 1) := by decide +kernel
theorem dX8_isKept_53 : decode cX8_isKept 53 = .ok (.lload 4, 2) := by decide +kernel
theorem dX8_isKept_55 : decode cX8_isKept 55 = .ok (.lcmp, 1) := by decide +kernel
theorem dX8_isKept_56 : decode cX8_isKept 56 = .ok (.ifCond .ne 5, 3) := by decide +kernel
theorem dX8_isKept_59 : decode cX8_isKept 59 = .ok (.iconst 1, 1) := by decide +kernel
theorem dX8_isKept_60 : decode cX8_isKept 60 = .ok (.ireturn, 1) := by decide +kernel
theorem dX8_isKept_61 : decode cX8_isKept 61 = .ok (.iinc 6 1, 3) := by decide +kernel
theorem dX8_isKept_64 : decode cX8_isKept 64 = .ok (.goto (-61), 3) := by decide +kernel
theorem dX8_isKept_67 : decode cX8_isKept 67 = .ok (.iconst 0, 1) := by decide +kernel
theorem dX8_isKept_68 : decode cX8_isKept 68 = .ok (.ireturn, 1) := by decide +kernel
set_option maxRecDepth 20000 in
theorem ggX8_keep_X8_isKept : GoodIn wsX8_keep wsX8_isKept := goodIn_r _ [10, 1, 2, 3, 4, 11, 12, 13, 14, 15, 16, 17, 18, 19, 20, 21, 22, 23, 24, 25, 26, 27, 28, 29, 30, 31, 32, 33, 34, 35, 36, 37, 38, 39, 40, 41, 42, 43, 44, 45] (by decide +kernel) (by decide +kernel)
set_option maxRecDepth 20000 in
theorem gX8_keep_X8_isKept : GoodIn wsX8_keep (wsV RX8 160 RX8 yX8_isKept wsX8_isKept) := goodIn_app (goodIn_of _ (by decide +kernel)) ggX8_keep_X8_isKept
theorem dX8_keep_0 : decode cX8_keep 0 = .ok (.aload_n 0, 1) := by decide +kernel
theorem dX8_keep_1 : decode cX8_keep 1 = .ok (.getfield 70, 3) := by decide +kernel
theorem dX8_keep_4 : decode cX8_keep 4 = .ok (.iload_n 1, 1) := by decide +kernel
theorem dX8_keep_5 : decode cX8_keep 5 = .ok (.iaload, 1) := by decide +kernel
theorem dX8_keep_6 : decode cX8_keep 6 = .ok (.sipush 300, 3) := by decide +kernel
theorem dX8_keep_9 : decode cX8_keep 9 = .ok (.if_icmp .eq 15, 3) := by decide +kernel
theorem dX8_keep_12 : decode cX8_keep 12 = .ok (.aload_n 0, 1) := by decide +kernel
theorem dX8_keep_13 : decode cX8_keep 13 = .ok (.iload_n 1, 1) := by decide +kernel
theorem dX8_keep_14 : decode cX8_keep 14 = .ok (.iload_n 2, 1) := by decide +kernel
theorem dX8_keep_15 : decode cX8_keep 15 = .ok (.iload_n 3, 1) := by decide +kernel
theorem dX8_keep_16 : decode cX8_keep 16 = .ok (.lload 4, 2) := by decide +kernel
theorem dX8_keep_18 : decode cX8_keep 18 = .ok (.invokevirtual 160, 3) := by decide +kernel
theorem dX8_keep_21 : decode cX8_keep 21 = .ok (.ifCond .eq 5, 3) := by decide +kernel
theorem dX8_keep_24 : decode cX8_keep 24 = .ok (.iconst 0, 1) := by decide +kernel
theorem dX8_keep_25 : decode cX8_keep 25 = .ok (.ireturn, 1) := by decide +kernel
theorem dX8_keep_26 : decode cX8_keep 26 = .ok (.sipush 300, 3) := by decide +kernel
theorem dX8_keep_29 : decode cX8_keep 29 = .ok (.iload_n 1, 1) := by decide +kernel
theorem dX8_keep_30 : decode cX8_keep 30 = .ok (.imul, 1) := by decide +kernel
theorem dX8_keep_31 : decode cX8_keep 31 = .ok (.aload_n 0, 1) := by decide +kernel
theorem dX8_keep_32 : decode cX8_keep 32 = .ok (.getfield 70, 3) := by decide +kernel
theorem dX8_keep_35 : decode cX8_keep 35 = .ok (.iload_n 1, 1) := by decide +kernel
theorem dX8_keep_36 : decode cX8_keep 36 = .ok (.iaload, 1) := by decide +kernel
theorem dX8_keep_37 : decode cX8_keep 37 = .ok (.iadd, 1) := by decide +kernel
theorem dX8_keep_38 : decode cX8_keep 38 = .ok (.istore 7, 2) := by decide +kernel
theorem dX8_keep_40 : decode cX8_keep 40 = .ok (.aload_n 0, 1) := by decide +kernel
theorem dX8_keep_41 : decode cX8_keep 41 = .ok (.getfield 73, 3) := by decide +kernel
theorem dX8_keep_44 : decode cX8_keep 44 = .ok (.iload 7, 2) := by decide +kernel
theorem dX8_keep_46 : decode cX8_keep 46 = .ok (.iload_n 2, 1) := by decide +kernel
theorem dX8_keep_47 : decode cX8_keep 47 = .ok (.iastore, 1) := by decide +kernel
theorem dX8_keep_48 : decode cX8_keep 48 = .ok (.aload_n 0, 1) := by decide +kernel
theorem dX8_keep_49 : decode cX8_keep 49 = .ok (.getfield 76, 3) := by decide +kernel
theorem dX8_keep_52 : decode cX8_keep 52 = .ok (.iload 7, 2) := by decide +kernel
theorem dX8_keep_54 : decode cX8_keep 54 = .ok (.iload_n 3, 1) := by decide +kernel
theorem dX8_keep_55 : decode cX8_keep 55 = .ok (.iastore, 1) := by decide +kernel
theorem dX8_keep_56 : decode cX8_keep 56 = .ok (.aload_n 0, 1) := by decide +kernel
theorem dX8_keep_57 : decode cX8_keep 57 = .ok (.getfield 79, 3) := by decide +kernel
theorem dX8_keep_60 : decode cX8_keep 60 = .ok (.iload 7, 2) := by decide +kernel
theorem dX8_keep_62 : decode cX8_keep 62 = .ok (.lload 4, 2) := by decide +kernel
theorem dX8_keep_64 : decode cX8_keep 64 = .ok (.lastore, 1) := by decide +kernel
theorem dX8_keep_65 : decode cX8_keep 65 = .ok (.aload_n 0, 1) := by decide +kernel
theorem dX8_keep_66 : decode cX8_keep 66 = .ok (.getfield 82, 3) := by decide +kernel
theorem dX8_keep_69 : decode cX8_keep 69 = .ok (.iload 7, 2) := by decide +kernel
theorem dX8_keep_71 : decode cX8_keep 71 = .ok (.iload 6, 2) := by decide +kernel
theorem dX8_keep_73 : decode cX8_keep 73 = .ok (.bastore, 1) := by decide +kernel
theorem dX8_keep_74 : decode cX8_keep 74 = .ok (.aload_n 0, 1) := by decide +kernel
theorem dX8_keep_75 : decode cX8_keep 75 = .ok (.getfield 70, 3) := by decide +kernel
theorem dX8_keep_78 : decode cX8_keep 78 = .ok (.iload_n 1, 1) := by decide +kernel
theorem dX8_keep_79 : decode cX8_keep 79 = .ok (.dup2, 1) := by decide +kernel
theorem dX8_keep_80 : decode cX8_keep 80 = .ok (.iaload, 1) := by decide +kernel
theorem dX8_keep_81 : decode cX8_keep 81 = .ok (.iconst 1, 1) := by decide +kernel
theorem dX8_keep_82 : decode cX8_keep 82 = .ok (.iadd, 1) := by decide +kernel
theorem dX8_keep_83 : decode cX8_keep 83 = .ok (.iastore, 1) := by decide +kernel
theorem dX8_keep_84 : decode cX8_keep 84 = .ok (.iconst 1, 1) := by decide +kernel
theorem dX8_keep_85 : decode cX8_keep 85 = .ok (.ireturn, 1) := by decide +kernel
theorem dX8_wasTaken_0 : decode cX8_wasTaken 0 = .ok (.iconst 0, 1) := by decide +kernel
theorem dX8_wasTaken_1 : decode cX8_wasTaken 1 = .ok (.istore 4, 2) := by decide +kernel
theorem dX8_wasTaken_3 : decode cX8_wasTaken 3 = .ok (.iload 4, 2) := by decide +kernel
theorem dX8_wasTaken_5 : decode cX8_wasTaken 5 = .ok (.aload_n 0, 1) := by decide +kernel
theorem dX8_wasTaken_6 : decode cX8_wasTaken 6 = .ok (.getfield 111, 3) := by decide +kernel
theorem dX8_wasTaken_9 : decode cX8_wasTaken 9 = .ok (.if_icmp .ge 44, 3) := by decide +kernel
theorem dX8_wasTaken_12 : decode cX8_wasTaken 12 = .ok (.aload_n 0, 1) := by decide +kernel
theorem dX8_wasTaken_13 : decode cX8_wasTaken 13 = .ok (.getfield 61, 3) := by decide +kernel
theorem dX8_wasTaken_16 : decode cX8_wasTaken 16 = .ok (.iload 4, 2) := by decide +kernel
theorem dX8_wasTaken_18 : decode cX8_wasTaken 18 = .ok (.iaload, 1) := by decide +kernel
theorem dX8_wasTaken_19 : decode cX8_wasTaken 19 = .ok (.iload_n 1, 1) := by decide +kernel
theorem dX8_wasTaken_20 : decode cX8_wasTaken 20 = .ok (.if_icmp .ne 27, 3) := by decide +kernel
theorem dX8_wasTaken_23 : decode cX8_wasTaken 23 = .ok (.aload_n 0, 1) := by decide +kernel
theorem dX8_wasTaken_24 : decode cX8_wasTaken 24 = .ok (.getfield 64, 3) := by decide +kernel
theorem dX8_wasTaken_27 : decode cX8_wasTaken 27 = .ok (.iload 4, 2) := by decide +kernel
theorem dX8_wasTaken_29 : decode cX8_wasTaken 29 = .ok (.iaload, 1) := by decide +kernel
theorem dX8_wasTaken_30 : decode cX8_wasTaken 30 = .ok (.iload_n 2, 1) := by decide +kernel
theorem dX8_wasTaken_31 : decode cX8_wasTaken 31 = .ok (.if_icmp .ne 16, 3) := by decide +kernel
theorem dX8_wasTaken_34 : decode cX8_wasTaken 34 = .ok (.aload_n 0, 1) := by decide +kernel
theorem dX8_wasTaken_35 : decode cX8_wasTaken 35 = .ok (.getfield 67, 3) := by decide +kernel
theorem dX8_wasTaken_38 : decode cX8_wasTaken 38 = .ok (.iload 4, 2) := by decide +kernel
theorem dX8_wasTaken_40 : decode cX8_wasTaken 40 = .ok (.iaload, 1) := by decide +kernel
theorem dX8_wasTaken_41 : decode cX8_wasTaken 41 = .ok (.iload_n 3, 1) := by decide +kernel
theorem dX8_wasTaken_42 : decode cX8_wasTaken 42 = .ok (.if_icmp .ne 5, 3) := by decide +kernel
theorem dX8_wasTaken_45 : decode cX8_wasTaken 45 = .ok (.iconst 1, 1) := by decide +kernel
theorem dX8_wasTaken_46 : decode cX8_wasTaken 46 = .ok (.ireturn, 1) := by decide +kernel
theorem dX8_wasTaken_47 : decode cX8_wasTaken 47 = .ok (.iinc 4 1, 3) := by decide +kernel
theorem dX8_wasTaken_50 : decode cX8_wasTaken 50 = .ok (.goto (-47), 3) := by decide +kernel
theorem dX8_wasTaken_53 : decode cX8_wasTaken 53 = .ok (.iconst 0, 1) := by decide +kernel
theorem dX8_wasTaken_54 : decode cX8_wasTaken 54 = .ok (.ireturn, 1) := by decide +kernel
set_option maxRecDepth 20000 in
theorem ggX8_deliver_X8_take : GoodIn wsX8_deliver wsX8_take := goodIn_r _ [20, 1, 3, 4, 5, 6, 7, 8, 9, 72, 73, 74, 75, 76, 77, 78, 79, 80, 81, 82, 83, 84, 85, 86, 87, 88, 89, 90, 91, 92, 93, 94, 95, 96, 97, 98, 99, 100, 101, 102, 103, 104, 105, 106] (by decide +kernel) (by decide +kernel)
set_option maxRecDepth 20000 in
theorem gX8_deliver_X8_take : GoodIn wsX8_deliver (wsV RX8 164 RX8 yX8_take wsX8_take) := goodIn_app (goodIn_of _ (by decide +kernel)) ggX8_deliver_X8_take
set_option maxRecDepth 20000 in
theorem ggX8_deliver_X8_signature : GoodIn wsX8_deliver wsX8_signature := goodIn_r _ [23, 24, 25, 26, 19, 27, 28] (by decide +kernel) (by decide +kernel)
set_option maxRecDepth 20000 in
theorem gX8_deliver_X8_signature : GoodIn wsX8_deliver (va_wsS RX8 137 yX8_signature wsX8_signature) := goodIn_app (goodIn_of _ (by decide +kernel)) ggX8_deliver_X8_signature
set_option maxRecDepth 20000 in
theorem ggX8_deliver_X8_keep : GoodIn wsX8_deliver wsX8_keep := goodIn_r _ [32, 33, 34, 35, 36, 37, 38, 39, 40, 19, 41, 72, 73, 74, 75, 76, 77, 78, 79, 80, 81, 82, 83, 84, 85, 86, 87, 88, 89, 90, 91, 92, 93, 94, 95, 96, 97, 98, 99, 100, 101, 102, 103, 104, 105, 106] (by decide +kernel) (by decide +kernel)
set_option maxRecDepth 20000 in
theorem gX8_deliver_X8_keep : GoodIn wsX8_deliver (wsV RX8 168 RX8 yX8_keep wsX8_keep) := goodIn_app (goodIn_of _ (by decide +kernel)) ggX8_deliver_X8_keep
set_option maxRecDepth 20000 in
theorem ggX8_deliver_X8_headBehind : GoodIn wsX8_deliver wsX8_headBehind := goodIn_r _ [44, 24, 25, 26, 19, 27, 28] (by decide +kernel) (by decide +kernel)
set_option maxRecDepth 20000 in
theorem gX8_deliver_X8_headBehind : GoodIn wsX8_deliver (va_wsS RX8 125 yX8_headBehind wsX8_headBehind) := goodIn_app (goodIn_of _ (by decide +kernel)) ggX8_deliver_X8_headBehind
set_option maxRecDepth 20000 in
theorem ggX8_deliver_X8_wasTaken : GoodIn wsX8_deliver wsX8_wasTaken := goodIn_r _ [48, 12, 11, 13, 14, 72, 73, 74, 75, 76, 77, 78, 79, 80, 81, 82, 83, 84, 85, 86, 87, 88, 89, 90, 91, 92, 93, 94, 95, 96, 97, 98, 99, 100, 101, 102, 103, 104, 105, 106] (by decide +kernel) (by decide +kernel)
set_option maxRecDepth 20000 in
theorem gX8_deliver_X8_wasTaken : GoodIn wsX8_deliver (wsV RX8 172 RX8 yX8_wasTaken wsX8_wasTaken) := goodIn_app (goodIn_of _ (by decide +kernel)) ggX8_deliver_X8_wasTaken
set_option maxRecDepth 20000 in
theorem ggX8_deliver_X8_enter : GoodIn wsX8_deliver wsX8_enter := goodIn_r _ [52, 10, 53, 54, 55, 72, 73, 74, 75, 76, 77, 78, 79, 80, 81, 82, 83, 84, 85, 86, 87, 88, 89, 90, 91, 92, 93, 94, 95, 96, 97, 98, 99, 100, 101, 102, 103, 104, 105, 106] (by decide +kernel) (by decide +kernel)
set_option maxRecDepth 20000 in
theorem gX8_deliver_X8_enter : GoodIn wsX8_deliver (wsV RX8 133 RX8 yX8_enter wsX8_enter) := goodIn_app (goodIn_of _ (by decide +kernel)) ggX8_deliver_X8_enter
set_option maxRecDepth 20000 in
theorem ggX8_deliver_X8_turned : GoodIn wsX8_deliver wsX8_turned := goodIn_r _ [58] (by decide +kernel) (by decide +kernel)
set_option maxRecDepth 20000 in
theorem gX8_deliver_X8_turned : GoodIn wsX8_deliver (va_wsS RX8 176 yX8_turned wsX8_turned) := goodIn_app (goodIn_of _ (by decide +kernel)) ggX8_deliver_X8_turned
set_option maxRecDepth 20000 in
theorem ggX8_deliver_X8_send : GoodIn wsX8_deliver wsX8_send := goodIn_r _ [62, 10, 63, 64, 65, 19, 66, 53, 54, 55, 42, 43, 44, 24, 25, 26, 27, 28, 49, 50, 51, 52, 21, 22, 23, 67, 68, 69, 70, 71, 1, 3, 4, 5, 6, 7, 8, 9, 72, 73, 74, 75, 76, 77, 78, 79, 80, 81, 82, 83, 84, 85, 86, 87, 88, 89, 90, 91, 92, 93, 94, 95, 96, 97, 98, 99, 100, 101, 102, 103, 104, 105, 106] (by decide +kernel) (by decide +kernel)
set_option maxRecDepth 20000 in
theorem gX8_deliver_X8_send : GoodIn wsX8_deliver (wsV RX8 156 RX8 yX8_send wsX8_send) := goodIn_app (goodIn_of _ (by decide +kernel)) ggX8_deliver_X8_send
theorem dX8_deliver_0 : decode cX8_deliver 0 = .ok (.aload_n 0, 1) := by decide +kernel
theorem dX8_deliver_1 : decode cX8_deliver 1 = .ok (.iload_n 1, 1) := by decide +kernel
theorem dX8_deliver_2 : decode cX8_deliver 2 = .ok (.ifCond .lt 11, 3) := by decide +kernel
theorem dX8_deliver_5 : decode cX8_deliver 5 = .ok (.iload_n 1, 1) := by decide +kernel
theorem dX8_deliver_6 : decode cX8_deliver 6 = .ok (.aload_n 0, 1) := by decide +kernel
theorem dX8_deliver_7 : decode cX8_deliver 7 = .ok (.getfield 105, 3) := by decide +kernel
theorem dX8_deliver_10 : decode cX8_deliver 10 = .ok (.if_icmp .lt 7, 3) := by decide +kernel
theorem dX8_deliver_13 : decode cX8_deliver 13 = .ok (.iconst 1, 1) := by decide +kernel
theorem dX8_deliver_14 : decode cX8_deliver 14 = .ok (.goto 4, 3) := by decide +kernel
theorem dX8_deliver_17 : decode cX8_deliver 17 = .ok (.iconst 0, 1) := by decide +kernel
theorem dX8_deliver_18 : decode cX8_deliver 18 = .ok (.putfield 102, 3) := by decide +kernel
theorem dX8_deliver_21 : decode cX8_deliver 21 = .ok (.aload_n 0, 1) := by decide +kernel
theorem dX8_deliver_22 : decode cX8_deliver 22 = .ok (.getfield 102, 3) := by decide +kernel
theorem dX8_deliver_25 : decode cX8_deliver 25 = .ok (.ifCond .le 5, 3) := by decide +kernel
theorem dX8_deliver_28 : decode cX8_deliver 28 = .ok (.iconst 0, 1) := by decide +kernel
theorem dX8_deliver_29 : decode cX8_deliver 29 = .ok (.ireturn, 1) := by decide +kernel
theorem dX8_deliver_30 : decode cX8_deliver 30 = .ok (.aload_n 0, 1) := by decide +kernel
theorem dX8_deliver_31 : decode cX8_deliver 31 = .ok (.getfield 39, 3) := by decide +kernel
theorem dX8_deliver_34 : decode cX8_deliver 34 = .ok (.iload_n 1, 1) := by decide +kernel
theorem dX8_deliver_35 : decode cX8_deliver 35 = .ok (.iaload, 1) := by decide +kernel
theorem dX8_deliver_36 : decode cX8_deliver 36 = .ok (.istore_n 2, 1) := by decide +kernel
theorem dX8_deliver_37 : decode cX8_deliver 37 = .ok (.aload_n 0, 1) := by decide +kernel
theorem dX8_deliver_38 : decode cX8_deliver 38 = .ok (.getfield 42, 3) := by decide +kernel
theorem dX8_deliver_41 : decode cX8_deliver 41 = .ok (.iload_n 1, 1) := by decide +kernel
theorem dX8_deliver_42 : decode cX8_deliver 42 = .ok (.iaload, 1) := by decide +kernel
theorem dX8_deliver_43 : decode cX8_deliver 43 = .ok (.istore_n 3, 1) := by decide +kernel
theorem dX8_deliver_44 : decode cX8_deliver 44 = .ok (.aload_n 0, 1) := by decide +kernel
theorem dX8_deliver_45 : decode cX8_deliver 45 = .ok (.getfield 45, 3) := by decide +kernel
theorem dX8_deliver_48 : decode cX8_deliver 48 = .ok (.iload_n 1, 1) := by decide +kernel
theorem dX8_deliver_49 : decode cX8_deliver 49 = .ok (.iaload, 1) := by decide +kernel
theorem dX8_deliver_50 : decode cX8_deliver 50 = .ok (.istore 4, 2) := by decide +kernel
theorem dX8_deliver_52 : decode cX8_deliver 52 = .ok (.aload_n 0, 1) := by decide +kernel
theorem dX8_deliver_53 : decode cX8_deliver 53 = .ok (.getfield 48, 3) := by decide +kernel
theorem dX8_deliver_56 : decode cX8_deliver 56 = .ok (.iload_n 1, 1) := by decide +kernel
theorem dX8_deliver_57 : decode cX8_deliver 57 = .ok (.iaload, 1) := by decide +kernel
theorem dX8_deliver_58 : decode cX8_deliver 58 = .ok (.istore 5, 2) := by decide +kernel
theorem dX8_deliver_60 : decode cX8_deliver 60 = .ok (.aload_n 0, 1) := by decide +kernel
theorem dX8_deliver_61 : decode cX8_deliver 61 = .ok (.getfield 51, 3) := by decide +kernel
theorem dX8_deliver_64 : decode cX8_deliver 64 = .ok (.iload_n 1, 1) := by decide +kernel
theorem dX8_deliver_65 : decode cX8_deliver 65 = .ok (.iaload, 1) := by decide +kernel
theorem dX8_deliver_66 : decode cX8_deliver 66 = .ok (.istore 6, 2) := by decide +kernel
theorem dX8_deliver_68 : decode cX8_deliver 68 = .ok (.aload_n 0, 1) := by decide +kernel
theorem dX8_deliver_69 : decode cX8_deliver 69 = .ok (.getfield 54, 3) := by decide +kernel
theorem dX8_deliver_72 : decode cX8_deliver 72 = .ok (.iload_n 1, 1) := by decide +kernel
theorem dX8_deliver_73 : decode cX8_deliver 73 = .ok (.laload, 1) := by decide +kernel
theorem dX8_deliver_74 : decode cX8_deliver 74 = .ok (.lstore 7, 2) := by decide +kernel
theorem dX8_deliver_76 : decode cX8_deliver 76 = .ok (.aload_n 0, 1) := by decide +kernel
theorem dX8_deliver_77 : decode cX8_deliver 77 = .ok (.getfield 58, 3) := by decide +kernel
theorem dX8_deliver_80 : decode cX8_deliver 80 = .ok (.iload_n 1, 1) := by decide +kernel
theorem dX8_deliver_81 : decode cX8_deliver 81 = .ok (.laload, 1) := by decide +kernel
theorem dX8_deliver_82 : decode cX8_deliver 82 = .ok (.lstore 9, 2) := by decide +kernel
theorem dX8_deliver_84 : decode cX8_deliver 84 = .ok (.aload_n 0, 1) := by decide +kernel
theorem dX8_deliver_85 : decode cX8_deliver 85 = .ok (.iload_n 1, 1) := by decide +kernel
theorem dX8_deliver_86 : decode cX8_deliver 86 = .ok (.invokevirtual 164, 3) := by decide +kernel
theorem dX8_deliver_89 : decode cX8_deliver 89 = .ok (.iload_n 2, 1) := by decide +kernel
theorem dX8_deliver_90 : decode cX8_deliver 90 = .ok (.iconst 2, 1) := by decide +kernel
theorem dX8_deliver_91 : decode cX8_deliver 91 = .ok (.if_icmp .ne 39, 3) := by decide +kernel
theorem dX8_deliver_94 : decode cX8_deliver 94 = .ok (.lload 9, 2) := by decide +kernel
theorem dX8_deliver_96 : decode cX8_deliver 96 = .ok (.iload 4, 2) := by decide +kernel
theorem dX8_deliver_98 : decode cX8_deliver 98 = .ok (.iload 6, 2) := by decide +kernel
theorem dX8_deliver_100 : decode cX8_deliver 100 = .ok (.lload 7, 2) := by decide +kernel
theorem dX8_deliver_102 : decode cX8_deliver 102 = .ok (.invokestatic 137, 3) := by decide +kernel
theorem dX8_deliver_105 : decode cX8_deliver 105 = .ok (.lcmp, 1) := by decide +kernel
theorem dX8_deliver_106 : decode cX8_deliver 106 = .ok (.ifCond .ne 22, 3) := by decide +kernel
theorem dX8_deliver_109 : decode cX8_deliver 109 = .ok (.aload_n 0, 1) := by decide +kernel
theorem dX8_deliver_110 : decode cX8_deliver 110 = .ok (.iload_n 3, 1) := by decide +kernel
theorem dX8_deliver_111 : decode cX8_deliver 111 = .ok (.iload 4, 2) := by decide +kernel
theorem dX8_deliver_113 : decode cX8_deliver 113 = .ok (.iload 6, 2) := by decide +kernel
theorem dX8_deliver_115 : decode cX8_deliver 115 = .ok (.lload 7, 2) := by decide +kernel
theorem dX8_deliver_117 : decode cX8_deliver 117 = .ok (.iconst 1, 1) := by decide +kernel
theorem dX8_deliver_118 : decode cX8_deliver 118 = .ok (.invokevirtual 168, 3) := by decide +kernel
theorem dX8_deliver_121 : decode cX8_deliver 121 = .ok (.ifCond .eq 7, 3) := by decide +kernel
theorem dX8_deliver_124 : decode cX8_deliver 124 = .ok (.iconst 1, 1) := by decide +kernel
theorem dX8_deliver_125 : decode cX8_deliver 125 = .ok (.goto 4, 3) := by decide +kernel
theorem dX8_deliver_128 : decode cX8_deliver 128 = .ok (.iconst 0, 1) := by decide +kernel
theorem dX8_deliver_129 : decode cX8_deliver 129 = .ok (.ireturn, 1) := by decide +kernel
theorem dX8_deliver_130 : decode cX8_deliver 130 = .ok (.lload 7, 2) := by decide +kernel
theorem dX8_deliver_132 : decode cX8_deliver 132 = .ok (.iconst 3, 1) := by decide +kernel
theorem dX8_deliver_133 : decode cX8_deliver 133 = .ok (.iload_n 3, 1) := by decide +kernel
theorem dX8_deliver_134 : decode cX8_deliver 134 = .ok (.iload 5, 2) := by decide +kernel
theorem dX8_deliver_136 : decode cX8_deliver 136 = .ok (.invokestatic 125, 3) := by decide +kernel
theorem dX8_deliver_139 : decode cX8_deliver 139 = .ok (.lstore 11, 2) := by decide +kernel
theorem dX8_deliver_141 : decode cX8_deliver 141 = .ok (.lload 9, 2) := by decide +kernel
theorem dX8_deliver_143 : decode cX8_deliver 143 = .ok (.iload 4, 2) := by decide +kernel
theorem dX8_deliver_145 : decode cX8_deliver 145 = .ok (.iload 6, 2) := by decide +kernel
theorem dX8_deliver_147 : decode cX8_deliver 147 = .ok (.lload 11, 2) := by decide +kernel
theorem dX8_deliver_149 : decode cX8_deliver 149 = .ok (.invokestatic 137, 3) := by decide +kernel
theorem dX8_deliver_152 : decode cX8_deliver 152 = .ok (.lcmp, 1) := by decide +kernel
theorem dX8_deliver_153 : decode cX8_deliver 153 = .ok (.ifCond .ne 27, 3) := by decide +kernel
theorem dX8_deliver_156 : decode cX8_deliver 156 = .ok (.aload_n 0, 1) := by decide +kernel
theorem dX8_deliver_157 : decode cX8_deliver 157 = .ok (.iload_n 3, 1) := by decide +kernel
theorem dX8_deliver_158 : decode cX8_deliver 158 = .ok (.iload 4, 2) := by decide +kernel
theorem dX8_deliver_160 : decode cX8_deliver 160 = .ok (.iload 6, 2) := by decide +kernel
theorem dX8_deliver_162 : decode cX8_deliver 162 = .ok (.invokevirtual 172, 3) := by decide +kernel
theorem dX8_deliver_165 : decode cX8_deliver 165 = .ok (.ifCond .ne 15, 3) := by decide +kernel
theorem dX8_deliver_168 : decode cX8_deliver 168 = .ok (.aload_n 0, 1) := by decide +kernel
theorem dX8_deliver_169 : decode cX8_deliver 169 = .ok (.getfield 20, 3) := by decide +kernel
theorem dX8_deliver_172 : decode cX8_deliver 172 = .ok (.iload_n 3, 1) := by decide +kernel
theorem dX8_deliver_173 : decode cX8_deliver 173 = .ok (.iaload, 1) := by decide +kernel
theorem dX8_deliver_174 : decode cX8_deliver 174 = .ok (.sipush 148, 3) := by decide +kernel
theorem dX8_deliver_177 : decode cX8_deliver 177 = .ok (.if_icmp .le 5, 3) := by decide +kernel
theorem dX8_deliver_180 : decode cX8_deliver 180 = .ok (.iconst 0, 1) := by decide +kernel
theorem dX8_deliver_181 : decode cX8_deliver 181 = .ok (.ireturn, 1) := by decide +kernel
theorem dX8_deliver_182 : decode cX8_deliver 182 = .ok (.aload_n 0, 1) := by decide +kernel
theorem dX8_deliver_183 : decode cX8_deliver 183 = .ok (.getfield 61, 3) := by decide +kernel
theorem dX8_deliver_186 : decode cX8_deliver 186 = .ok (.aload_n 0, 1) := by decide +kernel
theorem dX8_deliver_187 : decode cX8_deliver 187 = .ok (.getfield 111, 3) := by decide +kernel
theorem dX8_deliver_190 : decode cX8_deliver 190 = .ok (.iload_n 3, 1) := by decide +kernel
theorem dX8_deliver_191 : decode cX8_deliver 191 = .ok (.iastore, 1) := by decide +kernel
theorem dX8_deliver_192 : decode cX8_deliver 192 = .ok (.aload_n 0, 1) := by decide +kernel
theorem dX8_deliver_193 : decode cX8_deliver 193 = .ok (.getfield 64, 3) := by decide +kernel
theorem dX8_deliver_196 : decode cX8_deliver 196 = .ok (.aload_n 0, 1) := by decide +kernel
theorem dX8_deliver_197 : decode cX8_deliver 197 = .ok (.getfield 111, 3) := by decide +kernel
theorem dX8_deliver_200 : decode cX8_deliver 200 = .ok (.iload 4, 2) := by decide +kernel
theorem dX8_deliver_202 : decode cX8_deliver 202 = .ok (.iastore, 1) := by decide +kernel
theorem dX8_deliver_203 : decode cX8_deliver 203 = .ok (.aload_n 0, 1) := by decide +kernel
theorem dX8_deliver_204 : decode cX8_deliver 204 = .ok (.getfield 67, 3) := by decide +kernel
theorem dX8_deliver_207 : decode cX8_deliver 207 = .ok (.aload_n 0, 1) := by decide +kernel
theorem dX8_deliver_208 : decode cX8_deliver 208 = .ok (.getfield 111, 3) := by decide +kernel
theorem dX8_deliver_211 : decode cX8_deliver 211 = .ok (.iload 6, 2) := by decide +kernel
theorem dX8_deliver_213 : decode cX8_deliver 213 = .ok (.iastore, 1) := by decide +kernel
theorem dX8_deliver_214 : decode cX8_deliver 214 = .ok (.aload_n 0, 1) := by decide +kernel
theorem dX8_deliver_215 : decode cX8_deliver 215 = .ok (.dup, 1) := by decide +kernel
theorem dX8_deliver_216 : decode cX8_deliver 216 = .ok (.getfield 111, 3) := by decide +kernel
theorem dX8_deliver_219 : decode cX8_deliver 219 = .ok (.iconst 1, 1) := by decide +kernel
theorem dX8_deliver_220 : decode cX8_deliver 220 = .ok (.iadd, 1) := by decide +kernel
theorem dX8_deliver_221 : decode cX8_deliver 221 = .ok (.putfield 111, 3) := by decide +kernel
theorem dX8_deliver_224 : decode cX8_deliver 224 = .ok (.aload_n 0, 1) := by decide +kernel
theorem dX8_deliver_225 : decode cX8_deliver 225 = .ok (.iload_n 3, 1) := by decide +kernel
theorem dX8_deliver_226 : decode cX8_deliver 226 = .ok (.iconst 2, 1) := by decide +kernel
theorem dX8_deliver_227 : decode cX8_deliver 227 = .ok (.iload 4, 2) := by decide +kernel
theorem dX8_deliver_229 : decode cX8_deliver 229 = .ok (.iload 5, 2) := by decide +kernel
theorem dX8_deliver_231 : decode cX8_deliver 231 = .ok (.invokevirtual 133, 3) := by decide +kernel
theorem dX8_deliver_234 : decode cX8_deliver 234 = .ok (.aload_n 0, 1) := by decide +kernel
theorem dX8_deliver_235 : decode cX8_deliver 235 = .ok (.getfield 17, 3) := by decide +kernel
theorem dX8_deliver_238 : decode cX8_deliver 238 = .ok (.iload_n 3, 1) := by decide +kernel
theorem dX8_deliver_239 : decode cX8_deliver 239 = .ok (.aload_n 0, 1) := by decide +kernel
theorem dX8_deliver_240 : decode cX8_deliver 240 = .ok (.getfield 17, 3) := by decide +kernel
theorem dX8_deliver_243 : decode cX8_deliver 243 = .ok (.iload_n 3, 1) := by decide +kernel
theorem dX8_deliver_244 : decode cX8_deliver 244 = .ok (.iaload, 1) := by decide +kernel
theorem dX8_deliver_245 : decode cX8_deliver 245 = .ok (.iload 5, 2) := by decide +kernel
theorem dX8_deliver_247 : decode cX8_deliver 247 = .ok (.iload 4, 2) := by decide +kernel
theorem dX8_deliver_249 : decode cX8_deliver 249 = .ok (.iadd, 1) := by decide +kernel
theorem dX8_deliver_250 : decode cX8_deliver 250 = .ok (.ixor, 1) := by decide +kernel
theorem dX8_deliver_251 : decode cX8_deliver 251 = .ok (.invokestatic 176, 3) := by decide +kernel
theorem dX8_deliver_254 : decode cX8_deliver 254 = .ok (.iastore, 1) := by decide +kernel
theorem dX8_deliver_255 : decode cX8_deliver 255 = .ok (.aload_n 0, 1) := by decide +kernel
theorem dX8_deliver_256 : decode cX8_deliver 256 = .ok (.getfield 17, 3) := by decide +kernel
theorem dX8_deliver_259 : decode cX8_deliver 259 = .ok (.iload_n 3, 1) := by decide +kernel
theorem dX8_deliver_260 : decode cX8_deliver 260 = .ok (.iaload, 1) := by decide +kernel
theorem dX8_deliver_261 : decode cX8_deliver 261 = .ok (.bipush 8, 2) := by decide +kernel
theorem dX8_deliver_263 : decode cX8_deliver 263 = .ok (.irem, 1) := by decide +kernel
theorem dX8_deliver_264 : decode cX8_deliver 264 = .ok (.ifCond .ne 16, 3) := by decide +kernel
theorem dX8_deliver_267 : decode cX8_deliver 267 = .ok (.aload_n 0, 1) := by decide +kernel
theorem dX8_deliver_268 : decode cX8_deliver 268 = .ok (.iload_n 3, 1) := by decide +kernel
theorem dX8_deliver_269 : decode cX8_deliver 269 = .ok (.iload 4, 2) := by decide +kernel
theorem dX8_deliver_271 : decode cX8_deliver 271 = .ok (.aload_n 0, 1) := by decide +kernel
theorem dX8_deliver_272 : decode cX8_deliver 272 = .ok (.getfield 17, 3) := by decide +kernel
theorem dX8_deliver_275 : decode cX8_deliver 275 = .ok (.iload_n 3, 1) := by decide +kernel
theorem dX8_deliver_276 : decode cX8_deliver 276 = .ok (.iaload, 1) := by decide +kernel
theorem dX8_deliver_277 : decode cX8_deliver 277 = .ok (.invokevirtual 156, 3) := by decide +kernel
theorem dX8_deliver_280 : decode cX8_deliver 280 = .ok (.aload_n 0, 1) := by decide +kernel
theorem dX8_deliver_281 : decode cX8_deliver 281 = .ok (.iload_n 3, 1) := by decide +kernel
theorem dX8_deliver_282 : decode cX8_deliver 282 = .ok (.iload 4, 2) := by decide +kernel
theorem dX8_deliver_284 : decode cX8_deliver 284 = .ok (.iload 6, 2) := by decide +kernel
theorem dX8_deliver_286 : decode cX8_deliver 286 = .ok (.lload 11, 2) := by decide +kernel
theorem dX8_deliver_288 : decode cX8_deliver 288 = .ok (.iconst 0, 1) := by decide +kernel
theorem dX8_deliver_289 : decode cX8_deliver 289 = .ok (.invokevirtual 168, 3) := by decide +kernel
theorem dX8_deliver_292 : decode cX8_deliver 292 = .ok (.istore 13, 2) := by decide +kernel
theorem dX8_deliver_294 : decode cX8_deliver 294 = .ok (.iconst 1, 1) := by decide +kernel
theorem dX8_deliver_295 : decode cX8_deliver 295 = .ok (.ireturn, 1) := by decide +kernel
set_option maxRecDepth 20000 in
theorem ggX8_drop_X8_take : GoodIn wsX8_drop wsX8_take := goodIn_r _ [8, 1, 3, 9, 10, 11, 12, 13, 14, 15, 16, 17, 18, 19, 20, 21, 22, 23, 24, 25, 26, 27, 28, 29, 30, 31, 32, 33, 34, 35, 36, 37, 38, 39, 40, 41, 42, 43, 44, 45, 46, 47, 48, 49] (by decide +kernel) (by decide +kernel)
set_option maxRecDepth 20000 in
theorem gX8_drop_X8_take : GoodIn wsX8_drop (wsV RX8 164 RX8 yX8_take wsX8_take) := goodIn_app (goodIn_of _ (by decide +kernel)) ggX8_drop_X8_take
theorem dX8_drop_0 : decode cX8_drop 0 = .ok (.aload_n 0, 1) := by decide +kernel
theorem dX8_drop_1 : decode cX8_drop 1 = .ok (.iload_n 1, 1) := by decide +kernel
theorem dX8_drop_2 : decode cX8_drop 2 = .ok (.ifCond .lt 11, 3) := by decide +kernel
theorem dX8_drop_5 : decode cX8_drop 5 = .ok (.iload_n 1, 1) := by decide +kernel
theorem dX8_drop_6 : decode cX8_drop 6 = .ok (.aload_n 0, 1) := by decide +kernel
theorem dX8_drop_7 : decode cX8_drop 7 = .ok (.getfield 105, 3) := by decide +kernel
theorem dX8_drop_10 : decode cX8_drop 10 = .ok (.if_icmp .lt 7, 3) := by decide +kernel
theorem dX8_drop_13 : decode cX8_drop 13 = .ok (.iconst 1, 1) := by decide +kernel
theorem dX8_drop_14 : decode cX8_drop 14 = .ok (.goto 4, 3) := by decide +kernel
theorem dX8_drop_17 : decode cX8_drop 17 = .ok (.iconst 0, 1) := by decide +kernel
theorem dX8_drop_18 : decode cX8_drop 18 = .ok (.putfield 102, 3) := by decide +kernel
theorem dX8_drop_21 : decode cX8_drop 21 = .ok (.aload_n 0, 1) := by decide +kernel
theorem dX8_drop_22 : decode cX8_drop 22 = .ok (.getfield 102, 3) := by decide +kernel
theorem dX8_drop_25 : decode cX8_drop 25 = .ok (.ifCond .le 5, 3) := by decide +kernel
theorem dX8_drop_28 : decode cX8_drop 28 = .ok (.iconst 0, 1) := by decide +kernel
theorem dX8_drop_29 : decode cX8_drop 29 = .ok (.ireturn, 1) := by decide +kernel
theorem dX8_drop_30 : decode cX8_drop 30 = .ok (.aload_n 0, 1) := by decide +kernel
theorem dX8_drop_31 : decode cX8_drop 31 = .ok (.getfield 39, 3) := by decide +kernel
theorem dX8_drop_34 : decode cX8_drop 34 = .ok (.iload_n 1, 1) := by decide +kernel
theorem dX8_drop_35 : decode cX8_drop 35 = .ok (.iaload, 1) := by decide +kernel
theorem dX8_drop_36 : decode cX8_drop 36 = .ok (.istore_n 2, 1) := by decide +kernel
theorem dX8_drop_37 : decode cX8_drop 37 = .ok (.aload_n 0, 1) := by decide +kernel
theorem dX8_drop_38 : decode cX8_drop 38 = .ok (.iload_n 1, 1) := by decide +kernel
theorem dX8_drop_39 : decode cX8_drop 39 = .ok (.invokevirtual 164, 3) := by decide +kernel
theorem dX8_drop_42 : decode cX8_drop 42 = .ok (.iload_n 2, 1) := by decide +kernel
theorem dX8_drop_43 : decode cX8_drop 43 = .ok (.ireturn, 1) := by decide +kernel
set_option maxRecDepth 20000 in
theorem ggX8_copy_X8_letter : GoodIn wsX8_copy wsX8_letter := goodIn_r _ [15, 10, 1, 3, 4, 5, 6, 7, 8, 9, 16, 17, 18, 19, 20, 21, 22, 23, 24, 25, 26, 27, 28, 29, 30, 31, 32, 33, 34, 35, 36, 37, 38, 39, 40, 41, 42, 43, 44, 45, 46, 47, 48, 49, 50] (by decide +kernel) (by decide +kernel)
set_option maxRecDepth 20000 in
theorem gX8_copy_X8_letter : GoodIn wsX8_copy (wsV RX8 141 RX8 yX8_letter wsX8_letter) := goodIn_app (goodIn_of _ (by decide +kernel)) ggX8_copy_X8_letter
theorem dX8_copy_0 : decode cX8_copy 0 = .ok (.aload_n 0, 1) := by decide +kernel
theorem dX8_copy_1 : decode cX8_copy 1 = .ok (.iload_n 1, 1) := by decide +kernel
theorem dX8_copy_2 : decode cX8_copy 2 = .ok (.ifCond .lt 11, 3) := by decide +kernel
theorem dX8_copy_5 : decode cX8_copy 5 = .ok (.iload_n 1, 1) := by decide +kernel
theorem dX8_copy_6 : decode cX8_copy 6 = .ok (.aload_n 0, 1) := by decide +kernel
theorem dX8_copy_7 : decode cX8_copy 7 = .ok (.getfield 105, 3) := by decide +kernel
theorem dX8_copy_10 : decode cX8_copy 10 = .ok (.if_icmp .lt 7, 3) := by decide +kernel
theorem dX8_copy_13 : decode cX8_copy 13 = .ok (.iconst 1, 1) := by decide +kernel
theorem dX8_copy_14 : decode cX8_copy 14 = .ok (.goto 4, 3) := by decide +kernel
theorem dX8_copy_17 : decode cX8_copy 17 = .ok (.iconst 0, 1) := by decide +kernel
theorem dX8_copy_18 : decode cX8_copy 18 = .ok (.putfield 102, 3) := by decide +kernel
theorem dX8_copy_21 : decode cX8_copy 21 = .ok (.aload_n 0, 1) := by decide +kernel
theorem dX8_copy_22 : decode cX8_copy 22 = .ok (.getfield 102, 3) := by decide +kernel
theorem dX8_copy_25 : decode cX8_copy 25 = .ok (.ifCond .gt 13, 3) := by decide +kernel
theorem dX8_copy_28 : decode cX8_copy 28 = .ok (.aload_n 0, 1) := by decide +kernel
theorem dX8_copy_29 : decode cX8_copy 29 = .ok (.getfield 105, 3) := by decide +kernel
theorem dX8_copy_32 : decode cX8_copy 32 = .ok (.sipush 200, 3) := by decide +kernel
theorem dX8_copy_35 : decode cX8_copy 35 = .ok (.if_icmp .ne 5, 3) := by decide +kernel
theorem dX8_copy_38 : decode cX8_copy 38 = .ok (.iconst 0, 1) := by decide +kernel
theorem dX8_copy_39 : decode cX8_copy 39 = .ok (.ireturn, 1) := by decide +kernel
theorem dX8_copy_40 : decode cX8_copy 40 = .ok (.aload_n 0, 1) := by decide +kernel
theorem dX8_copy_41 : decode cX8_copy 41 = .ok (.aload_n 0, 1) := by decide +kernel
theorem dX8_copy_42 : decode cX8_copy 42 = .ok (.getfield 39, 3) := by decide +kernel
theorem dX8_copy_45 : decode cX8_copy 45 = .ok (.iload_n 1, 1) := by decide +kernel
theorem dX8_copy_46 : decode cX8_copy 46 = .ok (.iaload, 1) := by decide +kernel
theorem dX8_copy_47 : decode cX8_copy 47 = .ok (.aload_n 0, 1) := by decide +kernel
theorem dX8_copy_48 : decode cX8_copy 48 = .ok (.getfield 42, 3) := by decide +kernel
theorem dX8_copy_51 : decode cX8_copy 51 = .ok (.iload_n 1, 1) := by decide +kernel
theorem dX8_copy_52 : decode cX8_copy 52 = .ok (.iaload, 1) := by decide +kernel
theorem dX8_copy_53 : decode cX8_copy 53 = .ok (.aload_n 0, 1) := by decide +kernel
theorem dX8_copy_54 : decode cX8_copy 54 = .ok (.getfield 45, 3) := by decide +kernel
theorem dX8_copy_57 : decode cX8_copy 57 = .ok (.iload_n 1, 1) := by decide +kernel
theorem dX8_copy_58 : decode cX8_copy 58 = .ok (.iaload, 1) := by decide +kernel
theorem dX8_copy_59 : decode cX8_copy 59 = .ok (.aload_n 0, 1) := by decide +kernel
theorem dX8_copy_60 : decode cX8_copy 60 = .ok (.getfield 48, 3) := by decide +kernel
theorem dX8_copy_63 : decode cX8_copy 63 = .ok (.iload_n 1, 1) := by decide +kernel
theorem dX8_copy_64 : decode cX8_copy 64 = .ok (.iaload, 1) := by decide +kernel
theorem dX8_copy_65 : decode cX8_copy 65 = .ok (.aload_n 0, 1) := by decide +kernel
theorem dX8_copy_66 : decode cX8_copy 66 = .ok (.getfield 51, 3) := by decide +kernel
theorem dX8_copy_69 : decode cX8_copy 69 = .ok (.iload_n 1, 1) := by decide +kernel
theorem dX8_copy_70 : decode cX8_copy 70 = .ok (.iaload, 1) := by decide +kernel
theorem dX8_copy_71 : decode cX8_copy 71 = .ok (.aload_n 0, 1) := by decide +kernel
theorem dX8_copy_72 : decode cX8_copy 72 = .ok (.getfield 54, 3) := by decide +kernel
theorem dX8_copy_75 : decode cX8_copy 75 = .ok (.iload_n 1, 1) := by decide +kernel
theorem dX8_copy_76 : decode cX8_copy 76 = .ok (.laload, 1) := by decide +kernel
theorem dX8_copy_77 : decode cX8_copy 77 = .ok (.aload_n 0, 1) := by decide +kernel
theorem dX8_copy_78 : decode cX8_copy 78 = .ok (.getfield 58, 3) := by decide +kernel
theorem dX8_copy_81 : decode cX8_copy 81 = .ok (.iload_n 1, 1) := by decide +kernel
theorem dX8_copy_82 : decode cX8_copy 82 = .ok (.laload, 1) := by decide +kernel
theorem dX8_copy_83 : decode cX8_copy 83 = .ok (.invokevirtual 141, 3) := by decide +kernel
theorem dX8_copy_86 : decode cX8_copy 86 = .ok (.aload_n 0, 1) := by decide +kernel
theorem dX8_copy_87 : decode cX8_copy 87 = .ok (.dup, 1) := by decide +kernel
theorem dX8_copy_88 : decode cX8_copy 88 = .ok (.getfield 108, 3) := by decide +kernel
theorem dX8_copy_91 : decode cX8_copy 91 = .ok (.iconst 1, 1) := by decide +kernel
theorem dX8_copy_92 : decode cX8_copy 92 = .ok (.isub, 1) := by decide +kernel
theorem dX8_copy_93 : decode cX8_copy 93 = .ok (.putfield 108, 3) := by decide +kernel
theorem dX8_copy_96 : decode cX8_copy 96 = .ok (.iconst 1, 1) := by decide +kernel
theorem dX8_copy_97 : decode cX8_copy 97 = .ok (.ireturn, 1) := by decide +kernel
theorem dX8_spoil_0 : decode cX8_spoil 0 = .ok (.aload_n 0, 1) := by decide +kernel
theorem dX8_spoil_1 : decode cX8_spoil 1 = .ok (.iload_n 1, 1) := by decide +kernel
theorem dX8_spoil_2 : decode cX8_spoil 2 = .ok (.ifCond .lt 11, 3) := by decide +kernel
theorem dX8_spoil_5 : decode cX8_spoil 5 = .ok (.iload_n 1, 1) := by decide +kernel
theorem dX8_spoil_6 : decode cX8_spoil 6 = .ok (.aload_n 0, 1) := by decide +kernel
theorem dX8_spoil_7 : decode cX8_spoil 7 = .ok (.getfield 105, 3) := by decide +kernel
theorem dX8_spoil_10 : decode cX8_spoil 10 = .ok (.if_icmp .lt 7, 3) := by decide +kernel
theorem dX8_spoil_13 : decode cX8_spoil 13 = .ok (.iconst 1, 1) := by decide +kernel
theorem dX8_spoil_14 : decode cX8_spoil 14 = .ok (.goto 18, 3) := by decide +kernel
theorem dX8_spoil_17 : decode cX8_spoil 17 = .ok (.aload_n 0, 1) := by decide +kernel
theorem dX8_spoil_18 : decode cX8_spoil 18 = .ok (.getfield 39, 3) := by decide +kernel
theorem dX8_spoil_21 : decode cX8_spoil 21 = .ok (.iload_n 1, 1) := by decide +kernel
theorem dX8_spoil_22 : decode cX8_spoil 22 = .ok (.iaload, 1) := by decide +kernel
theorem dX8_spoil_23 : decode cX8_spoil 23 = .ok (.iconst 1, 1) := by decide +kernel
theorem dX8_spoil_24 : decode cX8_spoil 24 = .ok (.if_icmp .eq 7, 3) := by decide +kernel
theorem dX8_spoil_27 : decode cX8_spoil 27 = .ok (.iconst 1, 1) := by decide +kernel
theorem dX8_spoil_28 : decode cX8_spoil 28 = .ok (.goto 4, 3) := by decide +kernel
theorem dX8_spoil_31 : decode cX8_spoil 31 = .ok (.iconst 0, 1) := by decide +kernel
theorem dX8_spoil_32 : decode cX8_spoil 32 = .ok (.putfield 102, 3) := by decide +kernel
theorem dX8_spoil_35 : decode cX8_spoil 35 = .ok (.aload_n 0, 1) := by decide +kernel
theorem dX8_spoil_36 : decode cX8_spoil 36 = .ok (.getfield 102, 3) := by decide +kernel
theorem dX8_spoil_39 : decode cX8_spoil 39 = .ok (.ifCond .le 5, 3) := by decide +kernel
theorem dX8_spoil_42 : decode cX8_spoil 42 = .ok (.iconst 0, 1) := by decide +kernel
theorem dX8_spoil_43 : decode cX8_spoil 43 = .ok (.ireturn, 1) := by decide +kernel
theorem dX8_spoil_44 : decode cX8_spoil 44 = .ok (.aload_n 0, 1) := by decide +kernel
theorem dX8_spoil_45 : decode cX8_spoil 45 = .ok (.getfield 48, 3) := by decide +kernel
theorem dX8_spoil_48 : decode cX8_spoil 48 = .ok (.iload_n 1, 1) := by decide +kernel
theorem dX8_spoil_49 : decode cX8_spoil 49 = .ok (.iaload, 1) := by decide +kernel
theorem dX8_spoil_50 : decode cX8_spoil 50 = .ok (.istore_n 3, 1) := by decide +kernel
theorem dX8_spoil_51 : decode cX8_spoil 51 = .ok (.aload_n 0, 1) := by decide +kernel
theorem dX8_spoil_52 : decode cX8_spoil 52 = .ok (.getfield 48, 3) := by decide +kernel
theorem dX8_spoil_55 : decode cX8_spoil 55 = .ok (.iload_n 1, 1) := by decide +kernel
theorem dX8_spoil_56 : decode cX8_spoil 56 = .ok (.iload_n 2, 1) := by decide +kernel
theorem dX8_spoil_57 : decode cX8_spoil 57 = .ok (.iastore, 1) := by decide +kernel
theorem dX8_spoil_58 : decode cX8_spoil 58 = .ok (.iload_n 3, 1) := by decide +kernel
theorem dX8_spoil_59 : decode cX8_spoil 59 = .ok (.ireturn, 1) := by decide +kernel
set_option maxRecDepth 20000 in
theorem ggX8_forward_X8_no : GoodIn wsX8_forward wsX8_no := goodIn_r _ [12, 5, 34, 35, 36, 37, 38, 39, 40, 41, 42, 43, 44, 45, 46, 47, 48, 49, 50, 51, 52, 53, 54, 55, 56, 57, 58, 59, 60, 61, 62, 63, 64, 65, 66, 67, 68] (by decide +kernel) (by decide +kernel)
set_option maxRecDepth 20000 in
theorem gX8_forward_X8_no : GoodIn wsX8_forward (wsV RX8 145 RX8 yX8_no wsX8_no) := goodIn_app (goodIn_of _ (by decide +kernel)) ggX8_forward_X8_no
set_option maxRecDepth 20000 in
theorem ggX8_forward_X8_signature : GoodIn wsX8_forward wsX8_signature := goodIn_r _ [15, 16, 17, 18, 11, 19, 20] (by decide +kernel) (by decide +kernel)
set_option maxRecDepth 20000 in
theorem gX8_forward_X8_signature : GoodIn wsX8_forward (va_wsS RX8 137 yX8_signature wsX8_signature) := goodIn_app (goodIn_of _ (by decide +kernel)) ggX8_forward_X8_signature
set_option maxRecDepth 20000 in
theorem ggX8_forward_X8_letter : GoodIn wsX8_forward wsX8_letter := goodIn_r _ [24, 25, 26, 27, 28, 29, 30, 31, 32, 33, 34, 35, 36, 37, 38, 39, 40, 41, 42, 43, 44, 45, 46, 47, 48, 49, 50, 51, 52, 53, 54, 55, 56, 57, 58, 59, 60, 61, 62, 63, 64, 65, 66, 67, 68] (by decide +kernel) (by decide +kernel)
set_option maxRecDepth 20000 in
theorem gX8_forward_X8_letter : GoodIn wsX8_forward (wsV RX8 141 RX8 yX8_letter wsX8_letter) := goodIn_app (goodIn_of _ (by decide +kernel)) ggX8_forward_X8_letter
theorem dX8_forward_0 : decode cX8_forward 0 = .ok (.aload_n 0, 1) := by decide +kernel
theorem dX8_forward_1 : decode cX8_forward 1 = .ok (.aload_n 0, 1) := by decide +kernel
theorem dX8_forward_2 : decode cX8_forward 2 = .ok (.iload_n 1, 1) := by decide +kernel
theorem dX8_forward_3 : decode cX8_forward 3 = .ok (.invokevirtual 145, 3) := by decide +kernel
theorem dX8_forward_6 : decode cX8_forward 6 = .ok (.ifCond .eq 7, 3) := by decide +kernel
theorem dX8_forward_9 : decode cX8_forward 9 = .ok (.iconst 1, 1) := by decide +kernel
theorem dX8_forward_10 : decode cX8_forward 10 = .ok (.goto 4, 3) := by decide +kernel
theorem dX8_forward_13 : decode cX8_forward 13 = .ok (.iconst 0, 1) := by decide +kernel
theorem dX8_forward_14 : decode cX8_forward 14 = .ok (.putfield 102, 3) := by decide +kernel
theorem dX8_forward_17 : decode cX8_forward 17 = .ok (.iconst 0, 1) := by decide +kernel
theorem dX8_forward_18 : decode cX8_forward 18 = .ok (.istore_n 2, 1) := by decide +kernel
theorem dX8_forward_19 : decode cX8_forward 19 = .ok (.iconst 0, 1) := by decide +kernel
theorem dX8_forward_20 : decode cX8_forward 20 = .ok (.istore_n 3, 1) := by decide +kernel
theorem dX8_forward_21 : decode cX8_forward 21 = .ok (.iload_n 3, 1) := by decide +kernel
theorem dX8_forward_22 : decode cX8_forward 22 = .ok (.aload_n 0, 1) := by decide +kernel
theorem dX8_forward_23 : decode cX8_forward 23 = .ok (.getfield 70, 3) := by decide +kernel
theorem dX8_forward_26 : decode cX8_forward 26 = .ok (.aload_n 0, 1) := by decide +kernel
theorem dX8_forward_27 : decode cX8_forward 27 = .ok (.getfield 102, 3) := by decide +kernel
theorem dX8_forward_30 : decode cX8_forward 30 = .ok (.ifCond .le 7, 3) := by decide +kernel
theorem dX8_forward_33 : decode cX8_forward 33 = .ok (.iconst 0, 1) := by decide +kernel
theorem dX8_forward_34 : decode cX8_forward 34 = .ok (.goto 4, 3) := by decide +kernel
theorem dX8_forward_37 : decode cX8_forward 37 = .ok (.iload_n 1, 1) := by decide +kernel
theorem dX8_forward_38 : decode cX8_forward 38 = .ok (.iaload, 1) := by decide +kernel
theorem dX8_forward_39 : decode cX8_forward 39 = .ok (.if_icmp .ge 143, 3) := by decide +kernel
theorem dX8_forward_42 : decode cX8_forward 42 = .ok (.aload_n 0, 1) := by decide +kernel
theorem dX8_forward_43 : decode cX8_forward 43 = .ok (.getfield 102, 3) := by decide +kernel
theorem dX8_forward_46 : decode cX8_forward 46 = .ok (.ifCond .ne 136, 3) := by decide +kernel
theorem dX8_forward_49 : decode cX8_forward 49 = .ok (.sipush 300, 3) := by decide +kernel
theorem dX8_forward_52 : decode cX8_forward 52 = .ok (.iload_n 1, 1) := by decide +kernel
theorem dX8_forward_53 : decode cX8_forward 53 = .ok (.imul, 1) := by decide +kernel
theorem dX8_forward_54 : decode cX8_forward 54 = .ok (.iload_n 3, 1) := by decide +kernel
theorem dX8_forward_55 : decode cX8_forward 55 = .ok (.iadd, 1) := by decide +kernel
theorem dX8_forward_56 : decode cX8_forward 56 = .ok (.istore 4, 2) := by decide +kernel
theorem dX8_forward_58 : decode cX8_forward 58 = .ok (.aload_n 0, 1) := by decide +kernel
theorem dX8_forward_59 : decode cX8_forward 59 = .ok (.getfield 82, 3) := by decide +kernel
theorem dX8_forward_62 : decode cX8_forward 62 = .ok (.iload 4, 2) := by decide +kernel
theorem dX8_forward_64 : decode cX8_forward 64 = .ok (.baload, 1) := by decide +kernel
theorem dX8_forward_65 : decode cX8_forward 65 = .ok (.ifCond .eq 6, 3) := by decide +kernel
theorem dX8_forward_68 : decode cX8_forward 68 = .ok (.goto 108, 3) := by decide +kernel
theorem dX8_forward_71 : decode cX8_forward 71 = .ok (.aload_n 0, 1) := by decide +kernel
theorem dX8_forward_72 : decode cX8_forward 72 = .ok (.getfield 82, 3) := by decide +kernel
theorem dX8_forward_75 : decode cX8_forward 75 = .ok (.iload 4, 2) := by decide +kernel
theorem dX8_forward_77 : decode cX8_forward 77 = .ok (.iconst 1, 1) := by decide +kernel
theorem dX8_forward_78 : decode cX8_forward 78 = .ok (.bastore, 1) := by decide +kernel
theorem dX8_forward_79 : decode cX8_forward 79 = .ok (.iconst 1, 1) := by decide +kernel
theorem dX8_forward_80 : decode cX8_forward 80 = .ok (.istore 5, 2) := by decide +kernel
theorem dX8_forward_82 : decode cX8_forward 82 = .ok (.iload 5, 2) := by decide +kernel
theorem dX8_forward_84 : decode cX8_forward 84 = .ok (.iconst 3, 1) := by decide +kernel
theorem dX8_forward_85 : decode cX8_forward 85 = .ok (.if_icmp .ge 91, 3) := by decide +kernel
theorem dX8_forward_88 : decode cX8_forward 88 = .ok (.aload_n 0, 1) := by decide +kernel
theorem dX8_forward_89 : decode cX8_forward 89 = .ok (.getfield 73, 3) := by decide +kernel
theorem dX8_forward_92 : decode cX8_forward 92 = .ok (.iload 4, 2) := by decide +kernel
theorem dX8_forward_94 : decode cX8_forward 94 = .ok (.iaload, 1) := by decide +kernel
theorem dX8_forward_95 : decode cX8_forward 95 = .ok (.iload 5, 2) := by decide +kernel
theorem dX8_forward_97 : decode cX8_forward 97 = .ok (.iadd, 1) := by decide +kernel
theorem dX8_forward_98 : decode cX8_forward 98 = .ok (.aload_n 0, 1) := by decide +kernel
theorem dX8_forward_99 : decode cX8_forward 99 = .ok (.getfield 7, 3) := by decide +kernel
theorem dX8_forward_102 : decode cX8_forward 102 = .ok (.irem, 1) := by decide +kernel
theorem dX8_forward_103 : decode cX8_forward 103 = .ok (.istore 6, 2) := by decide +kernel
theorem dX8_forward_105 : decode cX8_forward 105 = .ok (.iload 6, 2) := by decide +kernel
theorem dX8_forward_107 : decode cX8_forward 107 = .ok (.iload_n 1, 1) := by decide +kernel
theorem dX8_forward_108 : decode cX8_forward 108 = .ok (.if_icmp .ne 6, 3) := by decide +kernel
theorem dX8_forward_111 : decode cX8_forward 111 = .ok (.goto 59, 3) := by decide +kernel
theorem dX8_forward_114 : decode cX8_forward 114 = .ok (.aload_n 0, 1) := by decide +kernel
theorem dX8_forward_115 : decode cX8_forward 115 = .ok (.iconst 2, 1) := by decide +kernel
theorem dX8_forward_116 : decode cX8_forward 116 = .ok (.iload 6, 2) := by decide +kernel
theorem dX8_forward_118 : decode cX8_forward 118 = .ok (.aload_n 0, 1) := by decide +kernel
theorem dX8_forward_119 : decode cX8_forward 119 = .ok (.getfield 73, 3) := by decide +kernel
theorem dX8_forward_122 : decode cX8_forward 122 = .ok (.iload 4, 2) := by decide +kernel
theorem dX8_forward_124 : decode cX8_forward 124 = .ok (.iaload, 1) := by decide +kernel
theorem dX8_forward_125 : decode cX8_forward 125 = .ok (.iconst 0, 1) := by decide +kernel
theorem dX8_forward_126 : decode cX8_forward 126 = .ok (.aload_n 0, 1) := by decide +kernel
theorem dX8_forward_127 : decode cX8_forward 127 = .ok (.getfield 76, 3) := by decide +kernel
theorem dX8_forward_130 : decode cX8_forward 130 = .ok (.iload 4, 2) := by decide +kernel
theorem dX8_forward_132 : decode cX8_forward 132 = .ok (.iaload, 1) := by decide +kernel
theorem dX8_forward_133 : decode cX8_forward 133 = .ok (.aload_n 0, 1) := by decide +kernel
theorem dX8_forward_134 : decode cX8_forward 134 = .ok (.getfield 79, 3) := by decide +kernel
theorem dX8_forward_137 : decode cX8_forward 137 = .ok (.iload 4, 2) := by decide +kernel
theorem dX8_forward_139 : decode cX8_forward 139 = .ok (.laload, 1) := by decide +kernel
theorem dX8_forward_140 : decode cX8_forward 140 = .ok (.aload_n 0, 1) := by decide +kernel
theorem dX8_forward_141 : decode cX8_forward 141 = .ok (.getfield 73, 3) := by decide +kernel
theorem dX8_forward_144 : decode cX8_forward 144 = .ok (.iload 4, 2) := by decide +kernel
theorem dX8_forward_146 : decode cX8_forward 146 = .ok (.iaload, 1) := by decide +kernel
theorem dX8_forward_147 : decode cX8_forward 147 = .ok (.aload_n 0, 1) := by decide +kernel
theorem dX8_forward_148 : decode cX8_forward 148 = .ok (.getfield 76, 3) := by decide +kernel
theorem dX8_forward_151 : decode cX8_forward 151 = .ok (.iload 4, 2) := by decide +kernel
theorem dX8_forward_153 : decode cX8_forward 153 = .ok (.iaload, 1) := by decide +kernel
theorem dX8_forward_154 : decode cX8_forward 154 = .ok (.aload_n 0, 1) := by decide +kernel
theorem dX8_forward_155 : decode cX8_forward 155 = .ok (.getfield 79, 3) := by decide +kernel
theorem dX8_forward_158 : decode cX8_forward 158 = .ok (.iload 4, 2) := by decide +kernel
theorem dX8_forward_160 : decode cX8_forward 160 = .ok (.laload, 1) := by decide +kernel
theorem dX8_forward_161 : decode cX8_forward 161 = .ok (.invokestatic 137, 3) := by decide +kernel
theorem dX8_forward_164 : decode cX8_forward 164 = .ok (.invokevirtual 141, 3) := by decide +kernel
theorem dX8_forward_167 : decode cX8_forward 167 = .ok (.iinc 2 1, 3) := by decide +kernel
theorem dX8_forward_170 : decode cX8_forward 170 = .ok (.iinc 5 1, 3) := by decide +kernel
theorem dX8_forward_173 : decode cX8_forward 173 = .ok (.goto (-91), 3) := by decide +kernel
theorem dX8_forward_176 : decode cX8_forward 176 = .ok (.iinc 3 1, 3) := by decide +kernel
theorem dX8_forward_179 : decode cX8_forward 179 = .ok (.goto (-158), 3) := by decide +kernel
theorem dX8_forward_182 : decode cX8_forward 182 = .ok (.iload_n 2, 1) := by decide +kernel
theorem dX8_forward_183 : decode cX8_forward 183 = .ok (.ireturn, 1) := by decide +kernel
set_option maxRecDepth 20000 in
theorem ggX8_bend_X8_no : GoodIn wsX8_bend wsX8_no := goodIn_r _ [8, 9, 10, 11, 12, 13, 14, 15, 16, 17, 18, 19, 20, 21, 22, 23, 24, 25, 26, 27, 28, 29, 30, 31, 32, 33, 34, 35, 36, 37, 38, 39, 40, 41, 42, 43, 44] (by decide +kernel) (by decide +kernel)
set_option maxRecDepth 20000 in
theorem gX8_bend_X8_no : GoodIn wsX8_bend (wsV RX8 145 RX8 yX8_no wsX8_no) := goodIn_app (goodIn_of _ (by decide +kernel)) ggX8_bend_X8_no
theorem dX8_bend_0 : decode cX8_bend 0 = .ok (.aload_n 0, 1) := by decide +kernel
theorem dX8_bend_1 : decode cX8_bend 1 = .ok (.aload_n 0, 1) := by decide +kernel
theorem dX8_bend_2 : decode cX8_bend 2 = .ok (.iload_n 1, 1) := by decide +kernel
theorem dX8_bend_3 : decode cX8_bend 3 = .ok (.invokevirtual 145, 3) := by decide +kernel
theorem dX8_bend_6 : decode cX8_bend 6 = .ok (.ifCond .ne 8, 3) := by decide +kernel
theorem dX8_bend_9 : decode cX8_bend 9 = .ok (.iload_n 2, 1) := by decide +kernel
theorem dX8_bend_10 : decode cX8_bend 10 = .ok (.iconst 1, 1) := by decide +kernel
theorem dX8_bend_11 : decode cX8_bend 11 = .ok (.if_icmp .ge 7, 3) := by decide +kernel
theorem dX8_bend_14 : decode cX8_bend 14 = .ok (.iconst 1, 1) := by decide +kernel
theorem dX8_bend_15 : decode cX8_bend 15 = .ok (.goto 18, 3) := by decide +kernel
theorem dX8_bend_18 : decode cX8_bend 18 = .ok (.iload_n 2, 1) := by decide +kernel
theorem dX8_bend_19 : decode cX8_bend 19 = .ok (.aload_n 0, 1) := by decide +kernel
theorem dX8_bend_20 : decode cX8_bend 20 = .ok (.getfield 20, 3) := by decide +kernel
theorem dX8_bend_23 : decode cX8_bend 23 = .ok (.iload_n 1, 1) := by decide +kernel
theorem dX8_bend_24 : decode cX8_bend 24 = .ok (.iaload, 1) := by decide +kernel
theorem dX8_bend_25 : decode cX8_bend 25 = .ok (.if_icmp .le 7, 3) := by decide +kernel
theorem dX8_bend_28 : decode cX8_bend 28 = .ok (.iconst 1, 1) := by decide +kernel
theorem dX8_bend_29 : decode cX8_bend 29 = .ok (.goto 4, 3) := by decide +kernel
theorem dX8_bend_32 : decode cX8_bend 32 = .ok (.iconst 0, 1) := by decide +kernel
theorem dX8_bend_33 : decode cX8_bend 33 = .ok (.putfield 102, 3) := by decide +kernel
theorem dX8_bend_36 : decode cX8_bend 36 = .ok (.aload_n 0, 1) := by decide +kernel
theorem dX8_bend_37 : decode cX8_bend 37 = .ok (.getfield 102, 3) := by decide +kernel
theorem dX8_bend_40 : decode cX8_bend 40 = .ok (.ifCond .le 5, 3) := by decide +kernel
theorem dX8_bend_43 : decode cX8_bend 43 = .ok (.iconst 0, 1) := by decide +kernel
theorem dX8_bend_44 : decode cX8_bend 44 = .ok (.ireturn, 1) := by decide +kernel
theorem dX8_bend_45 : decode cX8_bend 45 = .ok (.aload_n 0, 1) := by decide +kernel
theorem dX8_bend_46 : decode cX8_bend 46 = .ok (.getfield 29, 3) := by decide +kernel
theorem dX8_bend_49 : decode cX8_bend 49 = .ok (.sipush 151, 3) := by decide +kernel
theorem dX8_bend_52 : decode cX8_bend 52 = .ok (.iload_n 1, 1) := by decide +kernel
theorem dX8_bend_53 : decode cX8_bend 53 = .ok (.imul, 1) := by decide +kernel
theorem dX8_bend_54 : decode cX8_bend 54 = .ok (.iload_n 2, 1) := by decide +kernel
theorem dX8_bend_55 : decode cX8_bend 55 = .ok (.iadd, 1) := by decide +kernel
theorem dX8_bend_56 : decode cX8_bend 56 = .ok (.iconst 1, 1) := by decide +kernel
theorem dX8_bend_57 : decode cX8_bend 57 = .ok (.isub, 1) := by decide +kernel
theorem dX8_bend_58 : decode cX8_bend 58 = .ok (.iaload, 1) := by decide +kernel
theorem dX8_bend_59 : decode cX8_bend 59 = .ok (.istore 4, 2) := by decide +kernel
theorem dX8_bend_61 : decode cX8_bend 61 = .ok (.aload_n 0, 1) := by decide +kernel
theorem dX8_bend_62 : decode cX8_bend 62 = .ok (.getfield 29, 3) := by decide +kernel
theorem dX8_bend_65 : decode cX8_bend 65 = .ok (.sipush 151, 3) := by decide +kernel
theorem dX8_bend_68 : decode cX8_bend 68 = .ok (.iload_n 1, 1) := by decide +kernel
theorem dX8_bend_69 : decode cX8_bend 69 = .ok (.imul, 1) := by decide +kernel
theorem dX8_bend_70 : decode cX8_bend 70 = .ok (.iload_n 2, 1) := by decide +kernel
theorem dX8_bend_71 : decode cX8_bend 71 = .ok (.iadd, 1) := by decide +kernel
theorem dX8_bend_72 : decode cX8_bend 72 = .ok (.iconst 1, 1) := by decide +kernel
theorem dX8_bend_73 : decode cX8_bend 73 = .ok (.isub, 1) := by decide +kernel
theorem dX8_bend_74 : decode cX8_bend 74 = .ok (.iload_n 3, 1) := by decide +kernel
theorem dX8_bend_75 : decode cX8_bend 75 = .ok (.iastore, 1) := by decide +kernel
theorem dX8_bend_76 : decode cX8_bend 76 = .ok (.iload 4, 2) := by decide +kernel
theorem dX8_bend_78 : decode cX8_bend 78 = .ok (.ireturn, 1) := by decide +kernel
set_option maxRecDepth 20000 in
theorem ggX8_cut_X8_no : GoodIn wsX8_cut wsX8_no := goodIn_r _ [7, 8, 9, 10, 11, 12, 13, 14, 15, 16, 17, 18, 19, 20, 21, 22, 23, 24, 25, 26, 27, 28, 29, 30, 31, 32, 33, 34, 35, 36, 37, 38, 39, 40, 41, 42, 43] (by decide +kernel) (by decide +kernel)
set_option maxRecDepth 20000 in
theorem gX8_cut_X8_no : GoodIn wsX8_cut (wsV RX8 145 RX8 yX8_no wsX8_no) := goodIn_app (goodIn_of _ (by decide +kernel)) ggX8_cut_X8_no
theorem dX8_cut_0 : decode cX8_cut 0 = .ok (.aload_n 0, 1) := by decide +kernel
theorem dX8_cut_1 : decode cX8_cut 1 = .ok (.aload_n 0, 1) := by decide +kernel
theorem dX8_cut_2 : decode cX8_cut 2 = .ok (.iload_n 1, 1) := by decide +kernel
theorem dX8_cut_3 : decode cX8_cut 3 = .ok (.invokevirtual 145, 3) := by decide +kernel
theorem dX8_cut_6 : decode cX8_cut 6 = .ok (.ifCond .ne 7, 3) := by decide +kernel
theorem dX8_cut_9 : decode cX8_cut 9 = .ok (.iload_n 2, 1) := by decide +kernel
theorem dX8_cut_10 : decode cX8_cut 10 = .ok (.ifCond .ge 7, 3) := by decide +kernel
theorem dX8_cut_13 : decode cX8_cut 13 = .ok (.iconst 1, 1) := by decide +kernel
theorem dX8_cut_14 : decode cX8_cut 14 = .ok (.goto 18, 3) := by decide +kernel
theorem dX8_cut_17 : decode cX8_cut 17 = .ok (.iload_n 2, 1) := by decide +kernel
theorem dX8_cut_18 : decode cX8_cut 18 = .ok (.aload_n 0, 1) := by decide +kernel
theorem dX8_cut_19 : decode cX8_cut 19 = .ok (.getfield 20, 3) := by decide +kernel
theorem dX8_cut_22 : decode cX8_cut 22 = .ok (.iload_n 1, 1) := by decide +kernel
theorem dX8_cut_23 : decode cX8_cut 23 = .ok (.iaload, 1) := by decide +kernel
theorem dX8_cut_24 : decode cX8_cut 24 = .ok (.if_icmp .le 7, 3) := by decide +kernel
theorem dX8_cut_27 : decode cX8_cut 27 = .ok (.iconst 1, 1) := by decide +kernel
theorem dX8_cut_28 : decode cX8_cut 28 = .ok (.goto 4, 3) := by decide +kernel
theorem dX8_cut_31 : decode cX8_cut 31 = .ok (.iconst 0, 1) := by decide +kernel
theorem dX8_cut_32 : decode cX8_cut 32 = .ok (.putfield 102, 3) := by decide +kernel
theorem dX8_cut_35 : decode cX8_cut 35 = .ok (.aload_n 0, 1) := by decide +kernel
theorem dX8_cut_36 : decode cX8_cut 36 = .ok (.getfield 102, 3) := by decide +kernel
theorem dX8_cut_39 : decode cX8_cut 39 = .ok (.ifCond .le 5, 3) := by decide +kernel
theorem dX8_cut_42 : decode cX8_cut 42 = .ok (.iconst 0, 1) := by decide +kernel
theorem dX8_cut_43 : decode cX8_cut 43 = .ok (.ireturn, 1) := by decide +kernel
theorem dX8_cut_44 : decode cX8_cut 44 = .ok (.aload_n 0, 1) := by decide +kernel
theorem dX8_cut_45 : decode cX8_cut 45 = .ok (.getfield 20, 3) := by decide +kernel
theorem dX8_cut_48 : decode cX8_cut 48 = .ok (.iload_n 1, 1) := by decide +kernel
theorem dX8_cut_49 : decode cX8_cut 49 = .ok (.iaload, 1) := by decide +kernel
theorem dX8_cut_50 : decode cX8_cut 50 = .ok (.iload_n 2, 1) := by decide +kernel
theorem dX8_cut_51 : decode cX8_cut 51 = .ok (.isub, 1) := by decide +kernel
theorem dX8_cut_52 : decode cX8_cut 52 = .ok (.istore_n 3, 1) := by decide +kernel
theorem dX8_cut_53 : decode cX8_cut 53 = .ok (.aload_n 0, 1) := by decide +kernel
theorem dX8_cut_54 : decode cX8_cut 54 = .ok (.getfield 20, 3) := by decide +kernel
theorem dX8_cut_57 : decode cX8_cut 57 = .ok (.iload_n 1, 1) := by decide +kernel
theorem dX8_cut_58 : decode cX8_cut 58 = .ok (.iload_n 2, 1) := by decide +kernel
theorem dX8_cut_59 : decode cX8_cut 59 = .ok (.iastore, 1) := by decide +kernel
theorem dX8_cut_60 : decode cX8_cut 60 = .ok (.iload_n 3, 1) := by decide +kernel
theorem dX8_cut_61 : decode cX8_cut 61 = .ok (.ireturn, 1) := by decide +kernel
set_option maxRecDepth 20000 in
theorem ggX8_hide_X8_no : GoodIn wsX8_hide wsX8_no := goodIn_r _ [7, 8, 9, 10, 11, 12, 13, 14, 15, 16, 17, 18, 19, 20, 21, 22, 23, 24, 25, 26, 27, 28, 29, 30, 31, 32, 33, 34, 35, 36, 37, 38, 39, 40, 41, 42, 43] (by decide +kernel) (by decide +kernel)
set_option maxRecDepth 20000 in
theorem gX8_hide_X8_no : GoodIn wsX8_hide (wsV RX8 145 RX8 yX8_no wsX8_no) := goodIn_app (goodIn_of _ (by decide +kernel)) ggX8_hide_X8_no
theorem dX8_hide_0 : decode cX8_hide 0 = .ok (.aload_n 0, 1) := by decide +kernel
theorem dX8_hide_1 : decode cX8_hide 1 = .ok (.aload_n 0, 1) := by decide +kernel
theorem dX8_hide_2 : decode cX8_hide 2 = .ok (.iload_n 1, 1) := by decide +kernel
theorem dX8_hide_3 : decode cX8_hide 3 = .ok (.invokevirtual 145, 3) := by decide +kernel
theorem dX8_hide_6 : decode cX8_hide 6 = .ok (.ifCond .eq 7, 3) := by decide +kernel
theorem dX8_hide_9 : decode cX8_hide 9 = .ok (.iconst 1, 1) := by decide +kernel
theorem dX8_hide_10 : decode cX8_hide 10 = .ok (.goto 4, 3) := by decide +kernel
theorem dX8_hide_13 : decode cX8_hide 13 = .ok (.iconst 0, 1) := by decide +kernel
theorem dX8_hide_14 : decode cX8_hide 14 = .ok (.putfield 102, 3) := by decide +kernel
theorem dX8_hide_17 : decode cX8_hide 17 = .ok (.aload_n 0, 1) := by decide +kernel
theorem dX8_hide_18 : decode cX8_hide 18 = .ok (.getfield 102, 3) := by decide +kernel
theorem dX8_hide_21 : decode cX8_hide 21 = .ok (.ifCond .le 5, 3) := by decide +kernel
theorem dX8_hide_24 : decode cX8_hide 24 = .ok (.iconst 0, 1) := by decide +kernel
theorem dX8_hide_25 : decode cX8_hide 25 = .ok (.ireturn, 1) := by decide +kernel
theorem dX8_hide_26 : decode cX8_hide 26 = .ok (.aload_n 0, 1) := by decide +kernel
theorem dX8_hide_27 : decode cX8_hide 27 = .ok (.getfield 32, 3) := by decide +kernel
theorem dX8_hide_30 : decode cX8_hide 30 = .ok (.iload_n 1, 1) := by decide +kernel
theorem dX8_hide_31 : decode cX8_hide 31 = .ok (.baload, 1) := by decide +kernel
theorem dX8_hide_32 : decode cX8_hide 32 = .ok (.istore_n 3, 1) := by decide +kernel
theorem dX8_hide_33 : decode cX8_hide 33 = .ok (.aload_n 0, 1) := by decide +kernel
theorem dX8_hide_34 : decode cX8_hide 34 = .ok (.getfield 32, 3) := by decide +kernel
theorem dX8_hide_37 : decode cX8_hide 37 = .ok (.iload_n 1, 1) := by decide +kernel
theorem dX8_hide_38 : decode cX8_hide 38 = .ok (.iload_n 2, 1) := by decide +kernel
theorem dX8_hide_39 : decode cX8_hide 39 = .ok (.bastore, 1) := by decide +kernel
theorem dX8_hide_40 : decode cX8_hide 40 = .ok (.iload_n 3, 1) := by decide +kernel
theorem dX8_hide_41 : decode cX8_hide 41 = .ok (.ireturn, 1) := by decide +kernel
