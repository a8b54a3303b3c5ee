/-! every instruction of the tables, by its place -/
theorem pm_a143_0 : pm_as (pm_cd pm_mm143) 0 = some (.aload_n 0, 1) := by decide +kernel
theorem pm_a143_1 : pm_as (pm_cd pm_mm143) 1 = some (.invokespecial 1, 3) := by decide +kernel
theorem pm_a143_4 : pm_as (pm_cd pm_mm143) 4 = some (.aload_n 0, 1) := by decide +kernel
theorem pm_a143_5 : pm_as (pm_cd pm_mm143) 5 = some (.bipush 32, 2) := by decide +kernel
theorem pm_a143_7 : pm_as (pm_cd pm_mm143) 7 = some (.newarray .int, 2) := by decide +kernel
theorem pm_a143_9 : pm_as (pm_cd pm_mm143) 9 = some (.putfield 7, 3) := by decide +kernel
theorem pm_a143_12 : pm_as (pm_cd pm_mm143) 12 = some (.aload_n 0, 1) := by decide +kernel
theorem pm_a143_13 : pm_as (pm_cd pm_mm143) 13 = some (.sipush 16000, 3) := by decide +kernel
theorem pm_a143_16 : pm_as (pm_cd pm_mm143) 16 = some (.newarray .int, 2) := by decide +kernel
theorem pm_a143_18 : pm_as (pm_cd pm_mm143) 18 = some (.putfield 13, 3) := by decide +kernel
theorem pm_a143_21 : pm_as (pm_cd pm_mm143) 21 = some (.aload_n 0, 1) := by decide +kernel
theorem pm_a143_22 : pm_as (pm_cd pm_mm143) 22 = some (.sipush 600, 3) := by decide +kernel
theorem pm_a143_25 : pm_as (pm_cd pm_mm143) 25 = some (.newarray .int, 2) := by decide +kernel
theorem pm_a143_27 : pm_as (pm_cd pm_mm143) 27 = some (.putfield 16, 3) := by decide +kernel
theorem pm_a143_30 : pm_as (pm_cd pm_mm143) 30 = some (.aload_n 0, 1) := by decide +kernel
theorem pm_a143_31 : pm_as (pm_cd pm_mm143) 31 = some (.sipush 12000, 3) := by decide +kernel
theorem pm_a143_34 : pm_as (pm_cd pm_mm143) 34 = some (.newarray .int, 2) := by decide +kernel
theorem pm_a143_36 : pm_as (pm_cd pm_mm143) 36 = some (.putfield 19, 3) := by decide +kernel
theorem pm_a143_39 : pm_as (pm_cd pm_mm143) 39 = some (.aload_n 0, 1) := by decide +kernel
theorem pm_a143_40 : pm_as (pm_cd pm_mm143) 40 = some (.sipush 12000, 3) := by decide +kernel
theorem pm_a143_43 : pm_as (pm_cd pm_mm143) 43 = some (.newarray .int, 2) := by decide +kernel
theorem pm_a143_45 : pm_as (pm_cd pm_mm143) 45 = some (.putfield 22, 3) := by decide +kernel
theorem pm_a143_48 : pm_as (pm_cd pm_mm143) 48 = some (.aload_n 0, 1) := by decide +kernel
theorem pm_a143_49 : pm_as (pm_cd pm_mm143) 49 = some (.sipush 12000, 3) := by decide +kernel
theorem pm_a143_52 : pm_as (pm_cd pm_mm143) 52 = some (.newarray .int, 2) := by decide +kernel
theorem pm_a143_54 : pm_as (pm_cd pm_mm143) 54 = some (.putfield 25, 3) := by decide +kernel
theorem pm_a143_57 : pm_as (pm_cd pm_mm143) 57 = some (.aload_n 0, 1) := by decide +kernel
theorem pm_a143_58 : pm_as (pm_cd pm_mm143) 58 = some (.bipush 90, 2) := by decide +kernel
theorem pm_a143_60 : pm_as (pm_cd pm_mm143) 60 = some (.newarray .int, 2) := by decide +kernel
theorem pm_a143_62 : pm_as (pm_cd pm_mm143) 62 = some (.putfield 28, 3) := by decide +kernel
theorem pm_a143_65 : pm_as (pm_cd pm_mm143) 65 = some (.aload_n 0, 1) := by decide +kernel
theorem pm_a143_66 : pm_as (pm_cd pm_mm143) 66 = some (.bipush 90, 2) := by decide +kernel
theorem pm_a143_68 : pm_as (pm_cd pm_mm143) 68 = some (.newarray .boolean, 2) := by decide +kernel
theorem pm_a143_70 : pm_as (pm_cd pm_mm143) 70 = some (.putfield 31, 3) := by decide +kernel
theorem pm_a143_73 : pm_as (pm_cd pm_mm143) 73 = some (.aload_n 0, 1) := by decide +kernel
theorem pm_a143_74 : pm_as (pm_cd pm_mm143) 74 = some (.bipush 90, 2) := by decide +kernel
theorem pm_a143_76 : pm_as (pm_cd pm_mm143) 76 = some (.newarray .int, 2) := by decide +kernel
theorem pm_a143_78 : pm_as (pm_cd pm_mm143) 78 = some (.putfield 35, 3) := by decide +kernel
theorem pm_a143_81 : pm_as (pm_cd pm_mm143) 81 = some (.aload_n 0, 1) := by decide +kernel
theorem pm_a143_82 : pm_as (pm_cd pm_mm143) 82 = some (.bipush 41, 2) := by decide +kernel
theorem pm_a143_84 : pm_as (pm_cd pm_mm143) 84 = some (.newarray .long, 2) := by decide +kernel
theorem pm_a143_86 : pm_as (pm_cd pm_mm143) 86 = some (.putfield 38, 3) := by decide +kernel
theorem pm_a143_89 : pm_as (pm_cd pm_mm143) 89 = some (.aload_n 0, 1) := by decide +kernel
theorem pm_a143_90 : pm_as (pm_cd pm_mm143) 90 = some (.sipush 6000, 3) := by decide +kernel
theorem pm_a143_93 : pm_as (pm_cd pm_mm143) 93 = some (.newarray .int, 2) := by decide +kernel
theorem pm_a143_95 : pm_as (pm_cd pm_mm143) 95 = some (.putfield 42, 3) := by decide +kernel
theorem pm_a143_98 : pm_as (pm_cd pm_mm143) 98 = some (.aload_n 0, 1) := by decide +kernel
theorem pm_a143_99 : pm_as (pm_cd pm_mm143) 99 = some (.sipush 501, 3) := by decide +kernel
theorem pm_a143_102 : pm_as (pm_cd pm_mm143) 102 = some (.newarray .boolean, 2) := by decide +kernel
theorem pm_a143_104 : pm_as (pm_cd pm_mm143) 104 = some (.putfield 45, 3) := by decide +kernel
theorem pm_a143_107 : pm_as (pm_cd pm_mm143) 107 = some (.aload_n 0, 1) := by decide +kernel
theorem pm_a143_108 : pm_as (pm_cd pm_mm143) 108 = some (.sipush 501, 3) := by decide +kernel
theorem pm_a143_111 : pm_as (pm_cd pm_mm143) 111 = some (.newarray .boolean, 2) := by decide +kernel
theorem pm_a143_113 : pm_as (pm_cd pm_mm143) 113 = some (.putfield 48, 3) := by decide +kernel
theorem pm_a143_116 : pm_as (pm_cd pm_mm143) 116 = some (.aload_n 0, 1) := by decide +kernel
theorem pm_a143_117 : pm_as (pm_cd pm_mm143) 117 = some (.sipush 501, 3) := by decide +kernel
theorem pm_a143_120 : pm_as (pm_cd pm_mm143) 120 = some (.newarray .int, 2) := by decide +kernel
theorem pm_a143_122 : pm_as (pm_cd pm_mm143) 122 = some (.putfield 51, 3) := by decide +kernel
theorem pm_a143_125 : pm_as (pm_cd pm_mm143) 125 = some (.aload_n 0, 1) := by decide +kernel
theorem pm_a143_126 : pm_as (pm_cd pm_mm143) 126 = some (.sipush 12000, 3) := by decide +kernel
theorem pm_a143_129 : pm_as (pm_cd pm_mm143) 129 = some (.newarray .int, 2) := by decide +kernel
theorem pm_a143_131 : pm_as (pm_cd pm_mm143) 131 = some (.putfield 54, 3) := by decide +kernel
theorem pm_a143_134 : pm_as (pm_cd pm_mm143) 134 = some (.aload_n 0, 1) := by decide +kernel
theorem pm_a143_135 : pm_as (pm_cd pm_mm143) 135 = some (.sipush 12000, 3) := by decide +kernel
theorem pm_a143_138 : pm_as (pm_cd pm_mm143) 138 = some (.newarray .int, 2) := by decide +kernel
theorem pm_a143_140 : pm_as (pm_cd pm_mm143) 140 = some (.putfield 57, 3) := by decide +kernel
theorem pm_a143_143 : pm_as (pm_cd pm_mm143) 143 = some (.aload_n 0, 1) := by decide +kernel
theorem pm_a143_144 : pm_as (pm_cd pm_mm143) 144 = some (.sipush 9000, 3) := by decide +kernel
theorem pm_a143_147 : pm_as (pm_cd pm_mm143) 147 = some (.newarray .int, 2) := by decide +kernel
theorem pm_a143_149 : pm_as (pm_cd pm_mm143) 149 = some (.putfield 60, 3) := by decide +kernel
theorem pm_a143_152 : pm_as (pm_cd pm_mm143) 152 = some (.aload_n 0, 1) := by decide +kernel
theorem pm_a143_153 : pm_as (pm_cd pm_mm143) 153 = some (.sipush 9000, 3) := by decide +kernel
theorem pm_a143_156 : pm_as (pm_cd pm_mm143) 156 = some (.newarray .int, 2) := by decide +kernel
theorem pm_a143_158 : pm_as (pm_cd pm_mm143) 158 = some (.putfield 63, 3) := by decide +kernel
theorem pm_a143_161 : pm_as (pm_cd pm_mm143) 161 = some (.aload_n 0, 1) := by decide +kernel
theorem pm_a143_162 : pm_as (pm_cd pm_mm143) 162 = some (.sipush 9000, 3) := by decide +kernel
theorem pm_a143_165 : pm_as (pm_cd pm_mm143) 165 = some (.newarray .int, 2) := by decide +kernel
theorem pm_a143_167 : pm_as (pm_cd pm_mm143) 167 = some (.putfield 66, 3) := by decide +kernel
theorem pm_a143_170 : pm_as (pm_cd pm_mm143) 170 = some (.aload_n 0, 1) := by decide +kernel
theorem pm_a143_171 : pm_as (pm_cd pm_mm143) 171 = some (.sipush 20000, 3) := by decide +kernel
theorem pm_a143_174 : pm_as (pm_cd pm_mm143) 174 = some (.newarray .int, 2) := by decide +kernel
theorem pm_a143_176 : pm_as (pm_cd pm_mm143) 176 = some (.putfield 69, 3) := by decide +kernel
theorem pm_a143_179 : pm_as (pm_cd pm_mm143) 179 = some (.aload_n 0, 1) := by decide +kernel
theorem pm_a143_180 : pm_as (pm_cd pm_mm143) 180 = some (.sipush 20000, 3) := by decide +kernel
theorem pm_a143_183 : pm_as (pm_cd pm_mm143) 183 = some (.newarray .int, 2) := by decide +kernel
theorem pm_a143_185 : pm_as (pm_cd pm_mm143) 185 = some (.putfield 72, 3) := by decide +kernel
theorem pm_a143_188 : pm_as (pm_cd pm_mm143) 188 = some (.aload_n 0, 1) := by decide +kernel
theorem pm_a143_189 : pm_as (pm_cd pm_mm143) 189 = some (.sipush 9000, 3) := by decide +kernel
theorem pm_a143_192 : pm_as (pm_cd pm_mm143) 192 = some (.newarray .int, 2) := by decide +kernel
theorem pm_a143_194 : pm_as (pm_cd pm_mm143) 194 = some (.putfield 75, 3) := by decide +kernel
theorem pm_a143_197 : pm_as (pm_cd pm_mm143) 197 = some (.aload_n 0, 1) := by decide +kernel
theorem pm_a143_198 : pm_as (pm_cd pm_mm143) 198 = some (.sipush 9000, 3) := by decide +kernel
theorem pm_a143_201 : pm_as (pm_cd pm_mm143) 201 = some (.newarray .int, 2) := by decide +kernel
theorem pm_a143_203 : pm_as (pm_cd pm_mm143) 203 = some (.putfield 78, 3) := by decide +kernel
theorem pm_a143_206 : pm_as (pm_cd pm_mm143) 206 = some (.aload_n 0, 1) := by decide +kernel
theorem pm_a143_207 : pm_as (pm_cd pm_mm143) 207 = some (.sipush 500, 3) := by decide +kernel
theorem pm_a143_210 : pm_as (pm_cd pm_mm143) 210 = some (.newarray .int, 2) := by decide +kernel
theorem pm_a143_212 : pm_as (pm_cd pm_mm143) 212 = some (.putfield 81, 3) := by decide +kernel
theorem pm_a143_215 : pm_as (pm_cd pm_mm143) 215 = some (.aload_n 0, 1) := by decide +kernel
theorem pm_a143_216 : pm_as (pm_cd pm_mm143) 216 = some (.sipush 500, 3) := by decide +kernel
theorem pm_a143_219 : pm_as (pm_cd pm_mm143) 219 = some (.newarray .int, 2) := by decide +kernel
theorem pm_a143_221 : pm_as (pm_cd pm_mm143) 221 = some (.putfield 84, 3) := by decide +kernel
theorem pm_a143_224 : pm_as (pm_cd pm_mm143) 224 = some (.aload_n 0, 1) := by decide +kernel
theorem pm_a143_225 : pm_as (pm_cd pm_mm143) 225 = some (.sipush 501, 3) := by decide +kernel
theorem pm_a143_228 : pm_as (pm_cd pm_mm143) 228 = some (.newarray .int, 2) := by decide +kernel
theorem pm_a143_230 : pm_as (pm_cd pm_mm143) 230 = some (.putfield 87, 3) := by decide +kernel
theorem pm_a143_233 : pm_as (pm_cd pm_mm143) 233 = some (.aload_n 0, 1) := by decide +kernel
theorem pm_a143_234 : pm_as (pm_cd pm_mm143) 234 = some (.sipush 501, 3) := by decide +kernel
theorem pm_a143_237 : pm_as (pm_cd pm_mm143) 237 = some (.newarray .int, 2) := by decide +kernel
theorem pm_a143_239 : pm_as (pm_cd pm_mm143) 239 = some (.putfield 90, 3) := by decide +kernel
theorem pm_a143_242 : pm_as (pm_cd pm_mm143) 242 = some (.aload_n 0, 1) := by decide +kernel
theorem pm_a143_243 : pm_as (pm_cd pm_mm143) 243 = some (.sipush 500, 3) := by decide +kernel
theorem pm_a143_246 : pm_as (pm_cd pm_mm143) 246 = some (.newarray .int, 2) := by decide +kernel
theorem pm_a143_248 : pm_as (pm_cd pm_mm143) 248 = some (.putfield 93, 3) := by decide +kernel
theorem pm_a143_251 : pm_as (pm_cd pm_mm143) 251 = some (.aload_n 0, 1) := by decide +kernel
theorem pm_a143_252 : pm_as (pm_cd pm_mm143) 252 = some (.sipush 500, 3) := by decide +kernel
theorem pm_a143_255 : pm_as (pm_cd pm_mm143) 255 = some (.newarray .int, 2) := by decide +kernel
theorem pm_a143_257 : pm_as (pm_cd pm_mm143) 257 = some (.putfield 96, 3) := by decide +kernel
theorem pm_a143_260 : pm_as (pm_cd pm_mm143) 260 = some (.aload_n 0, 1) := by decide +kernel
theorem pm_a143_261 : pm_as (pm_cd pm_mm143) 261 = some (.sipush 9000, 3) := by decide +kernel
theorem pm_a143_264 : pm_as (pm_cd pm_mm143) 264 = some (.newarray .int, 2) := by decide +kernel
theorem pm_a143_266 : pm_as (pm_cd pm_mm143) 266 = some (.putfield 99, 3) := by decide +kernel
theorem pm_a143_269 : pm_as (pm_cd pm_mm143) 269 = some (.aload_n 0, 1) := by decide +kernel
theorem pm_a143_270 : pm_as (pm_cd pm_mm143) 270 = some (.sipush 9000, 3) := by decide +kernel
theorem pm_a143_273 : pm_as (pm_cd pm_mm143) 273 = some (.newarray .int, 2) := by decide +kernel
theorem pm_a143_275 : pm_as (pm_cd pm_mm143) 275 = some (.putfield 102, 3) := by decide +kernel
theorem pm_a143_278 : pm_as (pm_cd pm_mm143) 278 = some (.return_, 1) := by decide +kernel
theorem pm_a144_0 : pm_as (pm_cd pm_mm144) 0 = some (.aload_n 0, 1) := by decide +kernel
theorem pm_a144_1 : pm_as (pm_cd pm_mm144) 1 = some (.getfield 105, 3) := by decide +kernel
theorem pm_a144_4 : pm_as (pm_cd pm_mm144) 4 = some (.bipush 20, 2) := by decide +kernel
theorem pm_a144_6 : pm_as (pm_cd pm_mm144) 6 = some (.iadd, 1) := by decide +kernel
theorem pm_a144_7 : pm_as (pm_cd pm_mm144) 7 = some (.sipush 600, 3) := by decide +kernel
theorem pm_a144_10 : pm_as (pm_cd pm_mm144) 10 = some (.if_icmp .le 6, 3) := by decide +kernel
theorem pm_a144_13 : pm_as (pm_cd pm_mm144) 13 = some (.bipush (-3), 2) := by decide +kernel
theorem pm_a144_15 : pm_as (pm_cd pm_mm144) 15 = some (.ireturn, 1) := by decide +kernel
theorem pm_a144_16 : pm_as (pm_cd pm_mm144) 16 = some (.aload_n 0, 1) := by decide +kernel
theorem pm_a144_17 : pm_as (pm_cd pm_mm144) 17 = some (.iload_n 1, 1) := by decide +kernel
theorem pm_a144_18 : pm_as (pm_cd pm_mm144) 18 = some (.invokevirtual 109, 3) := by decide +kernel
theorem pm_a144_21 : pm_as (pm_cd pm_mm144) 21 = some (.aload_n 0, 1) := by decide +kernel
theorem pm_a144_22 : pm_as (pm_cd pm_mm144) 22 = some (.iload_n 2, 1) := by decide +kernel
theorem pm_a144_23 : pm_as (pm_cd pm_mm144) 23 = some (.invokevirtual 109, 3) := by decide +kernel
theorem pm_a144_26 : pm_as (pm_cd pm_mm144) 26 = some (.aload_n 0, 1) := by decide +kernel
theorem pm_a144_27 : pm_as (pm_cd pm_mm144) 27 = some (.iload_n 3, 1) := by decide +kernel
theorem pm_a144_28 : pm_as (pm_cd pm_mm144) 28 = some (.invokevirtual 109, 3) := by decide +kernel
theorem pm_a144_31 : pm_as (pm_cd pm_mm144) 31 = some (.aload_n 0, 1) := by decide +kernel
theorem pm_a144_32 : pm_as (pm_cd pm_mm144) 32 = some (.iload 4, 2) := by decide +kernel
theorem pm_a144_34 : pm_as (pm_cd pm_mm144) 34 = some (.invokevirtual 109, 3) := by decide +kernel
theorem pm_a144_37 : pm_as (pm_cd pm_mm144) 37 = some (.aload_n 0, 1) := by decide +kernel
theorem pm_a144_38 : pm_as (pm_cd pm_mm144) 38 = some (.iload 5, 2) := by decide +kernel
theorem pm_a144_40 : pm_as (pm_cd pm_mm144) 40 = some (.invokevirtual 109, 3) := by decide +kernel
theorem pm_a144_43 : pm_as (pm_cd pm_mm144) 43 = some (.aload_n 0, 1) := by decide +kernel
theorem pm_a144_44 : pm_as (pm_cd pm_mm144) 44 = some (.getfield 105, 3) := by decide +kernel
theorem pm_a144_47 : pm_as (pm_cd pm_mm144) 47 = some (.ireturn, 1) := by decide +kernel
theorem pm_a145_0 : pm_as (pm_cd pm_mm145) 0 = some (.bipush 24, 2) := by decide +kernel
theorem pm_a145_2 : pm_as (pm_cd pm_mm145) 2 = some (.istore_n 2, 1) := by decide +kernel
theorem pm_a145_3 : pm_as (pm_cd pm_mm145) 3 = some (.iload_n 2, 1) := by decide +kernel
theorem pm_a145_4 : pm_as (pm_cd pm_mm145) 4 = some (.ifCond .lt 35, 3) := by decide +kernel
theorem pm_a145_7 : pm_as (pm_cd pm_mm145) 7 = some (.aload_n 0, 1) := by decide +kernel
theorem pm_a145_8 : pm_as (pm_cd pm_mm145) 8 = some (.getfield 16, 3) := by decide +kernel
theorem pm_a145_11 : pm_as (pm_cd pm_mm145) 11 = some (.aload_n 0, 1) := by decide +kernel
theorem pm_a145_12 : pm_as (pm_cd pm_mm145) 12 = some (.getfield 105, 3) := by decide +kernel
theorem pm_a145_15 : pm_as (pm_cd pm_mm145) 15 = some (.iload_n 1, 1) := by decide +kernel
theorem pm_a145_16 : pm_as (pm_cd pm_mm145) 16 = some (.iload_n 2, 1) := by decide +kernel
theorem pm_a145_17 : pm_as (pm_cd pm_mm145) 17 = some (.ishr, 1) := by decide +kernel
theorem pm_a145_18 : pm_as (pm_cd pm_mm145) 18 = some (.sipush 255, 3) := by decide +kernel
theorem pm_a145_21 : pm_as (pm_cd pm_mm145) 21 = some (.iand, 1) := by decide +kernel
theorem pm_a145_22 : pm_as (pm_cd pm_mm145) 22 = some (.iastore, 1) := by decide +kernel
theorem pm_a145_23 : pm_as (pm_cd pm_mm145) 23 = some (.aload_n 0, 1) := by decide +kernel
theorem pm_a145_24 : pm_as (pm_cd pm_mm145) 24 = some (.dup, 1) := by decide +kernel
theorem pm_a145_25 : pm_as (pm_cd pm_mm145) 25 = some (.getfield 105, 3) := by decide +kernel
theorem pm_a145_28 : pm_as (pm_cd pm_mm145) 28 = some (.iconst 1, 1) := by decide +kernel
theorem pm_a145_29 : pm_as (pm_cd pm_mm145) 29 = some (.iadd, 1) := by decide +kernel
theorem pm_a145_30 : pm_as (pm_cd pm_mm145) 30 = some (.putfield 105, 3) := by decide +kernel
theorem pm_a145_33 : pm_as (pm_cd pm_mm145) 33 = some (.iinc 2 (-8), 3) := by decide +kernel
theorem pm_a145_36 : pm_as (pm_cd pm_mm145) 36 = some (.goto (-33), 3) := by decide +kernel
theorem pm_a145_39 : pm_as (pm_cd pm_mm145) 39 = some (.return_, 1) := by decide +kernel
theorem pm_a146_0 : pm_as (pm_cd pm_mm146) 0 = some (.iload_n 1, 1) := by decide +kernel
theorem pm_a146_1 : pm_as (pm_cd pm_mm146) 1 = some (.i2l, 1) := by decide +kernel
theorem pm_a146_2 : pm_as (pm_cd pm_mm146) 2 = some (.lconst 0, 1) := by decide +kernel
theorem pm_a146_3 : pm_as (pm_cd pm_mm146) 3 = some (.aload_n 0, 1) := by decide +kernel
theorem pm_a146_4 : pm_as (pm_cd pm_mm146) 4 = some (.getfield 105, 3) := by decide +kernel
theorem pm_a146_7 : pm_as (pm_cd pm_mm146) 7 = some (.i2l, 1) := by decide +kernel
theorem pm_a146_8 : pm_as (pm_cd pm_mm146) 8 = some (.invokestatic 113, 3) := by decide +kernel
theorem pm_a146_11 : pm_as (pm_cd pm_mm146) 11 = some (.ifCond .ne 5, 3) := by decide +kernel
theorem pm_a146_14 : pm_as (pm_cd pm_mm146) 14 = some (.iconst (-1), 1) := by decide +kernel
theorem pm_a146_15 : pm_as (pm_cd pm_mm146) 15 = some (.ireturn, 1) := by decide +kernel
theorem pm_a146_16 : pm_as (pm_cd pm_mm146) 16 = some (.aload_n 0, 1) := by decide +kernel
theorem pm_a146_17 : pm_as (pm_cd pm_mm146) 17 = some (.getfield 105, 3) := by decide +kernel
theorem pm_a146_20 : pm_as (pm_cd pm_mm146) 20 = some (.istore_n 2, 1) := by decide +kernel
theorem pm_a146_21 : pm_as (pm_cd pm_mm146) 21 = some (.aload_n 0, 1) := by decide +kernel
theorem pm_a146_22 : pm_as (pm_cd pm_mm146) 22 = some (.iload_n 1, 1) := by decide +kernel
theorem pm_a146_23 : pm_as (pm_cd pm_mm146) 23 = some (.putfield 105, 3) := by decide +kernel
theorem pm_a146_26 : pm_as (pm_cd pm_mm146) 26 = some (.iload_n 2, 1) := by decide +kernel
theorem pm_a146_27 : pm_as (pm_cd pm_mm146) 27 = some (.ireturn, 1) := by decide +kernel
theorem pm_a147_0 : pm_as (pm_cd pm_mm147) 0 = some (.lload_n 0, 1) := by decide +kernel
theorem pm_a147_1 : pm_as (pm_cd pm_mm147) 1 = some (.lload_n 2, 1) := by decide +kernel
theorem pm_a147_2 : pm_as (pm_cd pm_mm147) 2 = some (.lcmp, 1) := by decide +kernel
theorem pm_a147_3 : pm_as (pm_cd pm_mm147) 3 = some (.ifCond .lt 14, 3) := by decide +kernel
theorem pm_a147_6 : pm_as (pm_cd pm_mm147) 6 = some (.lload_n 0, 1) := by decide +kernel
theorem pm_a147_7 : pm_as (pm_cd pm_mm147) 7 = some (.lload 4, 2) := by decide +kernel
theorem pm_a147_9 : pm_as (pm_cd pm_mm147) 9 = some (.lcmp, 1) := by decide +kernel
theorem pm_a147_10 : pm_as (pm_cd pm_mm147) 10 = some (.ifCond .gt 7, 3) := by decide +kernel
theorem pm_a147_13 : pm_as (pm_cd pm_mm147) 13 = some (.iconst 1, 1) := by decide +kernel
theorem pm_a147_14 : pm_as (pm_cd pm_mm147) 14 = some (.goto 4, 3) := by decide +kernel
theorem pm_a147_17 : pm_as (pm_cd pm_mm147) 17 = some (.iconst 0, 1) := by decide +kernel
theorem pm_a147_18 : pm_as (pm_cd pm_mm147) 18 = some (.ireturn, 1) := by decide +kernel
theorem pm_a148_0 : pm_as (pm_cd pm_mm148) 0 = some (.aload_n 0, 1) := by decide +kernel
theorem pm_a148_1 : pm_as (pm_cd pm_mm148) 1 = some (.getfield 204, 3) := by decide +kernel
theorem pm_a148_4 : pm_as (pm_cd pm_mm148) 4 = some (.bipush 32, 2) := by decide +kernel
theorem pm_a148_6 : pm_as (pm_cd pm_mm148) 6 = some (.if_icmp .ne 6, 3) := by decide +kernel
theorem pm_a148_9 : pm_as (pm_cd pm_mm148) 9 = some (.bipush (-3), 2) := by decide +kernel
theorem pm_a148_11 : pm_as (pm_cd pm_mm148) 11 = some (.ireturn, 1) := by decide +kernel
theorem pm_a148_12 : pm_as (pm_cd pm_mm148) 12 = some (.aload_n 0, 1) := by decide +kernel
theorem pm_a148_13 : pm_as (pm_cd pm_mm148) 13 = some (.iconst 0, 1) := by decide +kernel
theorem pm_a148_14 : pm_as (pm_cd pm_mm148) 14 = some (.putfield 120, 3) := by decide +kernel
theorem pm_a148_17 : pm_as (pm_cd pm_mm148) 17 = some (.aload_n 0, 1) := by decide +kernel
theorem pm_a148_18 : pm_as (pm_cd pm_mm148) 18 = some (.invokevirtual 207, 3) := by decide +kernel
theorem pm_a148_21 : pm_as (pm_cd pm_mm148) 21 = some (.aload_n 0, 1) := by decide +kernel
theorem pm_a148_22 : pm_as (pm_cd pm_mm148) 22 = some (.iconst 0, 1) := by decide +kernel
theorem pm_a148_23 : pm_as (pm_cd pm_mm148) 23 = some (.putfield 105, 3) := by decide +kernel
theorem pm_a148_26 : pm_as (pm_cd pm_mm148) 26 = some (.aload_n 0, 1) := by decide +kernel
theorem pm_a148_27 : pm_as (pm_cd pm_mm148) 27 = some (.getfield 120, 3) := by decide +kernel
theorem pm_a148_30 : pm_as (pm_cd pm_mm148) 30 = some (.ifCond .le 11, 3) := by decide +kernel
theorem pm_a148_33 : pm_as (pm_cd pm_mm148) 33 = some (.bipush (-10), 2) := by decide +kernel
theorem pm_a148_35 : pm_as (pm_cd pm_mm148) 35 = some (.aload_n 0, 1) := by decide +kernel
theorem pm_a148_36 : pm_as (pm_cd pm_mm148) 36 = some (.getfield 123, 3) := by decide +kernel
theorem pm_a148_39 : pm_as (pm_cd pm_mm148) 39 = some (.isub, 1) := by decide +kernel
theorem pm_a148_40 : pm_as (pm_cd pm_mm148) 40 = some (.ireturn, 1) := by decide +kernel
theorem pm_a148_41 : pm_as (pm_cd pm_mm148) 41 = some (.aload_n 0, 1) := by decide +kernel
theorem pm_a148_42 : pm_as (pm_cd pm_mm148) 42 = some (.aload_n 0, 1) := by decide +kernel
theorem pm_a148_43 : pm_as (pm_cd pm_mm148) 43 = some (.getfield 204, 3) := by decide +kernel
theorem pm_a148_46 : pm_as (pm_cd pm_mm148) 46 = some (.invokevirtual 210, 3) := by decide +kernel
theorem pm_a148_49 : pm_as (pm_cd pm_mm148) 49 = some (.aload_n 0, 1) := by decide +kernel
theorem pm_a148_50 : pm_as (pm_cd pm_mm148) 50 = some (.dup, 1) := by decide +kernel
theorem pm_a148_51 : pm_as (pm_cd pm_mm148) 51 = some (.getfield 204, 3) := by decide +kernel
theorem pm_a148_54 : pm_as (pm_cd pm_mm148) 54 = some (.iconst 1, 1) := by decide +kernel
theorem pm_a148_55 : pm_as (pm_cd pm_mm148) 55 = some (.iadd, 1) := by decide +kernel
theorem pm_a148_56 : pm_as (pm_cd pm_mm148) 56 = some (.putfield 204, 3) := by decide +kernel
theorem pm_a148_59 : pm_as (pm_cd pm_mm148) 59 = some (.aload_n 0, 1) := by decide +kernel
theorem pm_a148_60 : pm_as (pm_cd pm_mm148) 60 = some (.getfield 204, 3) := by decide +kernel
theorem pm_a148_63 : pm_as (pm_cd pm_mm148) 63 = some (.iconst 1, 1) := by decide +kernel
theorem pm_a148_64 : pm_as (pm_cd pm_mm148) 64 = some (.isub, 1) := by decide +kernel
theorem pm_a148_65 : pm_as (pm_cd pm_mm148) 65 = some (.ireturn, 1) := by decide +kernel
theorem pm_a149_0 : pm_as (pm_cd pm_mm149) 0 = some (.aload_n 0, 1) := by decide +kernel
theorem pm_a149_1 : pm_as (pm_cd pm_mm149) 1 = some (.iconst 0, 1) := by decide +kernel
theorem pm_a149_2 : pm_as (pm_cd pm_mm149) 2 = some (.putfield 126, 3) := by decide +kernel
theorem pm_a149_5 : pm_as (pm_cd pm_mm149) 5 = some (.aload_n 0, 1) := by decide +kernel
theorem pm_a149_6 : pm_as (pm_cd pm_mm149) 6 = some (.iconst 0, 1) := by decide +kernel
theorem pm_a149_7 : pm_as (pm_cd pm_mm149) 7 = some (.putfield 117, 3) := by decide +kernel
theorem pm_a149_10 : pm_as (pm_cd pm_mm149) 10 = some (.aload_n 0, 1) := by decide +kernel
theorem pm_a149_11 : pm_as (pm_cd pm_mm149) 11 = some (.iconst 0, 1) := by decide +kernel
theorem pm_a149_12 : pm_as (pm_cd pm_mm149) 12 = some (.putfield 167, 3) := by decide +kernel
theorem pm_a149_15 : pm_as (pm_cd pm_mm149) 15 = some (.aload_n 0, 1) := by decide +kernel
theorem pm_a149_16 : pm_as (pm_cd pm_mm149) 16 = some (.iconst 0, 1) := by decide +kernel
theorem pm_a149_17 : pm_as (pm_cd pm_mm149) 17 = some (.putfield 179, 3) := by decide +kernel
theorem pm_a149_20 : pm_as (pm_cd pm_mm149) 20 = some (.aload_n 0, 1) := by decide +kernel
theorem pm_a149_21 : pm_as (pm_cd pm_mm149) 21 = some (.iconst 0, 1) := by decide +kernel
theorem pm_a149_22 : pm_as (pm_cd pm_mm149) 22 = some (.putfield 182, 3) := by decide +kernel
theorem pm_a149_25 : pm_as (pm_cd pm_mm149) 25 = some (.aload_n 0, 1) := by decide +kernel
theorem pm_a149_26 : pm_as (pm_cd pm_mm149) 26 = some (.iconst (-1), 1) := by decide +kernel
theorem pm_a149_27 : pm_as (pm_cd pm_mm149) 27 = some (.invokevirtual 189, 3) := by decide +kernel
theorem pm_a149_30 : pm_as (pm_cd pm_mm149) 30 = some (.aload_n 0, 1) := by decide +kernel
theorem pm_a149_31 : pm_as (pm_cd pm_mm149) 31 = some (.invokevirtual 176, 3) := by decide +kernel
theorem pm_a149_34 : pm_as (pm_cd pm_mm149) 34 = some (.iconst 1, 1) := by decide +kernel
theorem pm_a149_35 : pm_as (pm_cd pm_mm149) 35 = some (.istore_n 1, 1) := by decide +kernel
theorem pm_a149_36 : pm_as (pm_cd pm_mm149) 36 = some (.iload_n 1, 1) := by decide +kernel
theorem pm_a149_37 : pm_as (pm_cd pm_mm149) 37 = some (.ifCond .eq 262, 3) := by decide +kernel
theorem pm_a149_40 : pm_as (pm_cd pm_mm149) 40 = some (.aload_n 0, 1) := by decide +kernel
theorem pm_a149_41 : pm_as (pm_cd pm_mm149) 41 = some (.getfield 120, 3) := by decide +kernel
theorem pm_a149_44 : pm_as (pm_cd pm_mm149) 44 = some (.ifCond .ne 255, 3) := by decide +kernel
theorem pm_a149_47 : pm_as (pm_cd pm_mm149) 47 = some (.aload_n 0, 1) := by decide +kernel
theorem pm_a149_48 : pm_as (pm_cd pm_mm149) 48 = some (.getfield 140, 3) := by decide +kernel
theorem pm_a149_51 : pm_as (pm_cd pm_mm149) 51 = some (.iconst 1, 1) := by decide +kernel
theorem pm_a149_52 : pm_as (pm_cd pm_mm149) 52 = some (.if_icmp .ne 10, 3) := by decide +kernel
theorem pm_a149_55 : pm_as (pm_cd pm_mm149) 55 = some (.aload_n 0, 1) := by decide +kernel
theorem pm_a149_56 : pm_as (pm_cd pm_mm149) 56 = some (.invokevirtual 192, 3) := by decide +kernel
theorem pm_a149_59 : pm_as (pm_cd pm_mm149) 59 = some (.goto (-23), 3) := by decide +kernel
theorem pm_a149_62 : pm_as (pm_cd pm_mm149) 62 = some (.aload_n 0, 1) := by decide +kernel
theorem pm_a149_63 : pm_as (pm_cd pm_mm149) 63 = some (.getfield 140, 3) := by decide +kernel
theorem pm_a149_66 : pm_as (pm_cd pm_mm149) 66 = some (.iconst 2, 1) := by decide +kernel
theorem pm_a149_67 : pm_as (pm_cd pm_mm149) 67 = some (.if_icmp .ne 10, 3) := by decide +kernel
theorem pm_a149_70 : pm_as (pm_cd pm_mm149) 70 = some (.aload_n 0, 1) := by decide +kernel
theorem pm_a149_71 : pm_as (pm_cd pm_mm149) 71 = some (.invokevirtual 195, 3) := by decide +kernel
theorem pm_a149_74 : pm_as (pm_cd pm_mm149) 74 = some (.goto (-38), 3) := by decide +kernel
theorem pm_a149_77 : pm_as (pm_cd pm_mm149) 77 = some (.aload_n 0, 1) := by decide +kernel
theorem pm_a149_78 : pm_as (pm_cd pm_mm149) 78 = some (.getfield 140, 3) := by decide +kernel
theorem pm_a149_81 : pm_as (pm_cd pm_mm149) 81 = some (.iconst 3, 1) := by decide +kernel
theorem pm_a149_82 : pm_as (pm_cd pm_mm149) 82 = some (.if_icmp .ne 23, 3) := by decide +kernel
theorem pm_a149_85 : pm_as (pm_cd pm_mm149) 85 = some (.aload_n 0, 1) := by decide +kernel
theorem pm_a149_86 : pm_as (pm_cd pm_mm149) 86 = some (.invokevirtual 170, 3) := by decide +kernel
theorem pm_a149_89 : pm_as (pm_cd pm_mm149) 89 = some (.aload_n 0, 1) := by decide +kernel
theorem pm_a149_90 : pm_as (pm_cd pm_mm149) 90 = some (.aload_n 0, 1) := by decide +kernel
theorem pm_a149_91 : pm_as (pm_cd pm_mm149) 91 = some (.getfield 136, 3) := by decide +kernel
theorem pm_a149_94 : pm_as (pm_cd pm_mm149) 94 = some (.l2i, 1) := by decide +kernel
theorem pm_a149_95 : pm_as (pm_cd pm_mm149) 95 = some (.invokevirtual 173, 3) := by decide +kernel
theorem pm_a149_98 : pm_as (pm_cd pm_mm149) 98 = some (.aload_n 0, 1) := by decide +kernel
theorem pm_a149_99 : pm_as (pm_cd pm_mm149) 99 = some (.invokevirtual 176, 3) := by decide +kernel
theorem pm_a149_102 : pm_as (pm_cd pm_mm149) 102 = some (.goto (-66), 3) := by decide +kernel
theorem pm_a149_105 : pm_as (pm_cd pm_mm149) 105 = some (.aload_n 0, 1) := by decide +kernel
theorem pm_a149_106 : pm_as (pm_cd pm_mm149) 106 = some (.bipush 40, 2) := by decide +kernel
theorem pm_a149_108 : pm_as (pm_cd pm_mm149) 108 = some (.invokevirtual 185, 3) := by decide +kernel
theorem pm_a149_111 : pm_as (pm_cd pm_mm149) 111 = some (.ifCond .eq 50, 3) := by decide +kernel
theorem pm_a149_114 : pm_as (pm_cd pm_mm149) 114 = some (.aload_n 0, 1) := by decide +kernel
theorem pm_a149_115 : pm_as (pm_cd pm_mm149) 115 = some (.getfield 182, 3) := by decide +kernel
theorem pm_a149_118 : pm_as (pm_cd pm_mm149) 118 = some (.bipush 40, 2) := by decide +kernel
theorem pm_a149_120 : pm_as (pm_cd pm_mm149) 120 = some (.if_icmp .ne 15, 3) := by decide +kernel
theorem pm_a149_123 : pm_as (pm_cd pm_mm149) 123 = some (.aload_n 0, 1) := by decide +kernel
theorem pm_a149_124 : pm_as (pm_cd pm_mm149) 124 = some (.iconst 4, 1) := by decide +kernel
theorem pm_a149_125 : pm_as (pm_cd pm_mm149) 125 = some (.aload_n 0, 1) := by decide +kernel
theorem pm_a149_126 : pm_as (pm_cd pm_mm149) 126 = some (.getfield 133, 3) := by decide +kernel
theorem pm_a149_129 : pm_as (pm_cd pm_mm149) 129 = some (.invokevirtual 151, 3) := by decide +kernel
theorem pm_a149_132 : pm_as (pm_cd pm_mm149) 132 = some (.goto (-96), 3) := by decide +kernel
theorem pm_a149_135 : pm_as (pm_cd pm_mm149) 135 = some (.aload_n 0, 1) := by decide +kernel
theorem pm_a149_136 : pm_as (pm_cd pm_mm149) 136 = some (.dup, 1) := by decide +kernel
theorem pm_a149_137 : pm_as (pm_cd pm_mm149) 137 = some (.getfield 182, 3) := by decide +kernel
theorem pm_a149_140 : pm_as (pm_cd pm_mm149) 140 = some (.iconst 1, 1) := by decide +kernel
theorem pm_a149_141 : pm_as (pm_cd pm_mm149) 141 = some (.iadd, 1) := by decide +kernel
theorem pm_a149_142 : pm_as (pm_cd pm_mm149) 142 = some (.putfield 182, 3) := by decide +kernel
theorem pm_a149_145 : pm_as (pm_cd pm_mm149) 145 = some (.aload_n 0, 1) := by decide +kernel
theorem pm_a149_146 : pm_as (pm_cd pm_mm149) 146 = some (.invokevirtual 170, 3) := by decide +kernel
theorem pm_a149_149 : pm_as (pm_cd pm_mm149) 149 = some (.aload_n 0, 1) := by decide +kernel
theorem pm_a149_150 : pm_as (pm_cd pm_mm149) 150 = some (.iconst 0, 1) := by decide +kernel
theorem pm_a149_151 : pm_as (pm_cd pm_mm149) 151 = some (.invokevirtual 189, 3) := by decide +kernel
theorem pm_a149_154 : pm_as (pm_cd pm_mm149) 154 = some (.aload_n 0, 1) := by decide +kernel
theorem pm_a149_155 : pm_as (pm_cd pm_mm149) 155 = some (.invokevirtual 176, 3) := by decide +kernel
theorem pm_a149_158 : pm_as (pm_cd pm_mm149) 158 = some (.goto (-122), 3) := by decide +kernel
theorem pm_a149_161 : pm_as (pm_cd pm_mm149) 161 = some (.aload_n 0, 1) := by decide +kernel
theorem pm_a149_162 : pm_as (pm_cd pm_mm149) 162 = some (.bipush 92, 2) := by decide +kernel
theorem pm_a149_164 : pm_as (pm_cd pm_mm149) 164 = some (.invokevirtual 185, 3) := by decide +kernel
theorem pm_a149_167 : pm_as (pm_cd pm_mm149) 167 = some (.ifCond .eq 10, 3) := by decide +kernel
theorem pm_a149_170 : pm_as (pm_cd pm_mm149) 170 = some (.aload_n 0, 1) := by decide +kernel
theorem pm_a149_171 : pm_as (pm_cd pm_mm149) 171 = some (.invokevirtual 198, 3) := by decide +kernel
theorem pm_a149_174 : pm_as (pm_cd pm_mm149) 174 = some (.goto (-138), 3) := by decide +kernel
theorem pm_a149_177 : pm_as (pm_cd pm_mm149) 177 = some (.aload_n 0, 1) := by decide +kernel
theorem pm_a149_178 : pm_as (pm_cd pm_mm149) 178 = some (.bipush 41, 2) := by decide +kernel
theorem pm_a149_180 : pm_as (pm_cd pm_mm149) 180 = some (.invokevirtual 185, 3) := by decide +kernel
theorem pm_a149_183 : pm_as (pm_cd pm_mm149) 183 = some (.ifCond .ne 10, 3) := by decide +kernel
theorem pm_a149_186 : pm_as (pm_cd pm_mm149) 186 = some (.aload_n 0, 1) := by decide +kernel
theorem pm_a149_187 : pm_as (pm_cd pm_mm149) 187 = some (.getfield 140, 3) := by decide +kernel
theorem pm_a149_190 : pm_as (pm_cd pm_mm149) 190 = some (.ifCond .ne 97, 3) := by decide +kernel
theorem pm_a149_193 : pm_as (pm_cd pm_mm149) 193 = some (.aload_n 0, 1) := by decide +kernel
theorem pm_a149_194 : pm_as (pm_cd pm_mm149) 194 = some (.invokevirtual 201, 3) := by decide +kernel
theorem pm_a149_197 : pm_as (pm_cd pm_mm149) 197 = some (.aload_n 0, 1) := by decide +kernel
theorem pm_a149_198 : pm_as (pm_cd pm_mm149) 198 = some (.getfield 140, 3) := by decide +kernel
theorem pm_a149_201 : pm_as (pm_cd pm_mm149) 201 = some (.ifCond .eq 7, 3) := by decide +kernel
theorem pm_a149_204 : pm_as (pm_cd pm_mm149) 204 = some (.iconst 1, 1) := by decide +kernel
theorem pm_a149_205 : pm_as (pm_cd pm_mm149) 205 = some (.goto 4, 3) := by decide +kernel
theorem pm_a149_208 : pm_as (pm_cd pm_mm149) 208 = some (.iconst 0, 1) := by decide +kernel
theorem pm_a149_209 : pm_as (pm_cd pm_mm149) 209 = some (.istore_n 1, 1) := by decide +kernel
theorem pm_a149_210 : pm_as (pm_cd pm_mm149) 210 = some (.aload_n 0, 1) := by decide +kernel
theorem pm_a149_211 : pm_as (pm_cd pm_mm149) 211 = some (.getfield 120, 3) := by decide +kernel
theorem pm_a149_214 : pm_as (pm_cd pm_mm149) 214 = some (.ifCond .ne 35, 3) := by decide +kernel
theorem pm_a149_217 : pm_as (pm_cd pm_mm149) 217 = some (.aload_n 0, 1) := by decide +kernel
theorem pm_a149_218 : pm_as (pm_cd pm_mm149) 218 = some (.getfield 35, 3) := by decide +kernel
theorem pm_a149_221 : pm_as (pm_cd pm_mm149) 221 = some (.aload_n 0, 1) := by decide +kernel
theorem pm_a149_222 : pm_as (pm_cd pm_mm149) 222 = some (.getfield 167, 3) := by decide +kernel
theorem pm_a149_225 : pm_as (pm_cd pm_mm149) 225 = some (.iconst 1, 1) := by decide +kernel
theorem pm_a149_226 : pm_as (pm_cd pm_mm149) 226 = some (.isub, 1) := by decide +kernel
theorem pm_a149_227 : pm_as (pm_cd pm_mm149) 227 = some (.iaload, 1) := by decide +kernel
theorem pm_a149_228 : pm_as (pm_cd pm_mm149) 228 = some (.ifCond .ge 7, 3) := by decide +kernel
theorem pm_a149_231 : pm_as (pm_cd pm_mm149) 231 = some (.iconst 1, 1) := by decide +kernel
theorem pm_a149_232 : pm_as (pm_cd pm_mm149) 232 = some (.goto 4, 3) := by decide +kernel
theorem pm_a149_235 : pm_as (pm_cd pm_mm149) 235 = some (.iconst 0, 1) := by decide +kernel
theorem pm_a149_236 : pm_as (pm_cd pm_mm149) 236 = some (.iload_n 1, 1) := by decide +kernel
theorem pm_a149_237 : pm_as (pm_cd pm_mm149) 237 = some (.if_icmp .ne 12, 3) := by decide +kernel
theorem pm_a149_240 : pm_as (pm_cd pm_mm149) 240 = some (.aload_n 0, 1) := by decide +kernel
theorem pm_a149_241 : pm_as (pm_cd pm_mm149) 241 = some (.iconst 2, 1) := by decide +kernel
theorem pm_a149_242 : pm_as (pm_cd pm_mm149) 242 = some (.aload_n 0, 1) := by decide +kernel
theorem pm_a149_243 : pm_as (pm_cd pm_mm149) 243 = some (.getfield 133, 3) := by decide +kernel
theorem pm_a149_246 : pm_as (pm_cd pm_mm149) 246 = some (.invokevirtual 151, 3) := by decide +kernel
theorem pm_a149_249 : pm_as (pm_cd pm_mm149) 249 = some (.aload_n 0, 1) := by decide +kernel
theorem pm_a149_250 : pm_as (pm_cd pm_mm149) 250 = some (.getfield 120, 3) := by decide +kernel
theorem pm_a149_253 : pm_as (pm_cd pm_mm149) 253 = some (.ifCond .ne (-217), 3) := by decide +kernel
theorem pm_a149_256 : pm_as (pm_cd pm_mm149) 256 = some (.iload_n 1, 1) := by decide +kernel
theorem pm_a149_257 : pm_as (pm_cd pm_mm149) 257 = some (.ifCond .eq (-221), 3) := by decide +kernel
theorem pm_a149_260 : pm_as (pm_cd pm_mm149) 260 = some (.aload_n 0, 1) := by decide +kernel
theorem pm_a149_261 : pm_as (pm_cd pm_mm149) 261 = some (.dup, 1) := by decide +kernel
theorem pm_a149_262 : pm_as (pm_cd pm_mm149) 262 = some (.getfield 167, 3) := by decide +kernel
theorem pm_a149_265 : pm_as (pm_cd pm_mm149) 265 = some (.iconst 1, 1) := by decide +kernel
theorem pm_a149_266 : pm_as (pm_cd pm_mm149) 266 = some (.isub, 1) := by decide +kernel
theorem pm_a149_267 : pm_as (pm_cd pm_mm149) 267 = some (.putfield 167, 3) := by decide +kernel
theorem pm_a149_270 : pm_as (pm_cd pm_mm149) 270 = some (.aload_n 0, 1) := by decide +kernel
theorem pm_a149_271 : pm_as (pm_cd pm_mm149) 271 = some (.dup, 1) := by decide +kernel
theorem pm_a149_272 : pm_as (pm_cd pm_mm149) 272 = some (.getfield 182, 3) := by decide +kernel
theorem pm_a149_275 : pm_as (pm_cd pm_mm149) 275 = some (.iconst 1, 1) := by decide +kernel
theorem pm_a149_276 : pm_as (pm_cd pm_mm149) 276 = some (.isub, 1) := by decide +kernel
theorem pm_a149_277 : pm_as (pm_cd pm_mm149) 277 = some (.putfield 182, 3) := by decide +kernel
theorem pm_a149_280 : pm_as (pm_cd pm_mm149) 280 = some (.aload_n 0, 1) := by decide +kernel
theorem pm_a149_281 : pm_as (pm_cd pm_mm149) 281 = some (.invokevirtual 176, 3) := by decide +kernel
theorem pm_a149_284 : pm_as (pm_cd pm_mm149) 284 = some (.goto (-248), 3) := by decide +kernel
theorem pm_a149_287 : pm_as (pm_cd pm_mm149) 287 = some (.aload_n 0, 1) := by decide +kernel
theorem pm_a149_288 : pm_as (pm_cd pm_mm149) 288 = some (.iconst 2, 1) := by decide +kernel
theorem pm_a149_289 : pm_as (pm_cd pm_mm149) 289 = some (.aload_n 0, 1) := by decide +kernel
theorem pm_a149_290 : pm_as (pm_cd pm_mm149) 290 = some (.getfield 133, 3) := by decide +kernel
theorem pm_a149_293 : pm_as (pm_cd pm_mm149) 293 = some (.invokevirtual 151, 3) := by decide +kernel
theorem pm_a149_296 : pm_as (pm_cd pm_mm149) 296 = some (.goto (-260), 3) := by decide +kernel
theorem pm_a149_299 : pm_as (pm_cd pm_mm149) 299 = some (.aload_n 0, 1) := by decide +kernel
theorem pm_a149_300 : pm_as (pm_cd pm_mm149) 300 = some (.getfield 120, 3) := by decide +kernel
theorem pm_a149_303 : pm_as (pm_cd pm_mm149) 303 = some (.ifCond .ne 19, 3) := by decide +kernel
theorem pm_a149_306 : pm_as (pm_cd pm_mm149) 306 = some (.aload_n 0, 1) := by decide +kernel
theorem pm_a149_307 : pm_as (pm_cd pm_mm149) 307 = some (.getfield 117, 3) := by decide +kernel
theorem pm_a149_310 : pm_as (pm_cd pm_mm149) 310 = some (.sipush 500, 3) := by decide +kernel
theorem pm_a149_313 : pm_as (pm_cd pm_mm149) 313 = some (.if_icmp .le 9, 3) := by decide +kernel
theorem pm_a149_316 : pm_as (pm_cd pm_mm149) 316 = some (.aload_n 0, 1) := by decide +kernel
theorem pm_a149_317 : pm_as (pm_cd pm_mm149) 317 = some (.iconst 5, 1) := by decide +kernel
theorem pm_a149_318 : pm_as (pm_cd pm_mm149) 318 = some (.iconst 0, 1) := by decide +kernel
theorem pm_a149_319 : pm_as (pm_cd pm_mm149) 319 = some (.invokevirtual 151, 3) := by decide +kernel
theorem pm_a149_322 : pm_as (pm_cd pm_mm149) 322 = some (.return_, 1) := by decide +kernel
theorem pm_a150_0 : pm_as (pm_cd pm_mm150) 0 = some (.aload_n 0, 1) := by decide +kernel
theorem pm_a150_1 : pm_as (pm_cd pm_mm150) 1 = some (.getfield 28, 3) := by decide +kernel
theorem pm_a150_4 : pm_as (pm_cd pm_mm150) 4 = some (.aload_n 0, 1) := by decide +kernel
theorem pm_a150_5 : pm_as (pm_cd pm_mm150) 5 = some (.getfield 167, 3) := by decide +kernel
theorem pm_a150_8 : pm_as (pm_cd pm_mm150) 8 = some (.aload_n 0, 1) := by decide +kernel
theorem pm_a150_9 : pm_as (pm_cd pm_mm150) 9 = some (.getfield 117, 3) := by decide +kernel
theorem pm_a150_12 : pm_as (pm_cd pm_mm150) 12 = some (.iastore, 1) := by decide +kernel
theorem pm_a150_13 : pm_as (pm_cd pm_mm150) 13 = some (.aload_n 0, 1) := by decide +kernel
theorem pm_a150_14 : pm_as (pm_cd pm_mm150) 14 = some (.getfield 31, 3) := by decide +kernel
theorem pm_a150_17 : pm_as (pm_cd pm_mm150) 17 = some (.aload_n 0, 1) := by decide +kernel
theorem pm_a150_18 : pm_as (pm_cd pm_mm150) 18 = some (.getfield 167, 3) := by decide +kernel
theorem pm_a150_21 : pm_as (pm_cd pm_mm150) 21 = some (.iconst 0, 1) := by decide +kernel
theorem pm_a150_22 : pm_as (pm_cd pm_mm150) 22 = some (.bastore, 1) := by decide +kernel
theorem pm_a150_23 : pm_as (pm_cd pm_mm150) 23 = some (.aload_n 0, 1) := by decide +kernel
theorem pm_a150_24 : pm_as (pm_cd pm_mm150) 24 = some (.getfield 35, 3) := by decide +kernel
theorem pm_a150_27 : pm_as (pm_cd pm_mm150) 27 = some (.aload_n 0, 1) := by decide +kernel
theorem pm_a150_28 : pm_as (pm_cd pm_mm150) 28 = some (.getfield 167, 3) := by decide +kernel
theorem pm_a150_31 : pm_as (pm_cd pm_mm150) 31 = some (.iload_n 1, 1) := by decide +kernel
theorem pm_a150_32 : pm_as (pm_cd pm_mm150) 32 = some (.iastore, 1) := by decide +kernel
theorem pm_a150_33 : pm_as (pm_cd pm_mm150) 33 = some (.aload_n 0, 1) := by decide +kernel
theorem pm_a150_34 : pm_as (pm_cd pm_mm150) 34 = some (.dup, 1) := by decide +kernel
theorem pm_a150_35 : pm_as (pm_cd pm_mm150) 35 = some (.getfield 167, 3) := by decide +kernel
theorem pm_a150_38 : pm_as (pm_cd pm_mm150) 38 = some (.iconst 1, 1) := by decide +kernel
theorem pm_a150_39 : pm_as (pm_cd pm_mm150) 39 = some (.iadd, 1) := by decide +kernel
theorem pm_a150_40 : pm_as (pm_cd pm_mm150) 40 = some (.putfield 167, 3) := by decide +kernel
theorem pm_a150_43 : pm_as (pm_cd pm_mm150) 43 = some (.return_, 1) := by decide +kernel
theorem pm_a151_0 : pm_as (pm_cd pm_mm151) 0 = some (.aload_n 0, 1) := by decide +kernel
theorem pm_a151_1 : pm_as (pm_cd pm_mm151) 1 = some (.invokevirtual 129, 3) := by decide +kernel
theorem pm_a151_4 : pm_as (pm_cd pm_mm151) 4 = some (.bipush 32, 2) := by decide +kernel
theorem pm_a151_6 : pm_as (pm_cd pm_mm151) 6 = some (.if_icmp .ne 16, 3) := by decide +kernel
theorem pm_a151_9 : pm_as (pm_cd pm_mm151) 9 = some (.aload_n 0, 1) := by decide +kernel
theorem pm_a151_10 : pm_as (pm_cd pm_mm151) 10 = some (.dup, 1) := by decide +kernel
theorem pm_a151_11 : pm_as (pm_cd pm_mm151) 11 = some (.getfield 126, 3) := by decide +kernel
theorem pm_a151_14 : pm_as (pm_cd pm_mm151) 14 = some (.iconst 1, 1) := by decide +kernel
theorem pm_a151_15 : pm_as (pm_cd pm_mm151) 15 = some (.iadd, 1) := by decide +kernel
theorem pm_a151_16 : pm_as (pm_cd pm_mm151) 16 = some (.putfield 126, 3) := by decide +kernel
theorem pm_a151_19 : pm_as (pm_cd pm_mm151) 19 = some (.goto (-19), 3) := by decide +kernel
theorem pm_a151_22 : pm_as (pm_cd pm_mm151) 22 = some (.aload_n 0, 1) := by decide +kernel
theorem pm_a151_23 : pm_as (pm_cd pm_mm151) 23 = some (.aload_n 0, 1) := by decide +kernel
theorem pm_a151_24 : pm_as (pm_cd pm_mm151) 24 = some (.getfield 126, 3) := by decide +kernel
theorem pm_a151_27 : pm_as (pm_cd pm_mm151) 27 = some (.putfield 133, 3) := by decide +kernel
theorem pm_a151_30 : pm_as (pm_cd pm_mm151) 30 = some (.aload_n 0, 1) := by decide +kernel
theorem pm_a151_31 : pm_as (pm_cd pm_mm151) 31 = some (.lconst 0, 1) := by decide +kernel
theorem pm_a151_32 : pm_as (pm_cd pm_mm151) 32 = some (.putfield 136, 3) := by decide +kernel
theorem pm_a151_35 : pm_as (pm_cd pm_mm151) 35 = some (.aload_n 0, 1) := by decide +kernel
theorem pm_a151_36 : pm_as (pm_cd pm_mm151) 36 = some (.invokevirtual 129, 3) := by decide +kernel
theorem pm_a151_39 : pm_as (pm_cd pm_mm151) 39 = some (.istore_n 1, 1) := by decide +kernel
theorem pm_a151_40 : pm_as (pm_cd pm_mm151) 40 = some (.iload_n 1, 1) := by decide +kernel
theorem pm_a151_41 : pm_as (pm_cd pm_mm151) 41 = some (.ifCond .ge 11, 3) := by decide +kernel
theorem pm_a151_44 : pm_as (pm_cd pm_mm151) 44 = some (.aload_n 0, 1) := by decide +kernel
theorem pm_a151_45 : pm_as (pm_cd pm_mm151) 45 = some (.iconst 0, 1) := by decide +kernel
theorem pm_a151_46 : pm_as (pm_cd pm_mm151) 46 = some (.putfield 140, 3) := by decide +kernel
theorem pm_a151_49 : pm_as (pm_cd pm_mm151) 49 = some (.goto 341, 3) := by decide +kernel
theorem pm_a151_52 : pm_as (pm_cd pm_mm151) 52 = some (.iload_n 1, 1) := by decide +kernel
theorem pm_a151_53 : pm_as (pm_cd pm_mm151) 53 = some (.i2l, 1) := by decide +kernel
theorem pm_a151_54 : pm_as (pm_cd pm_mm151) 54 = some (.ldc2_w 143, 3) := by decide +kernel
theorem pm_a151_57 : pm_as (pm_cd pm_mm151) 57 = some (.ldc2_w 145, 3) := by decide +kernel
theorem pm_a151_60 : pm_as (pm_cd pm_mm151) 60 = some (.invokestatic 113, 3) := by decide +kernel
theorem pm_a151_63 : pm_as (pm_cd pm_mm151) 63 = some (.ifCond .eq 107, 3) := by decide +kernel
theorem pm_a151_66 : pm_as (pm_cd pm_mm151) 66 = some (.aload_n 0, 1) := by decide +kernel
theorem pm_a151_67 : pm_as (pm_cd pm_mm151) 67 = some (.iconst 1, 1) := by decide +kernel
theorem pm_a151_68 : pm_as (pm_cd pm_mm151) 68 = some (.putfield 140, 3) := by decide +kernel
theorem pm_a151_71 : pm_as (pm_cd pm_mm151) 71 = some (.aload_n 0, 1) := by decide +kernel
theorem pm_a151_72 : pm_as (pm_cd pm_mm151) 72 = some (.invokevirtual 129, 3) := by decide +kernel
theorem pm_a151_75 : pm_as (pm_cd pm_mm151) 75 = some (.i2l, 1) := by decide +kernel
theorem pm_a151_76 : pm_as (pm_cd pm_mm151) 76 = some (.ldc2_w 143, 3) := by decide +kernel
theorem pm_a151_79 : pm_as (pm_cd pm_mm151) 79 = some (.ldc2_w 145, 3) := by decide +kernel
theorem pm_a151_82 : pm_as (pm_cd pm_mm151) 82 = some (.invokestatic 113, 3) := by decide +kernel
theorem pm_a151_85 : pm_as (pm_cd pm_mm151) 85 = some (.ifCond .eq 59, 3) := by decide +kernel
theorem pm_a151_88 : pm_as (pm_cd pm_mm151) 88 = some (.aload_n 0, 1) := by decide +kernel
theorem pm_a151_89 : pm_as (pm_cd pm_mm151) 89 = some (.aload_n 0, 1) := by decide +kernel
theorem pm_a151_90 : pm_as (pm_cd pm_mm151) 90 = some (.getfield 126, 3) := by decide +kernel
theorem pm_a151_93 : pm_as (pm_cd pm_mm151) 93 = some (.aload_n 0, 1) := by decide +kernel
theorem pm_a151_94 : pm_as (pm_cd pm_mm151) 94 = some (.getfield 133, 3) := by decide +kernel
theorem pm_a151_97 : pm_as (pm_cd pm_mm151) 97 = some (.isub, 1) := by decide +kernel
theorem pm_a151_98 : pm_as (pm_cd pm_mm151) 98 = some (.bipush 8, 2) := by decide +kernel
theorem pm_a151_100 : pm_as (pm_cd pm_mm151) 100 = some (.if_icmp .ge 24, 3) := by decide +kernel
theorem pm_a151_103 : pm_as (pm_cd pm_mm151) 103 = some (.ldc2_w 147, 3) := by decide +kernel
theorem pm_a151_106 : pm_as (pm_cd pm_mm151) 106 = some (.aload_n 0, 1) := by decide +kernel
theorem pm_a151_107 : pm_as (pm_cd pm_mm151) 107 = some (.getfield 136, 3) := by decide +kernel
theorem pm_a151_110 : pm_as (pm_cd pm_mm151) 110 = some (.lmul, 1) := by decide +kernel
theorem pm_a151_111 : pm_as (pm_cd pm_mm151) 111 = some (.aload_n 0, 1) := by decide +kernel
theorem pm_a151_112 : pm_as (pm_cd pm_mm151) 112 = some (.invokevirtual 129, 3) := by decide +kernel
theorem pm_a151_115 : pm_as (pm_cd pm_mm151) 115 = some (.i2l, 1) := by decide +kernel
theorem pm_a151_116 : pm_as (pm_cd pm_mm151) 116 = some (.ladd, 1) := by decide +kernel
theorem pm_a151_117 : pm_as (pm_cd pm_mm151) 117 = some (.ldc2_w 149, 3) := by decide +kernel
theorem pm_a151_120 : pm_as (pm_cd pm_mm151) 120 = some (.lsub, 1) := by decide +kernel
theorem pm_a151_121 : pm_as (pm_cd pm_mm151) 121 = some (.goto 7, 3) := by decide +kernel
theorem pm_a151_124 : pm_as (pm_cd pm_mm151) 124 = some (.aload_n 0, 1) := by decide +kernel
theorem pm_a151_125 : pm_as (pm_cd pm_mm151) 125 = some (.getfield 136, 3) := by decide +kernel
theorem pm_a151_128 : pm_as (pm_cd pm_mm151) 128 = some (.putfield 136, 3) := by decide +kernel
theorem pm_a151_131 : pm_as (pm_cd pm_mm151) 131 = some (.aload_n 0, 1) := by decide +kernel
theorem pm_a151_132 : pm_as (pm_cd pm_mm151) 132 = some (.dup, 1) := by decide +kernel
theorem pm_a151_133 : pm_as (pm_cd pm_mm151) 133 = some (.getfield 126, 3) := by decide +kernel
theorem pm_a151_136 : pm_as (pm_cd pm_mm151) 136 = some (.iconst 1, 1) := by decide +kernel
theorem pm_a151_137 : pm_as (pm_cd pm_mm151) 137 = some (.iadd, 1) := by decide +kernel
theorem pm_a151_138 : pm_as (pm_cd pm_mm151) 138 = some (.putfield 126, 3) := by decide +kernel
theorem pm_a151_141 : pm_as (pm_cd pm_mm151) 141 = some (.goto (-70), 3) := by decide +kernel
theorem pm_a151_144 : pm_as (pm_cd pm_mm151) 144 = some (.aload_n 0, 1) := by decide +kernel
theorem pm_a151_145 : pm_as (pm_cd pm_mm151) 145 = some (.getfield 126, 3) := by decide +kernel
theorem pm_a151_148 : pm_as (pm_cd pm_mm151) 148 = some (.aload_n 0, 1) := by decide +kernel
theorem pm_a151_149 : pm_as (pm_cd pm_mm151) 149 = some (.getfield 133, 3) := by decide +kernel
theorem pm_a151_152 : pm_as (pm_cd pm_mm151) 152 = some (.isub, 1) := by decide +kernel
theorem pm_a151_153 : pm_as (pm_cd pm_mm151) 153 = some (.bipush 8, 2) := by decide +kernel
theorem pm_a151_155 : pm_as (pm_cd pm_mm151) 155 = some (.if_icmp .le 235, 3) := by decide +kernel
theorem pm_a151_158 : pm_as (pm_cd pm_mm151) 158 = some (.aload_n 0, 1) := by decide +kernel
theorem pm_a151_159 : pm_as (pm_cd pm_mm151) 159 = some (.iconst 1, 1) := by decide +kernel
theorem pm_a151_160 : pm_as (pm_cd pm_mm151) 160 = some (.aload_n 0, 1) := by decide +kernel
theorem pm_a151_161 : pm_as (pm_cd pm_mm151) 161 = some (.getfield 133, 3) := by decide +kernel
theorem pm_a151_164 : pm_as (pm_cd pm_mm151) 164 = some (.invokevirtual 151, 3) := by decide +kernel
theorem pm_a151_167 : pm_as (pm_cd pm_mm151) 167 = some (.goto 223, 3) := by decide +kernel
theorem pm_a151_170 : pm_as (pm_cd pm_mm151) 170 = some (.iload_n 1, 1) := by decide +kernel
theorem pm_a151_171 : pm_as (pm_cd pm_mm151) 171 = some (.i2l, 1) := by decide +kernel
theorem pm_a151_172 : pm_as (pm_cd pm_mm151) 172 = some (.ldc2_w 155, 3) := by decide +kernel
theorem pm_a151_175 : pm_as (pm_cd pm_mm151) 175 = some (.ldc2_w 157, 3) := by decide +kernel
theorem pm_a151_178 : pm_as (pm_cd pm_mm151) 178 = some (.invokestatic 113, 3) := by decide +kernel
theorem pm_a151_181 : pm_as (pm_cd pm_mm151) 181 = some (.ifCond .eq 116, 3) := by decide +kernel
theorem pm_a151_184 : pm_as (pm_cd pm_mm151) 184 = some (.aload_n 0, 1) := by decide +kernel
theorem pm_a151_185 : pm_as (pm_cd pm_mm151) 185 = some (.iconst 2, 1) := by decide +kernel
theorem pm_a151_186 : pm_as (pm_cd pm_mm151) 186 = some (.putfield 140, 3) := by decide +kernel
theorem pm_a151_189 : pm_as (pm_cd pm_mm151) 189 = some (.aload_n 0, 1) := by decide +kernel
theorem pm_a151_190 : pm_as (pm_cd pm_mm151) 190 = some (.invokevirtual 129, 3) := by decide +kernel
theorem pm_a151_193 : pm_as (pm_cd pm_mm151) 193 = some (.i2l, 1) := by decide +kernel
theorem pm_a151_194 : pm_as (pm_cd pm_mm151) 194 = some (.ldc2_w 155, 3) := by decide +kernel
theorem pm_a151_197 : pm_as (pm_cd pm_mm151) 197 = some (.ldc2_w 157, 3) := by decide +kernel
theorem pm_a151_200 : pm_as (pm_cd pm_mm151) 200 = some (.invokestatic 113, 3) := by decide +kernel
theorem pm_a151_203 : pm_as (pm_cd pm_mm151) 203 = some (.ifCond .eq 58, 3) := by decide +kernel
theorem pm_a151_206 : pm_as (pm_cd pm_mm151) 206 = some (.aload_n 0, 1) := by decide +kernel
theorem pm_a151_207 : pm_as (pm_cd pm_mm151) 207 = some (.aload_n 0, 1) := by decide +kernel
theorem pm_a151_208 : pm_as (pm_cd pm_mm151) 208 = some (.getfield 126, 3) := by decide +kernel
theorem pm_a151_211 : pm_as (pm_cd pm_mm151) 211 = some (.aload_n 0, 1) := by decide +kernel
theorem pm_a151_212 : pm_as (pm_cd pm_mm151) 212 = some (.getfield 133, 3) := by decide +kernel
theorem pm_a151_215 : pm_as (pm_cd pm_mm151) 215 = some (.isub, 1) := by decide +kernel
theorem pm_a151_216 : pm_as (pm_cd pm_mm151) 216 = some (.iconst 2, 1) := by decide +kernel
theorem pm_a151_217 : pm_as (pm_cd pm_mm151) 217 = some (.if_icmp .ge 24, 3) := by decide +kernel
theorem pm_a151_220 : pm_as (pm_cd pm_mm151) 220 = some (.ldc2_w 159, 3) := by decide +kernel
theorem pm_a151_223 : pm_as (pm_cd pm_mm151) 223 = some (.aload_n 0, 1) := by decide +kernel
theorem pm_a151_224 : pm_as (pm_cd pm_mm151) 224 = some (.getfield 136, 3) := by decide +kernel
theorem pm_a151_227 : pm_as (pm_cd pm_mm151) 227 = some (.lmul, 1) := by decide +kernel
theorem pm_a151_228 : pm_as (pm_cd pm_mm151) 228 = some (.aload_n 0, 1) := by decide +kernel
theorem pm_a151_229 : pm_as (pm_cd pm_mm151) 229 = some (.invokevirtual 129, 3) := by decide +kernel
theorem pm_a151_232 : pm_as (pm_cd pm_mm151) 232 = some (.i2l, 1) := by decide +kernel
theorem pm_a151_233 : pm_as (pm_cd pm_mm151) 233 = some (.ladd, 1) := by decide +kernel
theorem pm_a151_234 : pm_as (pm_cd pm_mm151) 234 = some (.ldc2_w 155, 3) := by decide +kernel
theorem pm_a151_237 : pm_as (pm_cd pm_mm151) 237 = some (.lsub, 1) := by decide +kernel
theorem pm_a151_238 : pm_as (pm_cd pm_mm151) 238 = some (.goto 7, 3) := by decide +kernel
theorem pm_a151_241 : pm_as (pm_cd pm_mm151) 241 = some (.aload_n 0, 1) := by decide +kernel
theorem pm_a151_242 : pm_as (pm_cd pm_mm151) 242 = some (.getfield 136, 3) := by decide +kernel
theorem pm_a151_245 : pm_as (pm_cd pm_mm151) 245 = some (.putfield 136, 3) := by decide +kernel
theorem pm_a151_248 : pm_as (pm_cd pm_mm151) 248 = some (.aload_n 0, 1) := by decide +kernel
theorem pm_a151_249 : pm_as (pm_cd pm_mm151) 249 = some (.dup, 1) := by decide +kernel
theorem pm_a151_250 : pm_as (pm_cd pm_mm151) 250 = some (.getfield 126, 3) := by decide +kernel
theorem pm_a151_253 : pm_as (pm_cd pm_mm151) 253 = some (.iconst 1, 1) := by decide +kernel
theorem pm_a151_254 : pm_as (pm_cd pm_mm151) 254 = some (.iadd, 1) := by decide +kernel
theorem pm_a151_255 : pm_as (pm_cd pm_mm151) 255 = some (.putfield 126, 3) := by decide +kernel
theorem pm_a151_258 : pm_as (pm_cd pm_mm151) 258 = some (.goto (-69), 3) := by decide +kernel
theorem pm_a151_261 : pm_as (pm_cd pm_mm151) 261 = some (.aload_n 0, 1) := by decide +kernel
theorem pm_a151_262 : pm_as (pm_cd pm_mm151) 262 = some (.getfield 126, 3) := by decide +kernel
theorem pm_a151_265 : pm_as (pm_cd pm_mm151) 265 = some (.aload_n 0, 1) := by decide +kernel
theorem pm_a151_266 : pm_as (pm_cd pm_mm151) 266 = some (.getfield 133, 3) := by decide +kernel
theorem pm_a151_269 : pm_as (pm_cd pm_mm151) 269 = some (.isub, 1) := by decide +kernel
theorem pm_a151_270 : pm_as (pm_cd pm_mm151) 270 = some (.iconst 2, 1) := by decide +kernel
theorem pm_a151_271 : pm_as (pm_cd pm_mm151) 271 = some (.if_icmp .gt 14, 3) := by decide +kernel
theorem pm_a151_274 : pm_as (pm_cd pm_mm151) 274 = some (.aload_n 0, 1) := by decide +kernel
theorem pm_a151_275 : pm_as (pm_cd pm_mm151) 275 = some (.getfield 136, 3) := by decide +kernel
theorem pm_a151_278 : pm_as (pm_cd pm_mm151) 278 = some (.ldc2_w 161, 3) := by decide +kernel
theorem pm_a151_281 : pm_as (pm_cd pm_mm151) 281 = some (.lcmp, 1) := by decide +kernel
theorem pm_a151_282 : pm_as (pm_cd pm_mm151) 282 = some (.ifCond .le 108, 3) := by decide +kernel
theorem pm_a151_285 : pm_as (pm_cd pm_mm151) 285 = some (.aload_n 0, 1) := by decide +kernel
theorem pm_a151_286 : pm_as (pm_cd pm_mm151) 286 = some (.iconst 1, 1) := by decide +kernel
theorem pm_a151_287 : pm_as (pm_cd pm_mm151) 287 = some (.aload_n 0, 1) := by decide +kernel
theorem pm_a151_288 : pm_as (pm_cd pm_mm151) 288 = some (.getfield 133, 3) := by decide +kernel
theorem pm_a151_291 : pm_as (pm_cd pm_mm151) 291 = some (.invokevirtual 151, 3) := by decide +kernel
theorem pm_a151_294 : pm_as (pm_cd pm_mm151) 294 = some (.goto 96, 3) := by decide +kernel
theorem pm_a151_297 : pm_as (pm_cd pm_mm151) 297 = some (.iload_n 1, 1) := by decide +kernel
theorem pm_a151_298 : pm_as (pm_cd pm_mm151) 298 = some (.invokestatic 163, 3) := by decide +kernel
theorem pm_a151_301 : pm_as (pm_cd pm_mm151) 301 = some (.bipush (-4), 2) := by decide +kernel
theorem pm_a151_303 : pm_as (pm_cd pm_mm151) 303 = some (.if_icmp .eq 30, 3) := by decide +kernel
theorem pm_a151_306 : pm_as (pm_cd pm_mm151) 306 = some (.aload_n 0, 1) := by decide +kernel
theorem pm_a151_307 : pm_as (pm_cd pm_mm151) 307 = some (.iconst 3, 1) := by decide +kernel
theorem pm_a151_308 : pm_as (pm_cd pm_mm151) 308 = some (.putfield 140, 3) := by decide +kernel
theorem pm_a151_311 : pm_as (pm_cd pm_mm151) 311 = some (.aload_n 0, 1) := by decide +kernel
theorem pm_a151_312 : pm_as (pm_cd pm_mm151) 312 = some (.iload_n 1, 1) := by decide +kernel
theorem pm_a151_313 : pm_as (pm_cd pm_mm151) 313 = some (.invokestatic 163, 3) := by decide +kernel
theorem pm_a151_316 : pm_as (pm_cd pm_mm151) 316 = some (.i2l, 1) := by decide +kernel
theorem pm_a151_317 : pm_as (pm_cd pm_mm151) 317 = some (.putfield 136, 3) := by decide +kernel
theorem pm_a151_320 : pm_as (pm_cd pm_mm151) 320 = some (.aload_n 0, 1) := by decide +kernel
theorem pm_a151_321 : pm_as (pm_cd pm_mm151) 321 = some (.dup, 1) := by decide +kernel
theorem pm_a151_322 : pm_as (pm_cd pm_mm151) 322 = some (.getfield 126, 3) := by decide +kernel
theorem pm_a151_325 : pm_as (pm_cd pm_mm151) 325 = some (.iconst 1, 1) := by decide +kernel
theorem pm_a151_326 : pm_as (pm_cd pm_mm151) 326 = some (.iadd, 1) := by decide +kernel
theorem pm_a151_327 : pm_as (pm_cd pm_mm151) 327 = some (.putfield 126, 3) := by decide +kernel
theorem pm_a151_330 : pm_as (pm_cd pm_mm151) 330 = some (.goto 60, 3) := by decide +kernel
theorem pm_a151_333 : pm_as (pm_cd pm_mm151) 333 = some (.iload_n 1, 1) := by decide +kernel
theorem pm_a151_334 : pm_as (pm_cd pm_mm151) 334 = some (.bipush 40, 2) := by decide +kernel
theorem pm_a151_336 : pm_as (pm_cd pm_mm151) 336 = some (.if_icmp .eq 21, 3) := by decide +kernel
theorem pm_a151_339 : pm_as (pm_cd pm_mm151) 339 = some (.iload_n 1, 1) := by decide +kernel
theorem pm_a151_340 : pm_as (pm_cd pm_mm151) 340 = some (.bipush 41, 2) := by decide +kernel
theorem pm_a151_342 : pm_as (pm_cd pm_mm151) 342 = some (.if_icmp .eq 15, 3) := by decide +kernel
theorem pm_a151_345 : pm_as (pm_cd pm_mm151) 345 = some (.iload_n 1, 1) := by decide +kernel
theorem pm_a151_346 : pm_as (pm_cd pm_mm151) 346 = some (.bipush 92, 2) := by decide +kernel
theorem pm_a151_348 : pm_as (pm_cd pm_mm151) 348 = some (.if_icmp .eq 9, 3) := by decide +kernel
theorem pm_a151_351 : pm_as (pm_cd pm_mm151) 351 = some (.iload_n 1, 1) := by decide +kernel
theorem pm_a151_352 : pm_as (pm_cd pm_mm151) 352 = some (.bipush 46, 2) := by decide +kernel
theorem pm_a151_354 : pm_as (pm_cd pm_mm151) 354 = some (.if_icmp .ne 27, 3) := by decide +kernel
theorem pm_a151_357 : pm_as (pm_cd pm_mm151) 357 = some (.aload_n 0, 1) := by decide +kernel
theorem pm_a151_358 : pm_as (pm_cd pm_mm151) 358 = some (.iconst 4, 1) := by decide +kernel
theorem pm_a151_359 : pm_as (pm_cd pm_mm151) 359 = some (.putfield 140, 3) := by decide +kernel
theorem pm_a151_362 : pm_as (pm_cd pm_mm151) 362 = some (.aload_n 0, 1) := by decide +kernel
theorem pm_a151_363 : pm_as (pm_cd pm_mm151) 363 = some (.iload_n 1, 1) := by decide +kernel
theorem pm_a151_364 : pm_as (pm_cd pm_mm151) 364 = some (.i2l, 1) := by decide +kernel
theorem pm_a151_365 : pm_as (pm_cd pm_mm151) 365 = some (.putfield 136, 3) := by decide +kernel
theorem pm_a151_368 : pm_as (pm_cd pm_mm151) 368 = some (.aload_n 0, 1) := by decide +kernel
theorem pm_a151_369 : pm_as (pm_cd pm_mm151) 369 = some (.dup, 1) := by decide +kernel
theorem pm_a151_370 : pm_as (pm_cd pm_mm151) 370 = some (.getfield 126, 3) := by decide +kernel
theorem pm_a151_373 : pm_as (pm_cd pm_mm151) 373 = some (.iconst 1, 1) := by decide +kernel
theorem pm_a151_374 : pm_as (pm_cd pm_mm151) 374 = some (.iadd, 1) := by decide +kernel
theorem pm_a151_375 : pm_as (pm_cd pm_mm151) 375 = some (.putfield 126, 3) := by decide +kernel
theorem pm_a151_378 : pm_as (pm_cd pm_mm151) 378 = some (.goto 12, 3) := by decide +kernel
theorem pm_a151_381 : pm_as (pm_cd pm_mm151) 381 = some (.aload_n 0, 1) := by decide +kernel
theorem pm_a151_382 : pm_as (pm_cd pm_mm151) 382 = some (.iconst 1, 1) := by decide +kernel
theorem pm_a151_383 : pm_as (pm_cd pm_mm151) 383 = some (.aload_n 0, 1) := by decide +kernel
theorem pm_a151_384 : pm_as (pm_cd pm_mm151) 384 = some (.getfield 133, 3) := by decide +kernel
theorem pm_a151_387 : pm_as (pm_cd pm_mm151) 387 = some (.invokevirtual 151, 3) := by decide +kernel
theorem pm_a151_390 : pm_as (pm_cd pm_mm151) 390 = some (.return_, 1) := by decide +kernel
theorem pm_a152_0 : pm_as (pm_cd pm_mm152) 0 = some (.aload_n 0, 1) := by decide +kernel
theorem pm_a152_1 : pm_as (pm_cd pm_mm152) 1 = some (.getfield 126, 3) := by decide +kernel
theorem pm_a152_4 : pm_as (pm_cd pm_mm152) 4 = some (.aload_n 0, 1) := by decide +kernel
theorem pm_a152_5 : pm_as (pm_cd pm_mm152) 5 = some (.getfield 105, 3) := by decide +kernel
theorem pm_a152_8 : pm_as (pm_cd pm_mm152) 8 = some (.if_icmp .ge 15, 3) := by decide +kernel
theorem pm_a152_11 : pm_as (pm_cd pm_mm152) 11 = some (.aload_n 0, 1) := by decide +kernel
theorem pm_a152_12 : pm_as (pm_cd pm_mm152) 12 = some (.getfield 16, 3) := by decide +kernel
theorem pm_a152_15 : pm_as (pm_cd pm_mm152) 15 = some (.aload_n 0, 1) := by decide +kernel
theorem pm_a152_16 : pm_as (pm_cd pm_mm152) 16 = some (.getfield 126, 3) := by decide +kernel
theorem pm_a152_19 : pm_as (pm_cd pm_mm152) 19 = some (.iaload, 1) := by decide +kernel
theorem pm_a152_20 : pm_as (pm_cd pm_mm152) 20 = some (.goto 4, 3) := by decide +kernel
theorem pm_a152_23 : pm_as (pm_cd pm_mm152) 23 = some (.iconst (-1), 1) := by decide +kernel
theorem pm_a152_24 : pm_as (pm_cd pm_mm152) 24 = some (.ireturn, 1) := by decide +kernel
theorem pm_a153_0 : pm_as (pm_cd pm_mm153) 0 = some (.aload_n 0, 1) := by decide +kernel
theorem pm_a153_1 : pm_as (pm_cd pm_mm153) 1 = some (.getfield 120, 3) := by decide +kernel
theorem pm_a153_4 : pm_as (pm_cd pm_mm153) 4 = some (.ifCond .ne 13, 3) := by decide +kernel
theorem pm_a153_7 : pm_as (pm_cd pm_mm153) 7 = some (.aload_n 0, 1) := by decide +kernel
theorem pm_a153_8 : pm_as (pm_cd pm_mm153) 8 = some (.iload_n 1, 1) := by decide +kernel
theorem pm_a153_9 : pm_as (pm_cd pm_mm153) 9 = some (.putfield 120, 3) := by decide +kernel
theorem pm_a153_12 : pm_as (pm_cd pm_mm153) 12 = some (.aload_n 0, 1) := by decide +kernel
theorem pm_a153_13 : pm_as (pm_cd pm_mm153) 13 = some (.iload_n 2, 1) := by decide +kernel
theorem pm_a153_14 : pm_as (pm_cd pm_mm153) 14 = some (.putfield 123, 3) := by decide +kernel
theorem pm_a153_17 : pm_as (pm_cd pm_mm153) 17 = some (.return_, 1) := by decide +kernel
theorem pm_a154_0 : pm_as (pm_cd pm_mm154) 0 = some (.iload_n 0, 1) := by decide +kernel
theorem pm_a154_1 : pm_as (pm_cd pm_mm154) 1 = some (.bipush 83, 2) := by decide +kernel
theorem pm_a154_3 : pm_as (pm_cd pm_mm154) 3 = some (.if_icmp .ne 7, 3) := by decide +kernel
theorem pm_a154_6 : pm_as (pm_cd pm_mm154) 6 = some (.iconst 2, 1) := by decide +kernel
theorem pm_a154_7 : pm_as (pm_cd pm_mm154) 7 = some (.goto 46, 3) := by decide +kernel
theorem pm_a154_10 : pm_as (pm_cd pm_mm154) 10 = some (.iload_n 0, 1) := by decide +kernel
theorem pm_a154_11 : pm_as (pm_cd pm_mm154) 11 = some (.bipush 75, 2) := by decide +kernel
theorem pm_a154_13 : pm_as (pm_cd pm_mm154) 13 = some (.if_icmp .ne 7, 3) := by decide +kernel
theorem pm_a154_16 : pm_as (pm_cd pm_mm154) 16 = some (.iconst 3, 1) := by decide +kernel
theorem pm_a154_17 : pm_as (pm_cd pm_mm154) 17 = some (.goto 36, 3) := by decide +kernel
theorem pm_a154_20 : pm_as (pm_cd pm_mm154) 20 = some (.iload_n 0, 1) := by decide +kernel
theorem pm_a154_21 : pm_as (pm_cd pm_mm154) 21 = some (.bipush 73, 2) := by decide +kernel
theorem pm_a154_23 : pm_as (pm_cd pm_mm154) 23 = some (.if_icmp .ne 7, 3) := by decide +kernel
theorem pm_a154_26 : pm_as (pm_cd pm_mm154) 26 = some (.iconst 4, 1) := by decide +kernel
theorem pm_a154_27 : pm_as (pm_cd pm_mm154) 27 = some (.goto 26, 3) := by decide +kernel
theorem pm_a154_30 : pm_as (pm_cd pm_mm154) 30 = some (.iload_n 0, 1) := by decide +kernel
theorem pm_a154_31 : pm_as (pm_cd pm_mm154) 31 = some (.bipush 70, 2) := by decide +kernel
theorem pm_a154_33 : pm_as (pm_cd pm_mm154) 33 = some (.if_icmp .ne 7, 3) := by decide +kernel
theorem pm_a154_36 : pm_as (pm_cd pm_mm154) 36 = some (.iconst 5, 1) := by decide +kernel
theorem pm_a154_37 : pm_as (pm_cd pm_mm154) 37 = some (.goto 16, 3) := by decide +kernel
theorem pm_a154_40 : pm_as (pm_cd pm_mm154) 40 = some (.iload_n 0, 1) := by decide +kernel
theorem pm_a154_41 : pm_as (pm_cd pm_mm154) 41 = some (.bipush 88, 2) := by decide +kernel
theorem pm_a154_43 : pm_as (pm_cd pm_mm154) 43 = some (.if_icmp .ne 8, 3) := by decide +kernel
theorem pm_a154_46 : pm_as (pm_cd pm_mm154) 46 = some (.bipush 6, 2) := by decide +kernel
theorem pm_a154_48 : pm_as (pm_cd pm_mm154) 48 = some (.goto 5, 3) := by decide +kernel
theorem pm_a154_51 : pm_as (pm_cd pm_mm154) 51 = some (.bipush (-4), 2) := by decide +kernel
theorem pm_a154_53 : pm_as (pm_cd pm_mm154) 53 = some (.ireturn, 1) := by decide +kernel
theorem pm_a155_0 : pm_as (pm_cd pm_mm155) 0 = some (.aload_n 0, 1) := by decide +kernel
theorem pm_a155_1 : pm_as (pm_cd pm_mm155) 1 = some (.getfield 179, 3) := by decide +kernel
theorem pm_a155_4 : pm_as (pm_cd pm_mm155) 4 = some (.iconst 1, 1) := by decide +kernel
theorem pm_a155_5 : pm_as (pm_cd pm_mm155) 5 = some (.isub, 1) := by decide +kernel
theorem pm_a155_6 : pm_as (pm_cd pm_mm155) 6 = some (.istore_n 1, 1) := by decide +kernel
theorem pm_a155_7 : pm_as (pm_cd pm_mm155) 7 = some (.iload_n 1, 1) := by decide +kernel
theorem pm_a155_8 : pm_as (pm_cd pm_mm155) 8 = some (.ifCond .lt 23, 3) := by decide +kernel
theorem pm_a155_11 : pm_as (pm_cd pm_mm155) 11 = some (.aload_n 0, 1) := by decide +kernel
theorem pm_a155_12 : pm_as (pm_cd pm_mm155) 12 = some (.getfield 38, 3) := by decide +kernel
theorem pm_a155_15 : pm_as (pm_cd pm_mm155) 15 = some (.iload_n 1, 1) := by decide +kernel
theorem pm_a155_16 : pm_as (pm_cd pm_mm155) 16 = some (.laload, 1) := by decide +kernel
theorem pm_a155_17 : pm_as (pm_cd pm_mm155) 17 = some (.aload_n 0, 1) := by decide +kernel
theorem pm_a155_18 : pm_as (pm_cd pm_mm155) 18 = some (.getfield 136, 3) := by decide +kernel
theorem pm_a155_21 : pm_as (pm_cd pm_mm155) 21 = some (.lcmp, 1) := by decide +kernel
theorem pm_a155_22 : pm_as (pm_cd pm_mm155) 22 = some (.ifCond .eq 9, 3) := by decide +kernel
theorem pm_a155_25 : pm_as (pm_cd pm_mm155) 25 = some (.iinc 1 (-1), 3) := by decide +kernel
theorem pm_a155_28 : pm_as (pm_cd pm_mm155) 28 = some (.goto (-21), 3) := by decide +kernel
theorem pm_a155_31 : pm_as (pm_cd pm_mm155) 31 = some (.iload_n 1, 1) := by decide +kernel
theorem pm_a155_32 : pm_as (pm_cd pm_mm155) 32 = some (.ifCond .ge 15, 3) := by decide +kernel
theorem pm_a155_35 : pm_as (pm_cd pm_mm155) 35 = some (.aload_n 0, 1) := by decide +kernel
theorem pm_a155_36 : pm_as (pm_cd pm_mm155) 36 = some (.iconst 3, 1) := by decide +kernel
theorem pm_a155_37 : pm_as (pm_cd pm_mm155) 37 = some (.aload_n 0, 1) := by decide +kernel
theorem pm_a155_38 : pm_as (pm_cd pm_mm155) 38 = some (.getfield 133, 3) := by decide +kernel
theorem pm_a155_41 : pm_as (pm_cd pm_mm155) 41 = some (.invokevirtual 151, 3) := by decide +kernel
theorem pm_a155_44 : pm_as (pm_cd pm_mm155) 44 = some (.goto 26, 3) := by decide +kernel
theorem pm_a155_47 : pm_as (pm_cd pm_mm155) 47 = some (.aload_n 0, 1) := by decide +kernel
theorem pm_a155_48 : pm_as (pm_cd pm_mm155) 48 = some (.invokevirtual 170, 3) := by decide +kernel
theorem pm_a155_51 : pm_as (pm_cd pm_mm155) 51 = some (.aload_n 0, 1) := by decide +kernel
theorem pm_a155_52 : pm_as (pm_cd pm_mm155) 52 = some (.bipush 10, 2) := by decide +kernel
theorem pm_a155_54 : pm_as (pm_cd pm_mm155) 54 = some (.aload_n 0, 1) := by decide +kernel
theorem pm_a155_55 : pm_as (pm_cd pm_mm155) 55 = some (.getfield 179, 3) := by decide +kernel
theorem pm_a155_58 : pm_as (pm_cd pm_mm155) 58 = some (.iadd, 1) := by decide +kernel
theorem pm_a155_59 : pm_as (pm_cd pm_mm155) 59 = some (.iconst 1, 1) := by decide +kernel
theorem pm_a155_60 : pm_as (pm_cd pm_mm155) 60 = some (.isub, 1) := by decide +kernel
theorem pm_a155_61 : pm_as (pm_cd pm_mm155) 61 = some (.iload_n 1, 1) := by decide +kernel
theorem pm_a155_62 : pm_as (pm_cd pm_mm155) 62 = some (.isub, 1) := by decide +kernel
theorem pm_a155_63 : pm_as (pm_cd pm_mm155) 63 = some (.invokevirtual 173, 3) := by decide +kernel
theorem pm_a155_66 : pm_as (pm_cd pm_mm155) 66 = some (.aload_n 0, 1) := by decide +kernel
theorem pm_a155_67 : pm_as (pm_cd pm_mm155) 67 = some (.invokevirtual 176, 3) := by decide +kernel
theorem pm_a155_70 : pm_as (pm_cd pm_mm155) 70 = some (.return_, 1) := by decide +kernel
theorem pm_a156_0 : pm_as (pm_cd pm_mm156) 0 = some (.aload_n 0, 1) := by decide +kernel
theorem pm_a156_1 : pm_as (pm_cd pm_mm156) 1 = some (.getfield 167, 3) := by decide +kernel
theorem pm_a156_4 : pm_as (pm_cd pm_mm156) 4 = some (.iconst 1, 1) := by decide +kernel
theorem pm_a156_5 : pm_as (pm_cd pm_mm156) 5 = some (.isub, 1) := by decide +kernel
theorem pm_a156_6 : pm_as (pm_cd pm_mm156) 6 = some (.istore_n 1, 1) := by decide +kernel
theorem pm_a156_7 : pm_as (pm_cd pm_mm156) 7 = some (.aload_n 0, 1) := by decide +kernel
theorem pm_a156_8 : pm_as (pm_cd pm_mm156) 8 = some (.getfield 31, 3) := by decide +kernel
theorem pm_a156_11 : pm_as (pm_cd pm_mm156) 11 = some (.iload_n 1, 1) := by decide +kernel
theorem pm_a156_12 : pm_as (pm_cd pm_mm156) 12 = some (.baload, 1) := by decide +kernel
theorem pm_a156_13 : pm_as (pm_cd pm_mm156) 13 = some (.ifCond .eq 60, 3) := by decide +kernel
theorem pm_a156_16 : pm_as (pm_cd pm_mm156) 16 = some (.aload_n 0, 1) := by decide +kernel
theorem pm_a156_17 : pm_as (pm_cd pm_mm156) 17 = some (.getfield 117, 3) := by decide +kernel
theorem pm_a156_20 : pm_as (pm_cd pm_mm156) 20 = some (.istore_n 2, 1) := by decide +kernel
theorem pm_a156_21 : pm_as (pm_cd pm_mm156) 21 = some (.iload_n 2, 1) := by decide +kernel
theorem pm_a156_22 : pm_as (pm_cd pm_mm156) 22 = some (.aload_n 0, 1) := by decide +kernel
theorem pm_a156_23 : pm_as (pm_cd pm_mm156) 23 = some (.getfield 28, 3) := by decide +kernel
theorem pm_a156_26 : pm_as (pm_cd pm_mm156) 26 = some (.iload_n 1, 1) := by decide +kernel
theorem pm_a156_27 : pm_as (pm_cd pm_mm156) 27 = some (.iaload, 1) := by decide +kernel
theorem pm_a156_28 : pm_as (pm_cd pm_mm156) 28 = some (.if_icmp .le 23, 3) := by decide +kernel
theorem pm_a156_31 : pm_as (pm_cd pm_mm156) 31 = some (.aload_n 0, 1) := by decide +kernel
theorem pm_a156_32 : pm_as (pm_cd pm_mm156) 32 = some (.getfield 19, 3) := by decide +kernel
theorem pm_a156_35 : pm_as (pm_cd pm_mm156) 35 = some (.iload_n 2, 1) := by decide +kernel
theorem pm_a156_36 : pm_as (pm_cd pm_mm156) 36 = some (.aload_n 0, 1) := by decide +kernel
theorem pm_a156_37 : pm_as (pm_cd pm_mm156) 37 = some (.getfield 19, 3) := by decide +kernel
theorem pm_a156_40 : pm_as (pm_cd pm_mm156) 40 = some (.iload_n 2, 1) := by decide +kernel
theorem pm_a156_41 : pm_as (pm_cd pm_mm156) 41 = some (.iconst 1, 1) := by decide +kernel
theorem pm_a156_42 : pm_as (pm_cd pm_mm156) 42 = some (.isub, 1) := by decide +kernel
theorem pm_a156_43 : pm_as (pm_cd pm_mm156) 43 = some (.iaload, 1) := by decide +kernel
theorem pm_a156_44 : pm_as (pm_cd pm_mm156) 44 = some (.iastore, 1) := by decide +kernel
theorem pm_a156_45 : pm_as (pm_cd pm_mm156) 45 = some (.iinc 2 (-1), 3) := by decide +kernel
theorem pm_a156_48 : pm_as (pm_cd pm_mm156) 48 = some (.goto (-27), 3) := by decide +kernel
theorem pm_a156_51 : pm_as (pm_cd pm_mm156) 51 = some (.aload_n 0, 1) := by decide +kernel
theorem pm_a156_52 : pm_as (pm_cd pm_mm156) 52 = some (.getfield 19, 3) := by decide +kernel
theorem pm_a156_55 : pm_as (pm_cd pm_mm156) 55 = some (.aload_n 0, 1) := by decide +kernel
theorem pm_a156_56 : pm_as (pm_cd pm_mm156) 56 = some (.getfield 28, 3) := by decide +kernel
theorem pm_a156_59 : pm_as (pm_cd pm_mm156) 59 = some (.iload_n 1, 1) := by decide +kernel
theorem pm_a156_60 : pm_as (pm_cd pm_mm156) 60 = some (.iaload, 1) := by decide +kernel
theorem pm_a156_61 : pm_as (pm_cd pm_mm156) 61 = some (.iconst 0, 1) := by decide +kernel
theorem pm_a156_62 : pm_as (pm_cd pm_mm156) 62 = some (.iastore, 1) := by decide +kernel
theorem pm_a156_63 : pm_as (pm_cd pm_mm156) 63 = some (.aload_n 0, 1) := by decide +kernel
theorem pm_a156_64 : pm_as (pm_cd pm_mm156) 64 = some (.dup, 1) := by decide +kernel
theorem pm_a156_65 : pm_as (pm_cd pm_mm156) 65 = some (.getfield 117, 3) := by decide +kernel
theorem pm_a156_68 : pm_as (pm_cd pm_mm156) 68 = some (.iconst 1, 1) := by decide +kernel
theorem pm_a156_69 : pm_as (pm_cd pm_mm156) 69 = some (.iadd, 1) := by decide +kernel
theorem pm_a156_70 : pm_as (pm_cd pm_mm156) 70 = some (.putfield 117, 3) := by decide +kernel
theorem pm_a156_73 : pm_as (pm_cd pm_mm156) 73 = some (.aload_n 0, 1) := by decide +kernel
theorem pm_a156_74 : pm_as (pm_cd pm_mm156) 74 = some (.getfield 31, 3) := by decide +kernel
theorem pm_a156_77 : pm_as (pm_cd pm_mm156) 77 = some (.iload_n 1, 1) := by decide +kernel
theorem pm_a156_78 : pm_as (pm_cd pm_mm156) 78 = some (.iconst 1, 1) := by decide +kernel
theorem pm_a156_79 : pm_as (pm_cd pm_mm156) 79 = some (.bastore, 1) := by decide +kernel
theorem pm_a156_80 : pm_as (pm_cd pm_mm156) 80 = some (.return_, 1) := by decide +kernel
theorem pm_a157_0 : pm_as (pm_cd pm_mm157) 0 = some (.aload_n 0, 1) := by decide +kernel
theorem pm_a157_1 : pm_as (pm_cd pm_mm157) 1 = some (.getfield 19, 3) := by decide +kernel
theorem pm_a157_4 : pm_as (pm_cd pm_mm157) 4 = some (.aload_n 0, 1) := by decide +kernel
theorem pm_a157_5 : pm_as (pm_cd pm_mm157) 5 = some (.getfield 117, 3) := by decide +kernel
theorem pm_a157_8 : pm_as (pm_cd pm_mm157) 8 = some (.iload_n 1, 1) := by decide +kernel
theorem pm_a157_9 : pm_as (pm_cd pm_mm157) 9 = some (.iastore, 1) := by decide +kernel
theorem pm_a157_10 : pm_as (pm_cd pm_mm157) 10 = some (.aload_n 0, 1) := by decide +kernel
theorem pm_a157_11 : pm_as (pm_cd pm_mm157) 11 = some (.dup, 1) := by decide +kernel
theorem pm_a157_12 : pm_as (pm_cd pm_mm157) 12 = some (.getfield 117, 3) := by decide +kernel
theorem pm_a157_15 : pm_as (pm_cd pm_mm157) 15 = some (.iconst 1, 1) := by decide +kernel
theorem pm_a157_16 : pm_as (pm_cd pm_mm157) 16 = some (.iadd, 1) := by decide +kernel
theorem pm_a157_17 : pm_as (pm_cd pm_mm157) 17 = some (.putfield 117, 3) := by decide +kernel
theorem pm_a157_20 : pm_as (pm_cd pm_mm157) 20 = some (.return_, 1) := by decide +kernel
theorem pm_a158_0 : pm_as (pm_cd pm_mm158) 0 = some (.aload_n 0, 1) := by decide +kernel
theorem pm_a158_1 : pm_as (pm_cd pm_mm158) 1 = some (.invokevirtual 170, 3) := by decide +kernel
theorem pm_a158_4 : pm_as (pm_cd pm_mm158) 4 = some (.aload_n 0, 1) := by decide +kernel
theorem pm_a158_5 : pm_as (pm_cd pm_mm158) 5 = some (.iconst 1, 1) := by decide +kernel
theorem pm_a158_6 : pm_as (pm_cd pm_mm158) 6 = some (.invokevirtual 173, 3) := by decide +kernel
theorem pm_a158_9 : pm_as (pm_cd pm_mm158) 9 = some (.aload_n 0, 1) := by decide +kernel
theorem pm_a158_10 : pm_as (pm_cd pm_mm158) 10 = some (.iconst 1, 1) := by decide +kernel
theorem pm_a158_11 : pm_as (pm_cd pm_mm158) 11 = some (.invokevirtual 173, 3) := by decide +kernel
theorem pm_a158_14 : pm_as (pm_cd pm_mm158) 14 = some (.iconst 0, 1) := by decide +kernel
theorem pm_a158_15 : pm_as (pm_cd pm_mm158) 15 = some (.istore_n 1, 1) := by decide +kernel
theorem pm_a158_16 : pm_as (pm_cd pm_mm158) 16 = some (.iload_n 1, 1) := by decide +kernel
theorem pm_a158_17 : pm_as (pm_cd pm_mm158) 17 = some (.i2l, 1) := by decide +kernel
theorem pm_a158_18 : pm_as (pm_cd pm_mm158) 18 = some (.aload_n 0, 1) := by decide +kernel
theorem pm_a158_19 : pm_as (pm_cd pm_mm158) 19 = some (.getfield 136, 3) := by decide +kernel
theorem pm_a158_22 : pm_as (pm_cd pm_mm158) 22 = some (.lcmp, 1) := by decide +kernel
theorem pm_a158_23 : pm_as (pm_cd pm_mm158) 23 = some (.ifCond .ge 20, 3) := by decide +kernel
theorem pm_a158_26 : pm_as (pm_cd pm_mm158) 26 = some (.aload_n 0, 1) := by decide +kernel
theorem pm_a158_27 : pm_as (pm_cd pm_mm158) 27 = some (.iconst 0, 1) := by decide +kernel
theorem pm_a158_28 : pm_as (pm_cd pm_mm158) 28 = some (.invokevirtual 173, 3) := by decide +kernel
theorem pm_a158_31 : pm_as (pm_cd pm_mm158) 31 = some (.aload_n 0, 1) := by decide +kernel
theorem pm_a158_32 : pm_as (pm_cd pm_mm158) 32 = some (.bipush 11, 2) := by decide +kernel
theorem pm_a158_34 : pm_as (pm_cd pm_mm158) 34 = some (.invokevirtual 173, 3) := by decide +kernel
theorem pm_a158_37 : pm_as (pm_cd pm_mm158) 37 = some (.iinc 1 1, 3) := by decide +kernel
theorem pm_a158_40 : pm_as (pm_cd pm_mm158) 40 = some (.goto (-24), 3) := by decide +kernel
theorem pm_a158_43 : pm_as (pm_cd pm_mm158) 43 = some (.aload_n 0, 1) := by decide +kernel
theorem pm_a158_44 : pm_as (pm_cd pm_mm158) 44 = some (.bipush 10, 2) := by decide +kernel
theorem pm_a158_46 : pm_as (pm_cd pm_mm158) 46 = some (.invokevirtual 173, 3) := by decide +kernel
theorem pm_a158_49 : pm_as (pm_cd pm_mm158) 49 = some (.aload_n 0, 1) := by decide +kernel
theorem pm_a158_50 : pm_as (pm_cd pm_mm158) 50 = some (.invokevirtual 176, 3) := by decide +kernel
theorem pm_a158_53 : pm_as (pm_cd pm_mm158) 53 = some (.return_, 1) := by decide +kernel
theorem pm_a159_0 : pm_as (pm_cd pm_mm159) 0 = some (.aload_n 0, 1) := by decide +kernel
theorem pm_a159_1 : pm_as (pm_cd pm_mm159) 1 = some (.getfield 140, 3) := by decide +kernel
theorem pm_a159_4 : pm_as (pm_cd pm_mm159) 4 = some (.iconst 4, 1) := by decide +kernel
theorem pm_a159_5 : pm_as (pm_cd pm_mm159) 5 = some (.if_icmp .ne 17, 3) := by decide +kernel
theorem pm_a159_8 : pm_as (pm_cd pm_mm159) 8 = some (.aload_n 0, 1) := by decide +kernel
theorem pm_a159_9 : pm_as (pm_cd pm_mm159) 9 = some (.getfield 136, 3) := by decide +kernel
theorem pm_a159_12 : pm_as (pm_cd pm_mm159) 12 = some (.iload_n 1, 1) := by decide +kernel
theorem pm_a159_13 : pm_as (pm_cd pm_mm159) 13 = some (.i2l, 1) := by decide +kernel
theorem pm_a159_14 : pm_as (pm_cd pm_mm159) 14 = some (.lcmp, 1) := by decide +kernel
theorem pm_a159_15 : pm_as (pm_cd pm_mm159) 15 = some (.ifCond .ne 7, 3) := by decide +kernel
theorem pm_a159_18 : pm_as (pm_cd pm_mm159) 18 = some (.iconst 1, 1) := by decide +kernel
theorem pm_a159_19 : pm_as (pm_cd pm_mm159) 19 = some (.goto 4, 3) := by decide +kernel
theorem pm_a159_22 : pm_as (pm_cd pm_mm159) 22 = some (.iconst 0, 1) := by decide +kernel
theorem pm_a159_23 : pm_as (pm_cd pm_mm159) 23 = some (.ireturn, 1) := by decide +kernel
theorem pm_a160_0 : pm_as (pm_cd pm_mm160) 0 = some (.aload_n 0, 1) := by decide +kernel
theorem pm_a160_1 : pm_as (pm_cd pm_mm160) 1 = some (.invokevirtual 170, 3) := by decide +kernel
theorem pm_a160_4 : pm_as (pm_cd pm_mm160) 4 = some (.aload_n 0, 1) := by decide +kernel
theorem pm_a160_5 : pm_as (pm_cd pm_mm160) 5 = some (.invokevirtual 176, 3) := by decide +kernel
theorem pm_a160_8 : pm_as (pm_cd pm_mm160) 8 = some (.iconst 0, 1) := by decide +kernel
theorem pm_a160_9 : pm_as (pm_cd pm_mm160) 9 = some (.istore_n 1, 1) := by decide +kernel
theorem pm_a160_10 : pm_as (pm_cd pm_mm160) 10 = some (.aload_n 0, 1) := by decide +kernel
theorem pm_a160_11 : pm_as (pm_cd pm_mm160) 11 = some (.getfield 120, 3) := by decide +kernel
theorem pm_a160_14 : pm_as (pm_cd pm_mm160) 14 = some (.ifCond .ne 20, 3) := by decide +kernel
theorem pm_a160_17 : pm_as (pm_cd pm_mm160) 17 = some (.aload_n 0, 1) := by decide +kernel
theorem pm_a160_18 : pm_as (pm_cd pm_mm160) 18 = some (.getfield 140, 3) := by decide +kernel
theorem pm_a160_21 : pm_as (pm_cd pm_mm160) 21 = some (.iconst 1, 1) := by decide +kernel
theorem pm_a160_22 : pm_as (pm_cd pm_mm160) 22 = some (.if_icmp .eq 12, 3) := by decide +kernel
theorem pm_a160_25 : pm_as (pm_cd pm_mm160) 25 = some (.aload_n 0, 1) := by decide +kernel
theorem pm_a160_26 : pm_as (pm_cd pm_mm160) 26 = some (.iconst 2, 1) := by decide +kernel
theorem pm_a160_27 : pm_as (pm_cd pm_mm160) 27 = some (.aload_n 0, 1) := by decide +kernel
theorem pm_a160_28 : pm_as (pm_cd pm_mm160) 28 = some (.getfield 133, 3) := by decide +kernel
theorem pm_a160_31 : pm_as (pm_cd pm_mm160) 31 = some (.invokevirtual 151, 3) := by decide +kernel
theorem pm_a160_34 : pm_as (pm_cd pm_mm160) 34 = some (.aload_n 0, 1) := by decide +kernel
theorem pm_a160_35 : pm_as (pm_cd pm_mm160) 35 = some (.getfield 120, 3) := by decide +kernel
theorem pm_a160_38 : pm_as (pm_cd pm_mm160) 38 = some (.ifCond .ne 80, 3) := by decide +kernel
theorem pm_a160_41 : pm_as (pm_cd pm_mm160) 41 = some (.aload_n 0, 1) := by decide +kernel
theorem pm_a160_42 : pm_as (pm_cd pm_mm160) 42 = some (.getfield 140, 3) := by decide +kernel
theorem pm_a160_45 : pm_as (pm_cd pm_mm160) 45 = some (.iconst 1, 1) := by decide +kernel
theorem pm_a160_46 : pm_as (pm_cd pm_mm160) 46 = some (.if_icmp .ne 72, 3) := by decide +kernel
theorem pm_a160_49 : pm_as (pm_cd pm_mm160) 49 = some (.aload_n 0, 1) := by decide +kernel
theorem pm_a160_50 : pm_as (pm_cd pm_mm160) 50 = some (.getfield 182, 3) := by decide +kernel
theorem pm_a160_53 : pm_as (pm_cd pm_mm160) 53 = some (.bipush 40, 2) := by decide +kernel
theorem pm_a160_55 : pm_as (pm_cd pm_mm160) 55 = some (.if_icmp .ne 15, 3) := by decide +kernel
theorem pm_a160_58 : pm_as (pm_cd pm_mm160) 58 = some (.aload_n 0, 1) := by decide +kernel
theorem pm_a160_59 : pm_as (pm_cd pm_mm160) 59 = some (.iconst 4, 1) := by decide +kernel
theorem pm_a160_60 : pm_as (pm_cd pm_mm160) 60 = some (.aload_n 0, 1) := by decide +kernel
theorem pm_a160_61 : pm_as (pm_cd pm_mm160) 61 = some (.getfield 133, 3) := by decide +kernel
theorem pm_a160_64 : pm_as (pm_cd pm_mm160) 64 = some (.invokevirtual 151, 3) := by decide +kernel
theorem pm_a160_67 : pm_as (pm_cd pm_mm160) 67 = some (.goto (-33), 3) := by decide +kernel
theorem pm_a160_70 : pm_as (pm_cd pm_mm160) 70 = some (.aload_n 0, 1) := by decide +kernel
theorem pm_a160_71 : pm_as (pm_cd pm_mm160) 71 = some (.dup, 1) := by decide +kernel
theorem pm_a160_72 : pm_as (pm_cd pm_mm160) 72 = some (.getfield 182, 3) := by decide +kernel
theorem pm_a160_75 : pm_as (pm_cd pm_mm160) 75 = some (.iconst 1, 1) := by decide +kernel
theorem pm_a160_76 : pm_as (pm_cd pm_mm160) 76 = some (.iadd, 1) := by decide +kernel
theorem pm_a160_77 : pm_as (pm_cd pm_mm160) 77 = some (.putfield 182, 3) := by decide +kernel
theorem pm_a160_80 : pm_as (pm_cd pm_mm160) 80 = some (.aload_n 0, 1) := by decide +kernel
theorem pm_a160_81 : pm_as (pm_cd pm_mm160) 81 = some (.getfield 38, 3) := by decide +kernel
theorem pm_a160_84 : pm_as (pm_cd pm_mm160) 84 = some (.aload_n 0, 1) := by decide +kernel
theorem pm_a160_85 : pm_as (pm_cd pm_mm160) 85 = some (.getfield 179, 3) := by decide +kernel
theorem pm_a160_88 : pm_as (pm_cd pm_mm160) 88 = some (.aload_n 0, 1) := by decide +kernel
theorem pm_a160_89 : pm_as (pm_cd pm_mm160) 89 = some (.getfield 136, 3) := by decide +kernel
theorem pm_a160_92 : pm_as (pm_cd pm_mm160) 92 = some (.lastore, 1) := by decide +kernel
theorem pm_a160_93 : pm_as (pm_cd pm_mm160) 93 = some (.aload_n 0, 1) := by decide +kernel
theorem pm_a160_94 : pm_as (pm_cd pm_mm160) 94 = some (.dup, 1) := by decide +kernel
theorem pm_a160_95 : pm_as (pm_cd pm_mm160) 95 = some (.getfield 179, 3) := by decide +kernel
theorem pm_a160_98 : pm_as (pm_cd pm_mm160) 98 = some (.iconst 1, 1) := by decide +kernel
theorem pm_a160_99 : pm_as (pm_cd pm_mm160) 99 = some (.iadd, 1) := by decide +kernel
theorem pm_a160_100 : pm_as (pm_cd pm_mm160) 100 = some (.putfield 179, 3) := by decide +kernel
theorem pm_a160_103 : pm_as (pm_cd pm_mm160) 103 = some (.iinc 1 1, 3) := by decide +kernel
theorem pm_a160_106 : pm_as (pm_cd pm_mm160) 106 = some (.aload_n 0, 1) := by decide +kernel
theorem pm_a160_107 : pm_as (pm_cd pm_mm160) 107 = some (.iconst 1, 1) := by decide +kernel
theorem pm_a160_108 : pm_as (pm_cd pm_mm160) 108 = some (.invokevirtual 173, 3) := by decide +kernel
theorem pm_a160_111 : pm_as (pm_cd pm_mm160) 111 = some (.aload_n 0, 1) := by decide +kernel
theorem pm_a160_112 : pm_as (pm_cd pm_mm160) 112 = some (.invokevirtual 176, 3) := by decide +kernel
theorem pm_a160_115 : pm_as (pm_cd pm_mm160) 115 = some (.goto (-81), 3) := by decide +kernel
theorem pm_a160_118 : pm_as (pm_cd pm_mm160) 118 = some (.aload_n 0, 1) := by decide +kernel
theorem pm_a160_119 : pm_as (pm_cd pm_mm160) 119 = some (.getfield 120, 3) := by decide +kernel
theorem pm_a160_122 : pm_as (pm_cd pm_mm160) 122 = some (.ifCond .ne 33, 3) := by decide +kernel
theorem pm_a160_125 : pm_as (pm_cd pm_mm160) 125 = some (.aload_n 0, 1) := by decide +kernel
theorem pm_a160_126 : pm_as (pm_cd pm_mm160) 126 = some (.bipush 46, 2) := by decide +kernel
theorem pm_a160_128 : pm_as (pm_cd pm_mm160) 128 = some (.invokevirtual 185, 3) := by decide +kernel
theorem pm_a160_131 : pm_as (pm_cd pm_mm160) 131 = some (.ifCond .eq 15, 3) := by decide +kernel
theorem pm_a160_134 : pm_as (pm_cd pm_mm160) 134 = some (.aload_n 0, 1) := by decide +kernel
theorem pm_a160_135 : pm_as (pm_cd pm_mm160) 135 = some (.iload_n 1, 1) := by decide +kernel
theorem pm_a160_136 : pm_as (pm_cd pm_mm160) 136 = some (.invokevirtual 189, 3) := by decide +kernel
theorem pm_a160_139 : pm_as (pm_cd pm_mm160) 139 = some (.aload_n 0, 1) := by decide +kernel
theorem pm_a160_140 : pm_as (pm_cd pm_mm160) 140 = some (.invokevirtual 176, 3) := by decide +kernel
theorem pm_a160_143 : pm_as (pm_cd pm_mm160) 143 = some (.goto 12, 3) := by decide +kernel
theorem pm_a160_146 : pm_as (pm_cd pm_mm160) 146 = some (.aload_n 0, 1) := by decide +kernel
theorem pm_a160_147 : pm_as (pm_cd pm_mm160) 147 = some (.iconst 2, 1) := by decide +kernel
theorem pm_a160_148 : pm_as (pm_cd pm_mm160) 148 = some (.aload_n 0, 1) := by decide +kernel
theorem pm_a160_149 : pm_as (pm_cd pm_mm160) 149 = some (.getfield 133, 3) := by decide +kernel
theorem pm_a160_152 : pm_as (pm_cd pm_mm160) 152 = some (.invokevirtual 151, 3) := by decide +kernel
theorem pm_a160_155 : pm_as (pm_cd pm_mm160) 155 = some (.return_, 1) := by decide +kernel
theorem pm_a161_0 : pm_as (pm_cd pm_mm161) 0 = some (.aload_n 0, 1) := by decide +kernel
theorem pm_a161_1 : pm_as (pm_cd pm_mm161) 1 = some (.getfield 120, 3) := by decide +kernel
theorem pm_a161_4 : pm_as (pm_cd pm_mm161) 4 = some (.ifCond .ne 96, 3) := by decide +kernel
theorem pm_a161_7 : pm_as (pm_cd pm_mm161) 7 = some (.aload_n 0, 1) := by decide +kernel
theorem pm_a161_8 : pm_as (pm_cd pm_mm161) 8 = some (.getfield 35, 3) := by decide +kernel
theorem pm_a161_11 : pm_as (pm_cd pm_mm161) 11 = some (.aload_n 0, 1) := by decide +kernel
theorem pm_a161_12 : pm_as (pm_cd pm_mm161) 12 = some (.getfield 167, 3) := by decide +kernel
theorem pm_a161_15 : pm_as (pm_cd pm_mm161) 15 = some (.iconst 1, 1) := by decide +kernel
theorem pm_a161_16 : pm_as (pm_cd pm_mm161) 16 = some (.isub, 1) := by decide +kernel
theorem pm_a161_17 : pm_as (pm_cd pm_mm161) 17 = some (.iaload, 1) := by decide +kernel
theorem pm_a161_18 : pm_as (pm_cd pm_mm161) 18 = some (.ifCond .le 82, 3) := by decide +kernel
theorem pm_a161_21 : pm_as (pm_cd pm_mm161) 21 = some (.aload_n 0, 1) := by decide +kernel
theorem pm_a161_22 : pm_as (pm_cd pm_mm161) 22 = some (.getfield 31, 3) := by decide +kernel
theorem pm_a161_25 : pm_as (pm_cd pm_mm161) 25 = some (.aload_n 0, 1) := by decide +kernel
theorem pm_a161_26 : pm_as (pm_cd pm_mm161) 26 = some (.getfield 167, 3) := by decide +kernel
theorem pm_a161_29 : pm_as (pm_cd pm_mm161) 29 = some (.iconst 1, 1) := by decide +kernel
theorem pm_a161_30 : pm_as (pm_cd pm_mm161) 30 = some (.isub, 1) := by decide +kernel
theorem pm_a161_31 : pm_as (pm_cd pm_mm161) 31 = some (.baload, 1) := by decide +kernel
theorem pm_a161_32 : pm_as (pm_cd pm_mm161) 32 = some (.ifCond .ne 15, 3) := by decide +kernel
theorem pm_a161_35 : pm_as (pm_cd pm_mm161) 35 = some (.aload_n 0, 1) := by decide +kernel
theorem pm_a161_36 : pm_as (pm_cd pm_mm161) 36 = some (.iconst 2, 1) := by decide +kernel
theorem pm_a161_37 : pm_as (pm_cd pm_mm161) 37 = some (.aload_n 0, 1) := by decide +kernel
theorem pm_a161_38 : pm_as (pm_cd pm_mm161) 38 = some (.getfield 133, 3) := by decide +kernel
theorem pm_a161_41 : pm_as (pm_cd pm_mm161) 41 = some (.invokevirtual 151, 3) := by decide +kernel
theorem pm_a161_44 : pm_as (pm_cd pm_mm161) 44 = some (.goto (-44), 3) := by decide +kernel
theorem pm_a161_47 : pm_as (pm_cd pm_mm161) 47 = some (.aload_n 0, 1) := by decide +kernel
theorem pm_a161_48 : pm_as (pm_cd pm_mm161) 48 = some (.dup, 1) := by decide +kernel
theorem pm_a161_49 : pm_as (pm_cd pm_mm161) 49 = some (.getfield 179, 3) := by decide +kernel
theorem pm_a161_52 : pm_as (pm_cd pm_mm161) 52 = some (.aload_n 0, 1) := by decide +kernel
theorem pm_a161_53 : pm_as (pm_cd pm_mm161) 53 = some (.getfield 35, 3) := by decide +kernel
theorem pm_a161_56 : pm_as (pm_cd pm_mm161) 56 = some (.aload_n 0, 1) := by decide +kernel
theorem pm_a161_57 : pm_as (pm_cd pm_mm161) 57 = some (.getfield 167, 3) := by decide +kernel
theorem pm_a161_60 : pm_as (pm_cd pm_mm161) 60 = some (.iconst 1, 1) := by decide +kernel
theorem pm_a161_61 : pm_as (pm_cd pm_mm161) 61 = some (.isub, 1) := by decide +kernel
theorem pm_a161_62 : pm_as (pm_cd pm_mm161) 62 = some (.iaload, 1) := by decide +kernel
theorem pm_a161_63 : pm_as (pm_cd pm_mm161) 63 = some (.isub, 1) := by decide +kernel
theorem pm_a161_64 : pm_as (pm_cd pm_mm161) 64 = some (.putfield 179, 3) := by decide +kernel
theorem pm_a161_67 : pm_as (pm_cd pm_mm161) 67 = some (.aload_n 0, 1) := by decide +kernel
theorem pm_a161_68 : pm_as (pm_cd pm_mm161) 68 = some (.dup, 1) := by decide +kernel
theorem pm_a161_69 : pm_as (pm_cd pm_mm161) 69 = some (.getfield 182, 3) := by decide +kernel
theorem pm_a161_72 : pm_as (pm_cd pm_mm161) 72 = some (.aload_n 0, 1) := by decide +kernel
theorem pm_a161_73 : pm_as (pm_cd pm_mm161) 73 = some (.getfield 35, 3) := by decide +kernel
theorem pm_a161_76 : pm_as (pm_cd pm_mm161) 76 = some (.aload_n 0, 1) := by decide +kernel
theorem pm_a161_77 : pm_as (pm_cd pm_mm161) 77 = some (.getfield 167, 3) := by decide +kernel
theorem pm_a161_80 : pm_as (pm_cd pm_mm161) 80 = some (.iconst 1, 1) := by decide +kernel
theorem pm_a161_81 : pm_as (pm_cd pm_mm161) 81 = some (.isub, 1) := by decide +kernel
theorem pm_a161_82 : pm_as (pm_cd pm_mm161) 82 = some (.iaload, 1) := by decide +kernel
theorem pm_a161_83 : pm_as (pm_cd pm_mm161) 83 = some (.isub, 1) := by decide +kernel
theorem pm_a161_84 : pm_as (pm_cd pm_mm161) 84 = some (.putfield 182, 3) := by decide +kernel
theorem pm_a161_87 : pm_as (pm_cd pm_mm161) 87 = some (.aload_n 0, 1) := by decide +kernel
theorem pm_a161_88 : pm_as (pm_cd pm_mm161) 88 = some (.dup, 1) := by decide +kernel
theorem pm_a161_89 : pm_as (pm_cd pm_mm161) 89 = some (.getfield 167, 3) := by decide +kernel
theorem pm_a161_92 : pm_as (pm_cd pm_mm161) 92 = some (.iconst 1, 1) := by decide +kernel
theorem pm_a161_93 : pm_as (pm_cd pm_mm161) 93 = some (.isub, 1) := by decide +kernel
theorem pm_a161_94 : pm_as (pm_cd pm_mm161) 94 = some (.putfield 167, 3) := by decide +kernel
theorem pm_a161_97 : pm_as (pm_cd pm_mm161) 97 = some (.goto (-97), 3) := by decide +kernel
theorem pm_a161_100 : pm_as (pm_cd pm_mm161) 100 = some (.aload_n 0, 1) := by decide +kernel
theorem pm_a161_101 : pm_as (pm_cd pm_mm161) 101 = some (.getfield 120, 3) := by decide +kernel
theorem pm_a161_104 : pm_as (pm_cd pm_mm161) 104 = some (.ifCond .ne 26, 3) := by decide +kernel
theorem pm_a161_107 : pm_as (pm_cd pm_mm161) 107 = some (.aload_n 0, 1) := by decide +kernel
theorem pm_a161_108 : pm_as (pm_cd pm_mm161) 108 = some (.getfield 31, 3) := by decide +kernel
theorem pm_a161_111 : pm_as (pm_cd pm_mm161) 111 = some (.aload_n 0, 1) := by decide +kernel
theorem pm_a161_112 : pm_as (pm_cd pm_mm161) 112 = some (.getfield 167, 3) := by decide +kernel
theorem pm_a161_115 : pm_as (pm_cd pm_mm161) 115 = some (.iconst 1, 1) := by decide +kernel
theorem pm_a161_116 : pm_as (pm_cd pm_mm161) 116 = some (.isub, 1) := by decide +kernel
theorem pm_a161_117 : pm_as (pm_cd pm_mm161) 117 = some (.baload, 1) := by decide +kernel
theorem pm_a161_118 : pm_as (pm_cd pm_mm161) 118 = some (.ifCond .ne 12, 3) := by decide +kernel
theorem pm_a161_121 : pm_as (pm_cd pm_mm161) 121 = some (.aload_n 0, 1) := by decide +kernel
theorem pm_a161_122 : pm_as (pm_cd pm_mm161) 122 = some (.iconst 2, 1) := by decide +kernel
theorem pm_a161_123 : pm_as (pm_cd pm_mm161) 123 = some (.aload_n 0, 1) := by decide +kernel
theorem pm_a161_124 : pm_as (pm_cd pm_mm161) 124 = some (.getfield 133, 3) := by decide +kernel
theorem pm_a161_127 : pm_as (pm_cd pm_mm161) 127 = some (.invokevirtual 151, 3) := by decide +kernel
theorem pm_a161_130 : pm_as (pm_cd pm_mm161) 130 = some (.return_, 1) := by decide +kernel
theorem pm_a162_0 : pm_as (pm_cd pm_mm162) 0 = some (.aload_n 0, 1) := by decide +kernel
theorem pm_a162_1 : pm_as (pm_cd pm_mm162) 1 = some (.getfield 7, 3) := by decide +kernel
theorem pm_a162_4 : pm_as (pm_cd pm_mm162) 4 = some (.iload_n 1, 1) := by decide +kernel
theorem pm_a162_5 : pm_as (pm_cd pm_mm162) 5 = some (.aload_n 0, 1) := by decide +kernel
theorem pm_a162_6 : pm_as (pm_cd pm_mm162) 6 = some (.getfield 117, 3) := by decide +kernel
theorem pm_a162_9 : pm_as (pm_cd pm_mm162) 9 = some (.iastore, 1) := by decide +kernel
theorem pm_a162_10 : pm_as (pm_cd pm_mm162) 10 = some (.iconst 0, 1) := by decide +kernel
theorem pm_a162_11 : pm_as (pm_cd pm_mm162) 11 = some (.istore_n 2, 1) := by decide +kernel
theorem pm_a162_12 : pm_as (pm_cd pm_mm162) 12 = some (.iload_n 2, 1) := by decide +kernel
theorem pm_a162_13 : pm_as (pm_cd pm_mm162) 13 = some (.aload_n 0, 1) := by decide +kernel
theorem pm_a162_14 : pm_as (pm_cd pm_mm162) 14 = some (.getfield 117, 3) := by decide +kernel
theorem pm_a162_17 : pm_as (pm_cd pm_mm162) 17 = some (.if_icmp .ge 27, 3) := by decide +kernel
theorem pm_a162_20 : pm_as (pm_cd pm_mm162) 20 = some (.aload_n 0, 1) := by decide +kernel
theorem pm_a162_21 : pm_as (pm_cd pm_mm162) 21 = some (.getfield 13, 3) := by decide +kernel
theorem pm_a162_24 : pm_as (pm_cd pm_mm162) 24 = some (.sipush 500, 3) := by decide +kernel
theorem pm_a162_27 : pm_as (pm_cd pm_mm162) 27 = some (.iload_n 1, 1) := by decide +kernel
theorem pm_a162_28 : pm_as (pm_cd pm_mm162) 28 = some (.imul, 1) := by decide +kernel
theorem pm_a162_29 : pm_as (pm_cd pm_mm162) 29 = some (.iload_n 2, 1) := by decide +kernel
theorem pm_a162_30 : pm_as (pm_cd pm_mm162) 30 = some (.iadd, 1) := by decide +kernel
theorem pm_a162_31 : pm_as (pm_cd pm_mm162) 31 = some (.aload_n 0, 1) := by decide +kernel
theorem pm_a162_32 : pm_as (pm_cd pm_mm162) 32 = some (.getfield 19, 3) := by decide +kernel
theorem pm_a162_35 : pm_as (pm_cd pm_mm162) 35 = some (.iload_n 2, 1) := by decide +kernel
theorem pm_a162_36 : pm_as (pm_cd pm_mm162) 36 = some (.iaload, 1) := by decide +kernel
theorem pm_a162_37 : pm_as (pm_cd pm_mm162) 37 = some (.iastore, 1) := by decide +kernel
theorem pm_a162_38 : pm_as (pm_cd pm_mm162) 38 = some (.iinc 2 1, 3) := by decide +kernel
theorem pm_a162_41 : pm_as (pm_cd pm_mm162) 41 = some (.goto (-29), 3) := by decide +kernel
theorem pm_a162_44 : pm_as (pm_cd pm_mm162) 44 = some (.return_, 1) := by decide +kernel
theorem pm_a163_0 : pm_as (pm_cd pm_mm163) 0 = some (.aload_n 0, 1) := by decide +kernel
theorem pm_a163_1 : pm_as (pm_cd pm_mm163) 1 = some (.getfield 120, 3) := by decide +kernel
theorem pm_a163_4 : pm_as (pm_cd pm_mm163) 4 = some (.ireturn, 1) := by decide +kernel
theorem pm_a164_0 : pm_as (pm_cd pm_mm164) 0 = some (.aload_n 0, 1) := by decide +kernel
theorem pm_a164_1 : pm_as (pm_cd pm_mm164) 1 = some (.iload_n 1, 1) := by decide +kernel
theorem pm_a164_2 : pm_as (pm_cd pm_mm164) 2 = some (.invokevirtual 213, 3) := by decide +kernel
theorem pm_a164_5 : pm_as (pm_cd pm_mm164) 5 = some (.ifCond .eq 12, 3) := by decide +kernel
theorem pm_a164_8 : pm_as (pm_cd pm_mm164) 8 = some (.aload_n 0, 1) := by decide +kernel
theorem pm_a164_9 : pm_as (pm_cd pm_mm164) 9 = some (.getfield 7, 3) := by decide +kernel
theorem pm_a164_12 : pm_as (pm_cd pm_mm164) 12 = some (.iload_n 1, 1) := by decide +kernel
theorem pm_a164_13 : pm_as (pm_cd pm_mm164) 13 = some (.iaload, 1) := by decide +kernel
theorem pm_a164_14 : pm_as (pm_cd pm_mm164) 14 = some (.goto 4, 3) := by decide +kernel
theorem pm_a164_17 : pm_as (pm_cd pm_mm164) 17 = some (.iconst (-1), 1) := by decide +kernel
theorem pm_a164_18 : pm_as (pm_cd pm_mm164) 18 = some (.ireturn, 1) := by decide +kernel
theorem pm_a165_0 : pm_as (pm_cd pm_mm165) 0 = some (.iload_n 1, 1) := by decide +kernel
theorem pm_a165_1 : pm_as (pm_cd pm_mm165) 1 = some (.i2l, 1) := by decide +kernel
theorem pm_a165_2 : pm_as (pm_cd pm_mm165) 2 = some (.lconst 0, 1) := by decide +kernel
theorem pm_a165_3 : pm_as (pm_cd pm_mm165) 3 = some (.aload_n 0, 1) := by decide +kernel
theorem pm_a165_4 : pm_as (pm_cd pm_mm165) 4 = some (.getfield 204, 3) := by decide +kernel
theorem pm_a165_7 : pm_as (pm_cd pm_mm165) 7 = some (.iconst 1, 1) := by decide +kernel
theorem pm_a165_8 : pm_as (pm_cd pm_mm165) 8 = some (.isub, 1) := by decide +kernel
theorem pm_a165_9 : pm_as (pm_cd pm_mm165) 9 = some (.i2l, 1) := by decide +kernel
theorem pm_a165_10 : pm_as (pm_cd pm_mm165) 10 = some (.invokestatic 113, 3) := by decide +kernel
theorem pm_a165_13 : pm_as (pm_cd pm_mm165) 13 = some (.ireturn, 1) := by decide +kernel
theorem pm_a166_0 : pm_as (pm_cd pm_mm166) 0 = some (.aload_n 0, 1) := by decide +kernel
theorem pm_a166_1 : pm_as (pm_cd pm_mm166) 1 = some (.iload_n 1, 1) := by decide +kernel
theorem pm_a166_2 : pm_as (pm_cd pm_mm166) 2 = some (.invokevirtual 213, 3) := by decide +kernel
theorem pm_a166_5 : pm_as (pm_cd pm_mm166) 5 = some (.ifCond .eq 36, 3) := by decide +kernel
theorem pm_a166_8 : pm_as (pm_cd pm_mm166) 8 = some (.iload_n 2, 1) := by decide +kernel
theorem pm_a166_9 : pm_as (pm_cd pm_mm166) 9 = some (.i2l, 1) := by decide +kernel
theorem pm_a166_10 : pm_as (pm_cd pm_mm166) 10 = some (.lconst 0, 1) := by decide +kernel
theorem pm_a166_11 : pm_as (pm_cd pm_mm166) 11 = some (.aload_n 0, 1) := by decide +kernel
theorem pm_a166_12 : pm_as (pm_cd pm_mm166) 12 = some (.getfield 7, 3) := by decide +kernel
theorem pm_a166_15 : pm_as (pm_cd pm_mm166) 15 = some (.iload_n 1, 1) := by decide +kernel
theorem pm_a166_16 : pm_as (pm_cd pm_mm166) 16 = some (.iaload, 1) := by decide +kernel
theorem pm_a166_17 : pm_as (pm_cd pm_mm166) 17 = some (.iconst 1, 1) := by decide +kernel
theorem pm_a166_18 : pm_as (pm_cd pm_mm166) 18 = some (.isub, 1) := by decide +kernel
theorem pm_a166_19 : pm_as (pm_cd pm_mm166) 19 = some (.i2l, 1) := by decide +kernel
theorem pm_a166_20 : pm_as (pm_cd pm_mm166) 20 = some (.invokestatic 113, 3) := by decide +kernel
theorem pm_a166_23 : pm_as (pm_cd pm_mm166) 23 = some (.ifCond .eq 18, 3) := by decide +kernel
theorem pm_a166_26 : pm_as (pm_cd pm_mm166) 26 = some (.aload_n 0, 1) := by decide +kernel
theorem pm_a166_27 : pm_as (pm_cd pm_mm166) 27 = some (.getfield 13, 3) := by decide +kernel
theorem pm_a166_30 : pm_as (pm_cd pm_mm166) 30 = some (.sipush 500, 3) := by decide +kernel
theorem pm_a166_33 : pm_as (pm_cd pm_mm166) 33 = some (.iload_n 1, 1) := by decide +kernel
theorem pm_a166_34 : pm_as (pm_cd pm_mm166) 34 = some (.imul, 1) := by decide +kernel
theorem pm_a166_35 : pm_as (pm_cd pm_mm166) 35 = some (.iload_n 2, 1) := by decide +kernel
theorem pm_a166_36 : pm_as (pm_cd pm_mm166) 36 = some (.iadd, 1) := by decide +kernel
theorem pm_a166_37 : pm_as (pm_cd pm_mm166) 37 = some (.iaload, 1) := by decide +kernel
theorem pm_a166_38 : pm_as (pm_cd pm_mm166) 38 = some (.goto 4, 3) := by decide +kernel
theorem pm_a166_41 : pm_as (pm_cd pm_mm166) 41 = some (.iconst (-1), 1) := by decide +kernel
theorem pm_a166_42 : pm_as (pm_cd pm_mm166) 42 = some (.ireturn, 1) := by decide +kernel
theorem pm_a167_0 : pm_as (pm_cd pm_mm167) 0 = some (.aload_n 0, 1) := by decide +kernel
theorem pm_a167_1 : pm_as (pm_cd pm_mm167) 1 = some (.iload_n 1, 1) := by decide +kernel
theorem pm_a167_2 : pm_as (pm_cd pm_mm167) 2 = some (.invokevirtual 213, 3) := by decide +kernel
theorem pm_a167_5 : pm_as (pm_cd pm_mm167) 5 = some (.ifCond .ne 5, 3) := by decide +kernel
theorem pm_a167_8 : pm_as (pm_cd pm_mm167) 8 = some (.iconst (-1), 1) := by decide +kernel
theorem pm_a167_9 : pm_as (pm_cd pm_mm167) 9 = some (.ireturn, 1) := by decide +kernel
theorem pm_a167_10 : pm_as (pm_cd pm_mm167) 10 = some (.aload_n 0, 1) := by decide +kernel
theorem pm_a167_11 : pm_as (pm_cd pm_mm167) 11 = some (.iload_n 1, 1) := by decide +kernel
theorem pm_a167_12 : pm_as (pm_cd pm_mm167) 12 = some (.invokevirtual 231, 3) := by decide +kernel
theorem pm_a167_15 : pm_as (pm_cd pm_mm167) 15 = some (.aload_n 0, 1) := by decide +kernel
theorem pm_a167_16 : pm_as (pm_cd pm_mm167) 16 = some (.invokevirtual 234, 3) := by decide +kernel
theorem pm_a167_19 : pm_as (pm_cd pm_mm167) 19 = some (.iload_n 2, 1) := by decide +kernel
theorem pm_a167_20 : pm_as (pm_cd pm_mm167) 20 = some (.i2l, 1) := by decide +kernel
theorem pm_a167_21 : pm_as (pm_cd pm_mm167) 21 = some (.lconst 0, 1) := by decide +kernel
theorem pm_a167_22 : pm_as (pm_cd pm_mm167) 22 = some (.aload_n 0, 1) := by decide +kernel
theorem pm_a167_23 : pm_as (pm_cd pm_mm167) 23 = some (.getfield 216, 3) := by decide +kernel
theorem pm_a167_26 : pm_as (pm_cd pm_mm167) 26 = some (.i2l, 1) := by decide +kernel
theorem pm_a167_27 : pm_as (pm_cd pm_mm167) 27 = some (.invokestatic 113, 3) := by decide +kernel
theorem pm_a167_30 : pm_as (pm_cd pm_mm167) 30 = some (.ifCond .ne 5, 3) := by decide +kernel
theorem pm_a167_33 : pm_as (pm_cd pm_mm167) 33 = some (.iconst (-1), 1) := by decide +kernel
theorem pm_a167_34 : pm_as (pm_cd pm_mm167) 34 = some (.ireturn, 1) := by decide +kernel
theorem pm_a167_35 : pm_as (pm_cd pm_mm167) 35 = some (.iload_n 2, 1) := by decide +kernel
theorem pm_a167_36 : pm_as (pm_cd pm_mm167) 36 = some (.aload_n 0, 1) := by decide +kernel
theorem pm_a167_37 : pm_as (pm_cd pm_mm167) 37 = some (.getfield 216, 3) := by decide +kernel
theorem pm_a167_40 : pm_as (pm_cd pm_mm167) 40 = some (.if_icmp .ne 7, 3) := by decide +kernel
theorem pm_a167_43 : pm_as (pm_cd pm_mm167) 43 = some (.iconst 0, 1) := by decide +kernel
theorem pm_a167_44 : pm_as (pm_cd pm_mm167) 44 = some (.goto 9, 3) := by decide +kernel
theorem pm_a167_47 : pm_as (pm_cd pm_mm167) 47 = some (.aload_n 0, 1) := by decide +kernel
theorem pm_a167_48 : pm_as (pm_cd pm_mm167) 48 = some (.getfield 42, 3) := by decide +kernel
theorem pm_a167_51 : pm_as (pm_cd pm_mm167) 51 = some (.iload_n 2, 1) := by decide +kernel
theorem pm_a167_52 : pm_as (pm_cd pm_mm167) 52 = some (.iaload, 1) := by decide +kernel
theorem pm_a167_53 : pm_as (pm_cd pm_mm167) 53 = some (.ireturn, 1) := by decide +kernel
theorem pm_a168_0 : pm_as (pm_cd pm_mm168) 0 = some (.aload_n 0, 1) := by decide +kernel
theorem pm_a168_1 : pm_as (pm_cd pm_mm168) 1 = some (.aload_n 0, 1) := by decide +kernel
theorem pm_a168_2 : pm_as (pm_cd pm_mm168) 2 = some (.getfield 7, 3) := by decide +kernel
theorem pm_a168_5 : pm_as (pm_cd pm_mm168) 5 = some (.iload_n 1, 1) := by decide +kernel
theorem pm_a168_6 : pm_as (pm_cd pm_mm168) 6 = some (.iaload, 1) := by decide +kernel
theorem pm_a168_7 : pm_as (pm_cd pm_mm168) 7 = some (.putfield 117, 3) := by decide +kernel
theorem pm_a168_10 : pm_as (pm_cd pm_mm168) 10 = some (.iconst 0, 1) := by decide +kernel
theorem pm_a168_11 : pm_as (pm_cd pm_mm168) 11 = some (.istore_n 2, 1) := by decide +kernel
theorem pm_a168_12 : pm_as (pm_cd pm_mm168) 12 = some (.iload_n 2, 1) := by decide +kernel
theorem pm_a168_13 : pm_as (pm_cd pm_mm168) 13 = some (.aload_n 0, 1) := by decide +kernel
theorem pm_a168_14 : pm_as (pm_cd pm_mm168) 14 = some (.getfield 117, 3) := by decide +kernel
theorem pm_a168_17 : pm_as (pm_cd pm_mm168) 17 = some (.if_icmp .ge 27, 3) := by decide +kernel
theorem pm_a168_20 : pm_as (pm_cd pm_mm168) 20 = some (.aload_n 0, 1) := by decide +kernel
theorem pm_a168_21 : pm_as (pm_cd pm_mm168) 21 = some (.getfield 19, 3) := by decide +kernel
theorem pm_a168_24 : pm_as (pm_cd pm_mm168) 24 = some (.iload_n 2, 1) := by decide +kernel
theorem pm_a168_25 : pm_as (pm_cd pm_mm168) 25 = some (.aload_n 0, 1) := by decide +kernel
theorem pm_a168_26 : pm_as (pm_cd pm_mm168) 26 = some (.getfield 13, 3) := by decide +kernel
theorem pm_a168_29 : pm_as (pm_cd pm_mm168) 29 = some (.sipush 500, 3) := by decide +kernel
theorem pm_a168_32 : pm_as (pm_cd pm_mm168) 32 = some (.iload_n 1, 1) := by decide +kernel
theorem pm_a168_33 : pm_as (pm_cd pm_mm168) 33 = some (.imul, 1) := by decide +kernel
theorem pm_a168_34 : pm_as (pm_cd pm_mm168) 34 = some (.iload_n 2, 1) := by decide +kernel
theorem pm_a168_35 : pm_as (pm_cd pm_mm168) 35 = some (.iadd, 1) := by decide +kernel
theorem pm_a168_36 : pm_as (pm_cd pm_mm168) 36 = some (.iaload, 1) := by decide +kernel
theorem pm_a168_37 : pm_as (pm_cd pm_mm168) 37 = some (.iastore, 1) := by decide +kernel
theorem pm_a168_38 : pm_as (pm_cd pm_mm168) 38 = some (.iinc 2 1, 3) := by decide +kernel
theorem pm_a168_41 : pm_as (pm_cd pm_mm168) 41 = some (.goto (-29), 3) := by decide +kernel
theorem pm_a168_44 : pm_as (pm_cd pm_mm168) 44 = some (.return_, 1) := by decide +kernel
theorem pm_a169_0 : pm_as (pm_cd pm_mm169) 0 = some (.iconst 0, 1) := by decide +kernel
theorem pm_a169_1 : pm_as (pm_cd pm_mm169) 1 = some (.istore_n 1, 1) := by decide +kernel
theorem pm_a169_2 : pm_as (pm_cd pm_mm169) 2 = some (.iload_n 1, 1) := by decide +kernel
theorem pm_a169_3 : pm_as (pm_cd pm_mm169) 3 = some (.aload_n 0, 1) := by decide +kernel
theorem pm_a169_4 : pm_as (pm_cd pm_mm169) 4 = some (.getfield 117, 3) := by decide +kernel
theorem pm_a169_7 : pm_as (pm_cd pm_mm169) 7 = some (.if_icmp .gt 30, 3) := by decide +kernel
theorem pm_a169_10 : pm_as (pm_cd pm_mm169) 10 = some (.aload_n 0, 1) := by decide +kernel
theorem pm_a169_11 : pm_as (pm_cd pm_mm169) 11 = some (.getfield 45, 3) := by decide +kernel
theorem pm_a169_14 : pm_as (pm_cd pm_mm169) 14 = some (.iload_n 1, 1) := by decide +kernel
theorem pm_a169_15 : pm_as (pm_cd pm_mm169) 15 = some (.iconst 0, 1) := by decide +kernel
theorem pm_a169_16 : pm_as (pm_cd pm_mm169) 16 = some (.bastore, 1) := by decide +kernel
theorem pm_a169_17 : pm_as (pm_cd pm_mm169) 17 = some (.aload_n 0, 1) := by decide +kernel
theorem pm_a169_18 : pm_as (pm_cd pm_mm169) 18 = some (.getfield 48, 3) := by decide +kernel
theorem pm_a169_21 : pm_as (pm_cd pm_mm169) 21 = some (.iload_n 1, 1) := by decide +kernel
theorem pm_a169_22 : pm_as (pm_cd pm_mm169) 22 = some (.iconst 0, 1) := by decide +kernel
theorem pm_a169_23 : pm_as (pm_cd pm_mm169) 23 = some (.bastore, 1) := by decide +kernel
theorem pm_a169_24 : pm_as (pm_cd pm_mm169) 24 = some (.aload_n 0, 1) := by decide +kernel
theorem pm_a169_25 : pm_as (pm_cd pm_mm169) 25 = some (.getfield 51, 3) := by decide +kernel
theorem pm_a169_28 : pm_as (pm_cd pm_mm169) 28 = some (.iload_n 1, 1) := by decide +kernel
theorem pm_a169_29 : pm_as (pm_cd pm_mm169) 29 = some (.iconst 0, 1) := by decide +kernel
theorem pm_a169_30 : pm_as (pm_cd pm_mm169) 30 = some (.iastore, 1) := by decide +kernel
theorem pm_a169_31 : pm_as (pm_cd pm_mm169) 31 = some (.iinc 1 1, 3) := by decide +kernel
theorem pm_a169_34 : pm_as (pm_cd pm_mm169) 34 = some (.goto (-32), 3) := by decide +kernel
theorem pm_a169_37 : pm_as (pm_cd pm_mm169) 37 = some (.iconst 0, 1) := by decide +kernel
theorem pm_a169_38 : pm_as (pm_cd pm_mm169) 38 = some (.istore_n 1, 1) := by decide +kernel
theorem pm_a169_39 : pm_as (pm_cd pm_mm169) 39 = some (.iload_n 1, 1) := by decide +kernel
theorem pm_a169_40 : pm_as (pm_cd pm_mm169) 40 = some (.aload_n 0, 1) := by decide +kernel
theorem pm_a169_41 : pm_as (pm_cd pm_mm169) 41 = some (.getfield 117, 3) := by decide +kernel
theorem pm_a169_44 : pm_as (pm_cd pm_mm169) 44 = some (.if_icmp .ge 95, 3) := by decide +kernel
theorem pm_a169_47 : pm_as (pm_cd pm_mm169) 47 = some (.aload_n 0, 1) := by decide +kernel
theorem pm_a169_48 : pm_as (pm_cd pm_mm169) 48 = some (.getfield 19, 3) := by decide +kernel
theorem pm_a169_51 : pm_as (pm_cd pm_mm169) 51 = some (.iload_n 1, 1) := by decide +kernel
theorem pm_a169_52 : pm_as (pm_cd pm_mm169) 52 = some (.iaload, 1) := by decide +kernel
theorem pm_a169_53 : pm_as (pm_cd pm_mm169) 53 = some (.ifCond .ne 80, 3) := by decide +kernel
theorem pm_a169_56 : pm_as (pm_cd pm_mm169) 56 = some (.aload_n 0, 1) := by decide +kernel
theorem pm_a169_57 : pm_as (pm_cd pm_mm169) 57 = some (.iload_n 1, 1) := by decide +kernel
theorem pm_a169_58 : pm_as (pm_cd pm_mm169) 58 = some (.iconst 1, 1) := by decide +kernel
theorem pm_a169_59 : pm_as (pm_cd pm_mm169) 59 = some (.iadd, 1) := by decide +kernel
theorem pm_a169_60 : pm_as (pm_cd pm_mm169) 60 = some (.invokevirtual 222, 3) := by decide +kernel
theorem pm_a169_63 : pm_as (pm_cd pm_mm169) 63 = some (.istore_n 2, 1) := by decide +kernel
theorem pm_a169_64 : pm_as (pm_cd pm_mm169) 64 = some (.aload_n 0, 1) := by decide +kernel
theorem pm_a169_65 : pm_as (pm_cd pm_mm169) 65 = some (.getfield 45, 3) := by decide +kernel
theorem pm_a169_68 : pm_as (pm_cd pm_mm169) 68 = some (.iload_n 2, 1) := by decide +kernel
theorem pm_a169_69 : pm_as (pm_cd pm_mm169) 69 = some (.iconst 1, 1) := by decide +kernel
theorem pm_a169_70 : pm_as (pm_cd pm_mm169) 70 = some (.bastore, 1) := by decide +kernel
theorem pm_a169_71 : pm_as (pm_cd pm_mm169) 71 = some (.aload_n 0, 1) := by decide +kernel
theorem pm_a169_72 : pm_as (pm_cd pm_mm169) 72 = some (.getfield 19, 3) := by decide +kernel
theorem pm_a169_75 : pm_as (pm_cd pm_mm169) 75 = some (.iload_n 1, 1) := by decide +kernel
theorem pm_a169_76 : pm_as (pm_cd pm_mm169) 76 = some (.iconst 1, 1) := by decide +kernel
theorem pm_a169_77 : pm_as (pm_cd pm_mm169) 77 = some (.iadd, 1) := by decide +kernel
theorem pm_a169_78 : pm_as (pm_cd pm_mm169) 78 = some (.iaload, 1) := by decide +kernel
theorem pm_a169_79 : pm_as (pm_cd pm_mm169) 79 = some (.iconst 1, 1) := by decide +kernel
theorem pm_a169_80 : pm_as (pm_cd pm_mm169) 80 = some (.if_icmp .ne 22, 3) := by decide +kernel
theorem pm_a169_83 : pm_as (pm_cd pm_mm169) 83 = some (.aload_n 0, 1) := by decide +kernel
theorem pm_a169_84 : pm_as (pm_cd pm_mm169) 84 = some (.getfield 48, 3) := by decide +kernel
theorem pm_a169_87 : pm_as (pm_cd pm_mm169) 87 = some (.iload_n 1, 1) := by decide +kernel
theorem pm_a169_88 : pm_as (pm_cd pm_mm169) 88 = some (.iconst 1, 1) := by decide +kernel
theorem pm_a169_89 : pm_as (pm_cd pm_mm169) 89 = some (.iadd, 1) := by decide +kernel
theorem pm_a169_90 : pm_as (pm_cd pm_mm169) 90 = some (.iconst 1, 1) := by decide +kernel
theorem pm_a169_91 : pm_as (pm_cd pm_mm169) 91 = some (.bastore, 1) := by decide +kernel
theorem pm_a169_92 : pm_as (pm_cd pm_mm169) 92 = some (.aload_n 0, 1) := by decide +kernel
theorem pm_a169_93 : pm_as (pm_cd pm_mm169) 93 = some (.getfield 51, 3) := by decide +kernel
theorem pm_a169_96 : pm_as (pm_cd pm_mm169) 96 = some (.iload_n 2, 1) := by decide +kernel
theorem pm_a169_97 : pm_as (pm_cd pm_mm169) 97 = some (.dup2, 1) := by decide +kernel
theorem pm_a169_98 : pm_as (pm_cd pm_mm169) 98 = some (.iaload, 1) := by decide +kernel
theorem pm_a169_99 : pm_as (pm_cd pm_mm169) 99 = some (.iconst 1, 1) := by decide +kernel
theorem pm_a169_100 : pm_as (pm_cd pm_mm169) 100 = some (.iadd, 1) := by decide +kernel
theorem pm_a169_101 : pm_as (pm_cd pm_mm169) 101 = some (.iastore, 1) := by decide +kernel
theorem pm_a169_102 : pm_as (pm_cd pm_mm169) 102 = some (.aload_n 0, 1) := by decide +kernel
theorem pm_a169_103 : pm_as (pm_cd pm_mm169) 103 = some (.getfield 19, 3) := by decide +kernel
theorem pm_a169_106 : pm_as (pm_cd pm_mm169) 106 = some (.iload_n 2, 1) := by decide +kernel
theorem pm_a169_107 : pm_as (pm_cd pm_mm169) 107 = some (.iaload, 1) := by decide +kernel
theorem pm_a169_108 : pm_as (pm_cd pm_mm169) 108 = some (.iconst 2, 1) := by decide +kernel
theorem pm_a169_109 : pm_as (pm_cd pm_mm169) 109 = some (.if_icmp .ge 24, 3) := by decide +kernel
theorem pm_a169_112 : pm_as (pm_cd pm_mm169) 112 = some (.aload_n 0, 1) := by decide +kernel
theorem pm_a169_113 : pm_as (pm_cd pm_mm169) 113 = some (.getfield 48, 3) := by decide +kernel
theorem pm_a169_116 : pm_as (pm_cd pm_mm169) 116 = some (.iload_n 2, 1) := by decide +kernel
theorem pm_a169_117 : pm_as (pm_cd pm_mm169) 117 = some (.iconst 1, 1) := by decide +kernel
theorem pm_a169_118 : pm_as (pm_cd pm_mm169) 118 = some (.bastore, 1) := by decide +kernel
theorem pm_a169_119 : pm_as (pm_cd pm_mm169) 119 = some (.aload_n 0, 1) := by decide +kernel
theorem pm_a169_120 : pm_as (pm_cd pm_mm169) 120 = some (.getfield 51, 3) := by decide +kernel
theorem pm_a169_123 : pm_as (pm_cd pm_mm169) 123 = some (.aload_n 0, 1) := by decide +kernel
theorem pm_a169_124 : pm_as (pm_cd pm_mm169) 124 = some (.iload_n 2, 1) := by decide +kernel
theorem pm_a169_125 : pm_as (pm_cd pm_mm169) 125 = some (.invokevirtual 222, 3) := by decide +kernel
theorem pm_a169_128 : pm_as (pm_cd pm_mm169) 128 = some (.dup2, 1) := by decide +kernel
theorem pm_a169_129 : pm_as (pm_cd pm_mm169) 129 = some (.iaload, 1) := by decide +kernel
theorem pm_a169_130 : pm_as (pm_cd pm_mm169) 130 = some (.iconst 1, 1) := by decide +kernel
theorem pm_a169_131 : pm_as (pm_cd pm_mm169) 131 = some (.iadd, 1) := by decide +kernel
theorem pm_a169_132 : pm_as (pm_cd pm_mm169) 132 = some (.iastore, 1) := by decide +kernel
theorem pm_a169_133 : pm_as (pm_cd pm_mm169) 133 = some (.iinc 1 1, 3) := by decide +kernel
theorem pm_a169_136 : pm_as (pm_cd pm_mm169) 136 = some (.goto (-97), 3) := by decide +kernel
theorem pm_a169_139 : pm_as (pm_cd pm_mm169) 139 = some (.aload_n 0, 1) := by decide +kernel
theorem pm_a169_140 : pm_as (pm_cd pm_mm169) 140 = some (.iconst 0, 1) := by decide +kernel
theorem pm_a169_141 : pm_as (pm_cd pm_mm169) 141 = some (.invokevirtual 225, 3) := by decide +kernel
theorem pm_a169_144 : pm_as (pm_cd pm_mm169) 144 = some (.aload_n 0, 1) := by decide +kernel
theorem pm_a169_145 : pm_as (pm_cd pm_mm169) 145 = some (.iconst 0, 1) := by decide +kernel
theorem pm_a169_146 : pm_as (pm_cd pm_mm169) 146 = some (.putfield 216, 3) := by decide +kernel
theorem pm_a169_149 : pm_as (pm_cd pm_mm169) 149 = some (.iconst 0, 1) := by decide +kernel
theorem pm_a169_150 : pm_as (pm_cd pm_mm169) 150 = some (.istore_n 1, 1) := by decide +kernel
theorem pm_a169_151 : pm_as (pm_cd pm_mm169) 151 = some (.iload_n 1, 1) := by decide +kernel
theorem pm_a169_152 : pm_as (pm_cd pm_mm169) 152 = some (.aload_n 0, 1) := by decide +kernel
theorem pm_a169_153 : pm_as (pm_cd pm_mm169) 153 = some (.getfield 117, 3) := by decide +kernel
theorem pm_a169_156 : pm_as (pm_cd pm_mm169) 156 = some (.if_icmp .gt 188, 3) := by decide +kernel
theorem pm_a169_159 : pm_as (pm_cd pm_mm169) 159 = some (.iconst 0, 1) := by decide +kernel
theorem pm_a169_160 : pm_as (pm_cd pm_mm169) 160 = some (.istore_n 2, 1) := by decide +kernel
theorem pm_a169_161 : pm_as (pm_cd pm_mm169) 161 = some (.iload_n 2, 1) := by decide +kernel
theorem pm_a169_162 : pm_as (pm_cd pm_mm169) 162 = some (.aload_n 0, 1) := by decide +kernel
theorem pm_a169_163 : pm_as (pm_cd pm_mm169) 163 = some (.getfield 51, 3) := by decide +kernel
theorem pm_a169_166 : pm_as (pm_cd pm_mm169) 166 = some (.iload_n 1, 1) := by decide +kernel
theorem pm_a169_167 : pm_as (pm_cd pm_mm169) 167 = some (.iaload, 1) := by decide +kernel
theorem pm_a169_168 : pm_as (pm_cd pm_mm169) 168 = some (.if_icmp .ge 15, 3) := by decide +kernel
theorem pm_a169_171 : pm_as (pm_cd pm_mm169) 171 = some (.aload_n 0, 1) := by decide +kernel
theorem pm_a169_172 : pm_as (pm_cd pm_mm169) 172 = some (.bipush 41, 2) := by decide +kernel
theorem pm_a169_174 : pm_as (pm_cd pm_mm169) 174 = some (.invokevirtual 219, 3) := by decide +kernel
theorem pm_a169_177 : pm_as (pm_cd pm_mm169) 177 = some (.iinc 2 1, 3) := by decide +kernel
theorem pm_a169_180 : pm_as (pm_cd pm_mm169) 180 = some (.goto (-19), 3) := by decide +kernel
theorem pm_a169_183 : pm_as (pm_cd pm_mm169) 183 = some (.aload_n 0, 1) := by decide +kernel
theorem pm_a169_184 : pm_as (pm_cd pm_mm169) 184 = some (.getfield 45, 3) := by decide +kernel
theorem pm_a169_187 : pm_as (pm_cd pm_mm169) 187 = some (.iload_n 1, 1) := by decide +kernel
theorem pm_a169_188 : pm_as (pm_cd pm_mm169) 188 = some (.baload, 1) := by decide +kernel
theorem pm_a169_189 : pm_as (pm_cd pm_mm169) 189 = some (.ifCond .eq 9, 3) := by decide +kernel
theorem pm_a169_192 : pm_as (pm_cd pm_mm169) 192 = some (.aload_n 0, 1) := by decide +kernel
theorem pm_a169_193 : pm_as (pm_cd pm_mm169) 193 = some (.bipush 32, 2) := by decide +kernel
theorem pm_a169_195 : pm_as (pm_cd pm_mm169) 195 = some (.invokevirtual 219, 3) := by decide +kernel
theorem pm_a169_198 : pm_as (pm_cd pm_mm169) 198 = some (.aload_n 0, 1) := by decide +kernel
theorem pm_a169_199 : pm_as (pm_cd pm_mm169) 199 = some (.getfield 48, 3) := by decide +kernel
theorem pm_a169_202 : pm_as (pm_cd pm_mm169) 202 = some (.iload_n 1, 1) := by decide +kernel
theorem pm_a169_203 : pm_as (pm_cd pm_mm169) 203 = some (.baload, 1) := by decide +kernel
theorem pm_a169_204 : pm_as (pm_cd pm_mm169) 204 = some (.ifCond .eq 9, 3) := by decide +kernel
theorem pm_a169_207 : pm_as (pm_cd pm_mm169) 207 = some (.aload_n 0, 1) := by decide +kernel
theorem pm_a169_208 : pm_as (pm_cd pm_mm169) 208 = some (.bipush 40, 2) := by decide +kernel
theorem pm_a169_210 : pm_as (pm_cd pm_mm169) 210 = some (.invokevirtual 219, 3) := by decide +kernel
theorem pm_a169_213 : pm_as (pm_cd pm_mm169) 213 = some (.iload_n 1, 1) := by decide +kernel
theorem pm_a169_214 : pm_as (pm_cd pm_mm169) 214 = some (.aload_n 0, 1) := by decide +kernel
theorem pm_a169_215 : pm_as (pm_cd pm_mm169) 215 = some (.getfield 117, 3) := by decide +kernel
theorem pm_a169_218 : pm_as (pm_cd pm_mm169) 218 = some (.if_icmp .ge 12, 3) := by decide +kernel
theorem pm_a169_221 : pm_as (pm_cd pm_mm169) 221 = some (.aload_n 0, 1) := by decide +kernel
theorem pm_a169_222 : pm_as (pm_cd pm_mm169) 222 = some (.getfield 19, 3) := by decide +kernel
theorem pm_a169_225 : pm_as (pm_cd pm_mm169) 225 = some (.iload_n 1, 1) := by decide +kernel
theorem pm_a169_226 : pm_as (pm_cd pm_mm169) 226 = some (.iaload, 1) := by decide +kernel
theorem pm_a169_227 : pm_as (pm_cd pm_mm169) 227 = some (.goto 4, 3) := by decide +kernel
theorem pm_a169_230 : pm_as (pm_cd pm_mm169) 230 = some (.iconst 0, 1) := by decide +kernel
theorem pm_a169_231 : pm_as (pm_cd pm_mm169) 231 = some (.istore_n 2, 1) := by decide +kernel
theorem pm_a169_232 : pm_as (pm_cd pm_mm169) 232 = some (.iload_n 2, 1) := by decide +kernel
theorem pm_a169_233 : pm_as (pm_cd pm_mm169) 233 = some (.iconst 1, 1) := by decide +kernel
theorem pm_a169_234 : pm_as (pm_cd pm_mm169) 234 = some (.if_icmp .ne 28, 3) := by decide +kernel
theorem pm_a169_237 : pm_as (pm_cd pm_mm169) 237 = some (.aload_n 0, 1) := by decide +kernel
theorem pm_a169_238 : pm_as (pm_cd pm_mm169) 238 = some (.bipush 92, 2) := by decide +kernel
theorem pm_a169_240 : pm_as (pm_cd pm_mm169) 240 = some (.invokevirtual 219, 3) := by decide +kernel
theorem pm_a169_243 : pm_as (pm_cd pm_mm169) 243 = some (.aload_n 0, 1) := by decide +kernel
theorem pm_a169_244 : pm_as (pm_cd pm_mm169) 244 = some (.aload_n 0, 1) := by decide +kernel
theorem pm_a169_245 : pm_as (pm_cd pm_mm169) 245 = some (.getfield 22, 3) := by decide +kernel
theorem pm_a169_248 : pm_as (pm_cd pm_mm169) 248 = some (.iload_n 1, 1) := by decide +kernel
theorem pm_a169_249 : pm_as (pm_cd pm_mm169) 249 = some (.iaload, 1) := by decide +kernel
theorem pm_a169_250 : pm_as (pm_cd pm_mm169) 250 = some (.invokevirtual 228, 3) := by decide +kernel
theorem pm_a169_253 : pm_as (pm_cd pm_mm169) 253 = some (.aload_n 0, 1) := by decide +kernel
theorem pm_a169_254 : pm_as (pm_cd pm_mm169) 254 = some (.bipush 46, 2) := by decide +kernel
theorem pm_a169_256 : pm_as (pm_cd pm_mm169) 256 = some (.invokevirtual 219, 3) := by decide +kernel
theorem pm_a169_259 : pm_as (pm_cd pm_mm169) 259 = some (.goto 79, 3) := by decide +kernel
theorem pm_a169_262 : pm_as (pm_cd pm_mm169) 262 = some (.iload_n 2, 1) := by decide +kernel
theorem pm_a169_263 : pm_as (pm_cd pm_mm169) 263 = some (.bipush 9, 2) := by decide +kernel
theorem pm_a169_265 : pm_as (pm_cd pm_mm169) 265 = some (.if_icmp .le 23, 3) := by decide +kernel
theorem pm_a169_268 : pm_as (pm_cd pm_mm169) 268 = some (.aload_n 0, 1) := by decide +kernel
theorem pm_a169_269 : pm_as (pm_cd pm_mm169) 269 = some (.aload_n 0, 1) := by decide +kernel
theorem pm_a169_270 : pm_as (pm_cd pm_mm169) 270 = some (.getfield 22, 3) := by decide +kernel
theorem pm_a169_273 : pm_as (pm_cd pm_mm169) 273 = some (.iload_n 1, 1) := by decide +kernel
theorem pm_a169_274 : pm_as (pm_cd pm_mm169) 274 = some (.iaload, 1) := by decide +kernel
theorem pm_a169_275 : pm_as (pm_cd pm_mm169) 275 = some (.iconst 1, 1) := by decide +kernel
theorem pm_a169_276 : pm_as (pm_cd pm_mm169) 276 = some (.isub, 1) := by decide +kernel
theorem pm_a169_277 : pm_as (pm_cd pm_mm169) 277 = some (.iload_n 2, 1) := by decide +kernel
theorem pm_a169_278 : pm_as (pm_cd pm_mm169) 278 = some (.bipush 10, 2) := by decide +kernel
theorem pm_a169_280 : pm_as (pm_cd pm_mm169) 280 = some (.isub, 1) := by decide +kernel
theorem pm_a169_281 : pm_as (pm_cd pm_mm169) 281 = some (.isub, 1) := by decide +kernel
theorem pm_a169_282 : pm_as (pm_cd pm_mm169) 282 = some (.invokevirtual 228, 3) := by decide +kernel
theorem pm_a169_285 : pm_as (pm_cd pm_mm169) 285 = some (.goto 53, 3) := by decide +kernel
theorem pm_a169_288 : pm_as (pm_cd pm_mm169) 288 = some (.iload_n 2, 1) := by decide +kernel
theorem pm_a169_289 : pm_as (pm_cd pm_mm169) 289 = some (.ifCond .eq 49, 3) := by decide +kernel
theorem pm_a169_292 : pm_as (pm_cd pm_mm169) 292 = some (.aload_n 0, 1) := by decide +kernel
theorem pm_a169_293 : pm_as (pm_cd pm_mm169) 293 = some (.iload_n 2, 1) := by decide +kernel
theorem pm_a169_294 : pm_as (pm_cd pm_mm169) 294 = some (.iconst 2, 1) := by decide +kernel
theorem pm_a169_295 : pm_as (pm_cd pm_mm169) 295 = some (.if_icmp .ne 8, 3) := by decide +kernel
theorem pm_a169_298 : pm_as (pm_cd pm_mm169) 298 = some (.bipush 83, 2) := by decide +kernel
theorem pm_a169_300 : pm_as (pm_cd pm_mm169) 300 = some (.goto 35, 3) := by decide +kernel
theorem pm_a169_303 : pm_as (pm_cd pm_mm169) 303 = some (.iload_n 2, 1) := by decide +kernel
theorem pm_a169_304 : pm_as (pm_cd pm_mm169) 304 = some (.iconst 3, 1) := by decide +kernel
theorem pm_a169_305 : pm_as (pm_cd pm_mm169) 305 = some (.if_icmp .ne 8, 3) := by decide +kernel
theorem pm_a169_308 : pm_as (pm_cd pm_mm169) 308 = some (.bipush 75, 2) := by decide +kernel
theorem pm_a169_310 : pm_as (pm_cd pm_mm169) 310 = some (.goto 25, 3) := by decide +kernel
theorem pm_a169_313 : pm_as (pm_cd pm_mm169) 313 = some (.iload_n 2, 1) := by decide +kernel
theorem pm_a169_314 : pm_as (pm_cd pm_mm169) 314 = some (.iconst 4, 1) := by decide +kernel
theorem pm_a169_315 : pm_as (pm_cd pm_mm169) 315 = some (.if_icmp .ne 8, 3) := by decide +kernel
theorem pm_a169_318 : pm_as (pm_cd pm_mm169) 318 = some (.bipush 73, 2) := by decide +kernel
theorem pm_a169_320 : pm_as (pm_cd pm_mm169) 320 = some (.goto 15, 3) := by decide +kernel
theorem pm_a169_323 : pm_as (pm_cd pm_mm169) 323 = some (.iload_n 2, 1) := by decide +kernel
theorem pm_a169_324 : pm_as (pm_cd pm_mm169) 324 = some (.iconst 5, 1) := by decide +kernel
theorem pm_a169_325 : pm_as (pm_cd pm_mm169) 325 = some (.if_icmp .ne 8, 3) := by decide +kernel
theorem pm_a169_328 : pm_as (pm_cd pm_mm169) 328 = some (.bipush 70, 2) := by decide +kernel
theorem pm_a169_330 : pm_as (pm_cd pm_mm169) 330 = some (.goto 5, 3) := by decide +kernel
theorem pm_a169_333 : pm_as (pm_cd pm_mm169) 333 = some (.bipush 88, 2) := by decide +kernel
theorem pm_a169_335 : pm_as (pm_cd pm_mm169) 335 = some (.invokevirtual 219, 3) := by decide +kernel
theorem pm_a169_338 : pm_as (pm_cd pm_mm169) 338 = some (.iinc 1 1, 3) := by decide +kernel
theorem pm_a169_341 : pm_as (pm_cd pm_mm169) 341 = some (.goto (-190), 3) := by decide +kernel
theorem pm_a169_344 : pm_as (pm_cd pm_mm169) 344 = some (.return_, 1) := by decide +kernel
theorem pm_a170_0 : pm_as (pm_cd pm_mm170) 0 = some (.iconst 1, 1) := by decide +kernel
theorem pm_a170_1 : pm_as (pm_cd pm_mm170) 1 = some (.istore_n 2, 1) := by decide +kernel
theorem pm_a170_2 : pm_as (pm_cd pm_mm170) 2 = some (.iload_n 1, 1) := by decide +kernel
theorem pm_a170_3 : pm_as (pm_cd pm_mm170) 3 = some (.istore_n 3, 1) := by decide +kernel
theorem pm_a170_4 : pm_as (pm_cd pm_mm170) 4 = some (.iload_n 2, 1) := by decide +kernel
theorem pm_a170_5 : pm_as (pm_cd pm_mm170) 5 = some (.ifCond .le 40, 3) := by decide +kernel
theorem pm_a170_8 : pm_as (pm_cd pm_mm170) 8 = some (.iload_n 2, 1) := by decide +kernel
theorem pm_a170_9 : pm_as (pm_cd pm_mm170) 9 = some (.aload_n 0, 1) := by decide +kernel
theorem pm_a170_10 : pm_as (pm_cd pm_mm170) 10 = some (.getfield 19, 3) := by decide +kernel
theorem pm_a170_13 : pm_as (pm_cd pm_mm170) 13 = some (.iload_n 3, 1) := by decide +kernel
theorem pm_a170_14 : pm_as (pm_cd pm_mm170) 14 = some (.iaload, 1) := by decide +kernel
theorem pm_a170_15 : pm_as (pm_cd pm_mm170) 15 = some (.ifCond .ne 7, 3) := by decide +kernel
theorem pm_a170_18 : pm_as (pm_cd pm_mm170) 18 = some (.iconst 1, 1) := by decide +kernel
theorem pm_a170_19 : pm_as (pm_cd pm_mm170) 19 = some (.goto 18, 3) := by decide +kernel
theorem pm_a170_22 : pm_as (pm_cd pm_mm170) 22 = some (.aload_n 0, 1) := by decide +kernel
theorem pm_a170_23 : pm_as (pm_cd pm_mm170) 23 = some (.getfield 19, 3) := by decide +kernel
theorem pm_a170_26 : pm_as (pm_cd pm_mm170) 26 = some (.iload_n 3, 1) := by decide +kernel
theorem pm_a170_27 : pm_as (pm_cd pm_mm170) 27 = some (.iaload, 1) := by decide +kernel
theorem pm_a170_28 : pm_as (pm_cd pm_mm170) 28 = some (.iconst 1, 1) := by decide +kernel
theorem pm_a170_29 : pm_as (pm_cd pm_mm170) 29 = some (.if_icmp .ne 7, 3) := by decide +kernel
theorem pm_a170_32 : pm_as (pm_cd pm_mm170) 32 = some (.iconst 0, 1) := by decide +kernel
theorem pm_a170_33 : pm_as (pm_cd pm_mm170) 33 = some (.goto 4, 3) := by decide +kernel
theorem pm_a170_36 : pm_as (pm_cd pm_mm170) 36 = some (.iconst (-1), 1) := by decide +kernel
theorem pm_a170_37 : pm_as (pm_cd pm_mm170) 37 = some (.iadd, 1) := by decide +kernel
theorem pm_a170_38 : pm_as (pm_cd pm_mm170) 38 = some (.istore_n 2, 1) := by decide +kernel
theorem pm_a170_39 : pm_as (pm_cd pm_mm170) 39 = some (.iinc 3 1, 3) := by decide +kernel
theorem pm_a170_42 : pm_as (pm_cd pm_mm170) 42 = some (.goto (-38), 3) := by decide +kernel
theorem pm_a170_45 : pm_as (pm_cd pm_mm170) 45 = some (.iload_n 3, 1) := by decide +kernel
theorem pm_a170_46 : pm_as (pm_cd pm_mm170) 46 = some (.ireturn, 1) := by decide +kernel
theorem pm_a171_0 : pm_as (pm_cd pm_mm171) 0 = some (.iconst 1, 1) := by decide +kernel
theorem pm_a171_1 : pm_as (pm_cd pm_mm171) 1 = some (.istore_n 2, 1) := by decide +kernel
theorem pm_a171_2 : pm_as (pm_cd pm_mm171) 2 = some (.aload_n 0, 1) := by decide +kernel
theorem pm_a171_3 : pm_as (pm_cd pm_mm171) 3 = some (.getfield 25, 3) := by decide +kernel
theorem pm_a171_6 : pm_as (pm_cd pm_mm171) 6 = some (.iconst 0, 1) := by decide +kernel
theorem pm_a171_7 : pm_as (pm_cd pm_mm171) 7 = some (.iconst 0, 1) := by decide +kernel
theorem pm_a171_8 : pm_as (pm_cd pm_mm171) 8 = some (.iastore, 1) := by decide +kernel
theorem pm_a171_9 : pm_as (pm_cd pm_mm171) 9 = some (.iload_n 1, 1) := by decide +kernel
theorem pm_a171_10 : pm_as (pm_cd pm_mm171) 10 = some (.istore_n 3, 1) := by decide +kernel
theorem pm_a171_11 : pm_as (pm_cd pm_mm171) 11 = some (.iload_n 2, 1) := by decide +kernel
theorem pm_a171_12 : pm_as (pm_cd pm_mm171) 12 = some (.ifCond .le 84, 3) := by decide +kernel
theorem pm_a171_15 : pm_as (pm_cd pm_mm171) 15 = some (.iinc 2 (-1), 3) := by decide +kernel
theorem pm_a171_18 : pm_as (pm_cd pm_mm171) 18 = some (.aload_n 0, 1) := by decide +kernel
theorem pm_a171_19 : pm_as (pm_cd pm_mm171) 19 = some (.getfield 25, 3) := by decide +kernel
theorem pm_a171_22 : pm_as (pm_cd pm_mm171) 22 = some (.iload_n 2, 1) := by decide +kernel
theorem pm_a171_23 : pm_as (pm_cd pm_mm171) 23 = some (.iaload, 1) := by decide +kernel
theorem pm_a171_24 : pm_as (pm_cd pm_mm171) 24 = some (.istore 4, 2) := by decide +kernel
theorem pm_a171_26 : pm_as (pm_cd pm_mm171) 26 = some (.aload_n 0, 1) := by decide +kernel
theorem pm_a171_27 : pm_as (pm_cd pm_mm171) 27 = some (.getfield 22, 3) := by decide +kernel
theorem pm_a171_30 : pm_as (pm_cd pm_mm171) 30 = some (.iload_n 3, 1) := by decide +kernel
theorem pm_a171_31 : pm_as (pm_cd pm_mm171) 31 = some (.iload 4, 2) := by decide +kernel
theorem pm_a171_33 : pm_as (pm_cd pm_mm171) 33 = some (.iastore, 1) := by decide +kernel
theorem pm_a171_34 : pm_as (pm_cd pm_mm171) 34 = some (.aload_n 0, 1) := by decide +kernel
theorem pm_a171_35 : pm_as (pm_cd pm_mm171) 35 = some (.getfield 19, 3) := by decide +kernel
theorem pm_a171_38 : pm_as (pm_cd pm_mm171) 38 = some (.iload_n 3, 1) := by decide +kernel
theorem pm_a171_39 : pm_as (pm_cd pm_mm171) 39 = some (.iaload, 1) := by decide +kernel
theorem pm_a171_40 : pm_as (pm_cd pm_mm171) 40 = some (.ifCond .ne 27, 3) := by decide +kernel
theorem pm_a171_43 : pm_as (pm_cd pm_mm171) 43 = some (.aload_n 0, 1) := by decide +kernel
theorem pm_a171_44 : pm_as (pm_cd pm_mm171) 44 = some (.getfield 25, 3) := by decide +kernel
theorem pm_a171_47 : pm_as (pm_cd pm_mm171) 47 = some (.iload_n 2, 1) := by decide +kernel
theorem pm_a171_48 : pm_as (pm_cd pm_mm171) 48 = some (.iload 4, 2) := by decide +kernel
theorem pm_a171_50 : pm_as (pm_cd pm_mm171) 50 = some (.iastore, 1) := by decide +kernel
theorem pm_a171_51 : pm_as (pm_cd pm_mm171) 51 = some (.aload_n 0, 1) := by decide +kernel
theorem pm_a171_52 : pm_as (pm_cd pm_mm171) 52 = some (.getfield 25, 3) := by decide +kernel
theorem pm_a171_55 : pm_as (pm_cd pm_mm171) 55 = some (.iload_n 2, 1) := by decide +kernel
theorem pm_a171_56 : pm_as (pm_cd pm_mm171) 56 = some (.iconst 1, 1) := by decide +kernel
theorem pm_a171_57 : pm_as (pm_cd pm_mm171) 57 = some (.iadd, 1) := by decide +kernel
theorem pm_a171_58 : pm_as (pm_cd pm_mm171) 58 = some (.iload 4, 2) := by decide +kernel
theorem pm_a171_60 : pm_as (pm_cd pm_mm171) 60 = some (.iastore, 1) := by decide +kernel
theorem pm_a171_61 : pm_as (pm_cd pm_mm171) 61 = some (.iinc 2 2, 3) := by decide +kernel
theorem pm_a171_64 : pm_as (pm_cd pm_mm171) 64 = some (.goto 26, 3) := by decide +kernel
theorem pm_a171_67 : pm_as (pm_cd pm_mm171) 67 = some (.aload_n 0, 1) := by decide +kernel
theorem pm_a171_68 : pm_as (pm_cd pm_mm171) 68 = some (.getfield 19, 3) := by decide +kernel
theorem pm_a171_71 : pm_as (pm_cd pm_mm171) 71 = some (.iload_n 3, 1) := by decide +kernel
theorem pm_a171_72 : pm_as (pm_cd pm_mm171) 72 = some (.iaload, 1) := by decide +kernel
theorem pm_a171_73 : pm_as (pm_cd pm_mm171) 73 = some (.iconst 1, 1) := by decide +kernel
theorem pm_a171_74 : pm_as (pm_cd pm_mm171) 74 = some (.if_icmp .ne 16, 3) := by decide +kernel
theorem pm_a171_77 : pm_as (pm_cd pm_mm171) 77 = some (.aload_n 0, 1) := by decide +kernel
theorem pm_a171_78 : pm_as (pm_cd pm_mm171) 78 = some (.getfield 25, 3) := by decide +kernel
theorem pm_a171_81 : pm_as (pm_cd pm_mm171) 81 = some (.iload_n 2, 1) := by decide +kernel
theorem pm_a171_82 : pm_as (pm_cd pm_mm171) 82 = some (.iload 4, 2) := by decide +kernel
theorem pm_a171_84 : pm_as (pm_cd pm_mm171) 84 = some (.iconst 1, 1) := by decide +kernel
theorem pm_a171_85 : pm_as (pm_cd pm_mm171) 85 = some (.iadd, 1) := by decide +kernel
theorem pm_a171_86 : pm_as (pm_cd pm_mm171) 86 = some (.iastore, 1) := by decide +kernel
theorem pm_a171_87 : pm_as (pm_cd pm_mm171) 87 = some (.iinc 2 1, 3) := by decide +kernel
theorem pm_a171_90 : pm_as (pm_cd pm_mm171) 90 = some (.iinc 3 1, 3) := by decide +kernel
theorem pm_a171_93 : pm_as (pm_cd pm_mm171) 93 = some (.goto (-82), 3) := by decide +kernel
theorem pm_a171_96 : pm_as (pm_cd pm_mm171) 96 = some (.return_, 1) := by decide +kernel
theorem pm_a172_0 : pm_as (pm_cd pm_mm172) 0 = some (.aload_n 0, 1) := by decide +kernel
theorem pm_a172_1 : pm_as (pm_cd pm_mm172) 1 = some (.getfield 42, 3) := by decide +kernel
theorem pm_a172_4 : pm_as (pm_cd pm_mm172) 4 = some (.aload_n 0, 1) := by decide +kernel
theorem pm_a172_5 : pm_as (pm_cd pm_mm172) 5 = some (.getfield 216, 3) := by decide +kernel
theorem pm_a172_8 : pm_as (pm_cd pm_mm172) 8 = some (.iload_n 1, 1) := by decide +kernel
theorem pm_a172_9 : pm_as (pm_cd pm_mm172) 9 = some (.iastore, 1) := by decide +kernel
theorem pm_a172_10 : pm_as (pm_cd pm_mm172) 10 = some (.aload_n 0, 1) := by decide +kernel
theorem pm_a172_11 : pm_as (pm_cd pm_mm172) 11 = some (.dup, 1) := by decide +kernel
theorem pm_a172_12 : pm_as (pm_cd pm_mm172) 12 = some (.getfield 216, 3) := by decide +kernel
theorem pm_a172_15 : pm_as (pm_cd pm_mm172) 15 = some (.iconst 1, 1) := by decide +kernel
theorem pm_a172_16 : pm_as (pm_cd pm_mm172) 16 = some (.iadd, 1) := by decide +kernel
theorem pm_a172_17 : pm_as (pm_cd pm_mm172) 17 = some (.putfield 216, 3) := by decide +kernel
theorem pm_a172_20 : pm_as (pm_cd pm_mm172) 20 = some (.return_, 1) := by decide +kernel
theorem pm_a173_0 : pm_as (pm_cd pm_mm173) 0 = some (.iload_n 1, 1) := by decide +kernel
theorem pm_a173_1 : pm_as (pm_cd pm_mm173) 1 = some (.bipush 25, 2) := by decide +kernel
theorem pm_a173_3 : pm_as (pm_cd pm_mm173) 3 = some (.if_icmp .le 17, 3) := by decide +kernel
theorem pm_a173_6 : pm_as (pm_cd pm_mm173) 6 = some (.aload_n 0, 1) := by decide +kernel
theorem pm_a173_7 : pm_as (pm_cd pm_mm173) 7 = some (.bipush 97, 2) := by decide +kernel
theorem pm_a173_9 : pm_as (pm_cd pm_mm173) 9 = some (.iload_n 1, 1) := by decide +kernel
theorem pm_a173_10 : pm_as (pm_cd pm_mm173) 10 = some (.bipush 26, 2) := by decide +kernel
theorem pm_a173_12 : pm_as (pm_cd pm_mm173) 12 = some (.isub, 1) := by decide +kernel
theorem pm_a173_13 : pm_as (pm_cd pm_mm173) 13 = some (.bipush 26, 2) := by decide +kernel
theorem pm_a173_15 : pm_as (pm_cd pm_mm173) 15 = some (.idiv, 1) := by decide +kernel
theorem pm_a173_16 : pm_as (pm_cd pm_mm173) 16 = some (.iadd, 1) := by decide +kernel
theorem pm_a173_17 : pm_as (pm_cd pm_mm173) 17 = some (.invokevirtual 219, 3) := by decide +kernel
theorem pm_a173_20 : pm_as (pm_cd pm_mm173) 20 = some (.aload_n 0, 1) := by decide +kernel
theorem pm_a173_21 : pm_as (pm_cd pm_mm173) 21 = some (.bipush 97, 2) := by decide +kernel
theorem pm_a173_23 : pm_as (pm_cd pm_mm173) 23 = some (.iload_n 1, 1) := by decide +kernel
theorem pm_a173_24 : pm_as (pm_cd pm_mm173) 24 = some (.bipush 25, 2) := by decide +kernel
theorem pm_a173_26 : pm_as (pm_cd pm_mm173) 26 = some (.if_icmp .le 13, 3) := by decide +kernel
theorem pm_a173_29 : pm_as (pm_cd pm_mm173) 29 = some (.iload_n 1, 1) := by decide +kernel
theorem pm_a173_30 : pm_as (pm_cd pm_mm173) 30 = some (.bipush 26, 2) := by decide +kernel
theorem pm_a173_32 : pm_as (pm_cd pm_mm173) 32 = some (.isub, 1) := by decide +kernel
theorem pm_a173_33 : pm_as (pm_cd pm_mm173) 33 = some (.bipush 26, 2) := by decide +kernel
theorem pm_a173_35 : pm_as (pm_cd pm_mm173) 35 = some (.irem, 1) := by decide +kernel
theorem pm_a173_36 : pm_as (pm_cd pm_mm173) 36 = some (.goto 4, 3) := by decide +kernel
theorem pm_a173_39 : pm_as (pm_cd pm_mm173) 39 = some (.iload_n 1, 1) := by decide +kernel
theorem pm_a173_40 : pm_as (pm_cd pm_mm173) 40 = some (.iadd, 1) := by decide +kernel
theorem pm_a173_41 : pm_as (pm_cd pm_mm173) 41 = some (.invokevirtual 219, 3) := by decide +kernel
theorem pm_a173_44 : pm_as (pm_cd pm_mm173) 44 = some (.return_, 1) := by decide +kernel
theorem pm_a174_0 : pm_as (pm_cd pm_mm174) 0 = some (.aload_n 0, 1) := by decide +kernel
theorem pm_a174_1 : pm_as (pm_cd pm_mm174) 1 = some (.iload_n 1, 1) := by decide +kernel
theorem pm_a174_2 : pm_as (pm_cd pm_mm174) 2 = some (.invokevirtual 213, 3) := by decide +kernel
theorem pm_a174_5 : pm_as (pm_cd pm_mm174) 5 = some (.ifCond .eq 11, 3) := by decide +kernel
theorem pm_a174_8 : pm_as (pm_cd pm_mm174) 8 = some (.aload_n 0, 1) := by decide +kernel
theorem pm_a174_9 : pm_as (pm_cd pm_mm174) 9 = some (.iload_n 2, 1) := by decide +kernel
theorem pm_a174_10 : pm_as (pm_cd pm_mm174) 10 = some (.invokevirtual 213, 3) := by decide +kernel
theorem pm_a174_13 : pm_as (pm_cd pm_mm174) 13 = some (.ifCond .ne 5, 3) := by decide +kernel
theorem pm_a174_16 : pm_as (pm_cd pm_mm174) 16 = some (.iconst (-1), 1) := by decide +kernel
theorem pm_a174_17 : pm_as (pm_cd pm_mm174) 17 = some (.ireturn, 1) := by decide +kernel
theorem pm_a174_18 : pm_as (pm_cd pm_mm174) 18 = some (.aload_n 0, 1) := by decide +kernel
theorem pm_a174_19 : pm_as (pm_cd pm_mm174) 19 = some (.getfield 204, 3) := by decide +kernel
theorem pm_a174_22 : pm_as (pm_cd pm_mm174) 22 = some (.bipush 32, 2) := by decide +kernel
theorem pm_a174_24 : pm_as (pm_cd pm_mm174) 24 = some (.if_icmp .eq 24, 3) := by decide +kernel
theorem pm_a174_27 : pm_as (pm_cd pm_mm174) 27 = some (.aload_n 0, 1) := by decide +kernel
theorem pm_a174_28 : pm_as (pm_cd pm_mm174) 28 = some (.getfield 7, 3) := by decide +kernel
theorem pm_a174_31 : pm_as (pm_cd pm_mm174) 31 = some (.iload_n 1, 1) := by decide +kernel
theorem pm_a174_32 : pm_as (pm_cd pm_mm174) 32 = some (.iaload, 1) := by decide +kernel
theorem pm_a174_33 : pm_as (pm_cd pm_mm174) 33 = some (.aload_n 0, 1) := by decide +kernel
theorem pm_a174_34 : pm_as (pm_cd pm_mm174) 34 = some (.getfield 7, 3) := by decide +kernel
theorem pm_a174_37 : pm_as (pm_cd pm_mm174) 37 = some (.iload_n 2, 1) := by decide +kernel
theorem pm_a174_38 : pm_as (pm_cd pm_mm174) 38 = some (.iaload, 1) := by decide +kernel
theorem pm_a174_39 : pm_as (pm_cd pm_mm174) 39 = some (.iadd, 1) := by decide +kernel
theorem pm_a174_40 : pm_as (pm_cd pm_mm174) 40 = some (.iconst 1, 1) := by decide +kernel
theorem pm_a174_41 : pm_as (pm_cd pm_mm174) 41 = some (.iadd, 1) := by decide +kernel
theorem pm_a174_42 : pm_as (pm_cd pm_mm174) 42 = some (.sipush 500, 3) := by decide +kernel
theorem pm_a174_45 : pm_as (pm_cd pm_mm174) 45 = some (.if_icmp .le 6, 3) := by decide +kernel
theorem pm_a174_48 : pm_as (pm_cd pm_mm174) 48 = some (.bipush (-3), 2) := by decide +kernel
theorem pm_a174_50 : pm_as (pm_cd pm_mm174) 50 = some (.ireturn, 1) := by decide +kernel
theorem pm_a174_51 : pm_as (pm_cd pm_mm174) 51 = some (.aload_n 0, 1) := by decide +kernel
theorem pm_a174_52 : pm_as (pm_cd pm_mm174) 52 = some (.iconst 0, 1) := by decide +kernel
theorem pm_a174_53 : pm_as (pm_cd pm_mm174) 53 = some (.putfield 117, 3) := by decide +kernel
theorem pm_a174_56 : pm_as (pm_cd pm_mm174) 56 = some (.aload_n 0, 1) := by decide +kernel
theorem pm_a174_57 : pm_as (pm_cd pm_mm174) 57 = some (.iconst 0, 1) := by decide +kernel
theorem pm_a174_58 : pm_as (pm_cd pm_mm174) 58 = some (.invokevirtual 173, 3) := by decide +kernel
theorem pm_a174_61 : pm_as (pm_cd pm_mm174) 61 = some (.iconst 0, 1) := by decide +kernel
theorem pm_a174_62 : pm_as (pm_cd pm_mm174) 62 = some (.istore_n 3, 1) := by decide +kernel
theorem pm_a174_63 : pm_as (pm_cd pm_mm174) 63 = some (.iload_n 3, 1) := by decide +kernel
theorem pm_a174_64 : pm_as (pm_cd pm_mm174) 64 = some (.aload_n 0, 1) := by decide +kernel
theorem pm_a174_65 : pm_as (pm_cd pm_mm174) 65 = some (.getfield 7, 3) := by decide +kernel
theorem pm_a174_68 : pm_as (pm_cd pm_mm174) 68 = some (.iload_n 1, 1) := by decide +kernel
theorem pm_a174_69 : pm_as (pm_cd pm_mm174) 69 = some (.iaload, 1) := by decide +kernel
theorem pm_a174_70 : pm_as (pm_cd pm_mm174) 70 = some (.if_icmp .ge 25, 3) := by decide +kernel
theorem pm_a174_73 : pm_as (pm_cd pm_mm174) 73 = some (.aload_n 0, 1) := by decide +kernel
theorem pm_a174_74 : pm_as (pm_cd pm_mm174) 74 = some (.aload_n 0, 1) := by decide +kernel
theorem pm_a174_75 : pm_as (pm_cd pm_mm174) 75 = some (.getfield 13, 3) := by decide +kernel
theorem pm_a174_78 : pm_as (pm_cd pm_mm174) 78 = some (.sipush 500, 3) := by decide +kernel
theorem pm_a174_81 : pm_as (pm_cd pm_mm174) 81 = some (.iload_n 1, 1) := by decide +kernel
theorem pm_a174_82 : pm_as (pm_cd pm_mm174) 82 = some (.imul, 1) := by decide +kernel
theorem pm_a174_83 : pm_as (pm_cd pm_mm174) 83 = some (.iload_n 3, 1) := by decide +kernel
theorem pm_a174_84 : pm_as (pm_cd pm_mm174) 84 = some (.iadd, 1) := by decide +kernel
theorem pm_a174_85 : pm_as (pm_cd pm_mm174) 85 = some (.iaload, 1) := by decide +kernel
theorem pm_a174_86 : pm_as (pm_cd pm_mm174) 86 = some (.invokevirtual 173, 3) := by decide +kernel
theorem pm_a174_89 : pm_as (pm_cd pm_mm174) 89 = some (.iinc 3 1, 3) := by decide +kernel
theorem pm_a174_92 : pm_as (pm_cd pm_mm174) 92 = some (.goto (-29), 3) := by decide +kernel
theorem pm_a174_95 : pm_as (pm_cd pm_mm174) 95 = some (.iconst 0, 1) := by decide +kernel
theorem pm_a174_96 : pm_as (pm_cd pm_mm174) 96 = some (.istore_n 3, 1) := by decide +kernel
theorem pm_a174_97 : pm_as (pm_cd pm_mm174) 97 = some (.iload_n 3, 1) := by decide +kernel
theorem pm_a174_98 : pm_as (pm_cd pm_mm174) 98 = some (.aload_n 0, 1) := by decide +kernel
theorem pm_a174_99 : pm_as (pm_cd pm_mm174) 99 = some (.getfield 7, 3) := by decide +kernel
theorem pm_a174_102 : pm_as (pm_cd pm_mm174) 102 = some (.iload_n 2, 1) := by decide +kernel
theorem pm_a174_103 : pm_as (pm_cd pm_mm174) 103 = some (.iaload, 1) := by decide +kernel
theorem pm_a174_104 : pm_as (pm_cd pm_mm174) 104 = some (.if_icmp .ge 25, 3) := by decide +kernel
theorem pm_a174_107 : pm_as (pm_cd pm_mm174) 107 = some (.aload_n 0, 1) := by decide +kernel
theorem pm_a174_108 : pm_as (pm_cd pm_mm174) 108 = some (.aload_n 0, 1) := by decide +kernel
theorem pm_a174_109 : pm_as (pm_cd pm_mm174) 109 = some (.getfield 13, 3) := by decide +kernel
theorem pm_a174_112 : pm_as (pm_cd pm_mm174) 112 = some (.sipush 500, 3) := by decide +kernel
theorem pm_a174_115 : pm_as (pm_cd pm_mm174) 115 = some (.iload_n 2, 1) := by decide +kernel
theorem pm_a174_116 : pm_as (pm_cd pm_mm174) 116 = some (.imul, 1) := by decide +kernel
theorem pm_a174_117 : pm_as (pm_cd pm_mm174) 117 = some (.iload_n 3, 1) := by decide +kernel
theorem pm_a174_118 : pm_as (pm_cd pm_mm174) 118 = some (.iadd, 1) := by decide +kernel
theorem pm_a174_119 : pm_as (pm_cd pm_mm174) 119 = some (.iaload, 1) := by decide +kernel
theorem pm_a174_120 : pm_as (pm_cd pm_mm174) 120 = some (.invokevirtual 173, 3) := by decide +kernel
theorem pm_a174_123 : pm_as (pm_cd pm_mm174) 123 = some (.iinc 3 1, 3) := by decide +kernel
theorem pm_a174_126 : pm_as (pm_cd pm_mm174) 126 = some (.goto (-29), 3) := by decide +kernel
theorem pm_a174_129 : pm_as (pm_cd pm_mm174) 129 = some (.aload_n 0, 1) := by decide +kernel
theorem pm_a174_130 : pm_as (pm_cd pm_mm174) 130 = some (.aload_n 0, 1) := by decide +kernel
theorem pm_a174_131 : pm_as (pm_cd pm_mm174) 131 = some (.getfield 204, 3) := by decide +kernel
theorem pm_a174_134 : pm_as (pm_cd pm_mm174) 134 = some (.invokevirtual 210, 3) := by decide +kernel
theorem pm_a174_137 : pm_as (pm_cd pm_mm174) 137 = some (.aload_n 0, 1) := by decide +kernel
theorem pm_a174_138 : pm_as (pm_cd pm_mm174) 138 = some (.dup, 1) := by decide +kernel
theorem pm_a174_139 : pm_as (pm_cd pm_mm174) 139 = some (.getfield 204, 3) := by decide +kernel
theorem pm_a174_142 : pm_as (pm_cd pm_mm174) 142 = some (.iconst 1, 1) := by decide +kernel
theorem pm_a174_143 : pm_as (pm_cd pm_mm174) 143 = some (.iadd, 1) := by decide +kernel
theorem pm_a174_144 : pm_as (pm_cd pm_mm174) 144 = some (.putfield 204, 3) := by decide +kernel
theorem pm_a174_147 : pm_as (pm_cd pm_mm174) 147 = some (.aload_n 0, 1) := by decide +kernel
theorem pm_a174_148 : pm_as (pm_cd pm_mm174) 148 = some (.getfield 204, 3) := by decide +kernel
theorem pm_a174_151 : pm_as (pm_cd pm_mm174) 151 = some (.iconst 1, 1) := by decide +kernel
theorem pm_a174_152 : pm_as (pm_cd pm_mm174) 152 = some (.isub, 1) := by decide +kernel
theorem pm_a174_153 : pm_as (pm_cd pm_mm174) 153 = some (.ireturn, 1) := by decide +kernel
theorem pm_a175_0 : pm_as (pm_cd pm_mm175) 0 = some (.aload_n 0, 1) := by decide +kernel
theorem pm_a175_1 : pm_as (pm_cd pm_mm175) 1 = some (.iload_n 1, 1) := by decide +kernel
theorem pm_a175_2 : pm_as (pm_cd pm_mm175) 2 = some (.invokevirtual 213, 3) := by decide +kernel
theorem pm_a175_5 : pm_as (pm_cd pm_mm175) 5 = some (.ifCond .ne 5, 3) := by decide +kernel
theorem pm_a175_8 : pm_as (pm_cd pm_mm175) 8 = some (.iconst (-1), 1) := by decide +kernel
theorem pm_a175_9 : pm_as (pm_cd pm_mm175) 9 = some (.ireturn, 1) := by decide +kernel
theorem pm_a175_10 : pm_as (pm_cd pm_mm175) 10 = some (.aload_n 0, 1) := by decide +kernel
theorem pm_a175_11 : pm_as (pm_cd pm_mm175) 11 = some (.getfield 204, 3) := by decide +kernel
theorem pm_a175_14 : pm_as (pm_cd pm_mm175) 14 = some (.bipush 32, 2) := by decide +kernel
theorem pm_a175_16 : pm_as (pm_cd pm_mm175) 16 = some (.if_icmp .ne 6, 3) := by decide +kernel
theorem pm_a175_19 : pm_as (pm_cd pm_mm175) 19 = some (.bipush (-3), 2) := by decide +kernel
theorem pm_a175_21 : pm_as (pm_cd pm_mm175) 21 = some (.ireturn, 1) := by decide +kernel
theorem pm_a175_22 : pm_as (pm_cd pm_mm175) 22 = some (.aload_n 0, 1) := by decide +kernel
theorem pm_a175_23 : pm_as (pm_cd pm_mm175) 23 = some (.iload_n 1, 1) := by decide +kernel
theorem pm_a175_24 : pm_as (pm_cd pm_mm175) 24 = some (.invokevirtual 231, 3) := by decide +kernel
theorem pm_a175_27 : pm_as (pm_cd pm_mm175) 27 = some (.aload_n 0, 1) := by decide +kernel
theorem pm_a175_28 : pm_as (pm_cd pm_mm175) 28 = some (.aload_n 0, 1) := by decide +kernel
theorem pm_a175_29 : pm_as (pm_cd pm_mm175) 29 = some (.getfield 204, 3) := by decide +kernel
theorem pm_a175_32 : pm_as (pm_cd pm_mm175) 32 = some (.invokevirtual 210, 3) := by decide +kernel
theorem pm_a175_35 : pm_as (pm_cd pm_mm175) 35 = some (.aload_n 0, 1) := by decide +kernel
theorem pm_a175_36 : pm_as (pm_cd pm_mm175) 36 = some (.dup, 1) := by decide +kernel
theorem pm_a175_37 : pm_as (pm_cd pm_mm175) 37 = some (.getfield 204, 3) := by decide +kernel
theorem pm_a175_40 : pm_as (pm_cd pm_mm175) 40 = some (.iconst 1, 1) := by decide +kernel
theorem pm_a175_41 : pm_as (pm_cd pm_mm175) 41 = some (.iadd, 1) := by decide +kernel
theorem pm_a175_42 : pm_as (pm_cd pm_mm175) 42 = some (.putfield 204, 3) := by decide +kernel
theorem pm_a175_45 : pm_as (pm_cd pm_mm175) 45 = some (.aload_n 0, 1) := by decide +kernel
theorem pm_a175_46 : pm_as (pm_cd pm_mm175) 46 = some (.getfield 204, 3) := by decide +kernel
theorem pm_a175_49 : pm_as (pm_cd pm_mm175) 49 = some (.iconst 1, 1) := by decide +kernel
theorem pm_a175_50 : pm_as (pm_cd pm_mm175) 50 = some (.isub, 1) := by decide +kernel
theorem pm_a175_51 : pm_as (pm_cd pm_mm175) 51 = some (.ireturn, 1) := by decide +kernel
theorem pm_a176_0 : pm_as (pm_cd pm_mm176) 0 = some (.aload_n 0, 1) := by decide +kernel
theorem pm_a176_1 : pm_as (pm_cd pm_mm176) 1 = some (.iload_n 1, 1) := by decide +kernel
theorem pm_a176_2 : pm_as (pm_cd pm_mm176) 2 = some (.invokevirtual 213, 3) := by decide +kernel
theorem pm_a176_5 : pm_as (pm_cd pm_mm176) 5 = some (.ifCond .eq 11, 3) := by decide +kernel
theorem pm_a176_8 : pm_as (pm_cd pm_mm176) 8 = some (.aload_n 0, 1) := by decide +kernel
theorem pm_a176_9 : pm_as (pm_cd pm_mm176) 9 = some (.iload_n 2, 1) := by decide +kernel
theorem pm_a176_10 : pm_as (pm_cd pm_mm176) 10 = some (.invokevirtual 213, 3) := by decide +kernel
theorem pm_a176_13 : pm_as (pm_cd pm_mm176) 13 = some (.ifCond .ne 5, 3) := by decide +kernel
theorem pm_a176_16 : pm_as (pm_cd pm_mm176) 16 = some (.iconst (-1), 1) := by decide +kernel
theorem pm_a176_17 : pm_as (pm_cd pm_mm176) 17 = some (.ireturn, 1) := by decide +kernel
theorem pm_a176_18 : pm_as (pm_cd pm_mm176) 18 = some (.aload_n 0, 1) := by decide +kernel
theorem pm_a176_19 : pm_as (pm_cd pm_mm176) 19 = some (.getfield 7, 3) := by decide +kernel
theorem pm_a176_22 : pm_as (pm_cd pm_mm176) 22 = some (.iload_n 1, 1) := by decide +kernel
theorem pm_a176_23 : pm_as (pm_cd pm_mm176) 23 = some (.iaload, 1) := by decide +kernel
theorem pm_a176_24 : pm_as (pm_cd pm_mm176) 24 = some (.aload_n 0, 1) := by decide +kernel
theorem pm_a176_25 : pm_as (pm_cd pm_mm176) 25 = some (.getfield 7, 3) := by decide +kernel
theorem pm_a176_28 : pm_as (pm_cd pm_mm176) 28 = some (.iload_n 2, 1) := by decide +kernel
theorem pm_a176_29 : pm_as (pm_cd pm_mm176) 29 = some (.iaload, 1) := by decide +kernel
theorem pm_a176_30 : pm_as (pm_cd pm_mm176) 30 = some (.if_icmp .ne 7, 3) := by decide +kernel
theorem pm_a176_33 : pm_as (pm_cd pm_mm176) 33 = some (.iconst 1, 1) := by decide +kernel
theorem pm_a176_34 : pm_as (pm_cd pm_mm176) 34 = some (.goto 4, 3) := by decide +kernel
theorem pm_a176_37 : pm_as (pm_cd pm_mm176) 37 = some (.iconst 0, 1) := by decide +kernel
theorem pm_a176_38 : pm_as (pm_cd pm_mm176) 38 = some (.istore_n 3, 1) := by decide +kernel
theorem pm_a176_39 : pm_as (pm_cd pm_mm176) 39 = some (.iconst 0, 1) := by decide +kernel
theorem pm_a176_40 : pm_as (pm_cd pm_mm176) 40 = some (.istore 4, 2) := by decide +kernel
theorem pm_a176_42 : pm_as (pm_cd pm_mm176) 42 = some (.iload 4, 2) := by decide +kernel
theorem pm_a176_44 : pm_as (pm_cd pm_mm176) 44 = some (.aload_n 0, 1) := by decide +kernel
theorem pm_a176_45 : pm_as (pm_cd pm_mm176) 45 = some (.getfield 7, 3) := by decide +kernel
theorem pm_a176_48 : pm_as (pm_cd pm_mm176) 48 = some (.iload_n 1, 1) := by decide +kernel
theorem pm_a176_49 : pm_as (pm_cd pm_mm176) 49 = some (.iaload, 1) := by decide +kernel
theorem pm_a176_50 : pm_as (pm_cd pm_mm176) 50 = some (.if_icmp .ge 48, 3) := by decide +kernel
theorem pm_a176_53 : pm_as (pm_cd pm_mm176) 53 = some (.iload_n 3, 1) := by decide +kernel
theorem pm_a176_54 : pm_as (pm_cd pm_mm176) 54 = some (.ifCond .eq 44, 3) := by decide +kernel
theorem pm_a176_57 : pm_as (pm_cd pm_mm176) 57 = some (.aload_n 0, 1) := by decide +kernel
theorem pm_a176_58 : pm_as (pm_cd pm_mm176) 58 = some (.getfield 13, 3) := by decide +kernel
theorem pm_a176_61 : pm_as (pm_cd pm_mm176) 61 = some (.sipush 500, 3) := by decide +kernel
theorem pm_a176_64 : pm_as (pm_cd pm_mm176) 64 = some (.iload_n 1, 1) := by decide +kernel
theorem pm_a176_65 : pm_as (pm_cd pm_mm176) 65 = some (.imul, 1) := by decide +kernel
theorem pm_a176_66 : pm_as (pm_cd pm_mm176) 66 = some (.iload 4, 2) := by decide +kernel
theorem pm_a176_68 : pm_as (pm_cd pm_mm176) 68 = some (.iadd, 1) := by decide +kernel
theorem pm_a176_69 : pm_as (pm_cd pm_mm176) 69 = some (.iaload, 1) := by decide +kernel
theorem pm_a176_70 : pm_as (pm_cd pm_mm176) 70 = some (.aload_n 0, 1) := by decide +kernel
theorem pm_a176_71 : pm_as (pm_cd pm_mm176) 71 = some (.getfield 13, 3) := by decide +kernel
theorem pm_a176_74 : pm_as (pm_cd pm_mm176) 74 = some (.sipush 500, 3) := by decide +kernel
theorem pm_a176_77 : pm_as (pm_cd pm_mm176) 77 = some (.iload_n 2, 1) := by decide +kernel
theorem pm_a176_78 : pm_as (pm_cd pm_mm176) 78 = some (.imul, 1) := by decide +kernel
theorem pm_a176_79 : pm_as (pm_cd pm_mm176) 79 = some (.iload 4, 2) := by decide +kernel
theorem pm_a176_81 : pm_as (pm_cd pm_mm176) 81 = some (.iadd, 1) := by decide +kernel
theorem pm_a176_82 : pm_as (pm_cd pm_mm176) 82 = some (.iaload, 1) := by decide +kernel
theorem pm_a176_83 : pm_as (pm_cd pm_mm176) 83 = some (.if_icmp .ne 7, 3) := by decide +kernel
theorem pm_a176_86 : pm_as (pm_cd pm_mm176) 86 = some (.iconst 1, 1) := by decide +kernel
theorem pm_a176_87 : pm_as (pm_cd pm_mm176) 87 = some (.goto 4, 3) := by decide +kernel
theorem pm_a176_90 : pm_as (pm_cd pm_mm176) 90 = some (.iconst 0, 1) := by decide +kernel
theorem pm_a176_91 : pm_as (pm_cd pm_mm176) 91 = some (.istore_n 3, 1) := by decide +kernel
theorem pm_a176_92 : pm_as (pm_cd pm_mm176) 92 = some (.iinc 4 1, 3) := by decide +kernel
theorem pm_a176_95 : pm_as (pm_cd pm_mm176) 95 = some (.goto (-53), 3) := by decide +kernel
theorem pm_a176_98 : pm_as (pm_cd pm_mm176) 98 = some (.iload_n 3, 1) := by decide +kernel
theorem pm_a176_99 : pm_as (pm_cd pm_mm176) 99 = some (.ifCond .eq 7, 3) := by decide +kernel
theorem pm_a176_102 : pm_as (pm_cd pm_mm176) 102 = some (.iconst 1, 1) := by decide +kernel
theorem pm_a176_103 : pm_as (pm_cd pm_mm176) 103 = some (.goto 4, 3) := by decide +kernel
theorem pm_a176_106 : pm_as (pm_cd pm_mm176) 106 = some (.iconst 0, 1) := by decide +kernel
theorem pm_a176_107 : pm_as (pm_cd pm_mm176) 107 = some (.ireturn, 1) := by decide +kernel
theorem pm_a177_0 : pm_as (pm_cd pm_mm177) 0 = some (.aload_n 0, 1) := by decide +kernel
theorem pm_a177_1 : pm_as (pm_cd pm_mm177) 1 = some (.iload_n 1, 1) := by decide +kernel
theorem pm_a177_2 : pm_as (pm_cd pm_mm177) 2 = some (.invokevirtual 213, 3) := by decide +kernel
theorem pm_a177_5 : pm_as (pm_cd pm_mm177) 5 = some (.ifCond .eq 15, 3) := by decide +kernel
theorem pm_a177_8 : pm_as (pm_cd pm_mm177) 8 = some (.iload_n 2, 1) := by decide +kernel
theorem pm_a177_9 : pm_as (pm_cd pm_mm177) 9 = some (.i2l, 1) := by decide +kernel
theorem pm_a177_10 : pm_as (pm_cd pm_mm177) 10 = some (.lconst 0, 1) := by decide +kernel
theorem pm_a177_11 : pm_as (pm_cd pm_mm177) 11 = some (.ldc2_w 271, 3) := by decide +kernel
theorem pm_a177_14 : pm_as (pm_cd pm_mm177) 14 = some (.invokestatic 113, 3) := by decide +kernel
theorem pm_a177_17 : pm_as (pm_cd pm_mm177) 17 = some (.ifCond .ne 5, 3) := by decide +kernel
theorem pm_a177_20 : pm_as (pm_cd pm_mm177) 20 = some (.iconst (-1), 1) := by decide +kernel
theorem pm_a177_21 : pm_as (pm_cd pm_mm177) 21 = some (.ireturn, 1) := by decide +kernel
theorem pm_a177_22 : pm_as (pm_cd pm_mm177) 22 = some (.aload_n 0, 1) := by decide +kernel
theorem pm_a177_23 : pm_as (pm_cd pm_mm177) 23 = some (.iload_n 1, 1) := by decide +kernel
theorem pm_a177_24 : pm_as (pm_cd pm_mm177) 24 = some (.invokevirtual 231, 3) := by decide +kernel
theorem pm_a177_27 : pm_as (pm_cd pm_mm177) 27 = some (.aload_n 0, 1) := by decide +kernel
theorem pm_a177_28 : pm_as (pm_cd pm_mm177) 28 = some (.iload_n 2, 1) := by decide +kernel
theorem pm_a177_29 : pm_as (pm_cd pm_mm177) 29 = some (.invokevirtual 273, 3) := by decide +kernel
theorem pm_a177_32 : pm_as (pm_cd pm_mm177) 32 = some (.istore_n 3, 1) := by decide +kernel
theorem pm_a177_33 : pm_as (pm_cd pm_mm177) 33 = some (.aload_n 0, 1) := by decide +kernel
theorem pm_a177_34 : pm_as (pm_cd pm_mm177) 34 = some (.iload_n 1, 1) := by decide +kernel
theorem pm_a177_35 : pm_as (pm_cd pm_mm177) 35 = some (.invokevirtual 210, 3) := by decide +kernel
theorem pm_a177_38 : pm_as (pm_cd pm_mm177) 38 = some (.iload_n 3, 1) := by decide +kernel
theorem pm_a177_39 : pm_as (pm_cd pm_mm177) 39 = some (.ireturn, 1) := by decide +kernel
theorem pm_a178_0 : pm_as (pm_cd pm_mm178) 0 = some (.aload_n 0, 1) := by decide +kernel
theorem pm_a178_1 : pm_as (pm_cd pm_mm178) 1 = some (.iload_n 1, 1) := by decide +kernel
theorem pm_a178_2 : pm_as (pm_cd pm_mm178) 2 = some (.invokevirtual 265, 3) := by decide +kernel
theorem pm_a178_5 : pm_as (pm_cd pm_mm178) 5 = some (.istore_n 2, 1) := by decide +kernel
theorem pm_a178_6 : pm_as (pm_cd pm_mm178) 6 = some (.iload_n 2, 1) := by decide +kernel
theorem pm_a178_7 : pm_as (pm_cd pm_mm178) 7 = some (.bipush (-4), 2) := by decide +kernel
theorem pm_a178_9 : pm_as (pm_cd pm_mm178) 9 = some (.if_icmp .ne 5, 3) := by decide +kernel
theorem pm_a178_12 : pm_as (pm_cd pm_mm178) 12 = some (.iconst 0, 1) := by decide +kernel
theorem pm_a178_13 : pm_as (pm_cd pm_mm178) 13 = some (.ireturn, 1) := by decide +kernel
theorem pm_a178_14 : pm_as (pm_cd pm_mm178) 14 = some (.aload_n 0, 1) := by decide +kernel
theorem pm_a178_15 : pm_as (pm_cd pm_mm178) 15 = some (.iconst 0, 1) := by decide +kernel
theorem pm_a178_16 : pm_as (pm_cd pm_mm178) 16 = some (.putfield 249, 3) := by decide +kernel
theorem pm_a178_19 : pm_as (pm_cd pm_mm178) 19 = some (.aload_n 0, 1) := by decide +kernel
theorem pm_a178_20 : pm_as (pm_cd pm_mm178) 20 = some (.iconst 0, 1) := by decide +kernel
theorem pm_a178_21 : pm_as (pm_cd pm_mm178) 21 = some (.iload_n 2, 1) := by decide +kernel
theorem pm_a178_22 : pm_as (pm_cd pm_mm178) 22 = some (.invokevirtual 262, 3) := by decide +kernel
theorem pm_a178_25 : pm_as (pm_cd pm_mm178) 25 = some (.aload_n 0, 1) := by decide +kernel
theorem pm_a178_26 : pm_as (pm_cd pm_mm178) 26 = some (.iload_n 2, 1) := by decide +kernel
theorem pm_a178_27 : pm_as (pm_cd pm_mm178) 27 = some (.iload_n 1, 1) := by decide +kernel
theorem pm_a178_28 : pm_as (pm_cd pm_mm178) 28 = some (.invokevirtual 268, 3) := by decide +kernel
theorem pm_a178_31 : pm_as (pm_cd pm_mm178) 31 = some (.aload_n 0, 1) := by decide +kernel
theorem pm_a178_32 : pm_as (pm_cd pm_mm178) 32 = some (.aload_n 0, 1) := by decide +kernel
theorem pm_a178_33 : pm_as (pm_cd pm_mm178) 33 = some (.iload_n 2, 1) := by decide +kernel
theorem pm_a178_34 : pm_as (pm_cd pm_mm178) 34 = some (.invokevirtual 222, 3) := by decide +kernel
theorem pm_a178_37 : pm_as (pm_cd pm_mm178) 37 = some (.aload_n 0, 1) := by decide +kernel
theorem pm_a178_38 : pm_as (pm_cd pm_mm178) 38 = some (.getfield 117, 3) := by decide +kernel
theorem pm_a178_41 : pm_as (pm_cd pm_mm178) 41 = some (.invokevirtual 262, 3) := by decide +kernel
theorem pm_a178_44 : pm_as (pm_cd pm_mm178) 44 = some (.aload_n 0, 1) := by decide +kernel
theorem pm_a178_45 : pm_as (pm_cd pm_mm178) 45 = some (.getfield 249, 3) := by decide +kernel
theorem pm_a178_48 : pm_as (pm_cd pm_mm178) 48 = some (.sipush 500, 3) := by decide +kernel
theorem pm_a178_51 : pm_as (pm_cd pm_mm178) 51 = some (.if_icmp .le 6, 3) := by decide +kernel
theorem pm_a178_54 : pm_as (pm_cd pm_mm178) 54 = some (.bipush (-3), 2) := by decide +kernel
theorem pm_a178_56 : pm_as (pm_cd pm_mm178) 56 = some (.ireturn, 1) := by decide +kernel
theorem pm_a178_57 : pm_as (pm_cd pm_mm178) 57 = some (.aload_n 0, 1) := by decide +kernel
theorem pm_a178_58 : pm_as (pm_cd pm_mm178) 58 = some (.aload_n 0, 1) := by decide +kernel
theorem pm_a178_59 : pm_as (pm_cd pm_mm178) 59 = some (.getfield 249, 3) := by decide +kernel
theorem pm_a178_62 : pm_as (pm_cd pm_mm178) 62 = some (.putfield 117, 3) := by decide +kernel
theorem pm_a178_65 : pm_as (pm_cd pm_mm178) 65 = some (.iconst 0, 1) := by decide +kernel
theorem pm_a178_66 : pm_as (pm_cd pm_mm178) 66 = some (.istore_n 3, 1) := by decide +kernel
theorem pm_a178_67 : pm_as (pm_cd pm_mm178) 67 = some (.iload_n 3, 1) := by decide +kernel
theorem pm_a178_68 : pm_as (pm_cd pm_mm178) 68 = some (.aload_n 0, 1) := by decide +kernel
theorem pm_a178_69 : pm_as (pm_cd pm_mm178) 69 = some (.getfield 117, 3) := by decide +kernel
theorem pm_a178_72 : pm_as (pm_cd pm_mm178) 72 = some (.if_icmp .ge 21, 3) := by decide +kernel
theorem pm_a178_75 : pm_as (pm_cd pm_mm178) 75 = some (.aload_n 0, 1) := by decide +kernel
theorem pm_a178_76 : pm_as (pm_cd pm_mm178) 76 = some (.getfield 19, 3) := by decide +kernel
theorem pm_a178_79 : pm_as (pm_cd pm_mm178) 79 = some (.iload_n 3, 1) := by decide +kernel
theorem pm_a178_80 : pm_as (pm_cd pm_mm178) 80 = some (.aload_n 0, 1) := by decide +kernel
theorem pm_a178_81 : pm_as (pm_cd pm_mm178) 81 = some (.getfield 54, 3) := by decide +kernel
theorem pm_a178_84 : pm_as (pm_cd pm_mm178) 84 = some (.iload_n 3, 1) := by decide +kernel
theorem pm_a178_85 : pm_as (pm_cd pm_mm178) 85 = some (.iaload, 1) := by decide +kernel
theorem pm_a178_86 : pm_as (pm_cd pm_mm178) 86 = some (.iastore, 1) := by decide +kernel
theorem pm_a178_87 : pm_as (pm_cd pm_mm178) 87 = some (.iinc 3 1, 3) := by decide +kernel
theorem pm_a178_90 : pm_as (pm_cd pm_mm178) 90 = some (.goto (-23), 3) := by decide +kernel
theorem pm_a178_93 : pm_as (pm_cd pm_mm178) 93 = some (.iconst 1, 1) := by decide +kernel
theorem pm_a178_94 : pm_as (pm_cd pm_mm178) 94 = some (.ireturn, 1) := by decide +kernel
theorem pm_a179_0 : pm_as (pm_cd pm_mm179) 0 = some (.iload_n 1, 1) := by decide +kernel
theorem pm_a179_1 : pm_as (pm_cd pm_mm179) 1 = some (.iconst 2, 1) := by decide +kernel
theorem pm_a179_2 : pm_as (pm_cd pm_mm179) 2 = some (.if_icmp .ne 44, 3) := by decide +kernel
theorem pm_a179_5 : pm_as (pm_cd pm_mm179) 5 = some (.iconst 0, 1) := by decide +kernel
theorem pm_a179_6 : pm_as (pm_cd pm_mm179) 6 = some (.istore_n 2, 1) := by decide +kernel
theorem pm_a179_7 : pm_as (pm_cd pm_mm179) 7 = some (.aload_n 0, 1) := by decide +kernel
theorem pm_a179_8 : pm_as (pm_cd pm_mm179) 8 = some (.getfield 19, 3) := by decide +kernel
theorem pm_a179_11 : pm_as (pm_cd pm_mm179) 11 = some (.iload_n 2, 1) := by decide +kernel
theorem pm_a179_12 : pm_as (pm_cd pm_mm179) 12 = some (.iaload, 1) := by decide +kernel
theorem pm_a179_13 : pm_as (pm_cd pm_mm179) 13 = some (.ifCond .ne 17, 3) := by decide +kernel
theorem pm_a179_16 : pm_as (pm_cd pm_mm179) 16 = some (.aload_n 0, 1) := by decide +kernel
theorem pm_a179_17 : pm_as (pm_cd pm_mm179) 17 = some (.iload_n 2, 1) := by decide +kernel
theorem pm_a179_18 : pm_as (pm_cd pm_mm179) 18 = some (.invokevirtual 240, 3) := by decide +kernel
theorem pm_a179_21 : pm_as (pm_cd pm_mm179) 21 = some (.ifCond .ne 9, 3) := by decide +kernel
theorem pm_a179_24 : pm_as (pm_cd pm_mm179) 24 = some (.iinc 2 1, 3) := by decide +kernel
theorem pm_a179_27 : pm_as (pm_cd pm_mm179) 27 = some (.goto (-20), 3) := by decide +kernel
theorem pm_a179_30 : pm_as (pm_cd pm_mm179) 30 = some (.aload_n 0, 1) := by decide +kernel
theorem pm_a179_31 : pm_as (pm_cd pm_mm179) 31 = some (.getfield 19, 3) := by decide +kernel
theorem pm_a179_34 : pm_as (pm_cd pm_mm179) 34 = some (.iload_n 2, 1) := by decide +kernel
theorem pm_a179_35 : pm_as (pm_cd pm_mm179) 35 = some (.iaload, 1) := by decide +kernel
theorem pm_a179_36 : pm_as (pm_cd pm_mm179) 36 = some (.ifCond .ne 7, 3) := by decide +kernel
theorem pm_a179_39 : pm_as (pm_cd pm_mm179) 39 = some (.iload_n 2, 1) := by decide +kernel
theorem pm_a179_40 : pm_as (pm_cd pm_mm179) 40 = some (.goto 5, 3) := by decide +kernel
theorem pm_a179_43 : pm_as (pm_cd pm_mm179) 43 = some (.bipush (-4), 2) := by decide +kernel
theorem pm_a179_45 : pm_as (pm_cd pm_mm179) 45 = some (.ireturn, 1) := by decide +kernel
theorem pm_a179_46 : pm_as (pm_cd pm_mm179) 46 = some (.bipush (-4), 2) := by decide +kernel
theorem pm_a179_48 : pm_as (pm_cd pm_mm179) 48 = some (.istore_n 2, 1) := by decide +kernel
theorem pm_a179_49 : pm_as (pm_cd pm_mm179) 49 = some (.iconst 0, 1) := by decide +kernel
theorem pm_a179_50 : pm_as (pm_cd pm_mm179) 50 = some (.istore_n 3, 1) := by decide +kernel
theorem pm_a179_51 : pm_as (pm_cd pm_mm179) 51 = some (.iload_n 3, 1) := by decide +kernel
theorem pm_a179_52 : pm_as (pm_cd pm_mm179) 52 = some (.aload_n 0, 1) := by decide +kernel
theorem pm_a179_53 : pm_as (pm_cd pm_mm179) 53 = some (.getfield 117, 3) := by decide +kernel
theorem pm_a179_56 : pm_as (pm_cd pm_mm179) 56 = some (.if_icmp .ge 50, 3) := by decide +kernel
theorem pm_a179_59 : pm_as (pm_cd pm_mm179) 59 = some (.iload_n 1, 1) := by decide +kernel
theorem pm_a179_60 : pm_as (pm_cd pm_mm179) 60 = some (.iconst 3, 1) := by decide +kernel
theorem pm_a179_61 : pm_as (pm_cd pm_mm179) 61 = some (.if_icmp .ne 14, 3) := by decide +kernel
theorem pm_a179_64 : pm_as (pm_cd pm_mm179) 64 = some (.aload_n 0, 1) := by decide +kernel
theorem pm_a179_65 : pm_as (pm_cd pm_mm179) 65 = some (.iload_n 3, 1) := by decide +kernel
theorem pm_a179_66 : pm_as (pm_cd pm_mm179) 66 = some (.invokevirtual 243, 3) := by decide +kernel
theorem pm_a179_69 : pm_as (pm_cd pm_mm179) 69 = some (.ifCond .eq 31, 3) := by decide +kernel
theorem pm_a179_72 : pm_as (pm_cd pm_mm179) 72 = some (.goto 11, 3) := by decide +kernel
theorem pm_a179_75 : pm_as (pm_cd pm_mm179) 75 = some (.aload_n 0, 1) := by decide +kernel
theorem pm_a179_76 : pm_as (pm_cd pm_mm179) 76 = some (.iload_n 3, 1) := by decide +kernel
theorem pm_a179_77 : pm_as (pm_cd pm_mm179) 77 = some (.invokevirtual 240, 3) := by decide +kernel
theorem pm_a179_80 : pm_as (pm_cd pm_mm179) 80 = some (.ifCond .eq 20, 3) := by decide +kernel
theorem pm_a179_83 : pm_as (pm_cd pm_mm179) 83 = some (.iload_n 1, 1) := by decide +kernel
theorem pm_a179_84 : pm_as (pm_cd pm_mm179) 84 = some (.iconst 1, 1) := by decide +kernel
theorem pm_a179_85 : pm_as (pm_cd pm_mm179) 85 = some (.if_icmp .ne 11, 3) := by decide +kernel
theorem pm_a179_88 : pm_as (pm_cd pm_mm179) 88 = some (.aload_n 0, 1) := by decide +kernel
theorem pm_a179_89 : pm_as (pm_cd pm_mm179) 89 = some (.iload_n 3, 1) := by decide +kernel
theorem pm_a179_90 : pm_as (pm_cd pm_mm179) 90 = some (.invokevirtual 246, 3) := by decide +kernel
theorem pm_a179_93 : pm_as (pm_cd pm_mm179) 93 = some (.ifCond .ne 5, 3) := by decide +kernel
theorem pm_a179_96 : pm_as (pm_cd pm_mm179) 96 = some (.iload_n 3, 1) := by decide +kernel
theorem pm_a179_97 : pm_as (pm_cd pm_mm179) 97 = some (.ireturn, 1) := by decide +kernel
theorem pm_a179_98 : pm_as (pm_cd pm_mm179) 98 = some (.iload_n 3, 1) := by decide +kernel
theorem pm_a179_99 : pm_as (pm_cd pm_mm179) 99 = some (.istore_n 2, 1) := by decide +kernel
theorem pm_a179_100 : pm_as (pm_cd pm_mm179) 100 = some (.iinc 3 1, 3) := by decide +kernel
theorem pm_a179_103 : pm_as (pm_cd pm_mm179) 103 = some (.goto (-52), 3) := by decide +kernel
theorem pm_a179_106 : pm_as (pm_cd pm_mm179) 106 = some (.iload_n 1, 1) := by decide +kernel
theorem pm_a179_107 : pm_as (pm_cd pm_mm179) 107 = some (.iconst 1, 1) := by decide +kernel
theorem pm_a179_108 : pm_as (pm_cd pm_mm179) 108 = some (.if_icmp .ne 7, 3) := by decide +kernel
theorem pm_a179_111 : pm_as (pm_cd pm_mm179) 111 = some (.iload_n 2, 1) := by decide +kernel
theorem pm_a179_112 : pm_as (pm_cd pm_mm179) 112 = some (.goto 5, 3) := by decide +kernel
theorem pm_a179_115 : pm_as (pm_cd pm_mm179) 115 = some (.bipush (-4), 2) := by decide +kernel
theorem pm_a179_117 : pm_as (pm_cd pm_mm179) 117 = some (.ireturn, 1) := by decide +kernel
theorem pm_a180_0 : pm_as (pm_cd pm_mm180) 0 = some (.aload_n 0, 1) := by decide +kernel
theorem pm_a180_1 : pm_as (pm_cd pm_mm180) 1 = some (.getfield 19, 3) := by decide +kernel
theorem pm_a180_4 : pm_as (pm_cd pm_mm180) 4 = some (.iload_n 1, 1) := by decide +kernel
theorem pm_a180_5 : pm_as (pm_cd pm_mm180) 5 = some (.iaload, 1) := by decide +kernel
theorem pm_a180_6 : pm_as (pm_cd pm_mm180) 6 = some (.ifCond .eq 5, 3) := by decide +kernel
theorem pm_a180_9 : pm_as (pm_cd pm_mm180) 9 = some (.iconst 0, 1) := by decide +kernel
theorem pm_a180_10 : pm_as (pm_cd pm_mm180) 10 = some (.ireturn, 1) := by decide +kernel
theorem pm_a180_11 : pm_as (pm_cd pm_mm180) 11 = some (.aload_n 0, 1) := by decide +kernel
theorem pm_a180_12 : pm_as (pm_cd pm_mm180) 12 = some (.getfield 19, 3) := by decide +kernel
theorem pm_a180_15 : pm_as (pm_cd pm_mm180) 15 = some (.iload_n 1, 1) := by decide +kernel
theorem pm_a180_16 : pm_as (pm_cd pm_mm180) 16 = some (.iconst 1, 1) := by decide +kernel
theorem pm_a180_17 : pm_as (pm_cd pm_mm180) 17 = some (.iadd, 1) := by decide +kernel
theorem pm_a180_18 : pm_as (pm_cd pm_mm180) 18 = some (.iaload, 1) := by decide +kernel
theorem pm_a180_19 : pm_as (pm_cd pm_mm180) 19 = some (.istore_n 2, 1) := by decide +kernel
theorem pm_a180_20 : pm_as (pm_cd pm_mm180) 20 = some (.iload_n 2, 1) := by decide +kernel
theorem pm_a180_21 : pm_as (pm_cd pm_mm180) 21 = some (.iconst 1, 1) := by decide +kernel
theorem pm_a180_22 : pm_as (pm_cd pm_mm180) 22 = some (.if_icmp .eq 8, 3) := by decide +kernel
theorem pm_a180_25 : pm_as (pm_cd pm_mm180) 25 = some (.iload_n 2, 1) := by decide +kernel
theorem pm_a180_26 : pm_as (pm_cd pm_mm180) 26 = some (.iconst 4, 1) := by decide +kernel
theorem pm_a180_27 : pm_as (pm_cd pm_mm180) 27 = some (.if_icmp .ne 5, 3) := by decide +kernel
theorem pm_a180_30 : pm_as (pm_cd pm_mm180) 30 = some (.iconst 1, 1) := by decide +kernel
theorem pm_a180_31 : pm_as (pm_cd pm_mm180) 31 = some (.ireturn, 1) := by decide +kernel
theorem pm_a180_32 : pm_as (pm_cd pm_mm180) 32 = some (.iload_n 2, 1) := by decide +kernel
theorem pm_a180_33 : pm_as (pm_cd pm_mm180) 33 = some (.ifCond .ne 42, 3) := by decide +kernel
theorem pm_a180_36 : pm_as (pm_cd pm_mm180) 36 = some (.aload_n 0, 1) := by decide +kernel
theorem pm_a180_37 : pm_as (pm_cd pm_mm180) 37 = some (.getfield 19, 3) := by decide +kernel
theorem pm_a180_40 : pm_as (pm_cd pm_mm180) 40 = some (.iload_n 1, 1) := by decide +kernel
theorem pm_a180_41 : pm_as (pm_cd pm_mm180) 41 = some (.iconst 2, 1) := by decide +kernel
theorem pm_a180_42 : pm_as (pm_cd pm_mm180) 42 = some (.iadd, 1) := by decide +kernel
theorem pm_a180_43 : pm_as (pm_cd pm_mm180) 43 = some (.iaload, 1) := by decide +kernel
theorem pm_a180_44 : pm_as (pm_cd pm_mm180) 44 = some (.iconst 3, 1) := by decide +kernel
theorem pm_a180_45 : pm_as (pm_cd pm_mm180) 45 = some (.if_icmp .eq 26, 3) := by decide +kernel
theorem pm_a180_48 : pm_as (pm_cd pm_mm180) 48 = some (.aload_n 0, 1) := by decide +kernel
theorem pm_a180_49 : pm_as (pm_cd pm_mm180) 49 = some (.getfield 19, 3) := by decide +kernel
theorem pm_a180_52 : pm_as (pm_cd pm_mm180) 52 = some (.iload_n 1, 1) := by decide +kernel
theorem pm_a180_53 : pm_as (pm_cd pm_mm180) 53 = some (.iconst 2, 1) := by decide +kernel
theorem pm_a180_54 : pm_as (pm_cd pm_mm180) 54 = some (.iadd, 1) := by decide +kernel
theorem pm_a180_55 : pm_as (pm_cd pm_mm180) 55 = some (.iaload, 1) := by decide +kernel
theorem pm_a180_56 : pm_as (pm_cd pm_mm180) 56 = some (.ifCond .ne 19, 3) := by decide +kernel
theorem pm_a180_59 : pm_as (pm_cd pm_mm180) 59 = some (.aload_n 0, 1) := by decide +kernel
theorem pm_a180_60 : pm_as (pm_cd pm_mm180) 60 = some (.getfield 19, 3) := by decide +kernel
theorem pm_a180_63 : pm_as (pm_cd pm_mm180) 63 = some (.iload_n 1, 1) := by decide +kernel
theorem pm_a180_64 : pm_as (pm_cd pm_mm180) 64 = some (.iconst 3, 1) := by decide +kernel
theorem pm_a180_65 : pm_as (pm_cd pm_mm180) 65 = some (.iadd, 1) := by decide +kernel
theorem pm_a180_66 : pm_as (pm_cd pm_mm180) 66 = some (.iaload, 1) := by decide +kernel
theorem pm_a180_67 : pm_as (pm_cd pm_mm180) 67 = some (.iconst 2, 1) := by decide +kernel
theorem pm_a180_68 : pm_as (pm_cd pm_mm180) 68 = some (.if_icmp .ne 7, 3) := by decide +kernel
theorem pm_a180_71 : pm_as (pm_cd pm_mm180) 71 = some (.iconst 1, 1) := by decide +kernel
theorem pm_a180_72 : pm_as (pm_cd pm_mm180) 72 = some (.goto 4, 3) := by decide +kernel
theorem pm_a180_75 : pm_as (pm_cd pm_mm180) 75 = some (.iconst 0, 1) := by decide +kernel
theorem pm_a180_76 : pm_as (pm_cd pm_mm180) 76 = some (.ireturn, 1) := by decide +kernel
theorem pm_a181_0 : pm_as (pm_cd pm_mm181) 0 = some (.aload_n 0, 1) := by decide +kernel
theorem pm_a181_1 : pm_as (pm_cd pm_mm181) 1 = some (.getfield 19, 3) := by decide +kernel
theorem pm_a181_4 : pm_as (pm_cd pm_mm181) 4 = some (.iload_n 1, 1) := by decide +kernel
theorem pm_a181_5 : pm_as (pm_cd pm_mm181) 5 = some (.iaload, 1) := by decide +kernel
theorem pm_a181_6 : pm_as (pm_cd pm_mm181) 6 = some (.iconst 1, 1) := by decide +kernel
theorem pm_a181_7 : pm_as (pm_cd pm_mm181) 7 = some (.if_icmp .ne 14, 3) := by decide +kernel
theorem pm_a181_10 : pm_as (pm_cd pm_mm181) 10 = some (.aload_n 0, 1) := by decide +kernel
theorem pm_a181_11 : pm_as (pm_cd pm_mm181) 11 = some (.getfield 19, 3) := by decide +kernel
theorem pm_a181_14 : pm_as (pm_cd pm_mm181) 14 = some (.iload_n 1, 1) := by decide +kernel
theorem pm_a181_15 : pm_as (pm_cd pm_mm181) 15 = some (.iconst 1, 1) := by decide +kernel
theorem pm_a181_16 : pm_as (pm_cd pm_mm181) 16 = some (.iadd, 1) := by decide +kernel
theorem pm_a181_17 : pm_as (pm_cd pm_mm181) 17 = some (.iaload, 1) := by decide +kernel
theorem pm_a181_18 : pm_as (pm_cd pm_mm181) 18 = some (.ifCond .eq 5, 3) := by decide +kernel
theorem pm_a181_21 : pm_as (pm_cd pm_mm181) 21 = some (.iconst 0, 1) := by decide +kernel
theorem pm_a181_22 : pm_as (pm_cd pm_mm181) 22 = some (.ireturn, 1) := by decide +kernel
theorem pm_a181_23 : pm_as (pm_cd pm_mm181) 23 = some (.aload_n 0, 1) := by decide +kernel
theorem pm_a181_24 : pm_as (pm_cd pm_mm181) 24 = some (.getfield 19, 3) := by decide +kernel
theorem pm_a181_27 : pm_as (pm_cd pm_mm181) 27 = some (.aload_n 0, 1) := by decide +kernel
theorem pm_a181_28 : pm_as (pm_cd pm_mm181) 28 = some (.iload_n 1, 1) := by decide +kernel
theorem pm_a181_29 : pm_as (pm_cd pm_mm181) 29 = some (.iconst 2, 1) := by decide +kernel
theorem pm_a181_30 : pm_as (pm_cd pm_mm181) 30 = some (.iadd, 1) := by decide +kernel
theorem pm_a181_31 : pm_as (pm_cd pm_mm181) 31 = some (.invokevirtual 222, 3) := by decide +kernel
theorem pm_a181_34 : pm_as (pm_cd pm_mm181) 34 = some (.iaload, 1) := by decide +kernel
theorem pm_a181_35 : pm_as (pm_cd pm_mm181) 35 = some (.bipush 10, 2) := by decide +kernel
theorem pm_a181_37 : pm_as (pm_cd pm_mm181) 37 = some (.if_icmp .ne 17, 3) := by decide +kernel
theorem pm_a181_40 : pm_as (pm_cd pm_mm181) 40 = some (.aload_n 0, 1) := by decide +kernel
theorem pm_a181_41 : pm_as (pm_cd pm_mm181) 41 = some (.iload_n 1, 1) := by decide +kernel
theorem pm_a181_42 : pm_as (pm_cd pm_mm181) 42 = some (.iconst 2, 1) := by decide +kernel
theorem pm_a181_43 : pm_as (pm_cd pm_mm181) 43 = some (.iadd, 1) := by decide +kernel
theorem pm_a181_44 : pm_as (pm_cd pm_mm181) 44 = some (.invokevirtual 237, 3) := by decide +kernel
theorem pm_a181_47 : pm_as (pm_cd pm_mm181) 47 = some (.ifCond .ne 7, 3) := by decide +kernel
theorem pm_a181_50 : pm_as (pm_cd pm_mm181) 50 = some (.iconst 1, 1) := by decide +kernel
theorem pm_a181_51 : pm_as (pm_cd pm_mm181) 51 = some (.goto 4, 3) := by decide +kernel
theorem pm_a181_54 : pm_as (pm_cd pm_mm181) 54 = some (.iconst 0, 1) := by decide +kernel
theorem pm_a181_55 : pm_as (pm_cd pm_mm181) 55 = some (.ireturn, 1) := by decide +kernel
theorem pm_a182_0 : pm_as (pm_cd pm_mm182) 0 = some (.aload_n 0, 1) := by decide +kernel
theorem pm_a182_1 : pm_as (pm_cd pm_mm182) 1 = some (.iload_n 1, 1) := by decide +kernel
theorem pm_a182_2 : pm_as (pm_cd pm_mm182) 2 = some (.invokevirtual 222, 3) := by decide +kernel
theorem pm_a182_5 : pm_as (pm_cd pm_mm182) 5 = some (.istore_n 2, 1) := by decide +kernel
theorem pm_a182_6 : pm_as (pm_cd pm_mm182) 6 = some (.aload_n 0, 1) := by decide +kernel
theorem pm_a182_7 : pm_as (pm_cd pm_mm182) 7 = some (.iload_n 1, 1) := by decide +kernel
theorem pm_a182_8 : pm_as (pm_cd pm_mm182) 8 = some (.invokevirtual 225, 3) := by decide +kernel
theorem pm_a182_11 : pm_as (pm_cd pm_mm182) 11 = some (.iload_n 1, 1) := by decide +kernel
theorem pm_a182_12 : pm_as (pm_cd pm_mm182) 12 = some (.istore_n 3, 1) := by decide +kernel
theorem pm_a182_13 : pm_as (pm_cd pm_mm182) 13 = some (.iload_n 3, 1) := by decide +kernel
theorem pm_a182_14 : pm_as (pm_cd pm_mm182) 14 = some (.iload_n 2, 1) := by decide +kernel
theorem pm_a182_15 : pm_as (pm_cd pm_mm182) 15 = some (.if_icmp .ge 29, 3) := by decide +kernel
theorem pm_a182_18 : pm_as (pm_cd pm_mm182) 18 = some (.aload_n 0, 1) := by decide +kernel
theorem pm_a182_19 : pm_as (pm_cd pm_mm182) 19 = some (.getfield 19, 3) := by decide +kernel
theorem pm_a182_22 : pm_as (pm_cd pm_mm182) 22 = some (.iload_n 3, 1) := by decide +kernel
theorem pm_a182_23 : pm_as (pm_cd pm_mm182) 23 = some (.iaload, 1) := by decide +kernel
theorem pm_a182_24 : pm_as (pm_cd pm_mm182) 24 = some (.bipush 10, 2) := by decide +kernel
theorem pm_a182_26 : pm_as (pm_cd pm_mm182) 26 = some (.aload_n 0, 1) := by decide +kernel
theorem pm_a182_27 : pm_as (pm_cd pm_mm182) 27 = some (.getfield 22, 3) := by decide +kernel
theorem pm_a182_30 : pm_as (pm_cd pm_mm182) 30 = some (.iload_n 3, 1) := by decide +kernel
theorem pm_a182_31 : pm_as (pm_cd pm_mm182) 31 = some (.iaload, 1) := by decide +kernel
theorem pm_a182_32 : pm_as (pm_cd pm_mm182) 32 = some (.iadd, 1) := by decide +kernel
theorem pm_a182_33 : pm_as (pm_cd pm_mm182) 33 = some (.if_icmp .ne 5, 3) := by decide +kernel
theorem pm_a182_36 : pm_as (pm_cd pm_mm182) 36 = some (.iconst 1, 1) := by decide +kernel
theorem pm_a182_37 : pm_as (pm_cd pm_mm182) 37 = some (.ireturn, 1) := by decide +kernel
theorem pm_a182_38 : pm_as (pm_cd pm_mm182) 38 = some (.iinc 3 1, 3) := by decide +kernel
theorem pm_a182_41 : pm_as (pm_cd pm_mm182) 41 = some (.goto (-28), 3) := by decide +kernel
theorem pm_a182_44 : pm_as (pm_cd pm_mm182) 44 = some (.iconst 0, 1) := by decide +kernel
theorem pm_a182_45 : pm_as (pm_cd pm_mm182) 45 = some (.ireturn, 1) := by decide +kernel
theorem pm_a183_0 : pm_as (pm_cd pm_mm183) 0 = some (.aload_n 0, 1) := by decide +kernel
theorem pm_a183_1 : pm_as (pm_cd pm_mm183) 1 = some (.iload_n 1, 1) := by decide +kernel
theorem pm_a183_2 : pm_as (pm_cd pm_mm183) 2 = some (.invokevirtual 222, 3) := by decide +kernel
theorem pm_a183_5 : pm_as (pm_cd pm_mm183) 5 = some (.istore_n 2, 1) := by decide +kernel
theorem pm_a183_6 : pm_as (pm_cd pm_mm183) 6 = some (.iload_n 1, 1) := by decide +kernel
theorem pm_a183_7 : pm_as (pm_cd pm_mm183) 7 = some (.iconst 1, 1) := by decide +kernel
theorem pm_a183_8 : pm_as (pm_cd pm_mm183) 8 = some (.iadd, 1) := by decide +kernel
theorem pm_a183_9 : pm_as (pm_cd pm_mm183) 9 = some (.istore_n 3, 1) := by decide +kernel
theorem pm_a183_10 : pm_as (pm_cd pm_mm183) 10 = some (.iload_n 3, 1) := by decide +kernel
theorem pm_a183_11 : pm_as (pm_cd pm_mm183) 11 = some (.iload_n 2, 1) := by decide +kernel
theorem pm_a183_12 : pm_as (pm_cd pm_mm183) 12 = some (.if_icmp .ge 19, 3) := by decide +kernel
theorem pm_a183_15 : pm_as (pm_cd pm_mm183) 15 = some (.aload_n 0, 1) := by decide +kernel
theorem pm_a183_16 : pm_as (pm_cd pm_mm183) 16 = some (.iload_n 3, 1) := by decide +kernel
theorem pm_a183_17 : pm_as (pm_cd pm_mm183) 17 = some (.invokevirtual 240, 3) := by decide +kernel
theorem pm_a183_20 : pm_as (pm_cd pm_mm183) 20 = some (.ifCond .eq 5, 3) := by decide +kernel
theorem pm_a183_23 : pm_as (pm_cd pm_mm183) 23 = some (.iconst 1, 1) := by decide +kernel
theorem pm_a183_24 : pm_as (pm_cd pm_mm183) 24 = some (.ireturn, 1) := by decide +kernel
theorem pm_a183_25 : pm_as (pm_cd pm_mm183) 25 = some (.iinc 3 1, 3) := by decide +kernel
theorem pm_a183_28 : pm_as (pm_cd pm_mm183) 28 = some (.goto (-18), 3) := by decide +kernel
theorem pm_a183_31 : pm_as (pm_cd pm_mm183) 31 = some (.iconst 0, 1) := by decide +kernel
theorem pm_a183_32 : pm_as (pm_cd pm_mm183) 32 = some (.ireturn, 1) := by decide +kernel
theorem pm_a184_0 : pm_as (pm_cd pm_mm184) 0 = some (.iload_n 1, 1) := by decide +kernel
theorem pm_a184_1 : pm_as (pm_cd pm_mm184) 1 = some (.istore_n 3, 1) := by decide +kernel
theorem pm_a184_2 : pm_as (pm_cd pm_mm184) 2 = some (.iload_n 3, 1) := by decide +kernel
theorem pm_a184_3 : pm_as (pm_cd pm_mm184) 3 = some (.iload_n 2, 1) := by decide +kernel
theorem pm_a184_4 : pm_as (pm_cd pm_mm184) 4 = some (.if_icmp .ge 19, 3) := by decide +kernel
theorem pm_a184_7 : pm_as (pm_cd pm_mm184) 7 = some (.aload_n 0, 1) := by decide +kernel
theorem pm_a184_8 : pm_as (pm_cd pm_mm184) 8 = some (.aload_n 0, 1) := by decide +kernel
theorem pm_a184_9 : pm_as (pm_cd pm_mm184) 9 = some (.getfield 19, 3) := by decide +kernel
theorem pm_a184_12 : pm_as (pm_cd pm_mm184) 12 = some (.iload_n 3, 1) := by decide +kernel
theorem pm_a184_13 : pm_as (pm_cd pm_mm184) 13 = some (.iaload, 1) := by decide +kernel
theorem pm_a184_14 : pm_as (pm_cd pm_mm184) 14 = some (.invokevirtual 252, 3) := by decide +kernel
theorem pm_a184_17 : pm_as (pm_cd pm_mm184) 17 = some (.iinc 3 1, 3) := by decide +kernel
theorem pm_a184_20 : pm_as (pm_cd pm_mm184) 20 = some (.goto (-18), 3) := by decide +kernel
theorem pm_a184_23 : pm_as (pm_cd pm_mm184) 23 = some (.return_, 1) := by decide +kernel
theorem pm_a185_0 : pm_as (pm_cd pm_mm185) 0 = some (.aload_n 0, 1) := by decide +kernel
theorem pm_a185_1 : pm_as (pm_cd pm_mm185) 1 = some (.getfield 249, 3) := by decide +kernel
theorem pm_a185_4 : pm_as (pm_cd pm_mm185) 4 = some (.sipush 12000, 3) := by decide +kernel
theorem pm_a185_7 : pm_as (pm_cd pm_mm185) 7 = some (.if_icmp .ge 13, 3) := by decide +kernel
theorem pm_a185_10 : pm_as (pm_cd pm_mm185) 10 = some (.aload_n 0, 1) := by decide +kernel
theorem pm_a185_11 : pm_as (pm_cd pm_mm185) 11 = some (.getfield 54, 3) := by decide +kernel
theorem pm_a185_14 : pm_as (pm_cd pm_mm185) 14 = some (.aload_n 0, 1) := by decide +kernel
theorem pm_a185_15 : pm_as (pm_cd pm_mm185) 15 = some (.getfield 249, 3) := by decide +kernel
theorem pm_a185_18 : pm_as (pm_cd pm_mm185) 18 = some (.iload_n 1, 1) := by decide +kernel
theorem pm_a185_19 : pm_as (pm_cd pm_mm185) 19 = some (.iastore, 1) := by decide +kernel
theorem pm_a185_20 : pm_as (pm_cd pm_mm185) 20 = some (.aload_n 0, 1) := by decide +kernel
theorem pm_a185_21 : pm_as (pm_cd pm_mm185) 21 = some (.dup, 1) := by decide +kernel
theorem pm_a185_22 : pm_as (pm_cd pm_mm185) 22 = some (.getfield 249, 3) := by decide +kernel
theorem pm_a185_25 : pm_as (pm_cd pm_mm185) 25 = some (.iconst 1, 1) := by decide +kernel
theorem pm_a185_26 : pm_as (pm_cd pm_mm185) 26 = some (.iadd, 1) := by decide +kernel
theorem pm_a185_27 : pm_as (pm_cd pm_mm185) 27 = some (.putfield 249, 3) := by decide +kernel
theorem pm_a185_30 : pm_as (pm_cd pm_mm185) 30 = some (.return_, 1) := by decide +kernel
theorem pm_a186_0 : pm_as (pm_cd pm_mm186) 0 = some (.iload_n 2, 1) := by decide +kernel
theorem pm_a186_1 : pm_as (pm_cd pm_mm186) 1 = some (.iconst 3, 1) := by decide +kernel
theorem pm_a186_2 : pm_as (pm_cd pm_mm186) 2 = some (.if_icmp .ne 61, 3) := by decide +kernel
theorem pm_a186_5 : pm_as (pm_cd pm_mm186) 5 = some (.aload_n 0, 1) := by decide +kernel
theorem pm_a186_6 : pm_as (pm_cd pm_mm186) 6 = some (.iload_n 1, 1) := by decide +kernel
theorem pm_a186_7 : pm_as (pm_cd pm_mm186) 7 = some (.iconst 2, 1) := by decide +kernel
theorem pm_a186_8 : pm_as (pm_cd pm_mm186) 8 = some (.iadd, 1) := by decide +kernel
theorem pm_a186_9 : pm_as (pm_cd pm_mm186) 9 = some (.invokevirtual 222, 3) := by decide +kernel
theorem pm_a186_12 : pm_as (pm_cd pm_mm186) 12 = some (.istore_n 3, 1) := by decide +kernel
theorem pm_a186_13 : pm_as (pm_cd pm_mm186) 13 = some (.aload_n 0, 1) := by decide +kernel
theorem pm_a186_14 : pm_as (pm_cd pm_mm186) 14 = some (.iload_n 1, 1) := by decide +kernel
theorem pm_a186_15 : pm_as (pm_cd pm_mm186) 15 = some (.iconst 2, 1) := by decide +kernel
theorem pm_a186_16 : pm_as (pm_cd pm_mm186) 16 = some (.iadd, 1) := by decide +kernel
theorem pm_a186_17 : pm_as (pm_cd pm_mm186) 17 = some (.invokevirtual 225, 3) := by decide +kernel
theorem pm_a186_20 : pm_as (pm_cd pm_mm186) 20 = some (.iload_n 1, 1) := by decide +kernel
theorem pm_a186_21 : pm_as (pm_cd pm_mm186) 21 = some (.iconst 2, 1) := by decide +kernel
theorem pm_a186_22 : pm_as (pm_cd pm_mm186) 22 = some (.iadd, 1) := by decide +kernel
theorem pm_a186_23 : pm_as (pm_cd pm_mm186) 23 = some (.istore 4, 2) := by decide +kernel
theorem pm_a186_25 : pm_as (pm_cd pm_mm186) 25 = some (.iload 4, 2) := by decide +kernel
theorem pm_a186_27 : pm_as (pm_cd pm_mm186) 27 = some (.iload_n 3, 1) := by decide +kernel
theorem pm_a186_28 : pm_as (pm_cd pm_mm186) 28 = some (.if_icmp .ge 23, 3) := by decide +kernel
theorem pm_a186_31 : pm_as (pm_cd pm_mm186) 31 = some (.aload_n 0, 1) := by decide +kernel
theorem pm_a186_32 : pm_as (pm_cd pm_mm186) 32 = some (.getfield 57, 3) := by decide +kernel
theorem pm_a186_35 : pm_as (pm_cd pm_mm186) 35 = some (.iload 4, 2) := by decide +kernel
theorem pm_a186_37 : pm_as (pm_cd pm_mm186) 37 = some (.aload_n 0, 1) := by decide +kernel
theorem pm_a186_38 : pm_as (pm_cd pm_mm186) 38 = some (.getfield 22, 3) := by decide +kernel
theorem pm_a186_41 : pm_as (pm_cd pm_mm186) 41 = some (.iload 4, 2) := by decide +kernel
theorem pm_a186_43 : pm_as (pm_cd pm_mm186) 43 = some (.iaload, 1) := by decide +kernel
theorem pm_a186_44 : pm_as (pm_cd pm_mm186) 44 = some (.iastore, 1) := by decide +kernel
theorem pm_a186_45 : pm_as (pm_cd pm_mm186) 45 = some (.iinc 4 1, 3) := by decide +kernel
theorem pm_a186_48 : pm_as (pm_cd pm_mm186) 48 = some (.goto (-23), 3) := by decide +kernel
theorem pm_a186_51 : pm_as (pm_cd pm_mm186) 51 = some (.aload_n 0, 1) := by decide +kernel
theorem pm_a186_52 : pm_as (pm_cd pm_mm186) 52 = some (.iload_n 1, 1) := by decide +kernel
theorem pm_a186_53 : pm_as (pm_cd pm_mm186) 53 = some (.iconst 2, 1) := by decide +kernel
theorem pm_a186_54 : pm_as (pm_cd pm_mm186) 54 = some (.iadd, 1) := by decide +kernel
theorem pm_a186_55 : pm_as (pm_cd pm_mm186) 55 = some (.iload_n 3, 1) := by decide +kernel
theorem pm_a186_56 : pm_as (pm_cd pm_mm186) 56 = some (.iconst (-1), 1) := by decide +kernel
theorem pm_a186_57 : pm_as (pm_cd pm_mm186) 57 = some (.invokevirtual 255, 3) := by decide +kernel
theorem pm_a186_60 : pm_as (pm_cd pm_mm186) 60 = some (.goto 146, 3) := by decide +kernel
theorem pm_a186_63 : pm_as (pm_cd pm_mm186) 63 = some (.aload_n 0, 1) := by decide +kernel
theorem pm_a186_64 : pm_as (pm_cd pm_mm186) 64 = some (.getfield 19, 3) := by decide +kernel
theorem pm_a186_67 : pm_as (pm_cd pm_mm186) 67 = some (.iload_n 1, 1) := by decide +kernel
theorem pm_a186_68 : pm_as (pm_cd pm_mm186) 68 = some (.iconst 1, 1) := by decide +kernel
theorem pm_a186_69 : pm_as (pm_cd pm_mm186) 69 = some (.iadd, 1) := by decide +kernel
theorem pm_a186_70 : pm_as (pm_cd pm_mm186) 70 = some (.iaload, 1) := by decide +kernel
theorem pm_a186_71 : pm_as (pm_cd pm_mm186) 71 = some (.iconst 1, 1) := by decide +kernel
theorem pm_a186_72 : pm_as (pm_cd pm_mm186) 72 = some (.if_icmp .ne 11, 3) := by decide +kernel
theorem pm_a186_75 : pm_as (pm_cd pm_mm186) 75 = some (.aload_n 0, 1) := by decide +kernel
theorem pm_a186_76 : pm_as (pm_cd pm_mm186) 76 = some (.iload_n 1, 1) := by decide +kernel
theorem pm_a186_77 : pm_as (pm_cd pm_mm186) 77 = some (.invokevirtual 259, 3) := by decide +kernel
theorem pm_a186_80 : pm_as (pm_cd pm_mm186) 80 = some (.goto 126, 3) := by decide +kernel
theorem pm_a186_83 : pm_as (pm_cd pm_mm186) 83 = some (.aload_n 0, 1) := by decide +kernel
theorem pm_a186_84 : pm_as (pm_cd pm_mm186) 84 = some (.getfield 19, 3) := by decide +kernel
theorem pm_a186_87 : pm_as (pm_cd pm_mm186) 87 = some (.iload_n 1, 1) := by decide +kernel
theorem pm_a186_88 : pm_as (pm_cd pm_mm186) 88 = some (.iconst 1, 1) := by decide +kernel
theorem pm_a186_89 : pm_as (pm_cd pm_mm186) 89 = some (.iadd, 1) := by decide +kernel
theorem pm_a186_90 : pm_as (pm_cd pm_mm186) 90 = some (.iaload, 1) := by decide +kernel
theorem pm_a186_91 : pm_as (pm_cd pm_mm186) 91 = some (.iconst 4, 1) := by decide +kernel
theorem pm_a186_92 : pm_as (pm_cd pm_mm186) 92 = some (.if_icmp .ne 20, 3) := by decide +kernel
theorem pm_a186_95 : pm_as (pm_cd pm_mm186) 95 = some (.aload_n 0, 1) := by decide +kernel
theorem pm_a186_96 : pm_as (pm_cd pm_mm186) 96 = some (.iload_n 1, 1) := by decide +kernel
theorem pm_a186_97 : pm_as (pm_cd pm_mm186) 97 = some (.iconst 2, 1) := by decide +kernel
theorem pm_a186_98 : pm_as (pm_cd pm_mm186) 98 = some (.iadd, 1) := by decide +kernel
theorem pm_a186_99 : pm_as (pm_cd pm_mm186) 99 = some (.aload_n 0, 1) := by decide +kernel
theorem pm_a186_100 : pm_as (pm_cd pm_mm186) 100 = some (.iload_n 1, 1) := by decide +kernel
theorem pm_a186_101 : pm_as (pm_cd pm_mm186) 101 = some (.iconst 2, 1) := by decide +kernel
theorem pm_a186_102 : pm_as (pm_cd pm_mm186) 102 = some (.iadd, 1) := by decide +kernel
theorem pm_a186_103 : pm_as (pm_cd pm_mm186) 103 = some (.invokevirtual 222, 3) := by decide +kernel
theorem pm_a186_106 : pm_as (pm_cd pm_mm186) 106 = some (.invokevirtual 262, 3) := by decide +kernel
theorem pm_a186_109 : pm_as (pm_cd pm_mm186) 109 = some (.goto 97, 3) := by decide +kernel
theorem pm_a186_112 : pm_as (pm_cd pm_mm186) 112 = some (.aload_n 0, 1) := by decide +kernel
theorem pm_a186_113 : pm_as (pm_cd pm_mm186) 113 = some (.getfield 19, 3) := by decide +kernel
theorem pm_a186_116 : pm_as (pm_cd pm_mm186) 116 = some (.iload_n 1, 1) := by decide +kernel
theorem pm_a186_117 : pm_as (pm_cd pm_mm186) 117 = some (.iconst 2, 1) := by decide +kernel
theorem pm_a186_118 : pm_as (pm_cd pm_mm186) 118 = some (.iadd, 1) := by decide +kernel
theorem pm_a186_119 : pm_as (pm_cd pm_mm186) 119 = some (.iaload, 1) := by decide +kernel
theorem pm_a186_120 : pm_as (pm_cd pm_mm186) 120 = some (.iconst 3, 1) := by decide +kernel
theorem pm_a186_121 : pm_as (pm_cd pm_mm186) 121 = some (.if_icmp .ne 20, 3) := by decide +kernel
theorem pm_a186_124 : pm_as (pm_cd pm_mm186) 124 = some (.aload_n 0, 1) := by decide +kernel
theorem pm_a186_125 : pm_as (pm_cd pm_mm186) 125 = some (.iload_n 1, 1) := by decide +kernel
theorem pm_a186_126 : pm_as (pm_cd pm_mm186) 126 = some (.iconst 3, 1) := by decide +kernel
theorem pm_a186_127 : pm_as (pm_cd pm_mm186) 127 = some (.iadd, 1) := by decide +kernel
theorem pm_a186_128 : pm_as (pm_cd pm_mm186) 128 = some (.aload_n 0, 1) := by decide +kernel
theorem pm_a186_129 : pm_as (pm_cd pm_mm186) 129 = some (.iload_n 1, 1) := by decide +kernel
theorem pm_a186_130 : pm_as (pm_cd pm_mm186) 130 = some (.iconst 3, 1) := by decide +kernel
theorem pm_a186_131 : pm_as (pm_cd pm_mm186) 131 = some (.iadd, 1) := by decide +kernel
theorem pm_a186_132 : pm_as (pm_cd pm_mm186) 132 = some (.invokevirtual 222, 3) := by decide +kernel
theorem pm_a186_135 : pm_as (pm_cd pm_mm186) 135 = some (.invokevirtual 262, 3) := by decide +kernel
theorem pm_a186_138 : pm_as (pm_cd pm_mm186) 138 = some (.goto 68, 3) := by decide +kernel
theorem pm_a186_141 : pm_as (pm_cd pm_mm186) 141 = some (.iload_n 1, 1) := by decide +kernel
theorem pm_a186_142 : pm_as (pm_cd pm_mm186) 142 = some (.iconst 4, 1) := by decide +kernel
theorem pm_a186_143 : pm_as (pm_cd pm_mm186) 143 = some (.iadd, 1) := by decide +kernel
theorem pm_a186_144 : pm_as (pm_cd pm_mm186) 144 = some (.istore_n 3, 1) := by decide +kernel
theorem pm_a186_145 : pm_as (pm_cd pm_mm186) 145 = some (.aload_n 0, 1) := by decide +kernel
theorem pm_a186_146 : pm_as (pm_cd pm_mm186) 146 = some (.iload_n 3, 1) := by decide +kernel
theorem pm_a186_147 : pm_as (pm_cd pm_mm186) 147 = some (.invokevirtual 222, 3) := by decide +kernel
theorem pm_a186_150 : pm_as (pm_cd pm_mm186) 150 = some (.istore 4, 2) := by decide +kernel
theorem pm_a186_152 : pm_as (pm_cd pm_mm186) 152 = some (.aload_n 0, 1) := by decide +kernel
theorem pm_a186_153 : pm_as (pm_cd pm_mm186) 153 = some (.iload 4, 2) := by decide +kernel
theorem pm_a186_155 : pm_as (pm_cd pm_mm186) 155 = some (.invokevirtual 222, 3) := by decide +kernel
theorem pm_a186_158 : pm_as (pm_cd pm_mm186) 158 = some (.istore 5, 2) := by decide +kernel
theorem pm_a186_160 : pm_as (pm_cd pm_mm186) 160 = some (.aload_n 0, 1) := by decide +kernel
theorem pm_a186_161 : pm_as (pm_cd pm_mm186) 161 = some (.iload 5, 2) := by decide +kernel
theorem pm_a186_163 : pm_as (pm_cd pm_mm186) 163 = some (.invokevirtual 222, 3) := by decide +kernel
theorem pm_a186_166 : pm_as (pm_cd pm_mm186) 166 = some (.istore 6, 2) := by decide +kernel
theorem pm_a186_168 : pm_as (pm_cd pm_mm186) 168 = some (.aload_n 0, 1) := by decide +kernel
theorem pm_a186_169 : pm_as (pm_cd pm_mm186) 169 = some (.iconst 0, 1) := by decide +kernel
theorem pm_a186_170 : pm_as (pm_cd pm_mm186) 170 = some (.invokevirtual 252, 3) := by decide +kernel
theorem pm_a186_173 : pm_as (pm_cd pm_mm186) 173 = some (.aload_n 0, 1) := by decide +kernel
theorem pm_a186_174 : pm_as (pm_cd pm_mm186) 174 = some (.iconst 0, 1) := by decide +kernel
theorem pm_a186_175 : pm_as (pm_cd pm_mm186) 175 = some (.invokevirtual 252, 3) := by decide +kernel
theorem pm_a186_178 : pm_as (pm_cd pm_mm186) 178 = some (.aload_n 0, 1) := by decide +kernel
theorem pm_a186_179 : pm_as (pm_cd pm_mm186) 179 = some (.iload_n 3, 1) := by decide +kernel
theorem pm_a186_180 : pm_as (pm_cd pm_mm186) 180 = some (.iload 4, 2) := by decide +kernel
theorem pm_a186_182 : pm_as (pm_cd pm_mm186) 182 = some (.invokevirtual 262, 3) := by decide +kernel
theorem pm_a186_185 : pm_as (pm_cd pm_mm186) 185 = some (.aload_n 0, 1) := by decide +kernel
theorem pm_a186_186 : pm_as (pm_cd pm_mm186) 186 = some (.iload 5, 2) := by decide +kernel
theorem pm_a186_188 : pm_as (pm_cd pm_mm186) 188 = some (.iload 6, 2) := by decide +kernel
theorem pm_a186_190 : pm_as (pm_cd pm_mm186) 190 = some (.invokevirtual 262, 3) := by decide +kernel
theorem pm_a186_193 : pm_as (pm_cd pm_mm186) 193 = some (.aload_n 0, 1) := by decide +kernel
theorem pm_a186_194 : pm_as (pm_cd pm_mm186) 194 = some (.iconst 0, 1) := by decide +kernel
theorem pm_a186_195 : pm_as (pm_cd pm_mm186) 195 = some (.invokevirtual 252, 3) := by decide +kernel
theorem pm_a186_198 : pm_as (pm_cd pm_mm186) 198 = some (.aload_n 0, 1) := by decide +kernel
theorem pm_a186_199 : pm_as (pm_cd pm_mm186) 199 = some (.iload 4, 2) := by decide +kernel
theorem pm_a186_201 : pm_as (pm_cd pm_mm186) 201 = some (.iload 6, 2) := by decide +kernel
theorem pm_a186_203 : pm_as (pm_cd pm_mm186) 203 = some (.invokevirtual 262, 3) := by decide +kernel
theorem pm_a186_206 : pm_as (pm_cd pm_mm186) 206 = some (.return_, 1) := by decide +kernel
theorem pm_a187_0 : pm_as (pm_cd pm_mm187) 0 = some (.iload_n 1, 1) := by decide +kernel
theorem pm_a187_1 : pm_as (pm_cd pm_mm187) 1 = some (.istore 4, 2) := by decide +kernel
theorem pm_a187_3 : pm_as (pm_cd pm_mm187) 3 = some (.iload 4, 2) := by decide +kernel
theorem pm_a187_5 : pm_as (pm_cd pm_mm187) 5 = some (.iload_n 2, 1) := by decide +kernel
theorem pm_a187_6 : pm_as (pm_cd pm_mm187) 6 = some (.if_icmp .ge 64, 3) := by decide +kernel
theorem pm_a187_9 : pm_as (pm_cd pm_mm187) 9 = some (.aload_n 0, 1) := by decide +kernel
theorem pm_a187_10 : pm_as (pm_cd pm_mm187) 10 = some (.aload_n 0, 1) := by decide +kernel
theorem pm_a187_11 : pm_as (pm_cd pm_mm187) 11 = some (.getfield 19, 3) := by decide +kernel
theorem pm_a187_14 : pm_as (pm_cd pm_mm187) 14 = some (.iload 4, 2) := by decide +kernel
theorem pm_a187_16 : pm_as (pm_cd pm_mm187) 16 = some (.iaload, 1) := by decide +kernel
theorem pm_a187_17 : pm_as (pm_cd pm_mm187) 17 = some (.bipush 9, 2) := by decide +kernel
theorem pm_a187_19 : pm_as (pm_cd pm_mm187) 19 = some (.if_icmp .le 35, 3) := by decide +kernel
theorem pm_a187_22 : pm_as (pm_cd pm_mm187) 22 = some (.aload_n 0, 1) := by decide +kernel
theorem pm_a187_23 : pm_as (pm_cd pm_mm187) 23 = some (.getfield 19, 3) := by decide +kernel
theorem pm_a187_26 : pm_as (pm_cd pm_mm187) 26 = some (.iload 4, 2) := by decide +kernel
theorem pm_a187_28 : pm_as (pm_cd pm_mm187) 28 = some (.iaload, 1) := by decide +kernel
theorem pm_a187_29 : pm_as (pm_cd pm_mm187) 29 = some (.bipush 10, 2) := by decide +kernel
theorem pm_a187_31 : pm_as (pm_cd pm_mm187) 31 = some (.isub, 1) := by decide +kernel
theorem pm_a187_32 : pm_as (pm_cd pm_mm187) 32 = some (.aload_n 0, 1) := by decide +kernel
theorem pm_a187_33 : pm_as (pm_cd pm_mm187) 33 = some (.getfield 57, 3) := by decide +kernel
theorem pm_a187_36 : pm_as (pm_cd pm_mm187) 36 = some (.iload 4, 2) := by decide +kernel
theorem pm_a187_38 : pm_as (pm_cd pm_mm187) 38 = some (.iaload, 1) := by decide +kernel
theorem pm_a187_39 : pm_as (pm_cd pm_mm187) 39 = some (.if_icmp .lt 15, 3) := by decide +kernel
theorem pm_a187_42 : pm_as (pm_cd pm_mm187) 42 = some (.aload_n 0, 1) := by decide +kernel
theorem pm_a187_43 : pm_as (pm_cd pm_mm187) 43 = some (.getfield 19, 3) := by decide +kernel
theorem pm_a187_46 : pm_as (pm_cd pm_mm187) 46 = some (.iload 4, 2) := by decide +kernel
theorem pm_a187_48 : pm_as (pm_cd pm_mm187) 48 = some (.iaload, 1) := by decide +kernel
theorem pm_a187_49 : pm_as (pm_cd pm_mm187) 49 = some (.iload_n 3, 1) := by decide +kernel
theorem pm_a187_50 : pm_as (pm_cd pm_mm187) 50 = some (.iadd, 1) := by decide +kernel
theorem pm_a187_51 : pm_as (pm_cd pm_mm187) 51 = some (.goto 10, 3) := by decide +kernel
theorem pm_a187_54 : pm_as (pm_cd pm_mm187) 54 = some (.aload_n 0, 1) := by decide +kernel
theorem pm_a187_55 : pm_as (pm_cd pm_mm187) 55 = some (.getfield 19, 3) := by decide +kernel
theorem pm_a187_58 : pm_as (pm_cd pm_mm187) 58 = some (.iload 4, 2) := by decide +kernel
theorem pm_a187_60 : pm_as (pm_cd pm_mm187) 60 = some (.iaload, 1) := by decide +kernel
theorem pm_a187_61 : pm_as (pm_cd pm_mm187) 61 = some (.invokevirtual 252, 3) := by decide +kernel
theorem pm_a187_64 : pm_as (pm_cd pm_mm187) 64 = some (.iinc 4 1, 3) := by decide +kernel
theorem pm_a187_67 : pm_as (pm_cd pm_mm187) 67 = some (.goto (-64), 3) := by decide +kernel
theorem pm_a187_70 : pm_as (pm_cd pm_mm187) 70 = some (.return_, 1) := by decide +kernel
theorem pm_a188_0 : pm_as (pm_cd pm_mm188) 0 = some (.iload_n 1, 1) := by decide +kernel
theorem pm_a188_1 : pm_as (pm_cd pm_mm188) 1 = some (.iconst 2, 1) := by decide +kernel
theorem pm_a188_2 : pm_as (pm_cd pm_mm188) 2 = some (.iadd, 1) := by decide +kernel
theorem pm_a188_3 : pm_as (pm_cd pm_mm188) 3 = some (.istore_n 2, 1) := by decide +kernel
theorem pm_a188_4 : pm_as (pm_cd pm_mm188) 4 = some (.aload_n 0, 1) := by decide +kernel
theorem pm_a188_5 : pm_as (pm_cd pm_mm188) 5 = some (.iload_n 2, 1) := by decide +kernel
theorem pm_a188_6 : pm_as (pm_cd pm_mm188) 6 = some (.invokevirtual 222, 3) := by decide +kernel
theorem pm_a188_9 : pm_as (pm_cd pm_mm188) 9 = some (.istore_n 3, 1) := by decide +kernel
theorem pm_a188_10 : pm_as (pm_cd pm_mm188) 10 = some (.aload_n 0, 1) := by decide +kernel
theorem pm_a188_11 : pm_as (pm_cd pm_mm188) 11 = some (.iload_n 3, 1) := by decide +kernel
theorem pm_a188_12 : pm_as (pm_cd pm_mm188) 12 = some (.invokevirtual 222, 3) := by decide +kernel
theorem pm_a188_15 : pm_as (pm_cd pm_mm188) 15 = some (.istore 4, 2) := by decide +kernel
theorem pm_a188_17 : pm_as (pm_cd pm_mm188) 17 = some (.aload_n 0, 1) := by decide +kernel
theorem pm_a188_18 : pm_as (pm_cd pm_mm188) 18 = some (.iload_n 3, 1) := by decide +kernel
theorem pm_a188_19 : pm_as (pm_cd pm_mm188) 19 = some (.invokevirtual 225, 3) := by decide +kernel
theorem pm_a188_22 : pm_as (pm_cd pm_mm188) 22 = some (.iload_n 3, 1) := by decide +kernel
theorem pm_a188_23 : pm_as (pm_cd pm_mm188) 23 = some (.istore 5, 2) := by decide +kernel
theorem pm_a188_25 : pm_as (pm_cd pm_mm188) 25 = some (.iload 5, 2) := by decide +kernel
theorem pm_a188_27 : pm_as (pm_cd pm_mm188) 27 = some (.iload 4, 2) := by decide +kernel
theorem pm_a188_29 : pm_as (pm_cd pm_mm188) 29 = some (.if_icmp .ge 23, 3) := by decide +kernel
theorem pm_a188_32 : pm_as (pm_cd pm_mm188) 32 = some (.aload_n 0, 1) := by decide +kernel
theorem pm_a188_33 : pm_as (pm_cd pm_mm188) 33 = some (.getfield 57, 3) := by decide +kernel
theorem pm_a188_36 : pm_as (pm_cd pm_mm188) 36 = some (.iload 5, 2) := by decide +kernel
theorem pm_a188_38 : pm_as (pm_cd pm_mm188) 38 = some (.aload_n 0, 1) := by decide +kernel
theorem pm_a188_39 : pm_as (pm_cd pm_mm188) 39 = some (.getfield 22, 3) := by decide +kernel
theorem pm_a188_42 : pm_as (pm_cd pm_mm188) 42 = some (.iload 5, 2) := by decide +kernel
theorem pm_a188_44 : pm_as (pm_cd pm_mm188) 44 = some (.iaload, 1) := by decide +kernel
theorem pm_a188_45 : pm_as (pm_cd pm_mm188) 45 = some (.iastore, 1) := by decide +kernel
theorem pm_a188_46 : pm_as (pm_cd pm_mm188) 46 = some (.iinc 5 1, 3) := by decide +kernel
theorem pm_a188_49 : pm_as (pm_cd pm_mm188) 49 = some (.goto (-24), 3) := by decide +kernel
theorem pm_a188_52 : pm_as (pm_cd pm_mm188) 52 = some (.aload_n 0, 1) := by decide +kernel
theorem pm_a188_53 : pm_as (pm_cd pm_mm188) 53 = some (.iload_n 2, 1) := by decide +kernel
theorem pm_a188_54 : pm_as (pm_cd pm_mm188) 54 = some (.invokevirtual 225, 3) := by decide +kernel
theorem pm_a188_57 : pm_as (pm_cd pm_mm188) 57 = some (.iload_n 2, 1) := by decide +kernel
theorem pm_a188_58 : pm_as (pm_cd pm_mm188) 58 = some (.istore 5, 2) := by decide +kernel
theorem pm_a188_60 : pm_as (pm_cd pm_mm188) 60 = some (.iload 5, 2) := by decide +kernel
theorem pm_a188_62 : pm_as (pm_cd pm_mm188) 62 = some (.iload_n 3, 1) := by decide +kernel
theorem pm_a188_63 : pm_as (pm_cd pm_mm188) 63 = some (.if_icmp .ge 85, 3) := by decide +kernel
theorem pm_a188_66 : pm_as (pm_cd pm_mm188) 66 = some (.aload_n 0, 1) := by decide +kernel
theorem pm_a188_67 : pm_as (pm_cd pm_mm188) 67 = some (.getfield 19, 3) := by decide +kernel
theorem pm_a188_70 : pm_as (pm_cd pm_mm188) 70 = some (.iload 5, 2) := by decide +kernel
theorem pm_a188_72 : pm_as (pm_cd pm_mm188) 72 = some (.iaload, 1) := by decide +kernel
theorem pm_a188_73 : pm_as (pm_cd pm_mm188) 73 = some (.bipush 10, 2) := by decide +kernel
theorem pm_a188_75 : pm_as (pm_cd pm_mm188) 75 = some (.isub, 1) := by decide +kernel
theorem pm_a188_76 : pm_as (pm_cd pm_mm188) 76 = some (.istore 6, 2) := by decide +kernel
theorem pm_a188_78 : pm_as (pm_cd pm_mm188) 78 = some (.iload 6, 2) := by decide +kernel
theorem pm_a188_80 : pm_as (pm_cd pm_mm188) 80 = some (.aload_n 0, 1) := by decide +kernel
theorem pm_a188_81 : pm_as (pm_cd pm_mm188) 81 = some (.getfield 22, 3) := by decide +kernel
theorem pm_a188_84 : pm_as (pm_cd pm_mm188) 84 = some (.iload 5, 2) := by decide +kernel
theorem pm_a188_86 : pm_as (pm_cd pm_mm188) 86 = some (.iaload, 1) := by decide +kernel
theorem pm_a188_87 : pm_as (pm_cd pm_mm188) 87 = some (.if_icmp .ne 20, 3) := by decide +kernel
theorem pm_a188_90 : pm_as (pm_cd pm_mm188) 90 = some (.aload_n 0, 1) := by decide +kernel
theorem pm_a188_91 : pm_as (pm_cd pm_mm188) 91 = some (.iload_n 3, 1) := by decide +kernel
theorem pm_a188_92 : pm_as (pm_cd pm_mm188) 92 = some (.iload 4, 2) := by decide +kernel
theorem pm_a188_94 : pm_as (pm_cd pm_mm188) 94 = some (.aload_n 0, 1) := by decide +kernel
theorem pm_a188_95 : pm_as (pm_cd pm_mm188) 95 = some (.getfield 22, 3) := by decide +kernel
theorem pm_a188_98 : pm_as (pm_cd pm_mm188) 98 = some (.iload 5, 2) := by decide +kernel
theorem pm_a188_100 : pm_as (pm_cd pm_mm188) 100 = some (.iaload, 1) := by decide +kernel
theorem pm_a188_101 : pm_as (pm_cd pm_mm188) 101 = some (.invokevirtual 255, 3) := by decide +kernel
theorem pm_a188_104 : pm_as (pm_cd pm_mm188) 104 = some (.goto 38, 3) := by decide +kernel
theorem pm_a188_107 : pm_as (pm_cd pm_mm188) 107 = some (.aload_n 0, 1) := by decide +kernel
theorem pm_a188_108 : pm_as (pm_cd pm_mm188) 108 = some (.iload 6, 2) := by decide +kernel
theorem pm_a188_110 : pm_as (pm_cd pm_mm188) 110 = some (.aload_n 0, 1) := by decide +kernel
theorem pm_a188_111 : pm_as (pm_cd pm_mm188) 111 = some (.getfield 22, 3) := by decide +kernel
theorem pm_a188_114 : pm_as (pm_cd pm_mm188) 114 = some (.iload 5, 2) := by decide +kernel
theorem pm_a188_116 : pm_as (pm_cd pm_mm188) 116 = some (.iaload, 1) := by decide +kernel
theorem pm_a188_117 : pm_as (pm_cd pm_mm188) 117 = some (.if_icmp .le 15, 3) := by decide +kernel
theorem pm_a188_120 : pm_as (pm_cd pm_mm188) 120 = some (.aload_n 0, 1) := by decide +kernel
theorem pm_a188_121 : pm_as (pm_cd pm_mm188) 121 = some (.getfield 19, 3) := by decide +kernel
theorem pm_a188_124 : pm_as (pm_cd pm_mm188) 124 = some (.iload 5, 2) := by decide +kernel
theorem pm_a188_126 : pm_as (pm_cd pm_mm188) 126 = some (.iaload, 1) := by decide +kernel
theorem pm_a188_127 : pm_as (pm_cd pm_mm188) 127 = some (.iconst 1, 1) := by decide +kernel
theorem pm_a188_128 : pm_as (pm_cd pm_mm188) 128 = some (.isub, 1) := by decide +kernel
theorem pm_a188_129 : pm_as (pm_cd pm_mm188) 129 = some (.goto 10, 3) := by decide +kernel
theorem pm_a188_132 : pm_as (pm_cd pm_mm188) 132 = some (.aload_n 0, 1) := by decide +kernel
theorem pm_a188_133 : pm_as (pm_cd pm_mm188) 133 = some (.getfield 19, 3) := by decide +kernel
theorem pm_a188_136 : pm_as (pm_cd pm_mm188) 136 = some (.iload 5, 2) := by decide +kernel
theorem pm_a188_138 : pm_as (pm_cd pm_mm188) 138 = some (.iaload, 1) := by decide +kernel
theorem pm_a188_139 : pm_as (pm_cd pm_mm188) 139 = some (.invokevirtual 252, 3) := by decide +kernel
theorem pm_a188_142 : pm_as (pm_cd pm_mm188) 142 = some (.iinc 5 1, 3) := by decide +kernel
theorem pm_a188_145 : pm_as (pm_cd pm_mm188) 145 = some (.goto (-85), 3) := by decide +kernel
theorem pm_a188_148 : pm_as (pm_cd pm_mm188) 148 = some (.return_, 1) := by decide +kernel
theorem pm_a189_0 : pm_as (pm_cd pm_mm189) 0 = some (.aload_n 0, 1) := by decide +kernel
theorem pm_a189_1 : pm_as (pm_cd pm_mm189) 1 = some (.iload_n 1, 1) := by decide +kernel
theorem pm_a189_2 : pm_as (pm_cd pm_mm189) 2 = some (.invokevirtual 213, 3) := by decide +kernel
theorem pm_a189_5 : pm_as (pm_cd pm_mm189) 5 = some (.ifCond .eq 27, 3) := by decide +kernel
theorem pm_a189_8 : pm_as (pm_cd pm_mm189) 8 = some (.iload_n 2, 1) := by decide +kernel
theorem pm_a189_9 : pm_as (pm_cd pm_mm189) 9 = some (.i2l, 1) := by decide +kernel
theorem pm_a189_10 : pm_as (pm_cd pm_mm189) 10 = some (.lconst 0, 1) := by decide +kernel
theorem pm_a189_11 : pm_as (pm_cd pm_mm189) 11 = some (.ldc2_w 271, 3) := by decide +kernel
theorem pm_a189_14 : pm_as (pm_cd pm_mm189) 14 = some (.invokestatic 113, 3) := by decide +kernel
theorem pm_a189_17 : pm_as (pm_cd pm_mm189) 17 = some (.ifCond .eq 15, 3) := by decide +kernel
theorem pm_a189_20 : pm_as (pm_cd pm_mm189) 20 = some (.iload_n 3, 1) := by decide +kernel
theorem pm_a189_21 : pm_as (pm_cd pm_mm189) 21 = some (.i2l, 1) := by decide +kernel
theorem pm_a189_22 : pm_as (pm_cd pm_mm189) 22 = some (.lconst 0, 1) := by decide +kernel
theorem pm_a189_23 : pm_as (pm_cd pm_mm189) 23 = some (.ldc2_w 276, 3) := by decide +kernel
theorem pm_a189_26 : pm_as (pm_cd pm_mm189) 26 = some (.invokestatic 113, 3) := by decide +kernel
theorem pm_a189_29 : pm_as (pm_cd pm_mm189) 29 = some (.ifCond .ne 5, 3) := by decide +kernel
theorem pm_a189_32 : pm_as (pm_cd pm_mm189) 32 = some (.iconst (-1), 1) := by decide +kernel
theorem pm_a189_33 : pm_as (pm_cd pm_mm189) 33 = some (.ireturn, 1) := by decide +kernel
theorem pm_a189_34 : pm_as (pm_cd pm_mm189) 34 = some (.aload_n 0, 1) := by decide +kernel
theorem pm_a189_35 : pm_as (pm_cd pm_mm189) 35 = some (.iload_n 1, 1) := by decide +kernel
theorem pm_a189_36 : pm_as (pm_cd pm_mm189) 36 = some (.invokevirtual 231, 3) := by decide +kernel
theorem pm_a189_39 : pm_as (pm_cd pm_mm189) 39 = some (.aload_n 0, 1) := by decide +kernel
theorem pm_a189_40 : pm_as (pm_cd pm_mm189) 40 = some (.iconst 1, 1) := by decide +kernel
theorem pm_a189_41 : pm_as (pm_cd pm_mm189) 41 = some (.putfield 278, 3) := by decide +kernel
theorem pm_a189_44 : pm_as (pm_cd pm_mm189) 44 = some (.aload_n 0, 1) := by decide +kernel
theorem pm_a189_45 : pm_as (pm_cd pm_mm189) 45 = some (.iconst 0, 1) := by decide +kernel
theorem pm_a189_46 : pm_as (pm_cd pm_mm189) 46 = some (.putfield 281, 3) := by decide +kernel
theorem pm_a189_49 : pm_as (pm_cd pm_mm189) 49 = some (.iconst 0, 1) := by decide +kernel
theorem pm_a189_50 : pm_as (pm_cd pm_mm189) 50 = some (.istore 4, 2) := by decide +kernel
theorem pm_a189_52 : pm_as (pm_cd pm_mm189) 52 = some (.iconst 1, 1) := by decide +kernel
theorem pm_a189_53 : pm_as (pm_cd pm_mm189) 53 = some (.istore 5, 2) := by decide +kernel
theorem pm_a189_55 : pm_as (pm_cd pm_mm189) 55 = some (.iload 5, 2) := by decide +kernel
theorem pm_a189_57 : pm_as (pm_cd pm_mm189) 57 = some (.ifCond .eq 89, 3) := by decide +kernel
theorem pm_a189_60 : pm_as (pm_cd pm_mm189) 60 = some (.iload 4, 2) := by decide +kernel
theorem pm_a189_62 : pm_as (pm_cd pm_mm189) 62 = some (.iload_n 3, 1) := by decide +kernel
theorem pm_a189_63 : pm_as (pm_cd pm_mm189) 63 = some (.if_icmp .ge 83, 3) := by decide +kernel
theorem pm_a189_66 : pm_as (pm_cd pm_mm189) 66 = some (.aload_n 0, 1) := by decide +kernel
theorem pm_a189_67 : pm_as (pm_cd pm_mm189) 67 = some (.iload_n 2, 1) := by decide +kernel
theorem pm_a189_68 : pm_as (pm_cd pm_mm189) 68 = some (.invokevirtual 273, 3) := by decide +kernel
theorem pm_a189_71 : pm_as (pm_cd pm_mm189) 71 = some (.istore 6, 2) := by decide +kernel
theorem pm_a189_73 : pm_as (pm_cd pm_mm189) 73 = some (.iload 6, 2) := by decide +kernel
theorem pm_a189_75 : pm_as (pm_cd pm_mm189) 75 = some (.iconst 1, 1) := by decide +kernel
theorem pm_a189_76 : pm_as (pm_cd pm_mm189) 76 = some (.if_icmp .ne 7, 3) := by decide +kernel
theorem pm_a189_79 : pm_as (pm_cd pm_mm189) 79 = some (.iconst 1, 1) := by decide +kernel
theorem pm_a189_80 : pm_as (pm_cd pm_mm189) 80 = some (.goto 4, 3) := by decide +kernel
theorem pm_a189_83 : pm_as (pm_cd pm_mm189) 83 = some (.iconst 0, 1) := by decide +kernel
theorem pm_a189_84 : pm_as (pm_cd pm_mm189) 84 = some (.istore 5, 2) := by decide +kernel
theorem pm_a189_86 : pm_as (pm_cd pm_mm189) 86 = some (.aload_n 0, 1) := by decide +kernel
theorem pm_a189_87 : pm_as (pm_cd pm_mm189) 87 = some (.iload 5, 2) := by decide +kernel
theorem pm_a189_89 : pm_as (pm_cd pm_mm189) 89 = some (.ifCond .eq 7, 3) := by decide +kernel
theorem pm_a189_92 : pm_as (pm_cd pm_mm189) 92 = some (.iconst 1, 1) := by decide +kernel
theorem pm_a189_93 : pm_as (pm_cd pm_mm189) 93 = some (.goto 13, 3) := by decide +kernel
theorem pm_a189_96 : pm_as (pm_cd pm_mm189) 96 = some (.iload 6, 2) := by decide +kernel
theorem pm_a189_98 : pm_as (pm_cd pm_mm189) 98 = some (.ifCond .ne 7, 3) := by decide +kernel
theorem pm_a189_101 : pm_as (pm_cd pm_mm189) 101 = some (.iconst 0, 1) := by decide +kernel
theorem pm_a189_102 : pm_as (pm_cd pm_mm189) 102 = some (.goto 4, 3) := by decide +kernel
theorem pm_a189_105 : pm_as (pm_cd pm_mm189) 105 = some (.iconst 2, 1) := by decide +kernel
theorem pm_a189_106 : pm_as (pm_cd pm_mm189) 106 = some (.putfield 278, 3) := by decide +kernel
theorem pm_a189_109 : pm_as (pm_cd pm_mm189) 109 = some (.iload 5, 2) := by decide +kernel
theorem pm_a189_111 : pm_as (pm_cd pm_mm189) 111 = some (.ifCond .eq 32, 3) := by decide +kernel
theorem pm_a189_114 : pm_as (pm_cd pm_mm189) 114 = some (.iinc 4 1, 3) := by decide +kernel
theorem pm_a189_117 : pm_as (pm_cd pm_mm189) 117 = some (.aload_n 0, 1) := by decide +kernel
theorem pm_a189_118 : pm_as (pm_cd pm_mm189) 118 = some (.aload_n 0, 1) := by decide +kernel
theorem pm_a189_119 : pm_as (pm_cd pm_mm189) 119 = some (.getfield 117, 3) := by decide +kernel
theorem pm_a189_122 : pm_as (pm_cd pm_mm189) 122 = some (.aload_n 0, 1) := by decide +kernel
theorem pm_a189_123 : pm_as (pm_cd pm_mm189) 123 = some (.getfield 281, 3) := by decide +kernel
theorem pm_a189_126 : pm_as (pm_cd pm_mm189) 126 = some (.if_icmp .le 10, 3) := by decide +kernel
theorem pm_a189_129 : pm_as (pm_cd pm_mm189) 129 = some (.aload_n 0, 1) := by decide +kernel
theorem pm_a189_130 : pm_as (pm_cd pm_mm189) 130 = some (.getfield 117, 3) := by decide +kernel
theorem pm_a189_133 : pm_as (pm_cd pm_mm189) 133 = some (.goto 7, 3) := by decide +kernel
theorem pm_a189_136 : pm_as (pm_cd pm_mm189) 136 = some (.aload_n 0, 1) := by decide +kernel
theorem pm_a189_137 : pm_as (pm_cd pm_mm189) 137 = some (.getfield 281, 3) := by decide +kernel
theorem pm_a189_140 : pm_as (pm_cd pm_mm189) 140 = some (.putfield 281, 3) := by decide +kernel
theorem pm_a189_143 : pm_as (pm_cd pm_mm189) 143 = some (.goto (-88), 3) := by decide +kernel
theorem pm_a189_146 : pm_as (pm_cd pm_mm189) 146 = some (.aload_n 0, 1) := by decide +kernel
theorem pm_a189_147 : pm_as (pm_cd pm_mm189) 147 = some (.iload_n 1, 1) := by decide +kernel
theorem pm_a189_148 : pm_as (pm_cd pm_mm189) 148 = some (.invokevirtual 210, 3) := by decide +kernel
theorem pm_a189_151 : pm_as (pm_cd pm_mm189) 151 = some (.iload 4, 2) := by decide +kernel
theorem pm_a189_153 : pm_as (pm_cd pm_mm189) 153 = some (.ireturn, 1) := by decide +kernel
theorem pm_a190_0 : pm_as (pm_cd pm_mm190) 0 = some (.iload_n 1, 1) := by decide +kernel
theorem pm_a190_1 : pm_as (pm_cd pm_mm190) 1 = some (.ifCond .ne 10, 3) := by decide +kernel
theorem pm_a190_4 : pm_as (pm_cd pm_mm190) 4 = some (.aload_n 0, 1) := by decide +kernel
theorem pm_a190_5 : pm_as (pm_cd pm_mm190) 5 = some (.getfield 278, 3) := by decide +kernel
theorem pm_a190_8 : pm_as (pm_cd pm_mm190) 8 = some (.goto 16, 3) := by decide +kernel
theorem pm_a190_11 : pm_as (pm_cd pm_mm190) 11 = some (.iload_n 1, 1) := by decide +kernel
theorem pm_a190_12 : pm_as (pm_cd pm_mm190) 12 = some (.iconst 1, 1) := by decide +kernel
theorem pm_a190_13 : pm_as (pm_cd pm_mm190) 13 = some (.if_icmp .ne 10, 3) := by decide +kernel
theorem pm_a190_16 : pm_as (pm_cd pm_mm190) 16 = some (.aload_n 0, 1) := by decide +kernel
theorem pm_a190_17 : pm_as (pm_cd pm_mm190) 17 = some (.getfield 281, 3) := by decide +kernel
theorem pm_a190_20 : pm_as (pm_cd pm_mm190) 20 = some (.goto 4, 3) := by decide +kernel
theorem pm_a190_23 : pm_as (pm_cd pm_mm190) 23 = some (.iconst (-1), 1) := by decide +kernel
theorem pm_a190_24 : pm_as (pm_cd pm_mm190) 24 = some (.ireturn, 1) := by decide +kernel
theorem pm_a191_0 : pm_as (pm_cd pm_mm191) 0 = some (.aload_n 0, 1) := by decide +kernel
theorem pm_a191_1 : pm_as (pm_cd pm_mm191) 1 = some (.iload_n 1, 1) := by decide +kernel
theorem pm_a191_2 : pm_as (pm_cd pm_mm191) 2 = some (.invokevirtual 213, 3) := by decide +kernel
theorem pm_a191_5 : pm_as (pm_cd pm_mm191) 5 = some (.ifCond .eq 15, 3) := by decide +kernel
theorem pm_a191_8 : pm_as (pm_cd pm_mm191) 8 = some (.iload_n 2, 1) := by decide +kernel
theorem pm_a191_9 : pm_as (pm_cd pm_mm191) 9 = some (.i2l, 1) := by decide +kernel
theorem pm_a191_10 : pm_as (pm_cd pm_mm191) 10 = some (.lconst 0, 1) := by decide +kernel
theorem pm_a191_11 : pm_as (pm_cd pm_mm191) 11 = some (.ldc2_w 271, 3) := by decide +kernel
theorem pm_a191_14 : pm_as (pm_cd pm_mm191) 14 = some (.invokestatic 113, 3) := by decide +kernel
theorem pm_a191_17 : pm_as (pm_cd pm_mm191) 17 = some (.ifCond .ne 5, 3) := by decide +kernel
theorem pm_a191_20 : pm_as (pm_cd pm_mm191) 20 = some (.iconst (-1), 1) := by decide +kernel
theorem pm_a191_21 : pm_as (pm_cd pm_mm191) 21 = some (.ireturn, 1) := by decide +kernel
theorem pm_a191_22 : pm_as (pm_cd pm_mm191) 22 = some (.aload_n 0, 1) := by decide +kernel
theorem pm_a191_23 : pm_as (pm_cd pm_mm191) 23 = some (.iload_n 1, 1) := by decide +kernel
theorem pm_a191_24 : pm_as (pm_cd pm_mm191) 24 = some (.invokevirtual 231, 3) := by decide +kernel
theorem pm_a191_27 : pm_as (pm_cd pm_mm191) 27 = some (.aload_n 0, 1) := by decide +kernel
theorem pm_a191_28 : pm_as (pm_cd pm_mm191) 28 = some (.iload_n 2, 1) := by decide +kernel
theorem pm_a191_29 : pm_as (pm_cd pm_mm191) 29 = some (.invokevirtual 265, 3) := by decide +kernel
theorem pm_a191_32 : pm_as (pm_cd pm_mm191) 32 = some (.ireturn, 1) := by decide +kernel
theorem pm_a192_0 : pm_as (pm_cd pm_mm192) 0 = some (.aload_n 0, 1) := by decide +kernel
theorem pm_a192_1 : pm_as (pm_cd pm_mm192) 1 = some (.iload_n 1, 1) := by decide +kernel
theorem pm_a192_2 : pm_as (pm_cd pm_mm192) 2 = some (.invokevirtual 213, 3) := by decide +kernel
theorem pm_a192_5 : pm_as (pm_cd pm_mm192) 5 = some (.ifCond .ne 5, 3) := by decide +kernel
theorem pm_a192_8 : pm_as (pm_cd pm_mm192) 8 = some (.iconst (-1), 1) := by decide +kernel
theorem pm_a192_9 : pm_as (pm_cd pm_mm192) 9 = some (.ireturn, 1) := by decide +kernel
theorem pm_a192_10 : pm_as (pm_cd pm_mm192) 10 = some (.aload_n 0, 1) := by decide +kernel
theorem pm_a192_11 : pm_as (pm_cd pm_mm192) 11 = some (.iload_n 1, 1) := by decide +kernel
theorem pm_a192_12 : pm_as (pm_cd pm_mm192) 12 = some (.invokevirtual 231, 3) := by decide +kernel
theorem pm_a192_15 : pm_as (pm_cd pm_mm192) 15 = some (.aload_n 0, 1) := by decide +kernel
theorem pm_a192_16 : pm_as (pm_cd pm_mm192) 16 = some (.invokevirtual 284, 3) := by decide +kernel
theorem pm_a192_19 : pm_as (pm_cd pm_mm192) 19 = some (.ireturn, 1) := by decide +kernel
theorem pm_a193_0 : pm_as (pm_cd pm_mm193) 0 = some (.iconst 0, 1) := by decide +kernel
theorem pm_a193_1 : pm_as (pm_cd pm_mm193) 1 = some (.istore_n 1, 1) := by decide +kernel
theorem pm_a193_2 : pm_as (pm_cd pm_mm193) 2 = some (.iconst 0, 1) := by decide +kernel
theorem pm_a193_3 : pm_as (pm_cd pm_mm193) 3 = some (.istore_n 2, 1) := by decide +kernel
theorem pm_a193_4 : pm_as (pm_cd pm_mm193) 4 = some (.iload_n 2, 1) := by decide +kernel
theorem pm_a193_5 : pm_as (pm_cd pm_mm193) 5 = some (.aload_n 0, 1) := by decide +kernel
theorem pm_a193_6 : pm_as (pm_cd pm_mm193) 6 = some (.getfield 117, 3) := by decide +kernel
theorem pm_a193_9 : pm_as (pm_cd pm_mm193) 9 = some (.if_icmp .ge 25, 3) := by decide +kernel
theorem pm_a193_12 : pm_as (pm_cd pm_mm193) 12 = some (.iload_n 1, 1) := by decide +kernel
theorem pm_a193_13 : pm_as (pm_cd pm_mm193) 13 = some (.aload_n 0, 1) := by decide +kernel
theorem pm_a193_14 : pm_as (pm_cd pm_mm193) 14 = some (.iload_n 2, 1) := by decide +kernel
theorem pm_a193_15 : pm_as (pm_cd pm_mm193) 15 = some (.invokevirtual 240, 3) := by decide +kernel
theorem pm_a193_18 : pm_as (pm_cd pm_mm193) 18 = some (.ifCond .eq 7, 3) := by decide +kernel
theorem pm_a193_21 : pm_as (pm_cd pm_mm193) 21 = some (.iconst 1, 1) := by decide +kernel
theorem pm_a193_22 : pm_as (pm_cd pm_mm193) 22 = some (.goto 4, 3) := by decide +kernel
theorem pm_a193_25 : pm_as (pm_cd pm_mm193) 25 = some (.iconst 0, 1) := by decide +kernel
theorem pm_a193_26 : pm_as (pm_cd pm_mm193) 26 = some (.iadd, 1) := by decide +kernel
theorem pm_a193_27 : pm_as (pm_cd pm_mm193) 27 = some (.istore_n 1, 1) := by decide +kernel
theorem pm_a193_28 : pm_as (pm_cd pm_mm193) 28 = some (.iinc 2 1, 3) := by decide +kernel
theorem pm_a193_31 : pm_as (pm_cd pm_mm193) 31 = some (.goto (-27), 3) := by decide +kernel
theorem pm_a193_34 : pm_as (pm_cd pm_mm193) 34 = some (.iload_n 1, 1) := by decide +kernel
theorem pm_a193_35 : pm_as (pm_cd pm_mm193) 35 = some (.ireturn, 1) := by decide +kernel
theorem pm_a194_0 : pm_as (pm_cd pm_mm194) 0 = some (.aload_n 0, 1) := by decide +kernel
theorem pm_a194_1 : pm_as (pm_cd pm_mm194) 1 = some (.iload_n 1, 1) := by decide +kernel
theorem pm_a194_2 : pm_as (pm_cd pm_mm194) 2 = some (.invokevirtual 213, 3) := by decide +kernel
theorem pm_a194_5 : pm_as (pm_cd pm_mm194) 5 = some (.ifCond .ne 5, 3) := by decide +kernel
theorem pm_a194_8 : pm_as (pm_cd pm_mm194) 8 = some (.iconst (-1), 1) := by decide +kernel
theorem pm_a194_9 : pm_as (pm_cd pm_mm194) 9 = some (.ireturn, 1) := by decide +kernel
theorem pm_a194_10 : pm_as (pm_cd pm_mm194) 10 = some (.aload_n 0, 1) := by decide +kernel
theorem pm_a194_11 : pm_as (pm_cd pm_mm194) 11 = some (.getfield 204, 3) := by decide +kernel
theorem pm_a194_14 : pm_as (pm_cd pm_mm194) 14 = some (.bipush 32, 2) := by decide +kernel
theorem pm_a194_16 : pm_as (pm_cd pm_mm194) 16 = some (.if_icmp .ne 6, 3) := by decide +kernel
theorem pm_a194_19 : pm_as (pm_cd pm_mm194) 19 = some (.bipush (-3), 2) := by decide +kernel
theorem pm_a194_21 : pm_as (pm_cd pm_mm194) 21 = some (.ireturn, 1) := by decide +kernel
theorem pm_a194_22 : pm_as (pm_cd pm_mm194) 22 = some (.aload_n 0, 1) := by decide +kernel
theorem pm_a194_23 : pm_as (pm_cd pm_mm194) 23 = some (.iload_n 1, 1) := by decide +kernel
theorem pm_a194_24 : pm_as (pm_cd pm_mm194) 24 = some (.invokevirtual 231, 3) := by decide +kernel
theorem pm_a194_27 : pm_as (pm_cd pm_mm194) 27 = some (.aload_n 0, 1) := by decide +kernel
theorem pm_a194_28 : pm_as (pm_cd pm_mm194) 28 = some (.invokevirtual 297, 3) := by decide +kernel
theorem pm_a194_31 : pm_as (pm_cd pm_mm194) 31 = some (.ifCond .ne 6, 3) := by decide +kernel
theorem pm_a194_34 : pm_as (pm_cd pm_mm194) 34 = some (.bipush (-3), 2) := by decide +kernel
theorem pm_a194_36 : pm_as (pm_cd pm_mm194) 36 = some (.ireturn, 1) := by decide +kernel
theorem pm_a194_37 : pm_as (pm_cd pm_mm194) 37 = some (.aload_n 0, 1) := by decide +kernel
theorem pm_a194_38 : pm_as (pm_cd pm_mm194) 38 = some (.aload_n 0, 1) := by decide +kernel
theorem pm_a194_39 : pm_as (pm_cd pm_mm194) 39 = some (.getfield 204, 3) := by decide +kernel
theorem pm_a194_42 : pm_as (pm_cd pm_mm194) 42 = some (.invokevirtual 210, 3) := by decide +kernel
theorem pm_a194_45 : pm_as (pm_cd pm_mm194) 45 = some (.aload_n 0, 1) := by decide +kernel
theorem pm_a194_46 : pm_as (pm_cd pm_mm194) 46 = some (.dup, 1) := by decide +kernel
theorem pm_a194_47 : pm_as (pm_cd pm_mm194) 47 = some (.getfield 204, 3) := by decide +kernel
theorem pm_a194_50 : pm_as (pm_cd pm_mm194) 50 = some (.iconst 1, 1) := by decide +kernel
theorem pm_a194_51 : pm_as (pm_cd pm_mm194) 51 = some (.iadd, 1) := by decide +kernel
theorem pm_a194_52 : pm_as (pm_cd pm_mm194) 52 = some (.putfield 204, 3) := by decide +kernel
theorem pm_a194_55 : pm_as (pm_cd pm_mm194) 55 = some (.aload_n 0, 1) := by decide +kernel
theorem pm_a194_56 : pm_as (pm_cd pm_mm194) 56 = some (.getfield 204, 3) := by decide +kernel
theorem pm_a194_59 : pm_as (pm_cd pm_mm194) 59 = some (.iconst 1, 1) := by decide +kernel
theorem pm_a194_60 : pm_as (pm_cd pm_mm194) 60 = some (.isub, 1) := by decide +kernel
theorem pm_a194_61 : pm_as (pm_cd pm_mm194) 61 = some (.ireturn, 1) := by decide +kernel
theorem pm_a195_0 : pm_as (pm_cd pm_mm195) 0 = some (.aload_n 0, 1) := by decide +kernel
theorem pm_a195_1 : pm_as (pm_cd pm_mm195) 1 = some (.getfield 117, 3) := by decide +kernel
theorem pm_a195_4 : pm_as (pm_cd pm_mm195) 4 = some (.iconst 1, 1) := by decide +kernel
theorem pm_a195_5 : pm_as (pm_cd pm_mm195) 5 = some (.isub, 1) := by decide +kernel
theorem pm_a195_6 : pm_as (pm_cd pm_mm195) 6 = some (.istore_n 1, 1) := by decide +kernel
theorem pm_a195_7 : pm_as (pm_cd pm_mm195) 7 = some (.iload_n 1, 1) := by decide +kernel
theorem pm_a195_8 : pm_as (pm_cd pm_mm195) 8 = some (.ifCond .lt 213, 3) := by decide +kernel
theorem pm_a195_11 : pm_as (pm_cd pm_mm195) 11 = some (.iload_n 1, 1) := by decide +kernel
theorem pm_a195_12 : pm_as (pm_cd pm_mm195) 12 = some (.ifCond .lt 19, 3) := by decide +kernel
theorem pm_a195_15 : pm_as (pm_cd pm_mm195) 15 = some (.aload_n 0, 1) := by decide +kernel
theorem pm_a195_16 : pm_as (pm_cd pm_mm195) 16 = some (.getfield 19, 3) := by decide +kernel
theorem pm_a195_19 : pm_as (pm_cd pm_mm195) 19 = some (.iload_n 1, 1) := by decide +kernel
theorem pm_a195_20 : pm_as (pm_cd pm_mm195) 20 = some (.iaload, 1) := by decide +kernel
theorem pm_a195_21 : pm_as (pm_cd pm_mm195) 21 = some (.iconst 1, 1) := by decide +kernel
theorem pm_a195_22 : pm_as (pm_cd pm_mm195) 22 = some (.if_icmp .eq 9, 3) := by decide +kernel
theorem pm_a195_25 : pm_as (pm_cd pm_mm195) 25 = some (.iinc 1 (-1), 3) := by decide +kernel
theorem pm_a195_28 : pm_as (pm_cd pm_mm195) 28 = some (.goto (-17), 3) := by decide +kernel
theorem pm_a195_31 : pm_as (pm_cd pm_mm195) 31 = some (.iload_n 1, 1) := by decide +kernel
theorem pm_a195_32 : pm_as (pm_cd pm_mm195) 32 = some (.ifCond .lt (-25), 3) := by decide +kernel
theorem pm_a195_35 : pm_as (pm_cd pm_mm195) 35 = some (.aload_n 0, 1) := by decide +kernel
theorem pm_a195_36 : pm_as (pm_cd pm_mm195) 36 = some (.iload_n 1, 1) := by decide +kernel
theorem pm_a195_37 : pm_as (pm_cd pm_mm195) 37 = some (.invokevirtual 222, 3) := by decide +kernel
theorem pm_a195_40 : pm_as (pm_cd pm_mm195) 40 = some (.istore_n 2, 1) := by decide +kernel
theorem pm_a195_41 : pm_as (pm_cd pm_mm195) 41 = some (.aload_n 0, 1) := by decide +kernel
theorem pm_a195_42 : pm_as (pm_cd pm_mm195) 42 = some (.iconst 0, 1) := by decide +kernel
theorem pm_a195_43 : pm_as (pm_cd pm_mm195) 43 = some (.putfield 249, 3) := by decide +kernel
theorem pm_a195_46 : pm_as (pm_cd pm_mm195) 46 = some (.aload_n 0, 1) := by decide +kernel
theorem pm_a195_47 : pm_as (pm_cd pm_mm195) 47 = some (.iload_n 1, 1) := by decide +kernel
theorem pm_a195_48 : pm_as (pm_cd pm_mm195) 48 = some (.invokevirtual 294, 3) := by decide +kernel
theorem pm_a195_51 : pm_as (pm_cd pm_mm195) 51 = some (.aload_n 0, 1) := by decide +kernel
theorem pm_a195_52 : pm_as (pm_cd pm_mm195) 52 = some (.getfield 249, 3) := by decide +kernel
theorem pm_a195_55 : pm_as (pm_cd pm_mm195) 55 = some (.sipush 500, 3) := by decide +kernel
theorem pm_a195_58 : pm_as (pm_cd pm_mm195) 58 = some (.if_icmp .le 5, 3) := by decide +kernel
theorem pm_a195_61 : pm_as (pm_cd pm_mm195) 61 = some (.iconst 0, 1) := by decide +kernel
theorem pm_a195_62 : pm_as (pm_cd pm_mm195) 62 = some (.ireturn, 1) := by decide +kernel
theorem pm_a195_63 : pm_as (pm_cd pm_mm195) 63 = some (.aload_n 0, 1) := by decide +kernel
theorem pm_a195_64 : pm_as (pm_cd pm_mm195) 64 = some (.getfield 249, 3) := by decide +kernel
theorem pm_a195_67 : pm_as (pm_cd pm_mm195) 67 = some (.istore_n 3, 1) := by decide +kernel
theorem pm_a195_68 : pm_as (pm_cd pm_mm195) 68 = some (.iload_n 3, 1) := by decide +kernel
theorem pm_a195_69 : pm_as (pm_cd pm_mm195) 69 = some (.iload_n 2, 1) := by decide +kernel
theorem pm_a195_70 : pm_as (pm_cd pm_mm195) 70 = some (.iload_n 1, 1) := by decide +kernel
theorem pm_a195_71 : pm_as (pm_cd pm_mm195) 71 = some (.isub, 1) := by decide +kernel
theorem pm_a195_72 : pm_as (pm_cd pm_mm195) 72 = some (.isub, 1) := by decide +kernel
theorem pm_a195_73 : pm_as (pm_cd pm_mm195) 73 = some (.istore 4, 2) := by decide +kernel
theorem pm_a195_75 : pm_as (pm_cd pm_mm195) 75 = some (.aload_n 0, 1) := by decide +kernel
theorem pm_a195_76 : pm_as (pm_cd pm_mm195) 76 = some (.getfield 117, 3) := by decide +kernel
theorem pm_a195_79 : pm_as (pm_cd pm_mm195) 79 = some (.iload 4, 2) := by decide +kernel
theorem pm_a195_81 : pm_as (pm_cd pm_mm195) 81 = some (.iadd, 1) := by decide +kernel
theorem pm_a195_82 : pm_as (pm_cd pm_mm195) 82 = some (.sipush 500, 3) := by decide +kernel
theorem pm_a195_85 : pm_as (pm_cd pm_mm195) 85 = some (.iconst 3, 1) := by decide +kernel
theorem pm_a195_86 : pm_as (pm_cd pm_mm195) 86 = some (.iload_n 1, 1) := by decide +kernel
theorem pm_a195_87 : pm_as (pm_cd pm_mm195) 87 = some (.iconst 1, 1) := by decide +kernel
theorem pm_a195_88 : pm_as (pm_cd pm_mm195) 88 = some (.iadd, 1) := by decide +kernel
theorem pm_a195_89 : pm_as (pm_cd pm_mm195) 89 = some (.imul, 1) := by decide +kernel
theorem pm_a195_90 : pm_as (pm_cd pm_mm195) 90 = some (.iadd, 1) := by decide +kernel
theorem pm_a195_91 : pm_as (pm_cd pm_mm195) 91 = some (.if_icmp .le 5, 3) := by decide +kernel
theorem pm_a195_94 : pm_as (pm_cd pm_mm195) 94 = some (.iconst 0, 1) := by decide +kernel
theorem pm_a195_95 : pm_as (pm_cd pm_mm195) 95 = some (.ireturn, 1) := by decide +kernel
theorem pm_a195_96 : pm_as (pm_cd pm_mm195) 96 = some (.iload 4, 2) := by decide +kernel
theorem pm_a195_98 : pm_as (pm_cd pm_mm195) 98 = some (.ifCond .le 43, 3) := by decide +kernel
theorem pm_a195_101 : pm_as (pm_cd pm_mm195) 101 = some (.aload_n 0, 1) := by decide +kernel
theorem pm_a195_102 : pm_as (pm_cd pm_mm195) 102 = some (.getfield 117, 3) := by decide +kernel
theorem pm_a195_105 : pm_as (pm_cd pm_mm195) 105 = some (.iconst 1, 1) := by decide +kernel
theorem pm_a195_106 : pm_as (pm_cd pm_mm195) 106 = some (.isub, 1) := by decide +kernel
theorem pm_a195_107 : pm_as (pm_cd pm_mm195) 107 = some (.istore 5, 2) := by decide +kernel
theorem pm_a195_109 : pm_as (pm_cd pm_mm195) 109 = some (.iload 5, 2) := by decide +kernel
theorem pm_a195_111 : pm_as (pm_cd pm_mm195) 111 = some (.iload_n 2, 1) := by decide +kernel
theorem pm_a195_112 : pm_as (pm_cd pm_mm195) 112 = some (.if_icmp .lt 26, 3) := by decide +kernel
theorem pm_a195_115 : pm_as (pm_cd pm_mm195) 115 = some (.aload_n 0, 1) := by decide +kernel
theorem pm_a195_116 : pm_as (pm_cd pm_mm195) 116 = some (.getfield 19, 3) := by decide +kernel
theorem pm_a195_119 : pm_as (pm_cd pm_mm195) 119 = some (.iload 5, 2) := by decide +kernel
theorem pm_a195_121 : pm_as (pm_cd pm_mm195) 121 = some (.iload 4, 2) := by decide +kernel
theorem pm_a195_123 : pm_as (pm_cd pm_mm195) 123 = some (.iadd, 1) := by decide +kernel
theorem pm_a195_124 : pm_as (pm_cd pm_mm195) 124 = some (.aload_n 0, 1) := by decide +kernel
theorem pm_a195_125 : pm_as (pm_cd pm_mm195) 125 = some (.getfield 19, 3) := by decide +kernel
theorem pm_a195_128 : pm_as (pm_cd pm_mm195) 128 = some (.iload 5, 2) := by decide +kernel
theorem pm_a195_130 : pm_as (pm_cd pm_mm195) 130 = some (.iaload, 1) := by decide +kernel
theorem pm_a195_131 : pm_as (pm_cd pm_mm195) 131 = some (.iastore, 1) := by decide +kernel
theorem pm_a195_132 : pm_as (pm_cd pm_mm195) 132 = some (.iinc 5 (-1), 3) := by decide +kernel
theorem pm_a195_135 : pm_as (pm_cd pm_mm195) 135 = some (.goto (-26), 3) := by decide +kernel
theorem pm_a195_138 : pm_as (pm_cd pm_mm195) 138 = some (.goto 38, 3) := by decide +kernel
theorem pm_a195_141 : pm_as (pm_cd pm_mm195) 141 = some (.iload_n 2, 1) := by decide +kernel
theorem pm_a195_142 : pm_as (pm_cd pm_mm195) 142 = some (.istore 5, 2) := by decide +kernel
theorem pm_a195_144 : pm_as (pm_cd pm_mm195) 144 = some (.iload 5, 2) := by decide +kernel
theorem pm_a195_146 : pm_as (pm_cd pm_mm195) 146 = some (.aload_n 0, 1) := by decide +kernel
theorem pm_a195_147 : pm_as (pm_cd pm_mm195) 147 = some (.getfield 117, 3) := by decide +kernel
theorem pm_a195_150 : pm_as (pm_cd pm_mm195) 150 = some (.if_icmp .ge 26, 3) := by decide +kernel
theorem pm_a195_153 : pm_as (pm_cd pm_mm195) 153 = some (.aload_n 0, 1) := by decide +kernel
theorem pm_a195_154 : pm_as (pm_cd pm_mm195) 154 = some (.getfield 19, 3) := by decide +kernel
theorem pm_a195_157 : pm_as (pm_cd pm_mm195) 157 = some (.iload 5, 2) := by decide +kernel
theorem pm_a195_159 : pm_as (pm_cd pm_mm195) 159 = some (.iload 4, 2) := by decide +kernel
theorem pm_a195_161 : pm_as (pm_cd pm_mm195) 161 = some (.iadd, 1) := by decide +kernel
theorem pm_a195_162 : pm_as (pm_cd pm_mm195) 162 = some (.aload_n 0, 1) := by decide +kernel
theorem pm_a195_163 : pm_as (pm_cd pm_mm195) 163 = some (.getfield 19, 3) := by decide +kernel
theorem pm_a195_166 : pm_as (pm_cd pm_mm195) 166 = some (.iload 5, 2) := by decide +kernel
theorem pm_a195_168 : pm_as (pm_cd pm_mm195) 168 = some (.iaload, 1) := by decide +kernel
theorem pm_a195_169 : pm_as (pm_cd pm_mm195) 169 = some (.iastore, 1) := by decide +kernel
theorem pm_a195_170 : pm_as (pm_cd pm_mm195) 170 = some (.iinc 5 1, 3) := by decide +kernel
theorem pm_a195_173 : pm_as (pm_cd pm_mm195) 173 = some (.goto (-29), 3) := by decide +kernel
theorem pm_a195_176 : pm_as (pm_cd pm_mm195) 176 = some (.iconst 0, 1) := by decide +kernel
theorem pm_a195_177 : pm_as (pm_cd pm_mm195) 177 = some (.istore 5, 2) := by decide +kernel
theorem pm_a195_179 : pm_as (pm_cd pm_mm195) 179 = some (.iload 5, 2) := by decide +kernel
theorem pm_a195_181 : pm_as (pm_cd pm_mm195) 181 = some (.iload_n 3, 1) := by decide +kernel
theorem pm_a195_182 : pm_as (pm_cd pm_mm195) 182 = some (.if_icmp .ge 25, 3) := by decide +kernel
theorem pm_a195_185 : pm_as (pm_cd pm_mm195) 185 = some (.aload_n 0, 1) := by decide +kernel
theorem pm_a195_186 : pm_as (pm_cd pm_mm195) 186 = some (.getfield 19, 3) := by decide +kernel
theorem pm_a195_189 : pm_as (pm_cd pm_mm195) 189 = some (.iload_n 1, 1) := by decide +kernel
theorem pm_a195_190 : pm_as (pm_cd pm_mm195) 190 = some (.iload 5, 2) := by decide +kernel
theorem pm_a195_192 : pm_as (pm_cd pm_mm195) 192 = some (.iadd, 1) := by decide +kernel
theorem pm_a195_193 : pm_as (pm_cd pm_mm195) 193 = some (.aload_n 0, 1) := by decide +kernel
theorem pm_a195_194 : pm_as (pm_cd pm_mm195) 194 = some (.getfield 54, 3) := by decide +kernel
theorem pm_a195_197 : pm_as (pm_cd pm_mm195) 197 = some (.iload 5, 2) := by decide +kernel
theorem pm_a195_199 : pm_as (pm_cd pm_mm195) 199 = some (.iaload, 1) := by decide +kernel
theorem pm_a195_200 : pm_as (pm_cd pm_mm195) 200 = some (.iastore, 1) := by decide +kernel
theorem pm_a195_201 : pm_as (pm_cd pm_mm195) 201 = some (.iinc 5 1, 3) := by decide +kernel
theorem pm_a195_204 : pm_as (pm_cd pm_mm195) 204 = some (.goto (-25), 3) := by decide +kernel
theorem pm_a195_207 : pm_as (pm_cd pm_mm195) 207 = some (.aload_n 0, 1) := by decide +kernel
theorem pm_a195_208 : pm_as (pm_cd pm_mm195) 208 = some (.dup, 1) := by decide +kernel
theorem pm_a195_209 : pm_as (pm_cd pm_mm195) 209 = some (.getfield 117, 3) := by decide +kernel
theorem pm_a195_212 : pm_as (pm_cd pm_mm195) 212 = some (.iload 4, 2) := by decide +kernel
theorem pm_a195_214 : pm_as (pm_cd pm_mm195) 214 = some (.iadd, 1) := by decide +kernel
theorem pm_a195_215 : pm_as (pm_cd pm_mm195) 215 = some (.putfield 117, 3) := by decide +kernel
theorem pm_a195_218 : pm_as (pm_cd pm_mm195) 218 = some (.goto (-211), 3) := by decide +kernel
theorem pm_a195_221 : pm_as (pm_cd pm_mm195) 221 = some (.aload_n 0, 1) := by decide +kernel
theorem pm_a195_222 : pm_as (pm_cd pm_mm195) 222 = some (.getfield 117, 3) := by decide +kernel
theorem pm_a195_225 : pm_as (pm_cd pm_mm195) 225 = some (.sipush 500, 3) := by decide +kernel
theorem pm_a195_228 : pm_as (pm_cd pm_mm195) 228 = some (.if_icmp .gt 7, 3) := by decide +kernel
theorem pm_a195_231 : pm_as (pm_cd pm_mm195) 231 = some (.iconst 1, 1) := by decide +kernel
theorem pm_a195_232 : pm_as (pm_cd pm_mm195) 232 = some (.goto 4, 3) := by decide +kernel
theorem pm_a195_235 : pm_as (pm_cd pm_mm195) 235 = some (.iconst 0, 1) := by decide +kernel
theorem pm_a195_236 : pm_as (pm_cd pm_mm195) 236 = some (.ireturn, 1) := by decide +kernel
theorem pm_a196_0 : pm_as (pm_cd pm_mm196) 0 = some (.iconst 1, 1) := by decide +kernel
theorem pm_a196_1 : pm_as (pm_cd pm_mm196) 1 = some (.istore_n 2, 1) := by decide +kernel
theorem pm_a196_2 : pm_as (pm_cd pm_mm196) 2 = some (.iload_n 1, 1) := by decide +kernel
theorem pm_a196_3 : pm_as (pm_cd pm_mm196) 3 = some (.iconst 1, 1) := by decide +kernel
theorem pm_a196_4 : pm_as (pm_cd pm_mm196) 4 = some (.iadd, 1) := by decide +kernel
theorem pm_a196_5 : pm_as (pm_cd pm_mm196) 5 = some (.istore_n 3, 1) := by decide +kernel
theorem pm_a196_6 : pm_as (pm_cd pm_mm196) 6 = some (.iload_n 2, 1) := by decide +kernel
theorem pm_a196_7 : pm_as (pm_cd pm_mm196) 7 = some (.ifCond .le 146, 3) := by decide +kernel
theorem pm_a196_10 : pm_as (pm_cd pm_mm196) 10 = some (.aload_n 0, 1) := by decide +kernel
theorem pm_a196_11 : pm_as (pm_cd pm_mm196) 11 = some (.iload_n 3, 1) := by decide +kernel
theorem pm_a196_12 : pm_as (pm_cd pm_mm196) 12 = some (.invokevirtual 222, 3) := by decide +kernel
theorem pm_a196_15 : pm_as (pm_cd pm_mm196) 15 = some (.istore 4, 2) := by decide +kernel
theorem pm_a196_17 : pm_as (pm_cd pm_mm196) 17 = some (.aload_n 0, 1) := by decide +kernel
theorem pm_a196_18 : pm_as (pm_cd pm_mm196) 18 = some (.getfield 19, 3) := by decide +kernel
theorem pm_a196_21 : pm_as (pm_cd pm_mm196) 21 = some (.iload_n 3, 1) := by decide +kernel
theorem pm_a196_22 : pm_as (pm_cd pm_mm196) 22 = some (.iaload, 1) := by decide +kernel
theorem pm_a196_23 : pm_as (pm_cd pm_mm196) 23 = some (.bipush 10, 2) := by decide +kernel
theorem pm_a196_25 : pm_as (pm_cd pm_mm196) 25 = some (.if_icmp .ne 17, 3) := by decide +kernel
theorem pm_a196_28 : pm_as (pm_cd pm_mm196) 28 = some (.aload_n 0, 1) := by decide +kernel
theorem pm_a196_29 : pm_as (pm_cd pm_mm196) 29 = some (.iconst 4, 1) := by decide +kernel
theorem pm_a196_30 : pm_as (pm_cd pm_mm196) 30 = some (.invokevirtual 252, 3) := by decide +kernel
theorem pm_a196_33 : pm_as (pm_cd pm_mm196) 33 = some (.iload 4, 2) := by decide +kernel
theorem pm_a196_35 : pm_as (pm_cd pm_mm196) 35 = some (.istore_n 3, 1) := by decide +kernel
theorem pm_a196_36 : pm_as (pm_cd pm_mm196) 36 = some (.iinc 2 (-1), 3) := by decide +kernel
theorem pm_a196_39 : pm_as (pm_cd pm_mm196) 39 = some (.goto 111, 3) := by decide +kernel
theorem pm_a196_42 : pm_as (pm_cd pm_mm196) 42 = some (.aload_n 0, 1) := by decide +kernel
theorem pm_a196_43 : pm_as (pm_cd pm_mm196) 43 = some (.iload_n 3, 1) := by decide +kernel
theorem pm_a196_44 : pm_as (pm_cd pm_mm196) 44 = some (.iload 4, 2) := by decide +kernel
theorem pm_a196_46 : pm_as (pm_cd pm_mm196) 46 = some (.invokevirtual 287, 3) := by decide +kernel
theorem pm_a196_49 : pm_as (pm_cd pm_mm196) 49 = some (.ifCond .ne 29, 3) := by decide +kernel
theorem pm_a196_52 : pm_as (pm_cd pm_mm196) 52 = some (.aload_n 0, 1) := by decide +kernel
theorem pm_a196_53 : pm_as (pm_cd pm_mm196) 53 = some (.iconst 0, 1) := by decide +kernel
theorem pm_a196_54 : pm_as (pm_cd pm_mm196) 54 = some (.invokevirtual 252, 3) := by decide +kernel
theorem pm_a196_57 : pm_as (pm_cd pm_mm196) 57 = some (.aload_n 0, 1) := by decide +kernel
theorem pm_a196_58 : pm_as (pm_cd pm_mm196) 58 = some (.iconst 3, 1) := by decide +kernel
theorem pm_a196_59 : pm_as (pm_cd pm_mm196) 59 = some (.invokevirtual 252, 3) := by decide +kernel
theorem pm_a196_62 : pm_as (pm_cd pm_mm196) 62 = some (.aload_n 0, 1) := by decide +kernel
theorem pm_a196_63 : pm_as (pm_cd pm_mm196) 63 = some (.iload_n 3, 1) := by decide +kernel
theorem pm_a196_64 : pm_as (pm_cd pm_mm196) 64 = some (.iload 4, 2) := by decide +kernel
theorem pm_a196_66 : pm_as (pm_cd pm_mm196) 66 = some (.invokevirtual 291, 3) := by decide +kernel
theorem pm_a196_69 : pm_as (pm_cd pm_mm196) 69 = some (.iload 4, 2) := by decide +kernel
theorem pm_a196_71 : pm_as (pm_cd pm_mm196) 71 = some (.istore_n 3, 1) := by decide +kernel
theorem pm_a196_72 : pm_as (pm_cd pm_mm196) 72 = some (.iinc 2 (-1), 3) := by decide +kernel
theorem pm_a196_75 : pm_as (pm_cd pm_mm196) 75 = some (.goto 75, 3) := by decide +kernel
theorem pm_a196_78 : pm_as (pm_cd pm_mm196) 78 = some (.aload_n 0, 1) := by decide +kernel
theorem pm_a196_79 : pm_as (pm_cd pm_mm196) 79 = some (.iload_n 3, 1) := by decide +kernel
theorem pm_a196_80 : pm_as (pm_cd pm_mm196) 80 = some (.iconst 1, 1) := by decide +kernel
theorem pm_a196_81 : pm_as (pm_cd pm_mm196) 81 = some (.iadd, 1) := by decide +kernel
theorem pm_a196_82 : pm_as (pm_cd pm_mm196) 82 = some (.invokevirtual 222, 3) := by decide +kernel
theorem pm_a196_85 : pm_as (pm_cd pm_mm196) 85 = some (.istore 5, 2) := by decide +kernel
theorem pm_a196_87 : pm_as (pm_cd pm_mm196) 87 = some (.aload_n 0, 1) := by decide +kernel
theorem pm_a196_88 : pm_as (pm_cd pm_mm196) 88 = some (.getfield 19, 3) := by decide +kernel
theorem pm_a196_91 : pm_as (pm_cd pm_mm196) 91 = some (.iload 5, 2) := by decide +kernel
theorem pm_a196_93 : pm_as (pm_cd pm_mm196) 93 = some (.iaload, 1) := by decide +kernel
theorem pm_a196_94 : pm_as (pm_cd pm_mm196) 94 = some (.bipush 10, 2) := by decide +kernel
theorem pm_a196_96 : pm_as (pm_cd pm_mm196) 96 = some (.if_icmp .ne 33, 3) := by decide +kernel
theorem pm_a196_99 : pm_as (pm_cd pm_mm196) 99 = some (.aload_n 0, 1) := by decide +kernel
theorem pm_a196_100 : pm_as (pm_cd pm_mm196) 100 = some (.iload_n 3, 1) := by decide +kernel
theorem pm_a196_101 : pm_as (pm_cd pm_mm196) 101 = some (.iconst 1, 1) := by decide +kernel
theorem pm_a196_102 : pm_as (pm_cd pm_mm196) 102 = some (.iadd, 1) := by decide +kernel
theorem pm_a196_103 : pm_as (pm_cd pm_mm196) 103 = some (.iload 5, 2) := by decide +kernel
theorem pm_a196_105 : pm_as (pm_cd pm_mm196) 105 = some (.invokevirtual 287, 3) := by decide +kernel
theorem pm_a196_108 : pm_as (pm_cd pm_mm196) 108 = some (.ifCond .ne 21, 3) := by decide +kernel
theorem pm_a196_111 : pm_as (pm_cd pm_mm196) 111 = some (.aload_n 0, 1) := by decide +kernel
theorem pm_a196_112 : pm_as (pm_cd pm_mm196) 112 = some (.iload_n 3, 1) := by decide +kernel
theorem pm_a196_113 : pm_as (pm_cd pm_mm196) 113 = some (.iconst 1, 1) := by decide +kernel
theorem pm_a196_114 : pm_as (pm_cd pm_mm196) 114 = some (.iadd, 1) := by decide +kernel
theorem pm_a196_115 : pm_as (pm_cd pm_mm196) 115 = some (.iload 5, 2) := by decide +kernel
theorem pm_a196_117 : pm_as (pm_cd pm_mm196) 117 = some (.invokevirtual 291, 3) := by decide +kernel
theorem pm_a196_120 : pm_as (pm_cd pm_mm196) 120 = some (.iload 4, 2) := by decide +kernel
theorem pm_a196_122 : pm_as (pm_cd pm_mm196) 122 = some (.istore_n 3, 1) := by decide +kernel
theorem pm_a196_123 : pm_as (pm_cd pm_mm196) 123 = some (.iinc 2 (-1), 3) := by decide +kernel
theorem pm_a196_126 : pm_as (pm_cd pm_mm196) 126 = some (.goto 24, 3) := by decide +kernel
theorem pm_a196_129 : pm_as (pm_cd pm_mm196) 129 = some (.aload_n 0, 1) := by decide +kernel
theorem pm_a196_130 : pm_as (pm_cd pm_mm196) 130 = some (.iconst 0, 1) := by decide +kernel
theorem pm_a196_131 : pm_as (pm_cd pm_mm196) 131 = some (.invokevirtual 252, 3) := by decide +kernel
theorem pm_a196_134 : pm_as (pm_cd pm_mm196) 134 = some (.aload_n 0, 1) := by decide +kernel
theorem pm_a196_135 : pm_as (pm_cd pm_mm196) 135 = some (.iconst 0, 1) := by decide +kernel
theorem pm_a196_136 : pm_as (pm_cd pm_mm196) 136 = some (.invokevirtual 252, 3) := by decide +kernel
theorem pm_a196_139 : pm_as (pm_cd pm_mm196) 139 = some (.aload_n 0, 1) := by decide +kernel
theorem pm_a196_140 : pm_as (pm_cd pm_mm196) 140 = some (.iconst 2, 1) := by decide +kernel
theorem pm_a196_141 : pm_as (pm_cd pm_mm196) 141 = some (.invokevirtual 252, 3) := by decide +kernel
theorem pm_a196_144 : pm_as (pm_cd pm_mm196) 144 = some (.iinc 3 1, 3) := by decide +kernel
theorem pm_a196_147 : pm_as (pm_cd pm_mm196) 147 = some (.iinc 2 1, 3) := by decide +kernel
theorem pm_a196_150 : pm_as (pm_cd pm_mm196) 150 = some (.goto (-144), 3) := by decide +kernel
theorem pm_a196_153 : pm_as (pm_cd pm_mm196) 153 = some (.return_, 1) := by decide +kernel
theorem pm_a197_0 : pm_as (pm_cd pm_mm197) 0 = some (.iload_n 1, 1) := by decide +kernel
theorem pm_a197_1 : pm_as (pm_cd pm_mm197) 1 = some (.istore_n 3, 1) := by decide +kernel
theorem pm_a197_2 : pm_as (pm_cd pm_mm197) 2 = some (.iload_n 3, 1) := by decide +kernel
theorem pm_a197_3 : pm_as (pm_cd pm_mm197) 3 = some (.iload_n 2, 1) := by decide +kernel
theorem pm_a197_4 : pm_as (pm_cd pm_mm197) 4 = some (.if_icmp .ge 22, 3) := by decide +kernel
theorem pm_a197_7 : pm_as (pm_cd pm_mm197) 7 = some (.aload_n 0, 1) := by decide +kernel
theorem pm_a197_8 : pm_as (pm_cd pm_mm197) 8 = some (.getfield 19, 3) := by decide +kernel
theorem pm_a197_11 : pm_as (pm_cd pm_mm197) 11 = some (.iload_n 3, 1) := by decide +kernel
theorem pm_a197_12 : pm_as (pm_cd pm_mm197) 12 = some (.iaload, 1) := by decide +kernel
theorem pm_a197_13 : pm_as (pm_cd pm_mm197) 13 = some (.bipush 10, 2) := by decide +kernel
theorem pm_a197_15 : pm_as (pm_cd pm_mm197) 15 = some (.if_icmp .ne 5, 3) := by decide +kernel
theorem pm_a197_18 : pm_as (pm_cd pm_mm197) 18 = some (.iconst 1, 1) := by decide +kernel
theorem pm_a197_19 : pm_as (pm_cd pm_mm197) 19 = some (.ireturn, 1) := by decide +kernel
theorem pm_a197_20 : pm_as (pm_cd pm_mm197) 20 = some (.iinc 3 1, 3) := by decide +kernel
theorem pm_a197_23 : pm_as (pm_cd pm_mm197) 23 = some (.goto (-21), 3) := by decide +kernel
theorem pm_a197_26 : pm_as (pm_cd pm_mm197) 26 = some (.iconst 0, 1) := by decide +kernel
theorem pm_a197_27 : pm_as (pm_cd pm_mm197) 27 = some (.ireturn, 1) := by decide +kernel
theorem pm_a198_0 : pm_as (pm_cd pm_mm198) 0 = some (.iload_n 1, 1) := by decide +kernel
theorem pm_a198_1 : pm_as (pm_cd pm_mm198) 1 = some (.istore_n 3, 1) := by decide +kernel
theorem pm_a198_2 : pm_as (pm_cd pm_mm198) 2 = some (.iload_n 3, 1) := by decide +kernel
theorem pm_a198_3 : pm_as (pm_cd pm_mm198) 3 = some (.iload_n 2, 1) := by decide +kernel
theorem pm_a198_4 : pm_as (pm_cd pm_mm198) 4 = some (.if_icmp .ge 41, 3) := by decide +kernel
theorem pm_a198_7 : pm_as (pm_cd pm_mm198) 7 = some (.aload_n 0, 1) := by decide +kernel
theorem pm_a198_8 : pm_as (pm_cd pm_mm198) 8 = some (.aload_n 0, 1) := by decide +kernel
theorem pm_a198_9 : pm_as (pm_cd pm_mm198) 9 = some (.getfield 19, 3) := by decide +kernel
theorem pm_a198_12 : pm_as (pm_cd pm_mm198) 12 = some (.iload_n 3, 1) := by decide +kernel
theorem pm_a198_13 : pm_as (pm_cd pm_mm198) 13 = some (.iaload, 1) := by decide +kernel
theorem pm_a198_14 : pm_as (pm_cd pm_mm198) 14 = some (.bipush 9, 2) := by decide +kernel
theorem pm_a198_16 : pm_as (pm_cd pm_mm198) 16 = some (.if_icmp .le 14, 3) := by decide +kernel
theorem pm_a198_19 : pm_as (pm_cd pm_mm198) 19 = some (.aload_n 0, 1) := by decide +kernel
theorem pm_a198_20 : pm_as (pm_cd pm_mm198) 20 = some (.getfield 19, 3) := by decide +kernel
theorem pm_a198_23 : pm_as (pm_cd pm_mm198) 23 = some (.iload_n 3, 1) := by decide +kernel
theorem pm_a198_24 : pm_as (pm_cd pm_mm198) 24 = some (.iaload, 1) := by decide +kernel
theorem pm_a198_25 : pm_as (pm_cd pm_mm198) 25 = some (.iconst 1, 1) := by decide +kernel
theorem pm_a198_26 : pm_as (pm_cd pm_mm198) 26 = some (.isub, 1) := by decide +kernel
theorem pm_a198_27 : pm_as (pm_cd pm_mm198) 27 = some (.goto 9, 3) := by decide +kernel
theorem pm_a198_30 : pm_as (pm_cd pm_mm198) 30 = some (.aload_n 0, 1) := by decide +kernel
theorem pm_a198_31 : pm_as (pm_cd pm_mm198) 31 = some (.getfield 19, 3) := by decide +kernel
theorem pm_a198_34 : pm_as (pm_cd pm_mm198) 34 = some (.iload_n 3, 1) := by decide +kernel
theorem pm_a198_35 : pm_as (pm_cd pm_mm198) 35 = some (.iaload, 1) := by decide +kernel
theorem pm_a198_36 : pm_as (pm_cd pm_mm198) 36 = some (.invokevirtual 252, 3) := by decide +kernel
theorem pm_a198_39 : pm_as (pm_cd pm_mm198) 39 = some (.iinc 3 1, 3) := by decide +kernel
theorem pm_a198_42 : pm_as (pm_cd pm_mm198) 42 = some (.goto (-40), 3) := by decide +kernel
theorem pm_a198_45 : pm_as (pm_cd pm_mm198) 45 = some (.return_, 1) := by decide +kernel
theorem pm_a199_0 : pm_as (pm_cd pm_mm199) 0 = some (.aload_n 0, 1) := by decide +kernel
theorem pm_a199_1 : pm_as (pm_cd pm_mm199) 1 = some (.iload_n 1, 1) := by decide +kernel
theorem pm_a199_2 : pm_as (pm_cd pm_mm199) 2 = some (.invokevirtual 213, 3) := by decide +kernel
theorem pm_a199_5 : pm_as (pm_cd pm_mm199) 5 = some (.ifCond .ne 5, 3) := by decide +kernel
theorem pm_a199_8 : pm_as (pm_cd pm_mm199) 8 = some (.iconst (-1), 1) := by decide +kernel
theorem pm_a199_9 : pm_as (pm_cd pm_mm199) 9 = some (.ireturn, 1) := by decide +kernel
theorem pm_a199_10 : pm_as (pm_cd pm_mm199) 10 = some (.aload_n 0, 1) := by decide +kernel
theorem pm_a199_11 : pm_as (pm_cd pm_mm199) 11 = some (.iload_n 1, 1) := by decide +kernel
theorem pm_a199_12 : pm_as (pm_cd pm_mm199) 12 = some (.invokevirtual 231, 3) := by decide +kernel
theorem pm_a199_15 : pm_as (pm_cd pm_mm199) 15 = some (.aload_n 0, 1) := by decide +kernel
theorem pm_a199_16 : pm_as (pm_cd pm_mm199) 16 = some (.invokevirtual 301, 3) := by decide +kernel
theorem pm_a199_19 : pm_as (pm_cd pm_mm199) 19 = some (.ireturn, 1) := by decide +kernel
theorem pm_a200_0 : pm_as (pm_cd pm_mm200) 0 = some (.aload_n 0, 1) := by decide +kernel
theorem pm_a200_1 : pm_as (pm_cd pm_mm200) 1 = some (.getfield 117, 3) := by decide +kernel
theorem pm_a200_4 : pm_as (pm_cd pm_mm200) 4 = some (.iconst 2, 1) := by decide +kernel
theorem pm_a200_5 : pm_as (pm_cd pm_mm200) 5 = some (.if_icmp .ne 26, 3) := by decide +kernel
theorem pm_a200_8 : pm_as (pm_cd pm_mm200) 8 = some (.aload_n 0, 1) := by decide +kernel
theorem pm_a200_9 : pm_as (pm_cd pm_mm200) 9 = some (.getfield 19, 3) := by decide +kernel
theorem pm_a200_12 : pm_as (pm_cd pm_mm200) 12 = some (.iconst 0, 1) := by decide +kernel
theorem pm_a200_13 : pm_as (pm_cd pm_mm200) 13 = some (.iaload, 1) := by decide +kernel
theorem pm_a200_14 : pm_as (pm_cd pm_mm200) 14 = some (.iconst 1, 1) := by decide +kernel
theorem pm_a200_15 : pm_as (pm_cd pm_mm200) 15 = some (.if_icmp .ne 16, 3) := by decide +kernel
theorem pm_a200_18 : pm_as (pm_cd pm_mm200) 18 = some (.aload_n 0, 1) := by decide +kernel
theorem pm_a200_19 : pm_as (pm_cd pm_mm200) 19 = some (.getfield 19, 3) := by decide +kernel
theorem pm_a200_22 : pm_as (pm_cd pm_mm200) 22 = some (.iconst 1, 1) := by decide +kernel
theorem pm_a200_23 : pm_as (pm_cd pm_mm200) 23 = some (.iaload, 1) := by decide +kernel
theorem pm_a200_24 : pm_as (pm_cd pm_mm200) 24 = some (.bipush 10, 2) := by decide +kernel
theorem pm_a200_26 : pm_as (pm_cd pm_mm200) 26 = some (.if_icmp .ne 5, 3) := by decide +kernel
theorem pm_a200_29 : pm_as (pm_cd pm_mm200) 29 = some (.iconst 1, 1) := by decide +kernel
theorem pm_a200_30 : pm_as (pm_cd pm_mm200) 30 = some (.ireturn, 1) := by decide +kernel
theorem pm_a200_31 : pm_as (pm_cd pm_mm200) 31 = some (.aload_n 0, 1) := by decide +kernel
theorem pm_a200_32 : pm_as (pm_cd pm_mm200) 32 = some (.getfield 117, 3) := by decide +kernel
theorem pm_a200_35 : pm_as (pm_cd pm_mm200) 35 = some (.iconst 2, 1) := by decide +kernel
theorem pm_a200_36 : pm_as (pm_cd pm_mm200) 36 = some (.if_icmp .le 27, 3) := by decide +kernel
theorem pm_a200_39 : pm_as (pm_cd pm_mm200) 39 = some (.aload_n 0, 1) := by decide +kernel
theorem pm_a200_40 : pm_as (pm_cd pm_mm200) 40 = some (.getfield 19, 3) := by decide +kernel
theorem pm_a200_43 : pm_as (pm_cd pm_mm200) 43 = some (.iconst 0, 1) := by decide +kernel
theorem pm_a200_44 : pm_as (pm_cd pm_mm200) 44 = some (.iaload, 1) := by decide +kernel
theorem pm_a200_45 : pm_as (pm_cd pm_mm200) 45 = some (.iconst 1, 1) := by decide +kernel
theorem pm_a200_46 : pm_as (pm_cd pm_mm200) 46 = some (.if_icmp .ne 17, 3) := by decide +kernel
theorem pm_a200_49 : pm_as (pm_cd pm_mm200) 49 = some (.aload_n 0, 1) := by decide +kernel
theorem pm_a200_50 : pm_as (pm_cd pm_mm200) 50 = some (.getfield 19, 3) := by decide +kernel
theorem pm_a200_53 : pm_as (pm_cd pm_mm200) 53 = some (.iconst 1, 1) := by decide +kernel
theorem pm_a200_54 : pm_as (pm_cd pm_mm200) 54 = some (.iaload, 1) := by decide +kernel
theorem pm_a200_55 : pm_as (pm_cd pm_mm200) 55 = some (.iconst 1, 1) := by decide +kernel
theorem pm_a200_56 : pm_as (pm_cd pm_mm200) 56 = some (.if_icmp .ne 7, 3) := by decide +kernel
theorem pm_a200_59 : pm_as (pm_cd pm_mm200) 59 = some (.iconst 1, 1) := by decide +kernel
theorem pm_a200_60 : pm_as (pm_cd pm_mm200) 60 = some (.goto 4, 3) := by decide +kernel
theorem pm_a200_63 : pm_as (pm_cd pm_mm200) 63 = some (.iconst 0, 1) := by decide +kernel
theorem pm_a200_64 : pm_as (pm_cd pm_mm200) 64 = some (.istore_n 1, 1) := by decide +kernel
theorem pm_a200_65 : pm_as (pm_cd pm_mm200) 65 = some (.iload_n 1, 1) := by decide +kernel
theorem pm_a200_66 : pm_as (pm_cd pm_mm200) 66 = some (.ifCond .eq 7, 3) := by decide +kernel
theorem pm_a200_69 : pm_as (pm_cd pm_mm200) 69 = some (.iconst 2, 1) := by decide +kernel
theorem pm_a200_70 : pm_as (pm_cd pm_mm200) 70 = some (.goto 4, 3) := by decide +kernel
theorem pm_a200_73 : pm_as (pm_cd pm_mm200) 73 = some (.iconst 0, 1) := by decide +kernel
theorem pm_a200_74 : pm_as (pm_cd pm_mm200) 74 = some (.istore_n 2, 1) := by decide +kernel
theorem pm_a200_75 : pm_as (pm_cd pm_mm200) 75 = some (.iconst 0, 1) := by decide +kernel
theorem pm_a200_76 : pm_as (pm_cd pm_mm200) 76 = some (.istore_n 3, 1) := by decide +kernel
theorem pm_a200_77 : pm_as (pm_cd pm_mm200) 77 = some (.iload_n 2, 1) := by decide +kernel
theorem pm_a200_78 : pm_as (pm_cd pm_mm200) 78 = some (.iconst 2, 1) := by decide +kernel
theorem pm_a200_79 : pm_as (pm_cd pm_mm200) 79 = some (.iadd, 1) := by decide +kernel
theorem pm_a200_80 : pm_as (pm_cd pm_mm200) 80 = some (.aload_n 0, 1) := by decide +kernel
theorem pm_a200_81 : pm_as (pm_cd pm_mm200) 81 = some (.getfield 117, 3) := by decide +kernel
theorem pm_a200_84 : pm_as (pm_cd pm_mm200) 84 = some (.if_icmp .ge 42, 3) := by decide +kernel
theorem pm_a200_87 : pm_as (pm_cd pm_mm200) 87 = some (.aload_n 0, 1) := by decide +kernel
theorem pm_a200_88 : pm_as (pm_cd pm_mm200) 88 = some (.getfield 19, 3) := by decide +kernel
theorem pm_a200_91 : pm_as (pm_cd pm_mm200) 91 = some (.iload_n 2, 1) := by decide +kernel
theorem pm_a200_92 : pm_as (pm_cd pm_mm200) 92 = some (.iaload, 1) := by decide +kernel
theorem pm_a200_93 : pm_as (pm_cd pm_mm200) 93 = some (.ifCond .ne 33, 3) := by decide +kernel
theorem pm_a200_96 : pm_as (pm_cd pm_mm200) 96 = some (.aload_n 0, 1) := by decide +kernel
theorem pm_a200_97 : pm_as (pm_cd pm_mm200) 97 = some (.getfield 19, 3) := by decide +kernel
theorem pm_a200_100 : pm_as (pm_cd pm_mm200) 100 = some (.iload_n 2, 1) := by decide +kernel
theorem pm_a200_101 : pm_as (pm_cd pm_mm200) 101 = some (.iconst 1, 1) := by decide +kernel
theorem pm_a200_102 : pm_as (pm_cd pm_mm200) 102 = some (.iadd, 1) := by decide +kernel
theorem pm_a200_103 : pm_as (pm_cd pm_mm200) 103 = some (.iaload, 1) := by decide +kernel
theorem pm_a200_104 : pm_as (pm_cd pm_mm200) 104 = some (.iload_n 1, 1) := by decide +kernel
theorem pm_a200_105 : pm_as (pm_cd pm_mm200) 105 = some (.ifCond .eq 8, 3) := by decide +kernel
theorem pm_a200_108 : pm_as (pm_cd pm_mm200) 108 = some (.bipush 11, 2) := by decide +kernel
theorem pm_a200_110 : pm_as (pm_cd pm_mm200) 110 = some (.goto 4, 3) := by decide +kernel
theorem pm_a200_113 : pm_as (pm_cd pm_mm200) 113 = some (.iconst 5, 1) := by decide +kernel
theorem pm_a200_114 : pm_as (pm_cd pm_mm200) 114 = some (.if_icmp .ne 12, 3) := by decide +kernel
theorem pm_a200_117 : pm_as (pm_cd pm_mm200) 117 = some (.iinc 2 2, 3) := by decide +kernel
theorem pm_a200_120 : pm_as (pm_cd pm_mm200) 120 = some (.iinc 3 1, 3) := by decide +kernel
theorem pm_a200_123 : pm_as (pm_cd pm_mm200) 123 = some (.goto (-46), 3) := by decide +kernel
theorem pm_a200_126 : pm_as (pm_cd pm_mm200) 126 = some (.iload_n 2, 1) := by decide +kernel
theorem pm_a200_127 : pm_as (pm_cd pm_mm200) 127 = some (.aload_n 0, 1) := by decide +kernel
theorem pm_a200_128 : pm_as (pm_cd pm_mm200) 128 = some (.getfield 117, 3) := by decide +kernel
theorem pm_a200_131 : pm_as (pm_cd pm_mm200) 131 = some (.iconst 1, 1) := by decide +kernel
theorem pm_a200_132 : pm_as (pm_cd pm_mm200) 132 = some (.isub, 1) := by decide +kernel
theorem pm_a200_133 : pm_as (pm_cd pm_mm200) 133 = some (.if_icmp .ne 27, 3) := by decide +kernel
theorem pm_a200_136 : pm_as (pm_cd pm_mm200) 136 = some (.aload_n 0, 1) := by decide +kernel
theorem pm_a200_137 : pm_as (pm_cd pm_mm200) 137 = some (.getfield 19, 3) := by decide +kernel
theorem pm_a200_140 : pm_as (pm_cd pm_mm200) 140 = some (.iload_n 2, 1) := by decide +kernel
theorem pm_a200_141 : pm_as (pm_cd pm_mm200) 141 = some (.iaload, 1) := by decide +kernel
theorem pm_a200_142 : pm_as (pm_cd pm_mm200) 142 = some (.iload_n 1, 1) := by decide +kernel
theorem pm_a200_143 : pm_as (pm_cd pm_mm200) 143 = some (.ifCond .eq 8, 3) := by decide +kernel
theorem pm_a200_146 : pm_as (pm_cd pm_mm200) 146 = some (.bipush 10, 2) := by decide +kernel
theorem pm_a200_148 : pm_as (pm_cd pm_mm200) 148 = some (.goto 5, 3) := by decide +kernel
theorem pm_a200_151 : pm_as (pm_cd pm_mm200) 151 = some (.bipush 6, 2) := by decide +kernel
theorem pm_a200_153 : pm_as (pm_cd pm_mm200) 153 = some (.if_icmp .ne 7, 3) := by decide +kernel
theorem pm_a200_156 : pm_as (pm_cd pm_mm200) 156 = some (.iload_n 3, 1) := by decide +kernel
theorem pm_a200_157 : pm_as (pm_cd pm_mm200) 157 = some (.goto 5, 3) := by decide +kernel
theorem pm_a200_160 : pm_as (pm_cd pm_mm200) 160 = some (.bipush (-4), 2) := by decide +kernel
theorem pm_a200_162 : pm_as (pm_cd pm_mm200) 162 = some (.ireturn, 1) := by decide +kernel
theorem pm_a201_0 : pm_as (pm_cd pm_mm201) 0 = some (.aload_n 0, 1) := by decide +kernel
theorem pm_a201_1 : pm_as (pm_cd pm_mm201) 1 = some (.iload_n 1, 1) := by decide +kernel
theorem pm_a201_2 : pm_as (pm_cd pm_mm201) 2 = some (.invokevirtual 213, 3) := by decide +kernel
theorem pm_a201_5 : pm_as (pm_cd pm_mm201) 5 = some (.ifCond .eq 15, 3) := by decide +kernel
theorem pm_a201_8 : pm_as (pm_cd pm_mm201) 8 = some (.iload_n 2, 1) := by decide +kernel
theorem pm_a201_9 : pm_as (pm_cd pm_mm201) 9 = some (.i2l, 1) := by decide +kernel
theorem pm_a201_10 : pm_as (pm_cd pm_mm201) 10 = some (.lconst 0, 1) := by decide +kernel
theorem pm_a201_11 : pm_as (pm_cd pm_mm201) 11 = some (.ldc2_w 276, 3) := by decide +kernel
theorem pm_a201_14 : pm_as (pm_cd pm_mm201) 14 = some (.invokestatic 113, 3) := by decide +kernel
theorem pm_a201_17 : pm_as (pm_cd pm_mm201) 17 = some (.ifCond .ne 5, 3) := by decide +kernel
theorem pm_a201_20 : pm_as (pm_cd pm_mm201) 20 = some (.iconst (-1), 1) := by decide +kernel
theorem pm_a201_21 : pm_as (pm_cd pm_mm201) 21 = some (.ireturn, 1) := by decide +kernel
theorem pm_a201_22 : pm_as (pm_cd pm_mm201) 22 = some (.aload_n 0, 1) := by decide +kernel
theorem pm_a201_23 : pm_as (pm_cd pm_mm201) 23 = some (.getfield 7, 3) := by decide +kernel
theorem pm_a201_26 : pm_as (pm_cd pm_mm201) 26 = some (.iload_n 1, 1) := by decide +kernel
theorem pm_a201_27 : pm_as (pm_cd pm_mm201) 27 = some (.iaload, 1) := by decide +kernel
theorem pm_a201_28 : pm_as (pm_cd pm_mm201) 28 = some (.iconst 4, 1) := by decide +kernel
theorem pm_a201_29 : pm_as (pm_cd pm_mm201) 29 = some (.iadd, 1) := by decide +kernel
theorem pm_a201_30 : pm_as (pm_cd pm_mm201) 30 = some (.sipush 500, 3) := by decide +kernel
theorem pm_a201_33 : pm_as (pm_cd pm_mm201) 33 = some (.if_icmp .le 6, 3) := by decide +kernel
theorem pm_a201_36 : pm_as (pm_cd pm_mm201) 36 = some (.bipush (-3), 2) := by decide +kernel
theorem pm_a201_38 : pm_as (pm_cd pm_mm201) 38 = some (.ireturn, 1) := by decide +kernel
theorem pm_a201_39 : pm_as (pm_cd pm_mm201) 39 = some (.aload_n 0, 1) := by decide +kernel
theorem pm_a201_40 : pm_as (pm_cd pm_mm201) 40 = some (.iconst 0, 1) := by decide +kernel
theorem pm_a201_41 : pm_as (pm_cd pm_mm201) 41 = some (.putfield 117, 3) := by decide +kernel
theorem pm_a201_44 : pm_as (pm_cd pm_mm201) 44 = some (.aload_n 0, 1) := by decide +kernel
theorem pm_a201_45 : pm_as (pm_cd pm_mm201) 45 = some (.iconst 0, 1) := by decide +kernel
theorem pm_a201_46 : pm_as (pm_cd pm_mm201) 46 = some (.invokevirtual 173, 3) := by decide +kernel
theorem pm_a201_49 : pm_as (pm_cd pm_mm201) 49 = some (.aload_n 0, 1) := by decide +kernel
theorem pm_a201_50 : pm_as (pm_cd pm_mm201) 50 = some (.iconst 0, 1) := by decide +kernel
theorem pm_a201_51 : pm_as (pm_cd pm_mm201) 51 = some (.invokevirtual 173, 3) := by decide +kernel
theorem pm_a201_54 : pm_as (pm_cd pm_mm201) 54 = some (.iconst 0, 1) := by decide +kernel
theorem pm_a201_55 : pm_as (pm_cd pm_mm201) 55 = some (.istore_n 3, 1) := by decide +kernel
theorem pm_a201_56 : pm_as (pm_cd pm_mm201) 56 = some (.iload_n 3, 1) := by decide +kernel
theorem pm_a201_57 : pm_as (pm_cd pm_mm201) 57 = some (.aload_n 0, 1) := by decide +kernel
theorem pm_a201_58 : pm_as (pm_cd pm_mm201) 58 = some (.getfield 7, 3) := by decide +kernel
theorem pm_a201_61 : pm_as (pm_cd pm_mm201) 61 = some (.iload_n 1, 1) := by decide +kernel
theorem pm_a201_62 : pm_as (pm_cd pm_mm201) 62 = some (.iaload, 1) := by decide +kernel
theorem pm_a201_63 : pm_as (pm_cd pm_mm201) 63 = some (.if_icmp .ge 25, 3) := by decide +kernel
theorem pm_a201_66 : pm_as (pm_cd pm_mm201) 66 = some (.aload_n 0, 1) := by decide +kernel
theorem pm_a201_67 : pm_as (pm_cd pm_mm201) 67 = some (.aload_n 0, 1) := by decide +kernel
theorem pm_a201_68 : pm_as (pm_cd pm_mm201) 68 = some (.getfield 13, 3) := by decide +kernel
theorem pm_a201_71 : pm_as (pm_cd pm_mm201) 71 = some (.sipush 500, 3) := by decide +kernel
theorem pm_a201_74 : pm_as (pm_cd pm_mm201) 74 = some (.iload_n 1, 1) := by decide +kernel
theorem pm_a201_75 : pm_as (pm_cd pm_mm201) 75 = some (.imul, 1) := by decide +kernel
theorem pm_a201_76 : pm_as (pm_cd pm_mm201) 76 = some (.iload_n 3, 1) := by decide +kernel
theorem pm_a201_77 : pm_as (pm_cd pm_mm201) 77 = some (.iadd, 1) := by decide +kernel
theorem pm_a201_78 : pm_as (pm_cd pm_mm201) 78 = some (.iaload, 1) := by decide +kernel
theorem pm_a201_79 : pm_as (pm_cd pm_mm201) 79 = some (.invokevirtual 173, 3) := by decide +kernel
theorem pm_a201_82 : pm_as (pm_cd pm_mm201) 82 = some (.iinc 3 1, 3) := by decide +kernel
theorem pm_a201_85 : pm_as (pm_cd pm_mm201) 85 = some (.goto (-29), 3) := by decide +kernel
theorem pm_a201_88 : pm_as (pm_cd pm_mm201) 88 = some (.aload_n 0, 1) := by decide +kernel
theorem pm_a201_89 : pm_as (pm_cd pm_mm201) 89 = some (.iconst 5, 1) := by decide +kernel
theorem pm_a201_90 : pm_as (pm_cd pm_mm201) 90 = some (.invokevirtual 173, 3) := by decide +kernel
theorem pm_a201_93 : pm_as (pm_cd pm_mm201) 93 = some (.aload_n 0, 1) := by decide +kernel
theorem pm_a201_94 : pm_as (pm_cd pm_mm201) 94 = some (.bipush 6, 2) := by decide +kernel
theorem pm_a201_96 : pm_as (pm_cd pm_mm201) 96 = some (.invokevirtual 173, 3) := by decide +kernel
theorem pm_a201_99 : pm_as (pm_cd pm_mm201) 99 = some (.iconst 1, 1) := by decide +kernel
theorem pm_a201_100 : pm_as (pm_cd pm_mm201) 100 = some (.istore_n 3, 1) := by decide +kernel
theorem pm_a201_101 : pm_as (pm_cd pm_mm201) 101 = some (.iconst 0, 1) := by decide +kernel
theorem pm_a201_102 : pm_as (pm_cd pm_mm201) 102 = some (.istore 4, 2) := by decide +kernel
theorem pm_a201_104 : pm_as (pm_cd pm_mm201) 104 = some (.iload 4, 2) := by decide +kernel
theorem pm_a201_106 : pm_as (pm_cd pm_mm201) 106 = some (.iload_n 2, 1) := by decide +kernel
theorem pm_a201_107 : pm_as (pm_cd pm_mm201) 107 = some (.if_icmp .ge 20, 3) := by decide +kernel
theorem pm_a201_110 : pm_as (pm_cd pm_mm201) 110 = some (.iload_n 3, 1) := by decide +kernel
theorem pm_a201_111 : pm_as (pm_cd pm_mm201) 111 = some (.iconst 1, 1) := by decide +kernel
theorem pm_a201_112 : pm_as (pm_cd pm_mm201) 112 = some (.if_icmp .ne 15, 3) := by decide +kernel
theorem pm_a201_115 : pm_as (pm_cd pm_mm201) 115 = some (.aload_n 0, 1) := by decide +kernel
theorem pm_a201_116 : pm_as (pm_cd pm_mm201) 116 = some (.iconst 0, 1) := by decide +kernel
theorem pm_a201_117 : pm_as (pm_cd pm_mm201) 117 = some (.invokevirtual 273, 3) := by decide +kernel
theorem pm_a201_120 : pm_as (pm_cd pm_mm201) 120 = some (.istore_n 3, 1) := by decide +kernel
theorem pm_a201_121 : pm_as (pm_cd pm_mm201) 121 = some (.iinc 4 1, 3) := by decide +kernel
theorem pm_a201_124 : pm_as (pm_cd pm_mm201) 124 = some (.goto (-20), 3) := by decide +kernel
theorem pm_a201_127 : pm_as (pm_cd pm_mm201) 127 = some (.iload_n 3, 1) := by decide +kernel
theorem pm_a201_128 : pm_as (pm_cd pm_mm201) 128 = some (.bipush (-3), 2) := by decide +kernel
theorem pm_a201_130 : pm_as (pm_cd pm_mm201) 130 = some (.if_icmp .ne 6, 3) := by decide +kernel
theorem pm_a201_133 : pm_as (pm_cd pm_mm201) 133 = some (.bipush (-3), 2) := by decide +kernel
theorem pm_a201_135 : pm_as (pm_cd pm_mm201) 135 = some (.ireturn, 1) := by decide +kernel
theorem pm_a201_136 : pm_as (pm_cd pm_mm201) 136 = some (.aload_n 0, 1) := by decide +kernel
theorem pm_a201_137 : pm_as (pm_cd pm_mm201) 137 = some (.invokevirtual 284, 3) := by decide +kernel
theorem pm_a201_140 : pm_as (pm_cd pm_mm201) 140 = some (.ifCond .le 8, 3) := by decide +kernel
theorem pm_a201_143 : pm_as (pm_cd pm_mm201) 143 = some (.bipush (-2), 2) := by decide +kernel
theorem pm_a201_145 : pm_as (pm_cd pm_mm201) 145 = some (.goto 7, 3) := by decide +kernel
theorem pm_a201_148 : pm_as (pm_cd pm_mm201) 148 = some (.aload_n 0, 1) := by decide +kernel
theorem pm_a201_149 : pm_as (pm_cd pm_mm201) 149 = some (.invokevirtual 301, 3) := by decide +kernel
theorem pm_a201_152 : pm_as (pm_cd pm_mm201) 152 = some (.ireturn, 1) := by decide +kernel
theorem pm_a202_0 : pm_as (pm_cd pm_mm202) 0 = some (.aload_n 0, 1) := by decide +kernel
theorem pm_a202_1 : pm_as (pm_cd pm_mm202) 1 = some (.iload_n 1, 1) := by decide +kernel
theorem pm_a202_2 : pm_as (pm_cd pm_mm202) 2 = some (.invokevirtual 213, 3) := by decide +kernel
theorem pm_a202_5 : pm_as (pm_cd pm_mm202) 5 = some (.ifCond .ne 5, 3) := by decide +kernel
theorem pm_a202_8 : pm_as (pm_cd pm_mm202) 8 = some (.iconst (-1), 1) := by decide +kernel
theorem pm_a202_9 : pm_as (pm_cd pm_mm202) 9 = some (.ireturn, 1) := by decide +kernel
theorem pm_a202_10 : pm_as (pm_cd pm_mm202) 10 = some (.aload_n 0, 1) := by decide +kernel
theorem pm_a202_11 : pm_as (pm_cd pm_mm202) 11 = some (.iload_n 1, 1) := by decide +kernel
theorem pm_a202_12 : pm_as (pm_cd pm_mm202) 12 = some (.invokevirtual 231, 3) := by decide +kernel
theorem pm_a202_15 : pm_as (pm_cd pm_mm202) 15 = some (.aload_n 0, 1) := by decide +kernel
theorem pm_a202_16 : pm_as (pm_cd pm_mm202) 16 = some (.invokevirtual 323, 3) := by decide +kernel
theorem pm_a202_19 : pm_as (pm_cd pm_mm202) 19 = some (.istore_n 2, 1) := by decide +kernel
theorem pm_a202_20 : pm_as (pm_cd pm_mm202) 20 = some (.aload_n 0, 1) := by decide +kernel
theorem pm_a202_21 : pm_as (pm_cd pm_mm202) 21 = some (.invokevirtual 326, 3) := by decide +kernel
theorem pm_a202_24 : pm_as (pm_cd pm_mm202) 24 = some (.ifCond .ne 6, 3) := by decide +kernel
theorem pm_a202_27 : pm_as (pm_cd pm_mm202) 27 = some (.bipush (-4), 2) := by decide +kernel
theorem pm_a202_29 : pm_as (pm_cd pm_mm202) 29 = some (.ireturn, 1) := by decide +kernel
theorem pm_a202_30 : pm_as (pm_cd pm_mm202) 30 = some (.aload_n 0, 1) := by decide +kernel
theorem pm_a202_31 : pm_as (pm_cd pm_mm202) 31 = some (.iload_n 2, 1) := by decide +kernel
theorem pm_a202_32 : pm_as (pm_cd pm_mm202) 32 = some (.invokevirtual 329, 3) := by decide +kernel
theorem pm_a202_35 : pm_as (pm_cd pm_mm202) 35 = some (.istore_n 3, 1) := by decide +kernel
theorem pm_a202_36 : pm_as (pm_cd pm_mm202) 36 = some (.iload_n 3, 1) := by decide +kernel
theorem pm_a202_37 : pm_as (pm_cd pm_mm202) 37 = some (.bipush (-3), 2) := by decide +kernel
theorem pm_a202_39 : pm_as (pm_cd pm_mm202) 39 = some (.if_icmp .eq 37, 3) := by decide +kernel
theorem pm_a202_42 : pm_as (pm_cd pm_mm202) 42 = some (.aload_n 0, 1) := by decide +kernel
theorem pm_a202_43 : pm_as (pm_cd pm_mm202) 43 = some (.iload_n 3, 1) := by decide +kernel
theorem pm_a202_44 : pm_as (pm_cd pm_mm202) 44 = some (.putfield 332, 3) := by decide +kernel
theorem pm_a202_47 : pm_as (pm_cd pm_mm202) 47 = some (.iconst 0, 1) := by decide +kernel
theorem pm_a202_48 : pm_as (pm_cd pm_mm202) 48 = some (.istore 4, 2) := by decide +kernel
theorem pm_a202_50 : pm_as (pm_cd pm_mm202) 50 = some (.iload 4, 2) := by decide +kernel
theorem pm_a202_52 : pm_as (pm_cd pm_mm202) 52 = some (.iload_n 3, 1) := by decide +kernel
theorem pm_a202_53 : pm_as (pm_cd pm_mm202) 53 = some (.if_icmp .ge 23, 3) := by decide +kernel
theorem pm_a202_56 : pm_as (pm_cd pm_mm202) 56 = some (.aload_n 0, 1) := by decide +kernel
theorem pm_a202_57 : pm_as (pm_cd pm_mm202) 57 = some (.getfield 93, 3) := by decide +kernel
theorem pm_a202_60 : pm_as (pm_cd pm_mm202) 60 = some (.iload 4, 2) := by decide +kernel
theorem pm_a202_62 : pm_as (pm_cd pm_mm202) 62 = some (.aload_n 0, 1) := by decide +kernel
theorem pm_a202_63 : pm_as (pm_cd pm_mm202) 63 = some (.getfield 96, 3) := by decide +kernel
theorem pm_a202_66 : pm_as (pm_cd pm_mm202) 66 = some (.iload 4, 2) := by decide +kernel
theorem pm_a202_68 : pm_as (pm_cd pm_mm202) 68 = some (.iaload, 1) := by decide +kernel
theorem pm_a202_69 : pm_as (pm_cd pm_mm202) 69 = some (.iastore, 1) := by decide +kernel
theorem pm_a202_70 : pm_as (pm_cd pm_mm202) 70 = some (.iinc 4 1, 3) := by decide +kernel
theorem pm_a202_73 : pm_as (pm_cd pm_mm202) 73 = some (.goto (-23), 3) := by decide +kernel
theorem pm_a202_76 : pm_as (pm_cd pm_mm202) 76 = some (.iload_n 3, 1) := by decide +kernel
theorem pm_a202_77 : pm_as (pm_cd pm_mm202) 77 = some (.ireturn, 1) := by decide +kernel
theorem pm_a203_0 : pm_as (pm_cd pm_mm203) 0 = some (.aload_n 0, 1) := by decide +kernel
theorem pm_a203_1 : pm_as (pm_cd pm_mm203) 1 = some (.iconst 0, 1) := by decide +kernel
theorem pm_a203_2 : pm_as (pm_cd pm_mm203) 2 = some (.putfield 304, 3) := by decide +kernel
theorem pm_a203_5 : pm_as (pm_cd pm_mm203) 5 = some (.aload_n 0, 1) := by decide +kernel
theorem pm_a203_6 : pm_as (pm_cd pm_mm203) 6 = some (.invokevirtual 307, 3) := by decide +kernel
theorem pm_a203_9 : pm_as (pm_cd pm_mm203) 9 = some (.istore_n 1, 1) := by decide +kernel
theorem pm_a203_10 : pm_as (pm_cd pm_mm203) 10 = some (.aload_n 0, 1) := by decide +kernel
theorem pm_a203_11 : pm_as (pm_cd pm_mm203) 11 = some (.iconst 0, 1) := by decide +kernel
theorem pm_a203_12 : pm_as (pm_cd pm_mm203) 12 = some (.invokevirtual 225, 3) := by decide +kernel
theorem pm_a203_15 : pm_as (pm_cd pm_mm203) 15 = some (.iconst 0, 1) := by decide +kernel
theorem pm_a203_16 : pm_as (pm_cd pm_mm203) 16 = some (.istore_n 2, 1) := by decide +kernel
theorem pm_a203_17 : pm_as (pm_cd pm_mm203) 17 = some (.iload_n 2, 1) := by decide +kernel
theorem pm_a203_18 : pm_as (pm_cd pm_mm203) 18 = some (.aload_n 0, 1) := by decide +kernel
theorem pm_a203_19 : pm_as (pm_cd pm_mm203) 19 = some (.getfield 117, 3) := by decide +kernel
theorem pm_a203_22 : pm_as (pm_cd pm_mm203) 22 = some (.if_icmp .ge 84, 3) := by decide +kernel
theorem pm_a203_25 : pm_as (pm_cd pm_mm203) 25 = some (.aload_n 0, 1) := by decide +kernel
theorem pm_a203_26 : pm_as (pm_cd pm_mm203) 26 = some (.getfield 19, 3) := by decide +kernel
theorem pm_a203_29 : pm_as (pm_cd pm_mm203) 29 = some (.iload_n 2, 1) := by decide +kernel
theorem pm_a203_30 : pm_as (pm_cd pm_mm203) 30 = some (.iaload, 1) := by decide +kernel
theorem pm_a203_31 : pm_as (pm_cd pm_mm203) 31 = some (.iconst 1, 1) := by decide +kernel
theorem pm_a203_32 : pm_as (pm_cd pm_mm203) 32 = some (.if_icmp .ne 28, 3) := by decide +kernel
theorem pm_a203_35 : pm_as (pm_cd pm_mm203) 35 = some (.aload_n 0, 1) := by decide +kernel
theorem pm_a203_36 : pm_as (pm_cd pm_mm203) 36 = some (.getfield 87, 3) := by decide +kernel
theorem pm_a203_39 : pm_as (pm_cd pm_mm203) 39 = some (.aload_n 0, 1) := by decide +kernel
theorem pm_a203_40 : pm_as (pm_cd pm_mm203) 40 = some (.getfield 22, 3) := by decide +kernel
theorem pm_a203_43 : pm_as (pm_cd pm_mm203) 43 = some (.iload_n 2, 1) := by decide +kernel
theorem pm_a203_44 : pm_as (pm_cd pm_mm203) 44 = some (.iaload, 1) := by decide +kernel
theorem pm_a203_45 : pm_as (pm_cd pm_mm203) 45 = some (.iload_n 2, 1) := by decide +kernel
theorem pm_a203_46 : pm_as (pm_cd pm_mm203) 46 = some (.iastore, 1) := by decide +kernel
theorem pm_a203_47 : pm_as (pm_cd pm_mm203) 47 = some (.aload_n 0, 1) := by decide +kernel
theorem pm_a203_48 : pm_as (pm_cd pm_mm203) 48 = some (.getfield 84, 3) := by decide +kernel
theorem pm_a203_51 : pm_as (pm_cd pm_mm203) 51 = some (.iload_n 2, 1) := by decide +kernel
theorem pm_a203_52 : pm_as (pm_cd pm_mm203) 52 = some (.aload_n 0, 1) := by decide +kernel
theorem pm_a203_53 : pm_as (pm_cd pm_mm203) 53 = some (.invokevirtual 307, 3) := by decide +kernel
theorem pm_a203_56 : pm_as (pm_cd pm_mm203) 56 = some (.iastore, 1) := by decide +kernel
theorem pm_a203_57 : pm_as (pm_cd pm_mm203) 57 = some (.goto 43, 3) := by decide +kernel
theorem pm_a203_60 : pm_as (pm_cd pm_mm203) 60 = some (.aload_n 0, 1) := by decide +kernel
theorem pm_a203_61 : pm_as (pm_cd pm_mm203) 61 = some (.getfield 19, 3) := by decide +kernel
theorem pm_a203_64 : pm_as (pm_cd pm_mm203) 64 = some (.iload_n 2, 1) := by decide +kernel
theorem pm_a203_65 : pm_as (pm_cd pm_mm203) 65 = some (.iaload, 1) := by decide +kernel
theorem pm_a203_66 : pm_as (pm_cd pm_mm203) 66 = some (.bipush 9, 2) := by decide +kernel
theorem pm_a203_68 : pm_as (pm_cd pm_mm203) 68 = some (.if_icmp .le 32, 3) := by decide +kernel
theorem pm_a203_71 : pm_as (pm_cd pm_mm203) 71 = some (.aload_n 0, 1) := by decide +kernel
theorem pm_a203_72 : pm_as (pm_cd pm_mm203) 72 = some (.getfield 81, 3) := by decide +kernel
theorem pm_a203_75 : pm_as (pm_cd pm_mm203) 75 = some (.iload_n 2, 1) := by decide +kernel
theorem pm_a203_76 : pm_as (pm_cd pm_mm203) 76 = some (.aload_n 0, 1) := by decide +kernel
theorem pm_a203_77 : pm_as (pm_cd pm_mm203) 77 = some (.getfield 87, 3) := by decide +kernel
theorem pm_a203_80 : pm_as (pm_cd pm_mm203) 80 = some (.aload_n 0, 1) := by decide +kernel
theorem pm_a203_81 : pm_as (pm_cd pm_mm203) 81 = some (.getfield 22, 3) := by decide +kernel
theorem pm_a203_84 : pm_as (pm_cd pm_mm203) 84 = some (.iload_n 2, 1) := by decide +kernel
theorem pm_a203_85 : pm_as (pm_cd pm_mm203) 85 = some (.iaload, 1) := by decide +kernel
theorem pm_a203_86 : pm_as (pm_cd pm_mm203) 86 = some (.iconst 1, 1) := by decide +kernel
theorem pm_a203_87 : pm_as (pm_cd pm_mm203) 87 = some (.isub, 1) := by decide +kernel
theorem pm_a203_88 : pm_as (pm_cd pm_mm203) 88 = some (.aload_n 0, 1) := by decide +kernel
theorem pm_a203_89 : pm_as (pm_cd pm_mm203) 89 = some (.getfield 19, 3) := by decide +kernel
theorem pm_a203_92 : pm_as (pm_cd pm_mm203) 92 = some (.iload_n 2, 1) := by decide +kernel
theorem pm_a203_93 : pm_as (pm_cd pm_mm203) 93 = some (.iaload, 1) := by decide +kernel
theorem pm_a203_94 : pm_as (pm_cd pm_mm203) 94 = some (.bipush 10, 2) := by decide +kernel
theorem pm_a203_96 : pm_as (pm_cd pm_mm203) 96 = some (.isub, 1) := by decide +kernel
theorem pm_a203_97 : pm_as (pm_cd pm_mm203) 97 = some (.isub, 1) := by decide +kernel
theorem pm_a203_98 : pm_as (pm_cd pm_mm203) 98 = some (.iaload, 1) := by decide +kernel
theorem pm_a203_99 : pm_as (pm_cd pm_mm203) 99 = some (.iastore, 1) := by decide +kernel
theorem pm_a203_100 : pm_as (pm_cd pm_mm203) 100 = some (.iinc 2 1, 3) := by decide +kernel
theorem pm_a203_103 : pm_as (pm_cd pm_mm203) 103 = some (.goto (-86), 3) := by decide +kernel
theorem pm_a203_106 : pm_as (pm_cd pm_mm203) 106 = some (.iconst 0, 1) := by decide +kernel
theorem pm_a203_107 : pm_as (pm_cd pm_mm203) 107 = some (.istore_n 2, 1) := by decide +kernel
theorem pm_a203_108 : pm_as (pm_cd pm_mm203) 108 = some (.aload_n 0, 1) := by decide +kernel
theorem pm_a203_109 : pm_as (pm_cd pm_mm203) 109 = some (.getfield 117, 3) := by decide +kernel
theorem pm_a203_112 : pm_as (pm_cd pm_mm203) 112 = some (.iconst 1, 1) := by decide +kernel
theorem pm_a203_113 : pm_as (pm_cd pm_mm203) 113 = some (.isub, 1) := by decide +kernel
theorem pm_a203_114 : pm_as (pm_cd pm_mm203) 114 = some (.istore_n 3, 1) := by decide +kernel
theorem pm_a203_115 : pm_as (pm_cd pm_mm203) 115 = some (.iload_n 3, 1) := by decide +kernel
theorem pm_a203_116 : pm_as (pm_cd pm_mm203) 116 = some (.ifCond .lt 147, 3) := by decide +kernel
theorem pm_a203_119 : pm_as (pm_cd pm_mm203) 119 = some (.aload_n 0, 1) := by decide +kernel
theorem pm_a203_120 : pm_as (pm_cd pm_mm203) 120 = some (.getfield 19, 3) := by decide +kernel
theorem pm_a203_123 : pm_as (pm_cd pm_mm203) 123 = some (.iload_n 3, 1) := by decide +kernel
theorem pm_a203_124 : pm_as (pm_cd pm_mm203) 124 = some (.iaload, 1) := by decide +kernel
theorem pm_a203_125 : pm_as (pm_cd pm_mm203) 125 = some (.istore 4, 2) := by decide +kernel
theorem pm_a203_127 : pm_as (pm_cd pm_mm203) 127 = some (.iload 4, 2) := by decide +kernel
theorem pm_a203_129 : pm_as (pm_cd pm_mm203) 129 = some (.ifCond .ne 57, 3) := by decide +kernel
theorem pm_a203_132 : pm_as (pm_cd pm_mm203) 132 = some (.aload_n 0, 1) := by decide +kernel
theorem pm_a203_133 : pm_as (pm_cd pm_mm203) 133 = some (.getfield 90, 3) := by decide +kernel
theorem pm_a203_136 : pm_as (pm_cd pm_mm203) 136 = some (.iload_n 2, 1) := by decide +kernel
theorem pm_a203_137 : pm_as (pm_cd pm_mm203) 137 = some (.iconst 1, 1) := by decide +kernel
theorem pm_a203_138 : pm_as (pm_cd pm_mm203) 138 = some (.isub, 1) := by decide +kernel
theorem pm_a203_139 : pm_as (pm_cd pm_mm203) 139 = some (.iaload, 1) := by decide +kernel
theorem pm_a203_140 : pm_as (pm_cd pm_mm203) 140 = some (.istore 5, 2) := by decide +kernel
theorem pm_a203_142 : pm_as (pm_cd pm_mm203) 142 = some (.aload_n 0, 1) := by decide +kernel
theorem pm_a203_143 : pm_as (pm_cd pm_mm203) 143 = some (.getfield 90, 3) := by decide +kernel
theorem pm_a203_146 : pm_as (pm_cd pm_mm203) 146 = some (.iload_n 2, 1) := by decide +kernel
theorem pm_a203_147 : pm_as (pm_cd pm_mm203) 147 = some (.iconst 2, 1) := by decide +kernel
theorem pm_a203_148 : pm_as (pm_cd pm_mm203) 148 = some (.isub, 1) := by decide +kernel
theorem pm_a203_149 : pm_as (pm_cd pm_mm203) 149 = some (.iaload, 1) := by decide +kernel
theorem pm_a203_150 : pm_as (pm_cd pm_mm203) 150 = some (.istore 6, 2) := by decide +kernel
theorem pm_a203_152 : pm_as (pm_cd pm_mm203) 152 = some (.aload_n 0, 1) := by decide +kernel
theorem pm_a203_153 : pm_as (pm_cd pm_mm203) 153 = some (.invokevirtual 307, 3) := by decide +kernel
theorem pm_a203_156 : pm_as (pm_cd pm_mm203) 156 = some (.istore 7, 2) := by decide +kernel
theorem pm_a203_158 : pm_as (pm_cd pm_mm203) 158 = some (.aload_n 0, 1) := by decide +kernel
theorem pm_a203_159 : pm_as (pm_cd pm_mm203) 159 = some (.iload 5, 2) := by decide +kernel
theorem pm_a203_161 : pm_as (pm_cd pm_mm203) 161 = some (.aload_n 0, 1) := by decide +kernel
theorem pm_a203_162 : pm_as (pm_cd pm_mm203) 162 = some (.iload 6, 2) := by decide +kernel
theorem pm_a203_164 : pm_as (pm_cd pm_mm203) 164 = some (.iload 7, 2) := by decide +kernel
theorem pm_a203_166 : pm_as (pm_cd pm_mm203) 166 = some (.invokevirtual 313, 3) := by decide +kernel
theorem pm_a203_169 : pm_as (pm_cd pm_mm203) 169 = some (.invokevirtual 317, 3) := by decide +kernel
theorem pm_a203_172 : pm_as (pm_cd pm_mm203) 172 = some (.iinc 2 (-2), 3) := by decide +kernel
theorem pm_a203_175 : pm_as (pm_cd pm_mm203) 175 = some (.aload_n 0, 1) := by decide +kernel
theorem pm_a203_176 : pm_as (pm_cd pm_mm203) 176 = some (.getfield 90, 3) := by decide +kernel
theorem pm_a203_179 : pm_as (pm_cd pm_mm203) 179 = some (.iload_n 2, 1) := by decide +kernel
theorem pm_a203_180 : pm_as (pm_cd pm_mm203) 180 = some (.iload 7, 2) := by decide +kernel
theorem pm_a203_182 : pm_as (pm_cd pm_mm203) 182 = some (.iastore, 1) := by decide +kernel
theorem pm_a203_183 : pm_as (pm_cd pm_mm203) 183 = some (.goto 71, 3) := by decide +kernel
theorem pm_a203_186 : pm_as (pm_cd pm_mm203) 186 = some (.iload 4, 2) := by decide +kernel
theorem pm_a203_188 : pm_as (pm_cd pm_mm203) 188 = some (.iconst 1, 1) := by decide +kernel
theorem pm_a203_189 : pm_as (pm_cd pm_mm203) 189 = some (.if_icmp .ne 31, 3) := by decide +kernel
theorem pm_a203_192 : pm_as (pm_cd pm_mm203) 192 = some (.iinc 2 (-1), 3) := by decide +kernel
theorem pm_a203_195 : pm_as (pm_cd pm_mm203) 195 = some (.aload_n 0, 1) := by decide +kernel
theorem pm_a203_196 : pm_as (pm_cd pm_mm203) 196 = some (.getfield 90, 3) := by decide +kernel
theorem pm_a203_199 : pm_as (pm_cd pm_mm203) 199 = some (.iload_n 2, 1) := by decide +kernel
theorem pm_a203_200 : pm_as (pm_cd pm_mm203) 200 = some (.aload_n 0, 1) := by decide +kernel
theorem pm_a203_201 : pm_as (pm_cd pm_mm203) 201 = some (.aload_n 0, 1) := by decide +kernel
theorem pm_a203_202 : pm_as (pm_cd pm_mm203) 202 = some (.getfield 84, 3) := by decide +kernel
theorem pm_a203_205 : pm_as (pm_cd pm_mm203) 205 = some (.iload_n 3, 1) := by decide +kernel
theorem pm_a203_206 : pm_as (pm_cd pm_mm203) 206 = some (.iaload, 1) := by decide +kernel
theorem pm_a203_207 : pm_as (pm_cd pm_mm203) 207 = some (.aload_n 0, 1) := by decide +kernel
theorem pm_a203_208 : pm_as (pm_cd pm_mm203) 208 = some (.getfield 90, 3) := by decide +kernel
theorem pm_a203_211 : pm_as (pm_cd pm_mm203) 211 = some (.iload_n 2, 1) := by decide +kernel
theorem pm_a203_212 : pm_as (pm_cd pm_mm203) 212 = some (.iaload, 1) := by decide +kernel
theorem pm_a203_213 : pm_as (pm_cd pm_mm203) 213 = some (.invokevirtual 313, 3) := by decide +kernel
theorem pm_a203_216 : pm_as (pm_cd pm_mm203) 216 = some (.iastore, 1) := by decide +kernel
theorem pm_a203_217 : pm_as (pm_cd pm_mm203) 217 = some (.goto 37, 3) := by decide +kernel
theorem pm_a203_220 : pm_as (pm_cd pm_mm203) 220 = some (.aload_n 0, 1) := by decide +kernel
theorem pm_a203_221 : pm_as (pm_cd pm_mm203) 221 = some (.getfield 90, 3) := by decide +kernel
theorem pm_a203_224 : pm_as (pm_cd pm_mm203) 224 = some (.iload_n 2, 1) := by decide +kernel
theorem pm_a203_225 : pm_as (pm_cd pm_mm203) 225 = some (.iload 4, 2) := by decide +kernel
theorem pm_a203_227 : pm_as (pm_cd pm_mm203) 227 = some (.bipush 9, 2) := by decide +kernel
theorem pm_a203_229 : pm_as (pm_cd pm_mm203) 229 = some (.if_icmp .le 17, 3) := by decide +kernel
theorem pm_a203_232 : pm_as (pm_cd pm_mm203) 232 = some (.aload_n 0, 1) := by decide +kernel
theorem pm_a203_233 : pm_as (pm_cd pm_mm203) 233 = some (.getfield 84, 3) := by decide +kernel
theorem pm_a203_236 : pm_as (pm_cd pm_mm203) 236 = some (.aload_n 0, 1) := by decide +kernel
theorem pm_a203_237 : pm_as (pm_cd pm_mm203) 237 = some (.getfield 81, 3) := by decide +kernel
theorem pm_a203_240 : pm_as (pm_cd pm_mm203) 240 = some (.iload_n 3, 1) := by decide +kernel
theorem pm_a203_241 : pm_as (pm_cd pm_mm203) 241 = some (.iaload, 1) := by decide +kernel
theorem pm_a203_242 : pm_as (pm_cd pm_mm203) 242 = some (.iaload, 1) := by decide +kernel
theorem pm_a203_243 : pm_as (pm_cd pm_mm203) 243 = some (.goto 10, 3) := by decide +kernel
theorem pm_a203_246 : pm_as (pm_cd pm_mm203) 246 = some (.aload_n 0, 1) := by decide +kernel
theorem pm_a203_247 : pm_as (pm_cd pm_mm203) 247 = some (.iload 4, 2) := by decide +kernel
theorem pm_a203_249 : pm_as (pm_cd pm_mm203) 249 = some (.iload_n 1, 1) := by decide +kernel
theorem pm_a203_250 : pm_as (pm_cd pm_mm203) 250 = some (.invokevirtual 320, 3) := by decide +kernel
theorem pm_a203_253 : pm_as (pm_cd pm_mm203) 253 = some (.iastore, 1) := by decide +kernel
theorem pm_a203_254 : pm_as (pm_cd pm_mm203) 254 = some (.iinc 2 1, 3) := by decide +kernel
theorem pm_a203_257 : pm_as (pm_cd pm_mm203) 257 = some (.iinc 3 (-1), 3) := by decide +kernel
theorem pm_a203_260 : pm_as (pm_cd pm_mm203) 260 = some (.goto (-145), 3) := by decide +kernel
theorem pm_a203_263 : pm_as (pm_cd pm_mm203) 263 = some (.aload_n 0, 1) := by decide +kernel
theorem pm_a203_264 : pm_as (pm_cd pm_mm203) 264 = some (.getfield 90, 3) := by decide +kernel
theorem pm_a203_267 : pm_as (pm_cd pm_mm203) 267 = some (.iconst 0, 1) := by decide +kernel
theorem pm_a203_268 : pm_as (pm_cd pm_mm203) 268 = some (.iaload, 1) := by decide +kernel
theorem pm_a203_269 : pm_as (pm_cd pm_mm203) 269 = some (.ireturn, 1) := by decide +kernel
theorem pm_a204_0 : pm_as (pm_cd pm_mm204) 0 = some (.aload_n 0, 1) := by decide +kernel
theorem pm_a204_1 : pm_as (pm_cd pm_mm204) 1 = some (.getfield 60, 3) := by decide +kernel
theorem pm_a204_4 : pm_as (pm_cd pm_mm204) 4 = some (.aload_n 0, 1) := by decide +kernel
theorem pm_a204_5 : pm_as (pm_cd pm_mm204) 5 = some (.getfield 304, 3) := by decide +kernel
theorem pm_a204_8 : pm_as (pm_cd pm_mm204) 8 = some (.bipush (-4), 2) := by decide +kernel
theorem pm_a204_10 : pm_as (pm_cd pm_mm204) 10 = some (.iastore, 1) := by decide +kernel
theorem pm_a204_11 : pm_as (pm_cd pm_mm204) 11 = some (.aload_n 0, 1) := by decide +kernel
theorem pm_a204_12 : pm_as (pm_cd pm_mm204) 12 = some (.getfield 63, 3) := by decide +kernel
theorem pm_a204_15 : pm_as (pm_cd pm_mm204) 15 = some (.aload_n 0, 1) := by decide +kernel
theorem pm_a204_16 : pm_as (pm_cd pm_mm204) 16 = some (.getfield 304, 3) := by decide +kernel
theorem pm_a204_19 : pm_as (pm_cd pm_mm204) 19 = some (.bipush (-4), 2) := by decide +kernel
theorem pm_a204_21 : pm_as (pm_cd pm_mm204) 21 = some (.iastore, 1) := by decide +kernel
theorem pm_a204_22 : pm_as (pm_cd pm_mm204) 22 = some (.aload_n 0, 1) := by decide +kernel
theorem pm_a204_23 : pm_as (pm_cd pm_mm204) 23 = some (.dup, 1) := by decide +kernel
theorem pm_a204_24 : pm_as (pm_cd pm_mm204) 24 = some (.getfield 304, 3) := by decide +kernel
theorem pm_a204_27 : pm_as (pm_cd pm_mm204) 27 = some (.iconst 1, 1) := by decide +kernel
theorem pm_a204_28 : pm_as (pm_cd pm_mm204) 28 = some (.iadd, 1) := by decide +kernel
theorem pm_a204_29 : pm_as (pm_cd pm_mm204) 29 = some (.putfield 304, 3) := by decide +kernel
theorem pm_a204_32 : pm_as (pm_cd pm_mm204) 32 = some (.aload_n 0, 1) := by decide +kernel
theorem pm_a204_33 : pm_as (pm_cd pm_mm204) 33 = some (.getfield 304, 3) := by decide +kernel
theorem pm_a204_36 : pm_as (pm_cd pm_mm204) 36 = some (.iconst 1, 1) := by decide +kernel
theorem pm_a204_37 : pm_as (pm_cd pm_mm204) 37 = some (.isub, 1) := by decide +kernel
theorem pm_a204_38 : pm_as (pm_cd pm_mm204) 38 = some (.ireturn, 1) := by decide +kernel
theorem pm_a205_0 : pm_as (pm_cd pm_mm205) 0 = some (.aload_n 0, 1) := by decide +kernel
theorem pm_a205_1 : pm_as (pm_cd pm_mm205) 1 = some (.invokevirtual 307, 3) := by decide +kernel
theorem pm_a205_4 : pm_as (pm_cd pm_mm205) 4 = some (.istore_n 3, 1) := by decide +kernel
theorem pm_a205_5 : pm_as (pm_cd pm_mm205) 5 = some (.aload_n 0, 1) := by decide +kernel
theorem pm_a205_6 : pm_as (pm_cd pm_mm205) 6 = some (.getfield 63, 3) := by decide +kernel
theorem pm_a205_9 : pm_as (pm_cd pm_mm205) 9 = some (.iload_n 3, 1) := by decide +kernel
theorem pm_a205_10 : pm_as (pm_cd pm_mm205) 10 = some (.iload_n 1, 1) := by decide +kernel
theorem pm_a205_11 : pm_as (pm_cd pm_mm205) 11 = some (.iastore, 1) := by decide +kernel
theorem pm_a205_12 : pm_as (pm_cd pm_mm205) 12 = some (.aload_n 0, 1) := by decide +kernel
theorem pm_a205_13 : pm_as (pm_cd pm_mm205) 13 = some (.getfield 66, 3) := by decide +kernel
theorem pm_a205_16 : pm_as (pm_cd pm_mm205) 16 = some (.iload_n 3, 1) := by decide +kernel
theorem pm_a205_17 : pm_as (pm_cd pm_mm205) 17 = some (.iload_n 2, 1) := by decide +kernel
theorem pm_a205_18 : pm_as (pm_cd pm_mm205) 18 = some (.iastore, 1) := by decide +kernel
theorem pm_a205_19 : pm_as (pm_cd pm_mm205) 19 = some (.iload_n 3, 1) := by decide +kernel
theorem pm_a205_20 : pm_as (pm_cd pm_mm205) 20 = some (.ireturn, 1) := by decide +kernel
theorem pm_a206_0 : pm_as (pm_cd pm_mm206) 0 = some (.iconst 1, 1) := by decide +kernel
theorem pm_a206_1 : pm_as (pm_cd pm_mm206) 1 = some (.istore_n 3, 1) := by decide +kernel
theorem pm_a206_2 : pm_as (pm_cd pm_mm206) 2 = some (.aload_n 0, 1) := by decide +kernel
theorem pm_a206_3 : pm_as (pm_cd pm_mm206) 3 = some (.getfield 69, 3) := by decide +kernel
theorem pm_a206_6 : pm_as (pm_cd pm_mm206) 6 = some (.iconst 0, 1) := by decide +kernel
theorem pm_a206_7 : pm_as (pm_cd pm_mm206) 7 = some (.iload_n 1, 1) := by decide +kernel
theorem pm_a206_8 : pm_as (pm_cd pm_mm206) 8 = some (.iastore, 1) := by decide +kernel
theorem pm_a206_9 : pm_as (pm_cd pm_mm206) 9 = some (.aload_n 0, 1) := by decide +kernel
theorem pm_a206_10 : pm_as (pm_cd pm_mm206) 10 = some (.getfield 72, 3) := by decide +kernel
theorem pm_a206_13 : pm_as (pm_cd pm_mm206) 13 = some (.iconst 0, 1) := by decide +kernel
theorem pm_a206_14 : pm_as (pm_cd pm_mm206) 14 = some (.iload_n 2, 1) := by decide +kernel
theorem pm_a206_15 : pm_as (pm_cd pm_mm206) 15 = some (.iastore, 1) := by decide +kernel
theorem pm_a206_16 : pm_as (pm_cd pm_mm206) 16 = some (.iload_n 3, 1) := by decide +kernel
theorem pm_a206_17 : pm_as (pm_cd pm_mm206) 17 = some (.ifCond .le 177, 3) := by decide +kernel
theorem pm_a206_20 : pm_as (pm_cd pm_mm206) 20 = some (.iinc 3 (-1), 3) := by decide +kernel
theorem pm_a206_23 : pm_as (pm_cd pm_mm206) 23 = some (.aload_n 0, 1) := by decide +kernel
theorem pm_a206_24 : pm_as (pm_cd pm_mm206) 24 = some (.aload_n 0, 1) := by decide +kernel
theorem pm_a206_25 : pm_as (pm_cd pm_mm206) 25 = some (.getfield 69, 3) := by decide +kernel
theorem pm_a206_28 : pm_as (pm_cd pm_mm206) 28 = some (.iload_n 3, 1) := by decide +kernel
theorem pm_a206_29 : pm_as (pm_cd pm_mm206) 29 = some (.iaload, 1) := by decide +kernel
theorem pm_a206_30 : pm_as (pm_cd pm_mm206) 30 = some (.invokevirtual 310, 3) := by decide +kernel
theorem pm_a206_33 : pm_as (pm_cd pm_mm206) 33 = some (.istore 4, 2) := by decide +kernel
theorem pm_a206_35 : pm_as (pm_cd pm_mm206) 35 = some (.aload_n 0, 1) := by decide +kernel
theorem pm_a206_36 : pm_as (pm_cd pm_mm206) 36 = some (.aload_n 0, 1) := by decide +kernel
theorem pm_a206_37 : pm_as (pm_cd pm_mm206) 37 = some (.getfield 72, 3) := by decide +kernel
theorem pm_a206_40 : pm_as (pm_cd pm_mm206) 40 = some (.iload_n 3, 1) := by decide +kernel
theorem pm_a206_41 : pm_as (pm_cd pm_mm206) 41 = some (.iaload, 1) := by decide +kernel
theorem pm_a206_42 : pm_as (pm_cd pm_mm206) 42 = some (.invokevirtual 310, 3) := by decide +kernel
theorem pm_a206_45 : pm_as (pm_cd pm_mm206) 45 = some (.istore 5, 2) := by decide +kernel
theorem pm_a206_47 : pm_as (pm_cd pm_mm206) 47 = some (.iload 4, 2) := by decide +kernel
theorem pm_a206_49 : pm_as (pm_cd pm_mm206) 49 = some (.iload 5, 2) := by decide +kernel
theorem pm_a206_51 : pm_as (pm_cd pm_mm206) 51 = some (.if_icmp .eq 140, 3) := by decide +kernel
theorem pm_a206_54 : pm_as (pm_cd pm_mm206) 54 = some (.aload_n 0, 1) := by decide +kernel
theorem pm_a206_55 : pm_as (pm_cd pm_mm206) 55 = some (.getfield 63, 3) := by decide +kernel
theorem pm_a206_58 : pm_as (pm_cd pm_mm206) 58 = some (.iload 4, 2) := by decide +kernel
theorem pm_a206_60 : pm_as (pm_cd pm_mm206) 60 = some (.iaload, 1) := by decide +kernel
theorem pm_a206_61 : pm_as (pm_cd pm_mm206) 61 = some (.bipush (-4), 2) := by decide +kernel
theorem pm_a206_63 : pm_as (pm_cd pm_mm206) 63 = some (.if_icmp .eq 19, 3) := by decide +kernel
theorem pm_a206_66 : pm_as (pm_cd pm_mm206) 66 = some (.aload_n 0, 1) := by decide +kernel
theorem pm_a206_67 : pm_as (pm_cd pm_mm206) 67 = some (.getfield 63, 3) := by decide +kernel
theorem pm_a206_70 : pm_as (pm_cd pm_mm206) 70 = some (.iload 5, 2) := by decide +kernel
theorem pm_a206_72 : pm_as (pm_cd pm_mm206) 72 = some (.iaload, 1) := by decide +kernel
theorem pm_a206_73 : pm_as (pm_cd pm_mm206) 73 = some (.bipush (-4), 2) := by decide +kernel
theorem pm_a206_75 : pm_as (pm_cd pm_mm206) 75 = some (.if_icmp .eq 7, 3) := by decide +kernel
theorem pm_a206_78 : pm_as (pm_cd pm_mm206) 78 = some (.iconst 1, 1) := by decide +kernel
theorem pm_a206_79 : pm_as (pm_cd pm_mm206) 79 = some (.goto 4, 3) := by decide +kernel
theorem pm_a206_82 : pm_as (pm_cd pm_mm206) 82 = some (.iconst 0, 1) := by decide +kernel
theorem pm_a206_83 : pm_as (pm_cd pm_mm206) 83 = some (.istore 6, 2) := by decide +kernel
theorem pm_a206_85 : pm_as (pm_cd pm_mm206) 85 = some (.aload_n 0, 1) := by decide +kernel
theorem pm_a206_86 : pm_as (pm_cd pm_mm206) 86 = some (.getfield 63, 3) := by decide +kernel
theorem pm_a206_89 : pm_as (pm_cd pm_mm206) 89 = some (.iload 4, 2) := by decide +kernel
theorem pm_a206_91 : pm_as (pm_cd pm_mm206) 91 = some (.iaload, 1) := by decide +kernel
theorem pm_a206_92 : pm_as (pm_cd pm_mm206) 92 = some (.bipush (-4), 2) := by decide +kernel
theorem pm_a206_94 : pm_as (pm_cd pm_mm206) 94 = some (.if_icmp .ne 8, 3) := by decide +kernel
theorem pm_a206_97 : pm_as (pm_cd pm_mm206) 97 = some (.iload 4, 2) := by decide +kernel
theorem pm_a206_99 : pm_as (pm_cd pm_mm206) 99 = some (.goto 5, 3) := by decide +kernel
theorem pm_a206_102 : pm_as (pm_cd pm_mm206) 102 = some (.iload 5, 2) := by decide +kernel
theorem pm_a206_104 : pm_as (pm_cd pm_mm206) 104 = some (.istore 7, 2) := by decide +kernel
theorem pm_a206_106 : pm_as (pm_cd pm_mm206) 106 = some (.aload_n 0, 1) := by decide +kernel
theorem pm_a206_107 : pm_as (pm_cd pm_mm206) 107 = some (.getfield 60, 3) := by decide +kernel
theorem pm_a206_110 : pm_as (pm_cd pm_mm206) 110 = some (.iload 7, 2) := by decide +kernel
theorem pm_a206_112 : pm_as (pm_cd pm_mm206) 112 = some (.iload 7, 2) := by decide +kernel
theorem pm_a206_114 : pm_as (pm_cd pm_mm206) 114 = some (.iload 4, 2) := by decide +kernel
theorem pm_a206_116 : pm_as (pm_cd pm_mm206) 116 = some (.if_icmp .ne 8, 3) := by decide +kernel
theorem pm_a206_119 : pm_as (pm_cd pm_mm206) 119 = some (.iload 5, 2) := by decide +kernel
theorem pm_a206_121 : pm_as (pm_cd pm_mm206) 121 = some (.goto 5, 3) := by decide +kernel
theorem pm_a206_124 : pm_as (pm_cd pm_mm206) 124 = some (.iload 4, 2) := by decide +kernel
theorem pm_a206_126 : pm_as (pm_cd pm_mm206) 126 = some (.iastore, 1) := by decide +kernel
theorem pm_a206_127 : pm_as (pm_cd pm_mm206) 127 = some (.iload 6, 2) := by decide +kernel
theorem pm_a206_129 : pm_as (pm_cd pm_mm206) 129 = some (.ifCond .eq 62, 3) := by decide +kernel
theorem pm_a206_132 : pm_as (pm_cd pm_mm206) 132 = some (.aload_n 0, 1) := by decide +kernel
theorem pm_a206_133 : pm_as (pm_cd pm_mm206) 133 = some (.getfield 69, 3) := by decide +kernel
theorem pm_a206_136 : pm_as (pm_cd pm_mm206) 136 = some (.iload_n 3, 1) := by decide +kernel
theorem pm_a206_137 : pm_as (pm_cd pm_mm206) 137 = some (.aload_n 0, 1) := by decide +kernel
theorem pm_a206_138 : pm_as (pm_cd pm_mm206) 138 = some (.getfield 63, 3) := by decide +kernel
theorem pm_a206_141 : pm_as (pm_cd pm_mm206) 141 = some (.iload 4, 2) := by decide +kernel
theorem pm_a206_143 : pm_as (pm_cd pm_mm206) 143 = some (.iaload, 1) := by decide +kernel
theorem pm_a206_144 : pm_as (pm_cd pm_mm206) 144 = some (.iastore, 1) := by decide +kernel
theorem pm_a206_145 : pm_as (pm_cd pm_mm206) 145 = some (.aload_n 0, 1) := by decide +kernel
theorem pm_a206_146 : pm_as (pm_cd pm_mm206) 146 = some (.getfield 72, 3) := by decide +kernel
theorem pm_a206_149 : pm_as (pm_cd pm_mm206) 149 = some (.iload_n 3, 1) := by decide +kernel
theorem pm_a206_150 : pm_as (pm_cd pm_mm206) 150 = some (.aload_n 0, 1) := by decide +kernel
theorem pm_a206_151 : pm_as (pm_cd pm_mm206) 151 = some (.getfield 63, 3) := by decide +kernel
theorem pm_a206_154 : pm_as (pm_cd pm_mm206) 154 = some (.iload 5, 2) := by decide +kernel
theorem pm_a206_156 : pm_as (pm_cd pm_mm206) 156 = some (.iaload, 1) := by decide +kernel
theorem pm_a206_157 : pm_as (pm_cd pm_mm206) 157 = some (.iastore, 1) := by decide +kernel
theorem pm_a206_158 : pm_as (pm_cd pm_mm206) 158 = some (.aload_n 0, 1) := by decide +kernel
theorem pm_a206_159 : pm_as (pm_cd pm_mm206) 159 = some (.getfield 69, 3) := by decide +kernel
theorem pm_a206_162 : pm_as (pm_cd pm_mm206) 162 = some (.iload_n 3, 1) := by decide +kernel
theorem pm_a206_163 : pm_as (pm_cd pm_mm206) 163 = some (.iconst 1, 1) := by decide +kernel
theorem pm_a206_164 : pm_as (pm_cd pm_mm206) 164 = some (.iadd, 1) := by decide +kernel
theorem pm_a206_165 : pm_as (pm_cd pm_mm206) 165 = some (.aload_n 0, 1) := by decide +kernel
theorem pm_a206_166 : pm_as (pm_cd pm_mm206) 166 = some (.getfield 66, 3) := by decide +kernel
theorem pm_a206_169 : pm_as (pm_cd pm_mm206) 169 = some (.iload 4, 2) := by decide +kernel
theorem pm_a206_171 : pm_as (pm_cd pm_mm206) 171 = some (.iaload, 1) := by decide +kernel
theorem pm_a206_172 : pm_as (pm_cd pm_mm206) 172 = some (.iastore, 1) := by decide +kernel
theorem pm_a206_173 : pm_as (pm_cd pm_mm206) 173 = some (.aload_n 0, 1) := by decide +kernel
theorem pm_a206_174 : pm_as (pm_cd pm_mm206) 174 = some (.getfield 72, 3) := by decide +kernel
theorem pm_a206_177 : pm_as (pm_cd pm_mm206) 177 = some (.iload_n 3, 1) := by decide +kernel
theorem pm_a206_178 : pm_as (pm_cd pm_mm206) 178 = some (.iconst 1, 1) := by decide +kernel
theorem pm_a206_179 : pm_as (pm_cd pm_mm206) 179 = some (.iadd, 1) := by decide +kernel
theorem pm_a206_180 : pm_as (pm_cd pm_mm206) 180 = some (.aload_n 0, 1) := by decide +kernel
theorem pm_a206_181 : pm_as (pm_cd pm_mm206) 181 = some (.getfield 66, 3) := by decide +kernel
theorem pm_a206_184 : pm_as (pm_cd pm_mm206) 184 = some (.iload 5, 2) := by decide +kernel
theorem pm_a206_186 : pm_as (pm_cd pm_mm206) 186 = some (.iaload, 1) := by decide +kernel
theorem pm_a206_187 : pm_as (pm_cd pm_mm206) 187 = some (.iastore, 1) := by decide +kernel
theorem pm_a206_188 : pm_as (pm_cd pm_mm206) 188 = some (.iinc 3 2, 3) := by decide +kernel
theorem pm_a206_191 : pm_as (pm_cd pm_mm206) 191 = some (.goto (-175), 3) := by decide +kernel
theorem pm_a206_194 : pm_as (pm_cd pm_mm206) 194 = some (.return_, 1) := by decide +kernel
theorem pm_a207_0 : pm_as (pm_cd pm_mm207) 0 = some (.iload_n 1, 1) := by decide +kernel
theorem pm_a207_1 : pm_as (pm_cd pm_mm207) 1 = some (.istore_n 2, 1) := by decide +kernel
theorem pm_a207_2 : pm_as (pm_cd pm_mm207) 2 = some (.aload_n 0, 1) := by decide +kernel
theorem pm_a207_3 : pm_as (pm_cd pm_mm207) 3 = some (.getfield 60, 3) := by decide +kernel
theorem pm_a207_6 : pm_as (pm_cd pm_mm207) 6 = some (.iload_n 2, 1) := by decide +kernel
theorem pm_a207_7 : pm_as (pm_cd pm_mm207) 7 = some (.iaload, 1) := by decide +kernel
theorem pm_a207_8 : pm_as (pm_cd pm_mm207) 8 = some (.bipush (-4), 2) := by decide +kernel
theorem pm_a207_10 : pm_as (pm_cd pm_mm207) 10 = some (.if_icmp .eq 13, 3) := by decide +kernel
theorem pm_a207_13 : pm_as (pm_cd pm_mm207) 13 = some (.aload_n 0, 1) := by decide +kernel
theorem pm_a207_14 : pm_as (pm_cd pm_mm207) 14 = some (.getfield 60, 3) := by decide +kernel
theorem pm_a207_17 : pm_as (pm_cd pm_mm207) 17 = some (.iload_n 2, 1) := by decide +kernel
theorem pm_a207_18 : pm_as (pm_cd pm_mm207) 18 = some (.iaload, 1) := by decide +kernel
theorem pm_a207_19 : pm_as (pm_cd pm_mm207) 19 = some (.istore_n 2, 1) := by decide +kernel
theorem pm_a207_20 : pm_as (pm_cd pm_mm207) 20 = some (.goto (-18), 3) := by decide +kernel
theorem pm_a207_23 : pm_as (pm_cd pm_mm207) 23 = some (.iload_n 2, 1) := by decide +kernel
theorem pm_a207_24 : pm_as (pm_cd pm_mm207) 24 = some (.ireturn, 1) := by decide +kernel
theorem pm_a208_0 : pm_as (pm_cd pm_mm208) 0 = some (.iload_n 1, 1) := by decide +kernel
theorem pm_a208_1 : pm_as (pm_cd pm_mm208) 1 = some (.iconst 5, 1) := by decide +kernel
theorem pm_a208_2 : pm_as (pm_cd pm_mm208) 2 = some (.if_icmp .ne 10, 3) := by decide +kernel
theorem pm_a208_5 : pm_as (pm_cd pm_mm208) 5 = some (.aload_n 0, 1) := by decide +kernel
theorem pm_a208_6 : pm_as (pm_cd pm_mm208) 6 = some (.iload_n 2, 1) := by decide +kernel
theorem pm_a208_7 : pm_as (pm_cd pm_mm208) 7 = some (.iload_n 2, 1) := by decide +kernel
theorem pm_a208_8 : pm_as (pm_cd pm_mm208) 8 = some (.invokevirtual 313, 3) := by decide +kernel
theorem pm_a208_11 : pm_as (pm_cd pm_mm208) 11 = some (.ireturn, 1) := by decide +kernel
theorem pm_a208_12 : pm_as (pm_cd pm_mm208) 12 = some (.iload_n 1, 1) := by decide +kernel
theorem pm_a208_13 : pm_as (pm_cd pm_mm208) 13 = some (.bipush 6, 2) := by decide +kernel
theorem pm_a208_15 : pm_as (pm_cd pm_mm208) 15 = some (.if_icmp .ne 5, 3) := by decide +kernel
theorem pm_a208_18 : pm_as (pm_cd pm_mm208) 18 = some (.iload_n 2, 1) := by decide +kernel
theorem pm_a208_19 : pm_as (pm_cd pm_mm208) 19 = some (.ireturn, 1) := by decide +kernel
theorem pm_a208_20 : pm_as (pm_cd pm_mm208) 20 = some (.aload_n 0, 1) := by decide +kernel
theorem pm_a208_21 : pm_as (pm_cd pm_mm208) 21 = some (.invokevirtual 307, 3) := by decide +kernel
theorem pm_a208_24 : pm_as (pm_cd pm_mm208) 24 = some (.istore_n 3, 1) := by decide +kernel
theorem pm_a208_25 : pm_as (pm_cd pm_mm208) 25 = some (.iload_n 1, 1) := by decide +kernel
theorem pm_a208_26 : pm_as (pm_cd pm_mm208) 26 = some (.iconst 4, 1) := by decide +kernel
theorem pm_a208_27 : pm_as (pm_cd pm_mm208) 27 = some (.if_icmp .ne 10, 3) := by decide +kernel
theorem pm_a208_30 : pm_as (pm_cd pm_mm208) 30 = some (.aload_n 0, 1) := by decide +kernel
theorem pm_a208_31 : pm_as (pm_cd pm_mm208) 31 = some (.iload_n 3, 1) := by decide +kernel
theorem pm_a208_32 : pm_as (pm_cd pm_mm208) 32 = some (.iload_n 3, 1) := by decide +kernel
theorem pm_a208_33 : pm_as (pm_cd pm_mm208) 33 = some (.invokevirtual 313, 3) := by decide +kernel
theorem pm_a208_36 : pm_as (pm_cd pm_mm208) 36 = some (.ireturn, 1) := by decide +kernel
theorem pm_a208_37 : pm_as (pm_cd pm_mm208) 37 = some (.aload_n 0, 1) := by decide +kernel
theorem pm_a208_38 : pm_as (pm_cd pm_mm208) 38 = some (.invokevirtual 307, 3) := by decide +kernel
theorem pm_a208_41 : pm_as (pm_cd pm_mm208) 41 = some (.istore 4, 2) := by decide +kernel
theorem pm_a208_43 : pm_as (pm_cd pm_mm208) 43 = some (.iload_n 1, 1) := by decide +kernel
theorem pm_a208_44 : pm_as (pm_cd pm_mm208) 44 = some (.iconst 3, 1) := by decide +kernel
theorem pm_a208_45 : pm_as (pm_cd pm_mm208) 45 = some (.if_icmp .ne 16, 3) := by decide +kernel
theorem pm_a208_48 : pm_as (pm_cd pm_mm208) 48 = some (.aload_n 0, 1) := by decide +kernel
theorem pm_a208_49 : pm_as (pm_cd pm_mm208) 49 = some (.iload_n 3, 1) := by decide +kernel
theorem pm_a208_50 : pm_as (pm_cd pm_mm208) 50 = some (.aload_n 0, 1) := by decide +kernel
theorem pm_a208_51 : pm_as (pm_cd pm_mm208) 51 = some (.iload 4, 2) := by decide +kernel
theorem pm_a208_53 : pm_as (pm_cd pm_mm208) 53 = some (.iload_n 3, 1) := by decide +kernel
theorem pm_a208_54 : pm_as (pm_cd pm_mm208) 54 = some (.invokevirtual 313, 3) := by decide +kernel
theorem pm_a208_57 : pm_as (pm_cd pm_mm208) 57 = some (.invokevirtual 313, 3) := by decide +kernel
theorem pm_a208_60 : pm_as (pm_cd pm_mm208) 60 = some (.ireturn, 1) := by decide +kernel
theorem pm_a208_61 : pm_as (pm_cd pm_mm208) 61 = some (.aload_n 0, 1) := by decide +kernel
theorem pm_a208_62 : pm_as (pm_cd pm_mm208) 62 = some (.invokevirtual 307, 3) := by decide +kernel
theorem pm_a208_65 : pm_as (pm_cd pm_mm208) 65 = some (.istore 5, 2) := by decide +kernel
theorem pm_a208_67 : pm_as (pm_cd pm_mm208) 67 = some (.aload_n 0, 1) := by decide +kernel
theorem pm_a208_68 : pm_as (pm_cd pm_mm208) 68 = some (.aload_n 0, 1) := by decide +kernel
theorem pm_a208_69 : pm_as (pm_cd pm_mm208) 69 = some (.iload_n 3, 1) := by decide +kernel
theorem pm_a208_70 : pm_as (pm_cd pm_mm208) 70 = some (.aload_n 0, 1) := by decide +kernel
theorem pm_a208_71 : pm_as (pm_cd pm_mm208) 71 = some (.iload 4, 2) := by decide +kernel
theorem pm_a208_73 : pm_as (pm_cd pm_mm208) 73 = some (.iload 5, 2) := by decide +kernel
theorem pm_a208_75 : pm_as (pm_cd pm_mm208) 75 = some (.invokevirtual 313, 3) := by decide +kernel
theorem pm_a208_78 : pm_as (pm_cd pm_mm208) 78 = some (.invokevirtual 313, 3) := by decide +kernel
theorem pm_a208_81 : pm_as (pm_cd pm_mm208) 81 = some (.aload_n 0, 1) := by decide +kernel
theorem pm_a208_82 : pm_as (pm_cd pm_mm208) 82 = some (.aload_n 0, 1) := by decide +kernel
theorem pm_a208_83 : pm_as (pm_cd pm_mm208) 83 = some (.iload_n 3, 1) := by decide +kernel
theorem pm_a208_84 : pm_as (pm_cd pm_mm208) 84 = some (.iload 4, 2) := by decide +kernel
theorem pm_a208_86 : pm_as (pm_cd pm_mm208) 86 = some (.invokevirtual 313, 3) := by decide +kernel
theorem pm_a208_89 : pm_as (pm_cd pm_mm208) 89 = some (.aload_n 0, 1) := by decide +kernel
theorem pm_a208_90 : pm_as (pm_cd pm_mm208) 90 = some (.iload_n 3, 1) := by decide +kernel
theorem pm_a208_91 : pm_as (pm_cd pm_mm208) 91 = some (.iload 5, 2) := by decide +kernel
theorem pm_a208_93 : pm_as (pm_cd pm_mm208) 93 = some (.invokevirtual 313, 3) := by decide +kernel
theorem pm_a208_96 : pm_as (pm_cd pm_mm208) 96 = some (.invokevirtual 313, 3) := by decide +kernel
theorem pm_a208_99 : pm_as (pm_cd pm_mm208) 99 = some (.invokevirtual 313, 3) := by decide +kernel
theorem pm_a208_102 : pm_as (pm_cd pm_mm208) 102 = some (.ireturn, 1) := by decide +kernel
theorem pm_a209_0 : pm_as (pm_cd pm_mm209) 0 = some (.iconst 0, 1) := by decide +kernel
theorem pm_a209_1 : pm_as (pm_cd pm_mm209) 1 = some (.istore_n 1, 1) := by decide +kernel
theorem pm_a209_2 : pm_as (pm_cd pm_mm209) 2 = some (.iload_n 1, 1) := by decide +kernel
theorem pm_a209_3 : pm_as (pm_cd pm_mm209) 3 = some (.aload_n 0, 1) := by decide +kernel
theorem pm_a209_4 : pm_as (pm_cd pm_mm209) 4 = some (.getfield 304, 3) := by decide +kernel
theorem pm_a209_7 : pm_as (pm_cd pm_mm209) 7 = some (.if_icmp .ge 16, 3) := by decide +kernel
theorem pm_a209_10 : pm_as (pm_cd pm_mm209) 10 = some (.aload_n 0, 1) := by decide +kernel
theorem pm_a209_11 : pm_as (pm_cd pm_mm209) 11 = some (.getfield 75, 3) := by decide +kernel
theorem pm_a209_14 : pm_as (pm_cd pm_mm209) 14 = some (.iload_n 1, 1) := by decide +kernel
theorem pm_a209_15 : pm_as (pm_cd pm_mm209) 15 = some (.iconst 0, 1) := by decide +kernel
theorem pm_a209_16 : pm_as (pm_cd pm_mm209) 16 = some (.iastore, 1) := by decide +kernel
theorem pm_a209_17 : pm_as (pm_cd pm_mm209) 17 = some (.iinc 1 1, 3) := by decide +kernel
theorem pm_a209_20 : pm_as (pm_cd pm_mm209) 20 = some (.goto (-18), 3) := by decide +kernel
theorem pm_a209_23 : pm_as (pm_cd pm_mm209) 23 = some (.iconst 0, 1) := by decide +kernel
theorem pm_a209_24 : pm_as (pm_cd pm_mm209) 24 = some (.istore_n 1, 1) := by decide +kernel
theorem pm_a209_25 : pm_as (pm_cd pm_mm209) 25 = some (.iload_n 1, 1) := by decide +kernel
theorem pm_a209_26 : pm_as (pm_cd pm_mm209) 26 = some (.aload_n 0, 1) := by decide +kernel
theorem pm_a209_27 : pm_as (pm_cd pm_mm209) 27 = some (.getfield 304, 3) := by decide +kernel
theorem pm_a209_30 : pm_as (pm_cd pm_mm209) 30 = some (.if_icmp .ge 223, 3) := by decide +kernel
theorem pm_a209_33 : pm_as (pm_cd pm_mm209) 33 = some (.iconst 0, 1) := by decide +kernel
theorem pm_a209_34 : pm_as (pm_cd pm_mm209) 34 = some (.istore_n 2, 1) := by decide +kernel
theorem pm_a209_35 : pm_as (pm_cd pm_mm209) 35 = some (.aload_n 0, 1) := by decide +kernel
theorem pm_a209_36 : pm_as (pm_cd pm_mm209) 36 = some (.getfield 75, 3) := by decide +kernel
theorem pm_a209_39 : pm_as (pm_cd pm_mm209) 39 = some (.aload_n 0, 1) := by decide +kernel
theorem pm_a209_40 : pm_as (pm_cd pm_mm209) 40 = some (.iload_n 1, 1) := by decide +kernel
theorem pm_a209_41 : pm_as (pm_cd pm_mm209) 41 = some (.invokevirtual 310, 3) := by decide +kernel
theorem pm_a209_44 : pm_as (pm_cd pm_mm209) 44 = some (.iaload, 1) := by decide +kernel
theorem pm_a209_45 : pm_as (pm_cd pm_mm209) 45 = some (.ifCond .ne 28, 3) := by decide +kernel
theorem pm_a209_48 : pm_as (pm_cd pm_mm209) 48 = some (.aload_n 0, 1) := by decide +kernel
theorem pm_a209_49 : pm_as (pm_cd pm_mm209) 49 = some (.getfield 78, 3) := by decide +kernel
theorem pm_a209_52 : pm_as (pm_cd pm_mm209) 52 = some (.iconst 0, 1) := by decide +kernel
theorem pm_a209_53 : pm_as (pm_cd pm_mm209) 53 = some (.aload_n 0, 1) := by decide +kernel
theorem pm_a209_54 : pm_as (pm_cd pm_mm209) 54 = some (.iload_n 1, 1) := by decide +kernel
theorem pm_a209_55 : pm_as (pm_cd pm_mm209) 55 = some (.invokevirtual 310, 3) := by decide +kernel
theorem pm_a209_58 : pm_as (pm_cd pm_mm209) 58 = some (.iastore, 1) := by decide +kernel
theorem pm_a209_59 : pm_as (pm_cd pm_mm209) 59 = some (.aload_n 0, 1) := by decide +kernel
theorem pm_a209_60 : pm_as (pm_cd pm_mm209) 60 = some (.getfield 75, 3) := by decide +kernel
theorem pm_a209_63 : pm_as (pm_cd pm_mm209) 63 = some (.aload_n 0, 1) := by decide +kernel
theorem pm_a209_64 : pm_as (pm_cd pm_mm209) 64 = some (.getfield 78, 3) := by decide +kernel
theorem pm_a209_67 : pm_as (pm_cd pm_mm209) 67 = some (.iconst 0, 1) := by decide +kernel
theorem pm_a209_68 : pm_as (pm_cd pm_mm209) 68 = some (.iaload, 1) := by decide +kernel
theorem pm_a209_69 : pm_as (pm_cd pm_mm209) 69 = some (.iconst 1, 1) := by decide +kernel
theorem pm_a209_70 : pm_as (pm_cd pm_mm209) 70 = some (.iastore, 1) := by decide +kernel
theorem pm_a209_71 : pm_as (pm_cd pm_mm209) 71 = some (.iconst 1, 1) := by decide +kernel
theorem pm_a209_72 : pm_as (pm_cd pm_mm209) 72 = some (.istore_n 2, 1) := by decide +kernel
theorem pm_a209_73 : pm_as (pm_cd pm_mm209) 73 = some (.iload_n 2, 1) := by decide +kernel
theorem pm_a209_74 : pm_as (pm_cd pm_mm209) 74 = some (.ifCond .le 173, 3) := by decide +kernel
theorem pm_a209_77 : pm_as (pm_cd pm_mm209) 77 = some (.aload_n 0, 1) := by decide +kernel
theorem pm_a209_78 : pm_as (pm_cd pm_mm209) 78 = some (.getfield 78, 3) := by decide +kernel
theorem pm_a209_81 : pm_as (pm_cd pm_mm209) 81 = some (.iload_n 2, 1) := by decide +kernel
theorem pm_a209_82 : pm_as (pm_cd pm_mm209) 82 = some (.iconst 1, 1) := by decide +kernel
theorem pm_a209_83 : pm_as (pm_cd pm_mm209) 83 = some (.isub, 1) := by decide +kernel
theorem pm_a209_84 : pm_as (pm_cd pm_mm209) 84 = some (.iaload, 1) := by decide +kernel
theorem pm_a209_85 : pm_as (pm_cd pm_mm209) 85 = some (.istore_n 3, 1) := by decide +kernel
theorem pm_a209_86 : pm_as (pm_cd pm_mm209) 86 = some (.aload_n 0, 1) := by decide +kernel
theorem pm_a209_87 : pm_as (pm_cd pm_mm209) 87 = some (.getfield 63, 3) := by decide +kernel
theorem pm_a209_90 : pm_as (pm_cd pm_mm209) 90 = some (.iload_n 3, 1) := by decide +kernel
theorem pm_a209_91 : pm_as (pm_cd pm_mm209) 91 = some (.iaload, 1) := by decide +kernel
theorem pm_a209_92 : pm_as (pm_cd pm_mm209) 92 = some (.bipush (-4), 2) := by decide +kernel
theorem pm_a209_94 : pm_as (pm_cd pm_mm209) 94 = some (.if_icmp .ne 8, 3) := by decide +kernel
theorem pm_a209_97 : pm_as (pm_cd pm_mm209) 97 = some (.bipush (-4), 2) := by decide +kernel
theorem pm_a209_99 : pm_as (pm_cd pm_mm209) 99 = some (.goto 13, 3) := by decide +kernel
theorem pm_a209_102 : pm_as (pm_cd pm_mm209) 102 = some (.aload_n 0, 1) := by decide +kernel
theorem pm_a209_103 : pm_as (pm_cd pm_mm209) 103 = some (.aload_n 0, 1) := by decide +kernel
theorem pm_a209_104 : pm_as (pm_cd pm_mm209) 104 = some (.getfield 63, 3) := by decide +kernel
theorem pm_a209_107 : pm_as (pm_cd pm_mm209) 107 = some (.iload_n 3, 1) := by decide +kernel
theorem pm_a209_108 : pm_as (pm_cd pm_mm209) 108 = some (.iaload, 1) := by decide +kernel
theorem pm_a209_109 : pm_as (pm_cd pm_mm209) 109 = some (.invokevirtual 310, 3) := by decide +kernel
theorem pm_a209_112 : pm_as (pm_cd pm_mm209) 112 = some (.istore 4, 2) := by decide +kernel
theorem pm_a209_114 : pm_as (pm_cd pm_mm209) 114 = some (.aload_n 0, 1) := by decide +kernel
theorem pm_a209_115 : pm_as (pm_cd pm_mm209) 115 = some (.getfield 63, 3) := by decide +kernel
theorem pm_a209_118 : pm_as (pm_cd pm_mm209) 118 = some (.iload_n 3, 1) := by decide +kernel
theorem pm_a209_119 : pm_as (pm_cd pm_mm209) 119 = some (.iaload, 1) := by decide +kernel
theorem pm_a209_120 : pm_as (pm_cd pm_mm209) 120 = some (.bipush (-4), 2) := by decide +kernel
theorem pm_a209_122 : pm_as (pm_cd pm_mm209) 122 = some (.if_icmp .ne 8, 3) := by decide +kernel
theorem pm_a209_125 : pm_as (pm_cd pm_mm209) 125 = some (.bipush (-4), 2) := by decide +kernel
theorem pm_a209_127 : pm_as (pm_cd pm_mm209) 127 = some (.goto 13, 3) := by decide +kernel
theorem pm_a209_130 : pm_as (pm_cd pm_mm209) 130 = some (.aload_n 0, 1) := by decide +kernel
theorem pm_a209_131 : pm_as (pm_cd pm_mm209) 131 = some (.aload_n 0, 1) := by decide +kernel
theorem pm_a209_132 : pm_as (pm_cd pm_mm209) 132 = some (.getfield 66, 3) := by decide +kernel
theorem pm_a209_135 : pm_as (pm_cd pm_mm209) 135 = some (.iload_n 3, 1) := by decide +kernel
theorem pm_a209_136 : pm_as (pm_cd pm_mm209) 136 = some (.iaload, 1) := by decide +kernel
theorem pm_a209_137 : pm_as (pm_cd pm_mm209) 137 = some (.invokevirtual 310, 3) := by decide +kernel
theorem pm_a209_140 : pm_as (pm_cd pm_mm209) 140 = some (.istore 5, 2) := by decide +kernel
theorem pm_a209_142 : pm_as (pm_cd pm_mm209) 142 = some (.iload 4, 2) := by decide +kernel
theorem pm_a209_144 : pm_as (pm_cd pm_mm209) 144 = some (.bipush (-4), 2) := by decide +kernel
theorem pm_a209_146 : pm_as (pm_cd pm_mm209) 146 = some (.if_icmp .eq 19, 3) := by decide +kernel
theorem pm_a209_149 : pm_as (pm_cd pm_mm209) 149 = some (.aload_n 0, 1) := by decide +kernel
theorem pm_a209_150 : pm_as (pm_cd pm_mm209) 150 = some (.getfield 75, 3) := by decide +kernel
theorem pm_a209_153 : pm_as (pm_cd pm_mm209) 153 = some (.iload 4, 2) := by decide +kernel
theorem pm_a209_155 : pm_as (pm_cd pm_mm209) 155 = some (.iaload, 1) := by decide +kernel
theorem pm_a209_156 : pm_as (pm_cd pm_mm209) 156 = some (.iconst 2, 1) := by decide +kernel
theorem pm_a209_157 : pm_as (pm_cd pm_mm209) 157 = some (.if_icmp .ge 8, 3) := by decide +kernel
theorem pm_a209_160 : pm_as (pm_cd pm_mm209) 160 = some (.iload 4, 2) := by decide +kernel
theorem pm_a209_162 : pm_as (pm_cd pm_mm209) 162 = some (.goto 28, 3) := by decide +kernel
theorem pm_a209_165 : pm_as (pm_cd pm_mm209) 165 = some (.iload 5, 2) := by decide +kernel
theorem pm_a209_167 : pm_as (pm_cd pm_mm209) 167 = some (.bipush (-4), 2) := by decide +kernel
theorem pm_a209_169 : pm_as (pm_cd pm_mm209) 169 = some (.if_icmp .eq 19, 3) := by decide +kernel
theorem pm_a209_172 : pm_as (pm_cd pm_mm209) 172 = some (.aload_n 0, 1) := by decide +kernel
theorem pm_a209_173 : pm_as (pm_cd pm_mm209) 173 = some (.getfield 75, 3) := by decide +kernel
theorem pm_a209_176 : pm_as (pm_cd pm_mm209) 176 = some (.iload 5, 2) := by decide +kernel
theorem pm_a209_178 : pm_as (pm_cd pm_mm209) 178 = some (.iaload, 1) := by decide +kernel
theorem pm_a209_179 : pm_as (pm_cd pm_mm209) 179 = some (.iconst 2, 1) := by decide +kernel
theorem pm_a209_180 : pm_as (pm_cd pm_mm209) 180 = some (.if_icmp .ge 8, 3) := by decide +kernel
theorem pm_a209_183 : pm_as (pm_cd pm_mm209) 183 = some (.iload 5, 2) := by decide +kernel
theorem pm_a209_185 : pm_as (pm_cd pm_mm209) 185 = some (.goto 5, 3) := by decide +kernel
theorem pm_a209_188 : pm_as (pm_cd pm_mm209) 188 = some (.bipush (-4), 2) := by decide +kernel
theorem pm_a209_190 : pm_as (pm_cd pm_mm209) 190 = some (.istore 6, 2) := by decide +kernel
theorem pm_a209_192 : pm_as (pm_cd pm_mm209) 192 = some (.iload 6, 2) := by decide +kernel
theorem pm_a209_194 : pm_as (pm_cd pm_mm209) 194 = some (.bipush (-4), 2) := by decide +kernel
theorem pm_a209_196 : pm_as (pm_cd pm_mm209) 196 = some (.if_icmp .ne 16, 3) := by decide +kernel
theorem pm_a209_199 : pm_as (pm_cd pm_mm209) 199 = some (.aload_n 0, 1) := by decide +kernel
theorem pm_a209_200 : pm_as (pm_cd pm_mm209) 200 = some (.getfield 75, 3) := by decide +kernel
theorem pm_a209_203 : pm_as (pm_cd pm_mm209) 203 = some (.iload_n 3, 1) := by decide +kernel
theorem pm_a209_204 : pm_as (pm_cd pm_mm209) 204 = some (.iconst 2, 1) := by decide +kernel
theorem pm_a209_205 : pm_as (pm_cd pm_mm209) 205 = some (.iastore, 1) := by decide +kernel
theorem pm_a209_206 : pm_as (pm_cd pm_mm209) 206 = some (.iinc 2 (-1), 3) := by decide +kernel
theorem pm_a209_209 : pm_as (pm_cd pm_mm209) 209 = some (.goto 35, 3) := by decide +kernel
theorem pm_a209_212 : pm_as (pm_cd pm_mm209) 212 = some (.aload_n 0, 1) := by decide +kernel
theorem pm_a209_213 : pm_as (pm_cd pm_mm209) 213 = some (.getfield 75, 3) := by decide +kernel
theorem pm_a209_216 : pm_as (pm_cd pm_mm209) 216 = some (.iload 6, 2) := by decide +kernel
theorem pm_a209_218 : pm_as (pm_cd pm_mm209) 218 = some (.iaload, 1) := by decide +kernel
theorem pm_a209_219 : pm_as (pm_cd pm_mm209) 219 = some (.iconst 1, 1) := by decide +kernel
theorem pm_a209_220 : pm_as (pm_cd pm_mm209) 220 = some (.if_icmp .ne 5, 3) := by decide +kernel
theorem pm_a209_223 : pm_as (pm_cd pm_mm209) 223 = some (.iconst 0, 1) := by decide +kernel
theorem pm_a209_224 : pm_as (pm_cd pm_mm209) 224 = some (.ireturn, 1) := by decide +kernel
theorem pm_a209_225 : pm_as (pm_cd pm_mm209) 225 = some (.aload_n 0, 1) := by decide +kernel
theorem pm_a209_226 : pm_as (pm_cd pm_mm209) 226 = some (.getfield 75, 3) := by decide +kernel
theorem pm_a209_229 : pm_as (pm_cd pm_mm209) 229 = some (.iload 6, 2) := by decide +kernel
theorem pm_a209_231 : pm_as (pm_cd pm_mm209) 231 = some (.iconst 1, 1) := by decide +kernel
theorem pm_a209_232 : pm_as (pm_cd pm_mm209) 232 = some (.iastore, 1) := by decide +kernel
theorem pm_a209_233 : pm_as (pm_cd pm_mm209) 233 = some (.aload_n 0, 1) := by decide +kernel
theorem pm_a209_234 : pm_as (pm_cd pm_mm209) 234 = some (.getfield 78, 3) := by decide +kernel
theorem pm_a209_237 : pm_as (pm_cd pm_mm209) 237 = some (.iload_n 2, 1) := by decide +kernel
theorem pm_a209_238 : pm_as (pm_cd pm_mm209) 238 = some (.iload 6, 2) := by decide +kernel
theorem pm_a209_240 : pm_as (pm_cd pm_mm209) 240 = some (.iastore, 1) := by decide +kernel
theorem pm_a209_241 : pm_as (pm_cd pm_mm209) 241 = some (.iinc 2 1, 3) := by decide +kernel
theorem pm_a209_244 : pm_as (pm_cd pm_mm209) 244 = some (.goto (-171), 3) := by decide +kernel
theorem pm_a209_247 : pm_as (pm_cd pm_mm209) 247 = some (.iinc 1 1, 3) := by decide +kernel
theorem pm_a209_250 : pm_as (pm_cd pm_mm209) 250 = some (.goto (-225), 3) := by decide +kernel
theorem pm_a209_253 : pm_as (pm_cd pm_mm209) 253 = some (.iconst 1, 1) := by decide +kernel
theorem pm_a209_254 : pm_as (pm_cd pm_mm209) 254 = some (.ireturn, 1) := by decide +kernel
theorem pm_a210_0 : pm_as (pm_cd pm_mm210) 0 = some (.iconst 0, 1) := by decide +kernel
theorem pm_a210_1 : pm_as (pm_cd pm_mm210) 1 = some (.istore_n 2, 1) := by decide +kernel
theorem pm_a210_2 : pm_as (pm_cd pm_mm210) 2 = some (.iload_n 2, 1) := by decide +kernel
theorem pm_a210_3 : pm_as (pm_cd pm_mm210) 3 = some (.aload_n 0, 1) := by decide +kernel
theorem pm_a210_4 : pm_as (pm_cd pm_mm210) 4 = some (.getfield 304, 3) := by decide +kernel
theorem pm_a210_7 : pm_as (pm_cd pm_mm210) 7 = some (.if_icmp .ge 17, 3) := by decide +kernel
theorem pm_a210_10 : pm_as (pm_cd pm_mm210) 10 = some (.aload_n 0, 1) := by decide +kernel
theorem pm_a210_11 : pm_as (pm_cd pm_mm210) 11 = some (.getfield 99, 3) := by decide +kernel
theorem pm_a210_14 : pm_as (pm_cd pm_mm210) 14 = some (.iload_n 2, 1) := by decide +kernel
theorem pm_a210_15 : pm_as (pm_cd pm_mm210) 15 = some (.bipush (-4), 2) := by decide +kernel
theorem pm_a210_17 : pm_as (pm_cd pm_mm210) 17 = some (.iastore, 1) := by decide +kernel
theorem pm_a210_18 : pm_as (pm_cd pm_mm210) 18 = some (.iinc 2 1, 3) := by decide +kernel
theorem pm_a210_21 : pm_as (pm_cd pm_mm210) 21 = some (.goto (-19), 3) := by decide +kernel
theorem pm_a210_24 : pm_as (pm_cd pm_mm210) 24 = some (.iconst 0, 1) := by decide +kernel
theorem pm_a210_25 : pm_as (pm_cd pm_mm210) 25 = some (.istore_n 2, 1) := by decide +kernel
theorem pm_a210_26 : pm_as (pm_cd pm_mm210) 26 = some (.iconst 0, 1) := by decide +kernel
theorem pm_a210_27 : pm_as (pm_cd pm_mm210) 27 = some (.istore_n 3, 1) := by decide +kernel
theorem pm_a210_28 : pm_as (pm_cd pm_mm210) 28 = some (.iconst 1, 1) := by decide +kernel
theorem pm_a210_29 : pm_as (pm_cd pm_mm210) 29 = some (.istore 4, 2) := by decide +kernel
theorem pm_a210_31 : pm_as (pm_cd pm_mm210) 31 = some (.aload_n 0, 1) := by decide +kernel
theorem pm_a210_32 : pm_as (pm_cd pm_mm210) 32 = some (.getfield 102, 3) := by decide +kernel
theorem pm_a210_35 : pm_as (pm_cd pm_mm210) 35 = some (.iconst 0, 1) := by decide +kernel
theorem pm_a210_36 : pm_as (pm_cd pm_mm210) 36 = some (.iload_n 1, 1) := by decide +kernel
theorem pm_a210_37 : pm_as (pm_cd pm_mm210) 37 = some (.iastore, 1) := by decide +kernel
theorem pm_a210_38 : pm_as (pm_cd pm_mm210) 38 = some (.iload 4, 2) := by decide +kernel
theorem pm_a210_40 : pm_as (pm_cd pm_mm210) 40 = some (.ifCond .le 128, 3) := by decide +kernel
theorem pm_a210_43 : pm_as (pm_cd pm_mm210) 43 = some (.iinc 4 (-1), 3) := by decide +kernel
theorem pm_a210_46 : pm_as (pm_cd pm_mm210) 46 = some (.aload_n 0, 1) := by decide +kernel
theorem pm_a210_47 : pm_as (pm_cd pm_mm210) 47 = some (.aload_n 0, 1) := by decide +kernel
theorem pm_a210_48 : pm_as (pm_cd pm_mm210) 48 = some (.getfield 102, 3) := by decide +kernel
theorem pm_a210_51 : pm_as (pm_cd pm_mm210) 51 = some (.iload 4, 2) := by decide +kernel
theorem pm_a210_53 : pm_as (pm_cd pm_mm210) 53 = some (.iaload, 1) := by decide +kernel
theorem pm_a210_54 : pm_as (pm_cd pm_mm210) 54 = some (.invokevirtual 310, 3) := by decide +kernel
theorem pm_a210_57 : pm_as (pm_cd pm_mm210) 57 = some (.istore 5, 2) := by decide +kernel
theorem pm_a210_59 : pm_as (pm_cd pm_mm210) 59 = some (.iload_n 2, 1) := by decide +kernel
theorem pm_a210_60 : pm_as (pm_cd pm_mm210) 60 = some (.sipush 500, 3) := by decide +kernel
theorem pm_a210_63 : pm_as (pm_cd pm_mm210) 63 = some (.if_icmp .ne 6, 3) := by decide +kernel
theorem pm_a210_66 : pm_as (pm_cd pm_mm210) 66 = some (.bipush (-3), 2) := by decide +kernel
theorem pm_a210_68 : pm_as (pm_cd pm_mm210) 68 = some (.ireturn, 1) := by decide +kernel
theorem pm_a210_69 : pm_as (pm_cd pm_mm210) 69 = some (.aload_n 0, 1) := by decide +kernel
theorem pm_a210_70 : pm_as (pm_cd pm_mm210) 70 = some (.getfield 63, 3) := by decide +kernel
theorem pm_a210_73 : pm_as (pm_cd pm_mm210) 73 = some (.iload 5, 2) := by decide +kernel
theorem pm_a210_75 : pm_as (pm_cd pm_mm210) 75 = some (.iaload, 1) := by decide +kernel
theorem pm_a210_76 : pm_as (pm_cd pm_mm210) 76 = some (.bipush (-4), 2) := by decide +kernel
theorem pm_a210_78 : pm_as (pm_cd pm_mm210) 78 = some (.if_icmp .ne 44, 3) := by decide +kernel
theorem pm_a210_81 : pm_as (pm_cd pm_mm210) 81 = some (.aload_n 0, 1) := by decide +kernel
theorem pm_a210_82 : pm_as (pm_cd pm_mm210) 82 = some (.getfield 99, 3) := by decide +kernel
theorem pm_a210_85 : pm_as (pm_cd pm_mm210) 85 = some (.iload 5, 2) := by decide +kernel
theorem pm_a210_87 : pm_as (pm_cd pm_mm210) 87 = some (.iaload, 1) := by decide +kernel
theorem pm_a210_88 : pm_as (pm_cd pm_mm210) 88 = some (.bipush (-4), 2) := by decide +kernel
theorem pm_a210_90 : pm_as (pm_cd pm_mm210) 90 = some (.if_icmp .ne 14, 3) := by decide +kernel
theorem pm_a210_93 : pm_as (pm_cd pm_mm210) 93 = some (.aload_n 0, 1) := by decide +kernel
theorem pm_a210_94 : pm_as (pm_cd pm_mm210) 94 = some (.getfield 99, 3) := by decide +kernel
theorem pm_a210_97 : pm_as (pm_cd pm_mm210) 97 = some (.iload 5, 2) := by decide +kernel
theorem pm_a210_99 : pm_as (pm_cd pm_mm210) 99 = some (.iload_n 3, 1) := by decide +kernel
theorem pm_a210_100 : pm_as (pm_cd pm_mm210) 100 = some (.iastore, 1) := by decide +kernel
theorem pm_a210_101 : pm_as (pm_cd pm_mm210) 101 = some (.iinc 3 1, 3) := by decide +kernel
theorem pm_a210_104 : pm_as (pm_cd pm_mm210) 104 = some (.aload_n 0, 1) := by decide +kernel
theorem pm_a210_105 : pm_as (pm_cd pm_mm210) 105 = some (.getfield 96, 3) := by decide +kernel
theorem pm_a210_108 : pm_as (pm_cd pm_mm210) 108 = some (.iload_n 2, 1) := by decide +kernel
theorem pm_a210_109 : pm_as (pm_cd pm_mm210) 109 = some (.iconst 1, 1) := by decide +kernel
theorem pm_a210_110 : pm_as (pm_cd pm_mm210) 110 = some (.aload_n 0, 1) := by decide +kernel
theorem pm_a210_111 : pm_as (pm_cd pm_mm210) 111 = some (.getfield 99, 3) := by decide +kernel
theorem pm_a210_114 : pm_as (pm_cd pm_mm210) 114 = some (.iload 5, 2) := by decide +kernel
theorem pm_a210_116 : pm_as (pm_cd pm_mm210) 116 = some (.iaload, 1) := by decide +kernel
theorem pm_a210_117 : pm_as (pm_cd pm_mm210) 117 = some (.iadd, 1) := by decide +kernel
theorem pm_a210_118 : pm_as (pm_cd pm_mm210) 118 = some (.iastore, 1) := by decide +kernel
theorem pm_a210_119 : pm_as (pm_cd pm_mm210) 119 = some (.goto 43, 3) := by decide +kernel
theorem pm_a210_122 : pm_as (pm_cd pm_mm210) 122 = some (.aload_n 0, 1) := by decide +kernel
theorem pm_a210_123 : pm_as (pm_cd pm_mm210) 123 = some (.getfield 96, 3) := by decide +kernel
theorem pm_a210_126 : pm_as (pm_cd pm_mm210) 126 = some (.iload_n 2, 1) := by decide +kernel
theorem pm_a210_127 : pm_as (pm_cd pm_mm210) 127 = some (.iconst 0, 1) := by decide +kernel
theorem pm_a210_128 : pm_as (pm_cd pm_mm210) 128 = some (.iastore, 1) := by decide +kernel
theorem pm_a210_129 : pm_as (pm_cd pm_mm210) 129 = some (.aload_n 0, 1) := by decide +kernel
theorem pm_a210_130 : pm_as (pm_cd pm_mm210) 130 = some (.getfield 102, 3) := by decide +kernel
theorem pm_a210_133 : pm_as (pm_cd pm_mm210) 133 = some (.iload 4, 2) := by decide +kernel
theorem pm_a210_135 : pm_as (pm_cd pm_mm210) 135 = some (.aload_n 0, 1) := by decide +kernel
theorem pm_a210_136 : pm_as (pm_cd pm_mm210) 136 = some (.getfield 66, 3) := by decide +kernel
theorem pm_a210_139 : pm_as (pm_cd pm_mm210) 139 = some (.iload 5, 2) := by decide +kernel
theorem pm_a210_141 : pm_as (pm_cd pm_mm210) 141 = some (.iaload, 1) := by decide +kernel
theorem pm_a210_142 : pm_as (pm_cd pm_mm210) 142 = some (.iastore, 1) := by decide +kernel
theorem pm_a210_143 : pm_as (pm_cd pm_mm210) 143 = some (.aload_n 0, 1) := by decide +kernel
theorem pm_a210_144 : pm_as (pm_cd pm_mm210) 144 = some (.getfield 102, 3) := by decide +kernel
theorem pm_a210_147 : pm_as (pm_cd pm_mm210) 147 = some (.iload 4, 2) := by decide +kernel
theorem pm_a210_149 : pm_as (pm_cd pm_mm210) 149 = some (.iconst 1, 1) := by decide +kernel
theorem pm_a210_150 : pm_as (pm_cd pm_mm210) 150 = some (.iadd, 1) := by decide +kernel
theorem pm_a210_151 : pm_as (pm_cd pm_mm210) 151 = some (.aload_n 0, 1) := by decide +kernel
theorem pm_a210_152 : pm_as (pm_cd pm_mm210) 152 = some (.getfield 63, 3) := by decide +kernel
theorem pm_a210_155 : pm_as (pm_cd pm_mm210) 155 = some (.iload 5, 2) := by decide +kernel
theorem pm_a210_157 : pm_as (pm_cd pm_mm210) 157 = some (.iaload, 1) := by decide +kernel
theorem pm_a210_158 : pm_as (pm_cd pm_mm210) 158 = some (.iastore, 1) := by decide +kernel
theorem pm_a210_159 : pm_as (pm_cd pm_mm210) 159 = some (.iinc 4 2, 3) := by decide +kernel
theorem pm_a210_162 : pm_as (pm_cd pm_mm210) 162 = some (.iinc 2 1, 3) := by decide +kernel
theorem pm_a210_165 : pm_as (pm_cd pm_mm210) 165 = some (.goto (-127), 3) := by decide +kernel
theorem pm_a210_168 : pm_as (pm_cd pm_mm210) 168 = some (.iload_n 2, 1) := by decide +kernel
theorem pm_a210_169 : pm_as (pm_cd pm_mm210) 169 = some (.ireturn, 1) := by decide +kernel
theorem pm_a211_0 : pm_as (pm_cd pm_mm211) 0 = some (.iload_n 1, 1) := by decide +kernel
theorem pm_a211_1 : pm_as (pm_cd pm_mm211) 1 = some (.i2l, 1) := by decide +kernel
theorem pm_a211_2 : pm_as (pm_cd pm_mm211) 2 = some (.lconst 0, 1) := by decide +kernel
theorem pm_a211_3 : pm_as (pm_cd pm_mm211) 3 = some (.aload_n 0, 1) := by decide +kernel
theorem pm_a211_4 : pm_as (pm_cd pm_mm211) 4 = some (.getfield 332, 3) := by decide +kernel
theorem pm_a211_7 : pm_as (pm_cd pm_mm211) 7 = some (.iconst 1, 1) := by decide +kernel
theorem pm_a211_8 : pm_as (pm_cd pm_mm211) 8 = some (.isub, 1) := by decide +kernel
theorem pm_a211_9 : pm_as (pm_cd pm_mm211) 9 = some (.i2l, 1) := by decide +kernel
theorem pm_a211_10 : pm_as (pm_cd pm_mm211) 10 = some (.invokestatic 113, 3) := by decide +kernel
theorem pm_a211_13 : pm_as (pm_cd pm_mm211) 13 = some (.ifCond .eq 12, 3) := by decide +kernel
theorem pm_a211_16 : pm_as (pm_cd pm_mm211) 16 = some (.aload_n 0, 1) := by decide +kernel
theorem pm_a211_17 : pm_as (pm_cd pm_mm211) 17 = some (.getfield 93, 3) := by decide +kernel
theorem pm_a211_20 : pm_as (pm_cd pm_mm211) 20 = some (.iload_n 1, 1) := by decide +kernel
theorem pm_a211_21 : pm_as (pm_cd pm_mm211) 21 = some (.iaload, 1) := by decide +kernel
theorem pm_a211_22 : pm_as (pm_cd pm_mm211) 22 = some (.goto 4, 3) := by decide +kernel
theorem pm_a211_25 : pm_as (pm_cd pm_mm211) 25 = some (.iconst (-1), 1) := by decide +kernel
theorem pm_a211_26 : pm_as (pm_cd pm_mm211) 26 = some (.ireturn, 1) := by decide +kernel
theorem pm_a212_0 : pm_as (pm_cd pm_mm212) 0 = some (.aload_n 0, 1) := by decide +kernel
theorem pm_a212_1 : pm_as (pm_cd pm_mm212) 1 = some (.iload_n 1, 1) := by decide +kernel
theorem pm_a212_2 : pm_as (pm_cd pm_mm212) 2 = some (.invokevirtual 213, 3) := by decide +kernel
theorem pm_a212_5 : pm_as (pm_cd pm_mm212) 5 = some (.ifCond .eq 15, 3) := by decide +kernel
theorem pm_a212_8 : pm_as (pm_cd pm_mm212) 8 = some (.iload_n 2, 1) := by decide +kernel
theorem pm_a212_9 : pm_as (pm_cd pm_mm212) 9 = some (.i2l, 1) := by decide +kernel
theorem pm_a212_10 : pm_as (pm_cd pm_mm212) 10 = some (.lconst 0, 1) := by decide +kernel
theorem pm_a212_11 : pm_as (pm_cd pm_mm212) 11 = some (.ldc2_w 335, 3) := by decide +kernel
theorem pm_a212_14 : pm_as (pm_cd pm_mm212) 14 = some (.invokestatic 113, 3) := by decide +kernel
theorem pm_a212_17 : pm_as (pm_cd pm_mm212) 17 = some (.ifCond .ne 5, 3) := by decide +kernel
theorem pm_a212_20 : pm_as (pm_cd pm_mm212) 20 = some (.iconst (-1), 1) := by decide +kernel
theorem pm_a212_21 : pm_as (pm_cd pm_mm212) 21 = some (.ireturn, 1) := by decide +kernel
theorem pm_a212_22 : pm_as (pm_cd pm_mm212) 22 = some (.aload_n 0, 1) := by decide +kernel
theorem pm_a212_23 : pm_as (pm_cd pm_mm212) 23 = some (.iload_n 1, 1) := by decide +kernel
theorem pm_a212_24 : pm_as (pm_cd pm_mm212) 24 = some (.invokevirtual 231, 3) := by decide +kernel
theorem pm_a212_27 : pm_as (pm_cd pm_mm212) 27 = some (.aload_n 0, 1) := by decide +kernel
theorem pm_a212_28 : pm_as (pm_cd pm_mm212) 28 = some (.iconst 0, 1) := by decide +kernel
theorem pm_a212_29 : pm_as (pm_cd pm_mm212) 29 = some (.invokevirtual 225, 3) := by decide +kernel
theorem pm_a212_32 : pm_as (pm_cd pm_mm212) 32 = some (.iconst 0, 1) := by decide +kernel
theorem pm_a212_33 : pm_as (pm_cd pm_mm212) 33 = some (.istore_n 3, 1) := by decide +kernel
theorem pm_a212_34 : pm_as (pm_cd pm_mm212) 34 = some (.iconst 0, 1) := by decide +kernel
theorem pm_a212_35 : pm_as (pm_cd pm_mm212) 35 = some (.istore 4, 2) := by decide +kernel
theorem pm_a212_37 : pm_as (pm_cd pm_mm212) 37 = some (.iconst 0, 1) := by decide +kernel
theorem pm_a212_38 : pm_as (pm_cd pm_mm212) 38 = some (.istore 5, 2) := by decide +kernel
theorem pm_a212_40 : pm_as (pm_cd pm_mm212) 40 = some (.iconst 0, 1) := by decide +kernel
theorem pm_a212_41 : pm_as (pm_cd pm_mm212) 41 = some (.istore 6, 2) := by decide +kernel
theorem pm_a212_43 : pm_as (pm_cd pm_mm212) 43 = some (.iload 6, 2) := by decide +kernel
theorem pm_a212_45 : pm_as (pm_cd pm_mm212) 45 = some (.aload_n 0, 1) := by decide +kernel
theorem pm_a212_46 : pm_as (pm_cd pm_mm212) 46 = some (.getfield 117, 3) := by decide +kernel
theorem pm_a212_49 : pm_as (pm_cd pm_mm212) 49 = some (.if_icmp .ge 99, 3) := by decide +kernel
theorem pm_a212_52 : pm_as (pm_cd pm_mm212) 52 = some (.aload_n 0, 1) := by decide +kernel
theorem pm_a212_53 : pm_as (pm_cd pm_mm212) 53 = some (.getfield 19, 3) := by decide +kernel
theorem pm_a212_56 : pm_as (pm_cd pm_mm212) 56 = some (.iload 6, 2) := by decide +kernel
theorem pm_a212_58 : pm_as (pm_cd pm_mm212) 58 = some (.iaload, 1) := by decide +kernel
theorem pm_a212_59 : pm_as (pm_cd pm_mm212) 59 = some (.iconst 1, 1) := by decide +kernel
theorem pm_a212_60 : pm_as (pm_cd pm_mm212) 60 = some (.if_icmp .ne 28, 3) := by decide +kernel
theorem pm_a212_63 : pm_as (pm_cd pm_mm212) 63 = some (.aload_n 0, 1) := by decide +kernel
theorem pm_a212_64 : pm_as (pm_cd pm_mm212) 64 = some (.getfield 22, 3) := by decide +kernel
theorem pm_a212_67 : pm_as (pm_cd pm_mm212) 67 = some (.iload 6, 2) := by decide +kernel
theorem pm_a212_69 : pm_as (pm_cd pm_mm212) 69 = some (.iaload, 1) := by decide +kernel
theorem pm_a212_70 : pm_as (pm_cd pm_mm212) 70 = some (.iconst 1, 1) := by decide +kernel
theorem pm_a212_71 : pm_as (pm_cd pm_mm212) 71 = some (.iadd, 1) := by decide +kernel
theorem pm_a212_72 : pm_as (pm_cd pm_mm212) 72 = some (.iload_n 3, 1) := by decide +kernel
theorem pm_a212_73 : pm_as (pm_cd pm_mm212) 73 = some (.if_icmp .le 15, 3) := by decide +kernel
theorem pm_a212_76 : pm_as (pm_cd pm_mm212) 76 = some (.aload_n 0, 1) := by decide +kernel
theorem pm_a212_77 : pm_as (pm_cd pm_mm212) 77 = some (.getfield 22, 3) := by decide +kernel
theorem pm_a212_80 : pm_as (pm_cd pm_mm212) 80 = some (.iload 6, 2) := by decide +kernel
theorem pm_a212_82 : pm_as (pm_cd pm_mm212) 82 = some (.iaload, 1) := by decide +kernel
theorem pm_a212_83 : pm_as (pm_cd pm_mm212) 83 = some (.iconst 1, 1) := by decide +kernel
theorem pm_a212_84 : pm_as (pm_cd pm_mm212) 84 = some (.iadd, 1) := by decide +kernel
theorem pm_a212_85 : pm_as (pm_cd pm_mm212) 85 = some (.goto 4, 3) := by decide +kernel
theorem pm_a212_88 : pm_as (pm_cd pm_mm212) 88 = some (.iload_n 3, 1) := by decide +kernel
theorem pm_a212_89 : pm_as (pm_cd pm_mm212) 89 = some (.istore_n 3, 1) := by decide +kernel
theorem pm_a212_90 : pm_as (pm_cd pm_mm212) 90 = some (.iload 4, 2) := by decide +kernel
theorem pm_a212_92 : pm_as (pm_cd pm_mm212) 92 = some (.aload_n 0, 1) := by decide +kernel
theorem pm_a212_93 : pm_as (pm_cd pm_mm212) 93 = some (.getfield 19, 3) := by decide +kernel
theorem pm_a212_96 : pm_as (pm_cd pm_mm212) 96 = some (.iload 6, 2) := by decide +kernel
theorem pm_a212_98 : pm_as (pm_cd pm_mm212) 98 = some (.iaload, 1) := by decide +kernel
theorem pm_a212_99 : pm_as (pm_cd pm_mm212) 99 = some (.bipush 9, 2) := by decide +kernel
theorem pm_a212_101 : pm_as (pm_cd pm_mm212) 101 = some (.if_icmp .le 7, 3) := by decide +kernel
theorem pm_a212_104 : pm_as (pm_cd pm_mm212) 104 = some (.iconst 1, 1) := by decide +kernel
theorem pm_a212_105 : pm_as (pm_cd pm_mm212) 105 = some (.goto 4, 3) := by decide +kernel
theorem pm_a212_108 : pm_as (pm_cd pm_mm212) 108 = some (.iconst 0, 1) := by decide +kernel
theorem pm_a212_109 : pm_as (pm_cd pm_mm212) 109 = some (.iadd, 1) := by decide +kernel
theorem pm_a212_110 : pm_as (pm_cd pm_mm212) 110 = some (.istore 4, 2) := by decide +kernel
theorem pm_a212_112 : pm_as (pm_cd pm_mm212) 112 = some (.iload 5, 2) := by decide +kernel
theorem pm_a212_114 : pm_as (pm_cd pm_mm212) 114 = some (.aload_n 0, 1) := by decide +kernel
theorem pm_a212_115 : pm_as (pm_cd pm_mm212) 115 = some (.getfield 19, 3) := by decide +kernel
theorem pm_a212_118 : pm_as (pm_cd pm_mm212) 118 = some (.iload 6, 2) := by decide +kernel
theorem pm_a212_120 : pm_as (pm_cd pm_mm212) 120 = some (.iaload, 1) := by decide +kernel
theorem pm_a212_121 : pm_as (pm_cd pm_mm212) 121 = some (.i2l, 1) := by decide +kernel
theorem pm_a212_122 : pm_as (pm_cd pm_mm212) 122 = some (.ldc2_w 337, 3) := by decide +kernel
theorem pm_a212_125 : pm_as (pm_cd pm_mm212) 125 = some (.ldc2_w 339, 3) := by decide +kernel
theorem pm_a212_128 : pm_as (pm_cd pm_mm212) 128 = some (.invokestatic 113, 3) := by decide +kernel
theorem pm_a212_131 : pm_as (pm_cd pm_mm212) 131 = some (.ifCond .eq 7, 3) := by decide +kernel
theorem pm_a212_134 : pm_as (pm_cd pm_mm212) 134 = some (.iconst 1, 1) := by decide +kernel
theorem pm_a212_135 : pm_as (pm_cd pm_mm212) 135 = some (.goto 4, 3) := by decide +kernel
theorem pm_a212_138 : pm_as (pm_cd pm_mm212) 138 = some (.iconst 0, 1) := by decide +kernel
theorem pm_a212_139 : pm_as (pm_cd pm_mm212) 139 = some (.iadd, 1) := by decide +kernel
theorem pm_a212_140 : pm_as (pm_cd pm_mm212) 140 = some (.istore 5, 2) := by decide +kernel
theorem pm_a212_142 : pm_as (pm_cd pm_mm212) 142 = some (.iinc 6 1, 3) := by decide +kernel
theorem pm_a212_145 : pm_as (pm_cd pm_mm212) 145 = some (.goto (-102), 3) := by decide +kernel
theorem pm_a212_148 : pm_as (pm_cd pm_mm212) 148 = some (.iload_n 2, 1) := by decide +kernel
theorem pm_a212_149 : pm_as (pm_cd pm_mm212) 149 = some (.ifCond .ne 7, 3) := by decide +kernel
theorem pm_a212_152 : pm_as (pm_cd pm_mm212) 152 = some (.iload_n 3, 1) := by decide +kernel
theorem pm_a212_153 : pm_as (pm_cd pm_mm212) 153 = some (.goto 52, 3) := by decide +kernel
theorem pm_a212_156 : pm_as (pm_cd pm_mm212) 156 = some (.iload_n 2, 1) := by decide +kernel
theorem pm_a212_157 : pm_as (pm_cd pm_mm212) 157 = some (.iconst 1, 1) := by decide +kernel
theorem pm_a212_158 : pm_as (pm_cd pm_mm212) 158 = some (.if_icmp .ne 15, 3) := by decide +kernel
theorem pm_a212_161 : pm_as (pm_cd pm_mm212) 161 = some (.iload_n 3, 1) := by decide +kernel
theorem pm_a212_162 : pm_as (pm_cd pm_mm212) 162 = some (.ifCond .le 7, 3) := by decide +kernel
theorem pm_a212_165 : pm_as (pm_cd pm_mm212) 165 = some (.iconst 1, 1) := by decide +kernel
theorem pm_a212_166 : pm_as (pm_cd pm_mm212) 166 = some (.goto 39, 3) := by decide +kernel
theorem pm_a212_169 : pm_as (pm_cd pm_mm212) 169 = some (.iconst 0, 1) := by decide +kernel
theorem pm_a212_170 : pm_as (pm_cd pm_mm212) 170 = some (.goto 35, 3) := by decide +kernel
theorem pm_a212_173 : pm_as (pm_cd pm_mm212) 173 = some (.iload_n 2, 1) := by decide +kernel
theorem pm_a212_174 : pm_as (pm_cd pm_mm212) 174 = some (.iconst 2, 1) := by decide +kernel
theorem pm_a212_175 : pm_as (pm_cd pm_mm212) 175 = some (.if_icmp .ne 8, 3) := by decide +kernel
theorem pm_a212_178 : pm_as (pm_cd pm_mm212) 178 = some (.iload 4, 2) := by decide +kernel
theorem pm_a212_180 : pm_as (pm_cd pm_mm212) 180 = some (.goto 25, 3) := by decide +kernel
theorem pm_a212_183 : pm_as (pm_cd pm_mm212) 183 = some (.iload_n 2, 1) := by decide +kernel
theorem pm_a212_184 : pm_as (pm_cd pm_mm212) 184 = some (.iconst 3, 1) := by decide +kernel
theorem pm_a212_185 : pm_as (pm_cd pm_mm212) 185 = some (.if_icmp .ne 8, 3) := by decide +kernel
theorem pm_a212_188 : pm_as (pm_cd pm_mm212) 188 = some (.iload 5, 2) := by decide +kernel
theorem pm_a212_190 : pm_as (pm_cd pm_mm212) 190 = some (.goto 15, 3) := by decide +kernel
theorem pm_a212_193 : pm_as (pm_cd pm_mm212) 193 = some (.aload_n 0, 1) := by decide +kernel
theorem pm_a212_194 : pm_as (pm_cd pm_mm212) 194 = some (.invokevirtual 284, 3) := by decide +kernel
theorem pm_a212_197 : pm_as (pm_cd pm_mm212) 197 = some (.ifCond .ne 7, 3) := by decide +kernel
theorem pm_a212_200 : pm_as (pm_cd pm_mm212) 200 = some (.iconst 1, 1) := by decide +kernel
theorem pm_a212_201 : pm_as (pm_cd pm_mm212) 201 = some (.goto 4, 3) := by decide +kernel
theorem pm_a212_204 : pm_as (pm_cd pm_mm212) 204 = some (.iconst 0, 1) := by decide +kernel
theorem pm_a212_205 : pm_as (pm_cd pm_mm212) 205 = some (.ireturn, 1) := by decide +kernel
theorem pm_a213_0 : pm_as (pm_cd pm_mm213) 0 = some (.aload_n 0, 1) := by decide +kernel
theorem pm_a213_1 : pm_as (pm_cd pm_mm213) 1 = some (.getfield 204, 3) := by decide +kernel
theorem pm_a213_4 : pm_as (pm_cd pm_mm213) 4 = some (.ifCond .ne 6, 3) := by decide +kernel
theorem pm_a213_7 : pm_as (pm_cd pm_mm213) 7 = some (.bipush (-4), 2) := by decide +kernel
theorem pm_a213_9 : pm_as (pm_cd pm_mm213) 9 = some (.ireturn, 1) := by decide +kernel
theorem pm_a213_10 : pm_as (pm_cd pm_mm213) 10 = some (.aload_n 0, 1) := by decide +kernel
theorem pm_a213_11 : pm_as (pm_cd pm_mm213) 11 = some (.dup, 1) := by decide +kernel
theorem pm_a213_12 : pm_as (pm_cd pm_mm213) 12 = some (.getfield 204, 3) := by decide +kernel
theorem pm_a213_15 : pm_as (pm_cd pm_mm213) 15 = some (.iconst 1, 1) := by decide +kernel
theorem pm_a213_16 : pm_as (pm_cd pm_mm213) 16 = some (.isub, 1) := by decide +kernel
theorem pm_a213_17 : pm_as (pm_cd pm_mm213) 17 = some (.putfield 204, 3) := by decide +kernel
theorem pm_a213_20 : pm_as (pm_cd pm_mm213) 20 = some (.aload_n 0, 1) := by decide +kernel
theorem pm_a213_21 : pm_as (pm_cd pm_mm213) 21 = some (.getfield 204, 3) := by decide +kernel
theorem pm_a213_24 : pm_as (pm_cd pm_mm213) 24 = some (.ireturn, 1) := by decide +kernel
theorem pm_a214_0 : pm_as (pm_cd pm_mm214) 0 = some (.iconst 0, 1) := by decide +kernel
theorem pm_a214_1 : pm_as (pm_cd pm_mm214) 1 = some (.istore_n 2, 1) := by decide +kernel
theorem pm_a214_2 : pm_as (pm_cd pm_mm214) 2 = some (.iconst 0, 1) := by decide +kernel
theorem pm_a214_3 : pm_as (pm_cd pm_mm214) 3 = some (.istore_n 3, 1) := by decide +kernel
theorem pm_a214_4 : pm_as (pm_cd pm_mm214) 4 = some (.iload_n 3, 1) := by decide +kernel
theorem pm_a214_5 : pm_as (pm_cd pm_mm214) 5 = some (.aload_n 0, 1) := by decide +kernel
theorem pm_a214_6 : pm_as (pm_cd pm_mm214) 6 = some (.getfield 204, 3) := by decide +kernel
theorem pm_a214_9 : pm_as (pm_cd pm_mm214) 9 = some (.if_icmp .ge 18, 3) := by decide +kernel
theorem pm_a214_12 : pm_as (pm_cd pm_mm214) 12 = some (.iload_n 2, 1) := by decide +kernel
theorem pm_a214_13 : pm_as (pm_cd pm_mm214) 13 = some (.aload_n 0, 1) := by decide +kernel
theorem pm_a214_14 : pm_as (pm_cd pm_mm214) 14 = some (.getfield 7, 3) := by decide +kernel
theorem pm_a214_17 : pm_as (pm_cd pm_mm214) 17 = some (.iload_n 3, 1) := by decide +kernel
theorem pm_a214_18 : pm_as (pm_cd pm_mm214) 18 = some (.iaload, 1) := by decide +kernel
theorem pm_a214_19 : pm_as (pm_cd pm_mm214) 19 = some (.iadd, 1) := by decide +kernel
theorem pm_a214_20 : pm_as (pm_cd pm_mm214) 20 = some (.istore_n 2, 1) := by decide +kernel
theorem pm_a214_21 : pm_as (pm_cd pm_mm214) 21 = some (.iinc 3 1, 3) := by decide +kernel
theorem pm_a214_24 : pm_as (pm_cd pm_mm214) 24 = some (.goto (-20), 3) := by decide +kernel
theorem pm_a214_27 : pm_as (pm_cd pm_mm214) 27 = some (.iload_n 1, 1) := by decide +kernel
theorem pm_a214_28 : pm_as (pm_cd pm_mm214) 28 = some (.ifCond .ne 10, 3) := by decide +kernel
theorem pm_a214_31 : pm_as (pm_cd pm_mm214) 31 = some (.aload_n 0, 1) := by decide +kernel
theorem pm_a214_32 : pm_as (pm_cd pm_mm214) 32 = some (.getfield 204, 3) := by decide +kernel
theorem pm_a214_35 : pm_as (pm_cd pm_mm214) 35 = some (.goto 25, 3) := by decide +kernel
theorem pm_a214_38 : pm_as (pm_cd pm_mm214) 38 = some (.iload_n 1, 1) := by decide +kernel
theorem pm_a214_39 : pm_as (pm_cd pm_mm214) 39 = some (.iconst 1, 1) := by decide +kernel
theorem pm_a214_40 : pm_as (pm_cd pm_mm214) 40 = some (.if_icmp .ne 10, 3) := by decide +kernel
theorem pm_a214_43 : pm_as (pm_cd pm_mm214) 43 = some (.aload_n 0, 1) := by decide +kernel
theorem pm_a214_44 : pm_as (pm_cd pm_mm214) 44 = some (.getfield 105, 3) := by decide +kernel
theorem pm_a214_47 : pm_as (pm_cd pm_mm214) 47 = some (.goto 13, 3) := by decide +kernel
theorem pm_a214_50 : pm_as (pm_cd pm_mm214) 50 = some (.iload_n 1, 1) := by decide +kernel
theorem pm_a214_51 : pm_as (pm_cd pm_mm214) 51 = some (.iconst 2, 1) := by decide +kernel
theorem pm_a214_52 : pm_as (pm_cd pm_mm214) 52 = some (.if_icmp .ne 7, 3) := by decide +kernel
theorem pm_a214_55 : pm_as (pm_cd pm_mm214) 55 = some (.iload_n 2, 1) := by decide +kernel
theorem pm_a214_56 : pm_as (pm_cd pm_mm214) 56 = some (.goto 4, 3) := by decide +kernel
theorem pm_a214_59 : pm_as (pm_cd pm_mm214) 59 = some (.iconst (-1), 1) := by decide +kernel
theorem pm_a214_60 : pm_as (pm_cd pm_mm214) 60 = some (.ireturn, 1) := by decide +kernel
