theorem f_140_188 : x_fe 140 188 = some (.iaload, 189) := by decide +kernel
theorem f_140_189 : x_fe 140 189 = some (.ineg, 190) := by decide +kernel
theorem f_140_190 : x_fe 140 190 = some (.iadd, 191) := by decide +kernel
theorem f_140_191 : x_fe 140 191 = some (.istore 3, 192) := by decide +kernel
theorem f_140_192 : x_fe 140 192 = some (.aload 0, 193) := by decide +kernel
theorem f_140_193 : x_fe 140 193 = some (.iload 1, 194) := by decide +kernel
theorem f_140_194 : x_fe 140 194 = some (.ifCond .ne (Int.ofNat 216), 197) := by decide +kernel
theorem f_140_197 : x_fe 140 197 = some (.iload 3, 198) := by decide +kernel
theorem f_140_198 : x_fe 140 198 = some (.aload 0, 199) := by decide +kernel
theorem f_140_199 : x_fe 140 199 = some (.getfield 216, 202) := by decide +kernel
theorem f_140_202 : x_fe 140 202 = some (.iconst (0), 203) := by decide +kernel
theorem f_140_203 : x_fe 140 203 = some (.iaload, 204) := by decide +kernel
theorem f_140_204 : x_fe 140 204 = some (.if_icmp .le (Int.ofNat 216), 207) := by decide +kernel
theorem f_140_207 : x_fe 140 207 = some (.aload 0, 208) := by decide +kernel
theorem f_140_208 : x_fe 140 208 = some (.getfield 214, 211) := by decide +kernel
theorem f_140_211 : x_fe 140 211 = some (.iconst (0), 212) := by decide +kernel
theorem f_140_212 : x_fe 140 212 = some (.iaload, 213) := by decide +kernel
theorem f_140_213 : x_fe 140 213 = some (.goto (Int.ofNat 220), 216) := by decide +kernel
theorem f_140_216 : x_fe 140 216 = some (.aload 0, 217) := by decide +kernel
theorem f_140_217 : x_fe 140 217 = some (.getfield 217, 220) := by decide +kernel
theorem f_140_220 : x_fe 140 220 = some (.putfield 217, 223) := by decide +kernel
theorem f_140_223 : x_fe 140 223 = some (.aload 0, 224) := by decide +kernel
theorem f_140_224 : x_fe 140 224 = some (.getfield 216, 227) := by decide +kernel
theorem f_140_227 : x_fe 140 227 = some (.iload 1, 228) := by decide +kernel
theorem f_140_228 : x_fe 140 228 = some (.iload 3, 229) := by decide +kernel
theorem f_140_229 : x_fe 140 229 = some (.aload 0, 230) := by decide +kernel
theorem f_140_230 : x_fe 140 230 = some (.getfield 216, 233) := by decide +kernel
theorem f_140_233 : x_fe 140 233 = some (.iload 1, 234) := by decide +kernel
theorem f_140_234 : x_fe 140 234 = some (.iaload, 235) := by decide +kernel
theorem f_140_235 : x_fe 140 235 = some (.if_icmp .le (Int.ofNat 242), 238) := by decide +kernel
theorem f_140_238 : x_fe 140 238 = some (.iload 3, 239) := by decide +kernel
theorem f_140_239 : x_fe 140 239 = some (.goto (Int.ofNat 248), 242) := by decide +kernel
theorem f_140_242 : x_fe 140 242 = some (.aload 0, 243) := by decide +kernel
theorem f_140_243 : x_fe 140 243 = some (.getfield 216, 246) := by decide +kernel
theorem f_140_246 : x_fe 140 246 = some (.iload 1, 247) := by decide +kernel
theorem f_140_247 : x_fe 140 247 = some (.iaload, 248) := by decide +kernel
theorem f_140_248 : x_fe 140 248 = some (.iastore, 249) := by decide +kernel
theorem f_140_249 : x_fe 140 249 = some (.aload 0, 250) := by decide +kernel
theorem f_140_250 : x_fe 140 250 = some (.getfield 214, 253) := by decide +kernel
theorem f_140_253 : x_fe 140 253 = some (.iload 1, 254) := by decide +kernel
theorem f_140_254 : x_fe 140 254 = some (.dup2, 255) := by decide +kernel
theorem f_140_255 : x_fe 140 255 = some (.iaload, 256) := by decide +kernel
theorem f_140_256 : x_fe 140 256 = some (.iconst (1), 257) := by decide +kernel
theorem f_140_257 : x_fe 140 257 = some (.iadd, 258) := by decide +kernel
theorem f_140_258 : x_fe 140 258 = some (.iastore, 259) := by decide +kernel
theorem f_140_259 : x_fe 140 259 = some (.goto (Int.ofNat 53), 262) := by decide +kernel
theorem f_140_262 : x_fe 140 262 = some (.return_, 263) := by decide +kernel
theorem f_141_0 : x_fe 141 0 = some (.aload 0, 1) := by decide +kernel
theorem f_141_1 : x_fe 141 1 = some (.getfield 211, 4) := by decide +kernel
theorem f_141_4 : x_fe 141 4 = some (.iload 1, 5) := by decide +kernel
theorem f_141_5 : x_fe 141 5 = some (.iload 2, 6) := by decide +kernel
theorem f_141_6 : x_fe 141 6 = some (.iastore, 7) := by decide +kernel
theorem f_141_7 : x_fe 141 7 = some (.aload 0, 8) := by decide +kernel
theorem f_141_8 : x_fe 141 8 = some (.getfield 212, 11) := by decide +kernel
theorem f_141_11 : x_fe 141 11 = some (.iload 1, 12) := by decide +kernel
theorem f_141_12 : x_fe 141 12 = some (.iload 3, 13) := by decide +kernel
theorem f_141_13 : x_fe 141 13 = some (.iastore, 14) := by decide +kernel
theorem f_141_14 : x_fe 141 14 = some (.aload 0, 15) := by decide +kernel
theorem f_141_15 : x_fe 141 15 = some (.getfield 214, 18) := by decide +kernel
theorem f_141_18 : x_fe 141 18 = some (.iload 1, 19) := by decide +kernel
theorem f_141_19 : x_fe 141 19 = some (.iconst (0), 20) := by decide +kernel
theorem f_141_20 : x_fe 141 20 = some (.iastore, 21) := by decide +kernel
theorem f_141_21 : x_fe 141 21 = some (.aload 0, 22) := by decide +kernel
theorem f_141_22 : x_fe 141 22 = some (.getfield 216, 25) := by decide +kernel
theorem f_141_25 : x_fe 141 25 = some (.iload 1, 26) := by decide +kernel
theorem f_141_26 : x_fe 141 26 = some (.aload 0, 27) := by decide +kernel
theorem f_141_27 : x_fe 141 27 = some (.getfield 213, 30) := by decide +kernel
theorem f_141_30 : x_fe 141 30 = some (.iconst (2), 31) := by decide +kernel
theorem f_141_31 : x_fe 141 31 = some (.iload 1, 32) := by decide +kernel
theorem f_141_32 : x_fe 141 32 = some (.imul, 33) := by decide +kernel
theorem f_141_33 : x_fe 141 33 = some (.iaload, 34) := by decide +kernel
theorem f_141_34 : x_fe 141 34 = some (.ifCond .ne (Int.ofNat 54), 37) := by decide +kernel
theorem f_141_37 : x_fe 141 37 = some (.aload 0, 38) := by decide +kernel
theorem f_141_38 : x_fe 141 38 = some (.getfield 213, 41) := by decide +kernel
theorem f_141_41 : x_fe 141 41 = some (.iconst (2), 42) := by decide +kernel
theorem f_141_42 : x_fe 141 42 = some (.iload 1, 43) := by decide +kernel
theorem f_141_43 : x_fe 141 43 = some (.imul, 44) := by decide +kernel
theorem f_141_44 : x_fe 141 44 = some (.iconst (1), 45) := by decide +kernel
theorem f_141_45 : x_fe 141 45 = some (.iadd, 46) := by decide +kernel
theorem f_141_46 : x_fe 141 46 = some (.iaload, 47) := by decide +kernel
theorem f_141_47 : x_fe 141 47 = some (.ifCond .ne (Int.ofNat 54), 50) := by decide +kernel
theorem f_141_50 : x_fe 141 50 = some (.iconst (0), 51) := by decide +kernel
theorem f_141_51 : x_fe 141 51 = some (.goto (Int.ofNat 56), 54) := by decide +kernel
theorem f_141_54 : x_fe 141 54 = some (.iconst (-268435456), 56) := by decide +kernel
theorem f_141_56 : x_fe 141 56 = some (.iastore, 57) := by decide +kernel
theorem f_141_57 : x_fe 141 57 = some (.return_, 58) := by decide +kernel
theorem f_142_0 : x_fe 142 0 = some (.aload 0, 1) := by decide +kernel
theorem f_142_1 : x_fe 142 1 = some (.getfield 214, 4) := by decide +kernel
theorem f_142_4 : x_fe 142 4 = some (.iload 1, 5) := by decide +kernel
theorem f_142_5 : x_fe 142 5 = some (.iaload, 6) := by decide +kernel
theorem f_142_6 : x_fe 142 6 = some (.istore 2, 7) := by decide +kernel
theorem f_142_7 : x_fe 142 7 = some (.aload 0, 8) := by decide +kernel
theorem f_142_8 : x_fe 142 8 = some (.getfield 212, 11) := by decide +kernel
theorem f_142_11 : x_fe 142 11 = some (.iload 1, 12) := by decide +kernel
theorem f_142_12 : x_fe 142 12 = some (.iaload, 13) := by decide +kernel
theorem f_142_13 : x_fe 142 13 = some (.istore 3, 14) := by decide +kernel
theorem f_142_14 : x_fe 142 14 = some (.aload 0, 15) := by decide +kernel
theorem f_142_15 : x_fe 142 15 = some (.getfield 213, 18) := by decide +kernel
theorem f_142_18 : x_fe 142 18 = some (.iconst (2), 19) := by decide +kernel
theorem f_142_19 : x_fe 142 19 = some (.iload 1, 20) := by decide +kernel
theorem f_142_20 : x_fe 142 20 = some (.imul, 21) := by decide +kernel
theorem f_142_21 : x_fe 142 21 = some (.iload 3, 22) := by decide +kernel
theorem f_142_22 : x_fe 142 22 = some (.iadd, 23) := by decide +kernel
theorem f_142_23 : x_fe 142 23 = some (.iaload, 24) := by decide +kernel
theorem f_142_24 : x_fe 142 24 = some (.iload 2, 25) := by decide +kernel
theorem f_142_25 : x_fe 142 25 = some (.iconst (8), 27) := by decide +kernel
theorem f_142_27 : x_fe 142 27 = some (.idiv, 28) := by decide +kernel
theorem f_142_28 : x_fe 142 28 = some (.invokestatic 122, 31) := by decide +kernel
theorem f_142_31 : x_fe 142 31 = some (.ifCond .ne (Int.ofNat 36), 34) := by decide +kernel
theorem f_142_34 : x_fe 142 34 = some (.iconst (0), 35) := by decide +kernel
theorem f_142_35 : x_fe 142 35 = some (.ireturn, 36) := by decide +kernel
theorem f_142_36 : x_fe 142 36 = some (.aload 0, 37) := by decide +kernel
theorem f_142_37 : x_fe 142 37 = some (.getfield 211, 40) := by decide +kernel
theorem f_142_40 : x_fe 142 40 = some (.iload 1, 41) := by decide +kernel
theorem f_142_41 : x_fe 142 41 = some (.iaload, 42) := by decide +kernel
theorem f_142_42 : x_fe 142 42 = some (.aload 0, 43) := by decide +kernel
theorem f_142_43 : x_fe 142 43 = some (.getfield 209, 46) := by decide +kernel
theorem f_142_46 : x_fe 142 46 = some (.iload 2, 47) := by decide +kernel
theorem f_142_47 : x_fe 142 47 = some (.iaload, 48) := by decide +kernel
theorem f_142_48 : x_fe 142 48 = some (.iand, 49) := by decide +kernel
theorem f_142_49 : x_fe 142 49 = some (.istore 4, 51) := by decide +kernel
theorem f_142_51 : x_fe 142 51 = some (.aload 0, 52) := by decide +kernel
theorem f_142_52 : x_fe 142 52 = some (.getfield 215, 55) := by decide +kernel
theorem f_142_55 : x_fe 142 55 = some (.iload 1, 56) := by decide +kernel
theorem f_142_56 : x_fe 142 56 = some (.aload 0, 57) := by decide +kernel
theorem f_142_57 : x_fe 142 57 = some (.iload 4, 59) := by decide +kernel
theorem f_142_59 : x_fe 142 59 = some (.invokevirtual 129, 62) := by decide +kernel
theorem f_142_62 : x_fe 142 62 = some (.iastore, 63) := by decide +kernel
theorem f_142_63 : x_fe 142 63 = some (.aload 0, 64) := by decide +kernel
theorem f_142_64 : x_fe 142 64 = some (.getfield 213, 67) := by decide +kernel
theorem f_142_67 : x_fe 142 67 = some (.iconst (2), 68) := by decide +kernel
theorem f_142_68 : x_fe 142 68 = some (.iload 1, 69) := by decide +kernel
theorem f_142_69 : x_fe 142 69 = some (.imul, 70) := by decide +kernel
theorem f_142_70 : x_fe 142 70 = some (.iconst (2), 71) := by decide +kernel
theorem f_142_71 : x_fe 142 71 = some (.iadd, 72) := by decide +kernel
theorem f_142_72 : x_fe 142 72 = some (.aload 0, 73) := by decide +kernel
theorem f_142_73 : x_fe 142 73 = some (.getfield 213, 76) := by decide +kernel
theorem f_142_76 : x_fe 142 76 = some (.iconst (2), 77) := by decide +kernel
theorem f_142_77 : x_fe 142 77 = some (.iload 1, 78) := by decide +kernel
theorem f_142_78 : x_fe 142 78 = some (.imul, 79) := by decide +kernel
theorem f_142_79 : x_fe 142 79 = some (.iaload, 80) := by decide +kernel
theorem f_142_80 : x_fe 142 80 = some (.iastore, 81) := by decide +kernel
theorem f_142_81 : x_fe 142 81 = some (.aload 0, 82) := by decide +kernel
theorem f_142_82 : x_fe 142 82 = some (.getfield 213, 85) := by decide +kernel
theorem f_142_85 : x_fe 142 85 = some (.iconst (2), 86) := by decide +kernel
theorem f_142_86 : x_fe 142 86 = some (.iload 1, 87) := by decide +kernel
theorem f_142_87 : x_fe 142 87 = some (.imul, 88) := by decide +kernel
theorem f_142_88 : x_fe 142 88 = some (.iconst (3), 89) := by decide +kernel
theorem f_142_89 : x_fe 142 89 = some (.iadd, 90) := by decide +kernel
theorem f_142_90 : x_fe 142 90 = some (.aload 0, 91) := by decide +kernel
theorem f_142_91 : x_fe 142 91 = some (.getfield 213, 94) := by decide +kernel
theorem f_142_94 : x_fe 142 94 = some (.iconst (2), 95) := by decide +kernel
theorem f_142_95 : x_fe 142 95 = some (.iload 1, 96) := by decide +kernel
theorem f_142_96 : x_fe 142 96 = some (.imul, 97) := by decide +kernel
theorem f_142_97 : x_fe 142 97 = some (.iconst (1), 98) := by decide +kernel
theorem f_142_98 : x_fe 142 98 = some (.iadd, 99) := by decide +kernel
theorem f_142_99 : x_fe 142 99 = some (.iaload, 100) := by decide +kernel
theorem f_142_100 : x_fe 142 100 = some (.iastore, 101) := by decide +kernel
theorem f_142_101 : x_fe 142 101 = some (.aload 0, 102) := by decide +kernel
theorem f_142_102 : x_fe 142 102 = some (.getfield 213, 105) := by decide +kernel
theorem f_142_105 : x_fe 142 105 = some (.iconst (2), 106) := by decide +kernel
theorem f_142_106 : x_fe 142 106 = some (.iload 1, 107) := by decide +kernel
theorem f_142_107 : x_fe 142 107 = some (.imul, 108) := by decide +kernel
theorem f_142_108 : x_fe 142 108 = some (.iconst (2), 109) := by decide +kernel
theorem f_142_109 : x_fe 142 109 = some (.iadd, 110) := by decide +kernel
theorem f_142_110 : x_fe 142 110 = some (.iload 3, 111) := by decide +kernel
theorem f_142_111 : x_fe 142 111 = some (.iadd, 112) := by decide +kernel
theorem f_142_112 : x_fe 142 112 = some (.dup2, 113) := by decide +kernel
theorem f_142_113 : x_fe 142 113 = some (.iaload, 114) := by decide +kernel
theorem f_142_114 : x_fe 142 114 = some (.iconst (1), 115) := by decide +kernel
theorem f_142_115 : x_fe 142 115 = some (.iload 2, 116) := by decide +kernel
theorem f_142_116 : x_fe 142 116 = some (.iconst (8), 118) := by decide +kernel
theorem f_142_118 : x_fe 142 118 = some (.idiv, 119) := by decide +kernel
theorem f_142_119 : x_fe 142 119 = some (.ishl, 120) := by decide +kernel
theorem f_142_120 : x_fe 142 120 = some (.iconst (-1), 121) := by decide +kernel
theorem f_142_121 : x_fe 142 121 = some (.ixor, 122) := by decide +kernel
theorem f_142_122 : x_fe 142 122 = some (.iand, 123) := by decide +kernel
theorem f_142_123 : x_fe 142 123 = some (.iastore, 124) := by decide +kernel
theorem f_142_124 : x_fe 142 124 = some (.aload 0, 125) := by decide +kernel
theorem f_142_125 : x_fe 142 125 = some (.iload 1, 126) := by decide +kernel
theorem f_142_126 : x_fe 142 126 = some (.iconst (1), 127) := by decide +kernel
theorem f_142_127 : x_fe 142 127 = some (.iadd, 128) := by decide +kernel
theorem f_142_128 : x_fe 142 128 = some (.iload 4, 130) := by decide +kernel
theorem f_142_130 : x_fe 142 130 = some (.ifCond .ne (Int.ofNat 139), 133) := by decide +kernel
theorem f_142_133 : x_fe 142 133 = some (.iconst (511), 136) := by decide +kernel
theorem f_142_136 : x_fe 142 136 = some (.goto (Int.ofNat 141), 139) := by decide +kernel
theorem f_142_139 : x_fe 142 139 = some (.iload 4, 141) := by decide +kernel
theorem f_142_141 : x_fe 142 141 = some (.aload 0, 142) := by decide +kernel
theorem f_142_142 : x_fe 142 142 = some (.getfield 213, 145) := by decide +kernel
theorem f_142_145 : x_fe 142 145 = some (.iconst (2), 146) := by decide +kernel
theorem f_142_146 : x_fe 142 146 = some (.iload 1, 147) := by decide +kernel
theorem f_142_147 : x_fe 142 147 = some (.imul, 148) := by decide +kernel
theorem f_142_148 : x_fe 142 148 = some (.iconst (3), 149) := by decide +kernel
theorem f_142_149 : x_fe 142 149 = some (.iadd, 150) := by decide +kernel
theorem f_142_150 : x_fe 142 150 = some (.iload 3, 151) := by decide +kernel
theorem f_142_151 : x_fe 142 151 = some (.isub, 152) := by decide +kernel
theorem f_142_152 : x_fe 142 152 = some (.iaload, 153) := by decide +kernel
theorem f_142_153 : x_fe 142 153 = some (.ifCond .eq (Int.ofNat 162), 156) := by decide +kernel
theorem f_142_156 : x_fe 142 156 = some (.iconst (1), 157) := by decide +kernel
theorem f_142_157 : x_fe 142 157 = some (.iload 3, 158) := by decide +kernel
theorem f_142_158 : x_fe 142 158 = some (.isub, 159) := by decide +kernel
theorem f_142_159 : x_fe 142 159 = some (.goto (Int.ofNat 163), 162) := by decide +kernel
theorem f_142_162 : x_fe 142 162 = some (.iload 3, 163) := by decide +kernel
theorem f_142_163 : x_fe 142 163 = some (.invokevirtual 141, 166) := by decide +kernel
theorem f_142_166 : x_fe 142 166 = some (.iconst (1), 167) := by decide +kernel
theorem f_142_167 : x_fe 142 167 = some (.ireturn, 168) := by decide +kernel
theorem f_143_0 : x_fe 143 0 = some (.aload 0, 1) := by decide +kernel
theorem f_143_1 : x_fe 143 1 = some (.iload 1, 2) := by decide +kernel
theorem f_143_2 : x_fe 143 2 = some (.invokevirtual 125, 5) := by decide +kernel
theorem f_143_5 : x_fe 143 5 = some (.ifCond .eq (Int.ofNat 25), 8) := by decide +kernel
theorem f_143_8 : x_fe 143 8 = some (.iload 2, 9) := by decide +kernel
theorem f_143_9 : x_fe 143 9 = some (.invokestatic 126, 12) := by decide +kernel
theorem f_143_12 : x_fe 143 12 = some (.ifCond .eq (Int.ofNat 25), 15) := by decide +kernel
theorem f_143_15 : x_fe 143 15 = some (.iload 3, 16) := by decide +kernel
theorem f_143_16 : x_fe 143 16 = some (.i2l, 17) := by decide +kernel
theorem f_143_17 : x_fe 143 17 = some (.ldc2_w 0, 18) := by decide +kernel
theorem f_143_18 : x_fe 143 18 = some (.ldc2_w 1, 19) := by decide +kernel
theorem f_143_19 : x_fe 143 19 = some (.invokestatic 101, 22) := by decide +kernel
theorem f_143_22 : x_fe 143 22 = some (.ifCond .ne (Int.ofNat 28), 25) := by decide +kernel
theorem f_143_25 : x_fe 143 25 = some (.iconst (-1000001), 27) := by decide +kernel
theorem f_143_27 : x_fe 143 27 = some (.ireturn, 28) := by decide +kernel
theorem f_143_28 : x_fe 143 28 = some (.aload 0, 29) := by decide +kernel
theorem f_143_29 : x_fe 143 29 = some (.iload 1, 30) := by decide +kernel
theorem f_143_30 : x_fe 143 30 = some (.invokevirtual 131, 33) := by decide +kernel
theorem f_143_33 : x_fe 143 33 = some (.ifCond .ne (Int.ofNat 39), 36) := by decide +kernel
theorem f_143_36 : x_fe 143 36 = some (.iconst (-1000002), 38) := by decide +kernel
theorem f_143_38 : x_fe 143 38 = some (.ireturn, 39) := by decide +kernel
theorem f_143_39 : x_fe 143 39 = some (.aload 0, 40) := by decide +kernel
theorem f_143_40 : x_fe 143 40 = some (.getfield 192, 43) := by decide +kernel
theorem f_143_43 : x_fe 143 43 = some (.iconst (25), 45) := by decide +kernel
theorem f_143_45 : x_fe 143 45 = some (.iaload, 46) := by decide +kernel
theorem f_143_46 : x_fe 143 46 = some (.aload 0, 47) := by decide +kernel
theorem f_143_47 : x_fe 143 47 = some (.getfield 209, 50) := by decide +kernel
theorem f_143_50 : x_fe 143 50 = some (.iconst (8), 52) := by decide +kernel
theorem f_143_52 : x_fe 143 52 = some (.iload 1, 53) := by decide +kernel
theorem f_143_53 : x_fe 143 53 = some (.imul, 54) := by decide +kernel
theorem f_143_54 : x_fe 143 54 = some (.iload 2, 55) := by decide +kernel
theorem f_143_55 : x_fe 143 55 = some (.iadd, 56) := by decide +kernel
theorem f_143_56 : x_fe 143 56 = some (.iaload, 57) := by decide +kernel
theorem f_143_57 : x_fe 143 57 = some (.iand, 58) := by decide +kernel
theorem f_143_58 : x_fe 143 58 = some (.istore 4, 60) := by decide +kernel
theorem f_143_60 : x_fe 143 60 = some (.aload 0, 61) := by decide +kernel
theorem f_143_61 : x_fe 143 61 = some (.iload 4, 63) := by decide +kernel
theorem f_143_63 : x_fe 143 63 = some (.invokevirtual 129, 66) := by decide +kernel
theorem f_143_66 : x_fe 143 66 = some (.istore 5, 68) := by decide +kernel
theorem f_143_68 : x_fe 143 68 = some (.iload 4, 70) := by decide +kernel
theorem f_143_70 : x_fe 143 70 = some (.ifCond .ne (Int.ofNat 79), 73) := by decide +kernel
theorem f_143_73 : x_fe 143 73 = some (.iconst (511), 76) := by decide +kernel
theorem f_143_76 : x_fe 143 76 = some (.goto (Int.ofNat 81), 79) := by decide +kernel
theorem f_143_79 : x_fe 143 79 = some (.iload 4, 81) := by decide +kernel
theorem f_143_81 : x_fe 143 81 = some (.istore 4, 83) := by decide +kernel
theorem f_143_83 : x_fe 143 83 = some (.aload 0, 84) := by decide +kernel
theorem f_143_84 : x_fe 143 84 = some (.getfield 192, 87) := by decide +kernel
theorem f_143_87 : x_fe 143 87 = some (.iconst (31), 89) := by decide +kernel
theorem f_143_89 : x_fe 143 89 = some (.aload 0, 90) := by decide +kernel
theorem f_143_90 : x_fe 143 90 = some (.getfield 192, 93) := by decide +kernel
theorem f_143_93 : x_fe 143 93 = some (.iconst (27), 95) := by decide +kernel
theorem f_143_95 : x_fe 143 95 = some (.iaload, 96) := by decide +kernel
theorem f_143_96 : x_fe 143 96 = some (.isub, 97) := by decide +kernel
theorem f_143_97 : x_fe 143 97 = some (.iaload, 98) := by decide +kernel
theorem f_143_98 : x_fe 143 98 = some (.istore 6, 100) := by decide +kernel
theorem f_143_100 : x_fe 143 100 = some (.iconst (0), 101) := by decide +kernel
theorem f_143_101 : x_fe 143 101 = some (.istore 7, 103) := by decide +kernel
theorem f_143_103 : x_fe 143 103 = some (.iconst (0), 104) := by decide +kernel
theorem f_143_104 : x_fe 143 104 = some (.istore 8, 106) := by decide +kernel
theorem f_143_106 : x_fe 143 106 = some (.iconst (0), 107) := by decide +kernel
theorem f_143_107 : x_fe 143 107 = some (.istore 9, 109) := by decide +kernel
theorem f_143_109 : x_fe 143 109 = some (.iload 9, 111) := by decide +kernel
theorem f_143_111 : x_fe 143 111 = some (.iconst (8), 113) := by decide +kernel
theorem f_143_113 : x_fe 143 113 = some (.aload 0, 114) := by decide +kernel
theorem f_143_114 : x_fe 143 114 = some (.getfield 192, 117) := by decide +kernel
theorem f_143_117 : x_fe 143 117 = some (.iconst (1), 118) := by decide +kernel
theorem f_143_118 : x_fe 143 118 = some (.iaload, 119) := by decide +kernel
theorem f_143_119 : x_fe 143 119 = some (.imul, 120) := by decide +kernel
theorem f_143_120 : x_fe 143 120 = some (.if_icmp .ge (Int.ofNat 164), 123) := by decide +kernel
theorem f_143_123 : x_fe 143 123 = some (.iload 6, 125) := by decide +kernel
theorem f_143_125 : x_fe 143 125 = some (.iload 9, 127) := by decide +kernel
theorem f_143_127 : x_fe 143 127 = some (.iconst (8), 129) := by decide +kernel
theorem f_143_129 : x_fe 143 129 = some (.idiv, 130) := by decide +kernel
theorem f_143_130 : x_fe 143 130 = some (.invokestatic 122, 133) := by decide +kernel
theorem f_143_133 : x_fe 143 133 = some (.ifCond .eq (Int.ofNat 158), 136) := by decide +kernel
theorem f_143_136 : x_fe 143 136 = some (.iload 7, 138) := by decide +kernel
theorem f_143_138 : x_fe 143 138 = some (.aload 0, 139) := by decide +kernel
theorem f_143_139 : x_fe 143 139 = some (.iload 4, 141) := by decide +kernel
theorem f_143_141 : x_fe 143 141 = some (.aload 0, 142) := by decide +kernel
theorem f_143_142 : x_fe 143 142 = some (.getfield 209, 145) := by decide +kernel
theorem f_143_145 : x_fe 143 145 = some (.iload 9, 147) := by decide +kernel
theorem f_143_147 : x_fe 143 147 = some (.iaload, 148) := by decide +kernel
theorem f_143_148 : x_fe 143 148 = some (.iand, 149) := by decide +kernel
theorem f_143_149 : x_fe 143 149 = some (.invokevirtual 129, 152) := by decide +kernel
theorem f_143_152 : x_fe 143 152 = some (.iadd, 153) := by decide +kernel
theorem f_143_153 : x_fe 143 153 = some (.istore 7, 155) := by decide +kernel
theorem f_143_155 : x_fe 143 155 = some (.iinc 8 (1), 158) := by decide +kernel
theorem f_143_158 : x_fe 143 158 = some (.iinc 9 (1), 161) := by decide +kernel
theorem f_143_161 : x_fe 143 161 = some (.goto (Int.ofNat 109), 164) := by decide +kernel
theorem f_143_164 : x_fe 143 164 = some (.iload 8, 166) := by decide +kernel
theorem f_143_166 : x_fe 143 166 = some (.ifCond .ne (Int.ofNat 174), 169) := by decide +kernel
theorem f_143_169 : x_fe 143 169 = some (.iload 5, 171) := by decide +kernel
theorem f_143_171 : x_fe 143 171 = some (.goto (Int.ofNat 182), 174) := by decide +kernel
theorem f_143_174 : x_fe 143 174 = some (.iload 5, 176) := by decide +kernel
theorem f_143_176 : x_fe 143 176 = some (.iload 8, 178) := by decide +kernel
theorem f_143_178 : x_fe 143 178 = some (.imul, 179) := by decide +kernel
theorem f_143_179 : x_fe 143 179 = some (.iload 7, 181) := by decide +kernel
theorem f_143_181 : x_fe 143 181 = some (.isub, 182) := by decide +kernel
theorem f_143_182 : x_fe 143 182 = some (.istore 9, 184) := by decide +kernel
theorem f_143_184 : x_fe 143 184 = some (.iload 8, 186) := by decide +kernel
theorem f_143_186 : x_fe 143 186 = some (.ifCond .ne (Int.ofNat 193), 189) := by decide +kernel
theorem f_143_189 : x_fe 143 189 = some (.iconst (1), 190) := by decide +kernel
theorem f_143_190 : x_fe 143 190 = some (.goto (Int.ofNat 195), 193) := by decide +kernel
theorem f_143_193 : x_fe 143 193 = some (.iload 8, 195) := by decide +kernel
theorem f_143_195 : x_fe 143 195 = some (.istore 10, 197) := by decide +kernel
theorem f_143_197 : x_fe 143 197 = some (.iload 9, 199) := by decide +kernel
theorem f_143_199 : x_fe 143 199 = some (.iload 10, 201) := by decide +kernel
theorem f_143_201 : x_fe 143 201 = some (.invokestatic 144, 204) := by decide +kernel
theorem f_143_204 : x_fe 143 204 = some (.istore 11, 206) := by decide +kernel
theorem f_143_206 : x_fe 143 206 = some (.iload 3, 207) := by decide +kernel
theorem f_143_207 : x_fe 143 207 = some (.ifCond .ne (Int.ofNat 218), 210) := by decide +kernel
theorem f_143_210 : x_fe 143 210 = some (.iload 9, 212) := by decide +kernel
theorem f_143_212 : x_fe 143 212 = some (.iload 11, 214) := by decide +kernel
theorem f_143_214 : x_fe 143 214 = some (.idiv, 215) := by decide +kernel
theorem f_143_215 : x_fe 143 215 = some (.goto (Int.ofNat 223), 218) := by decide +kernel
theorem f_143_218 : x_fe 143 218 = some (.iload 10, 220) := by decide +kernel
theorem f_143_220 : x_fe 143 220 = some (.iload 11, 222) := by decide +kernel
theorem f_143_222 : x_fe 143 222 = some (.idiv, 223) := by decide +kernel
theorem f_143_223 : x_fe 143 223 = some (.ireturn, 224) := by decide +kernel
theorem f_144_0 : x_fe 144 0 = some (.iload 0, 1) := by decide +kernel
theorem f_144_1 : x_fe 144 1 = some (.ifCond .ge (Int.ofNat 9), 4) := by decide +kernel
theorem f_144_4 : x_fe 144 4 = some (.iload 0, 5) := by decide +kernel
theorem f_144_5 : x_fe 144 5 = some (.ineg, 6) := by decide +kernel
theorem f_144_6 : x_fe 144 6 = some (.goto (Int.ofNat 10), 9) := by decide +kernel
theorem f_144_9 : x_fe 144 9 = some (.iload 0, 10) := by decide +kernel
theorem f_144_10 : x_fe 144 10 = some (.istore 2, 11) := by decide +kernel
theorem f_144_11 : x_fe 144 11 = some (.iload 1, 12) := by decide +kernel
theorem f_144_12 : x_fe 144 12 = some (.istore 3, 13) := by decide +kernel
theorem f_144_13 : x_fe 144 13 = some (.iload 3, 14) := by decide +kernel
theorem f_144_14 : x_fe 144 14 = some (.ifCond .eq (Int.ofNat 30), 17) := by decide +kernel
theorem f_144_17 : x_fe 144 17 = some (.iload 2, 18) := by decide +kernel
theorem f_144_18 : x_fe 144 18 = some (.iload 3, 19) := by decide +kernel
theorem f_144_19 : x_fe 144 19 = some (.irem, 20) := by decide +kernel
theorem f_144_20 : x_fe 144 20 = some (.istore 4, 22) := by decide +kernel
theorem f_144_22 : x_fe 144 22 = some (.iload 3, 23) := by decide +kernel
theorem f_144_23 : x_fe 144 23 = some (.istore 2, 24) := by decide +kernel
theorem f_144_24 : x_fe 144 24 = some (.iload 4, 26) := by decide +kernel
theorem f_144_26 : x_fe 144 26 = some (.istore 3, 27) := by decide +kernel
theorem f_144_27 : x_fe 144 27 = some (.goto (Int.ofNat 13), 30) := by decide +kernel
theorem f_144_30 : x_fe 144 30 = some (.iload 2, 31) := by decide +kernel
theorem f_144_31 : x_fe 144 31 = some (.ireturn, 32) := by decide +kernel
theorem f_145_0 : x_fe 145 0 = some (.aload 0, 1) := by decide +kernel
theorem f_145_1 : x_fe 145 1 = some (.getfield 192, 4) := by decide +kernel
theorem f_145_4 : x_fe 145 4 = some (.iconst (0), 5) := by decide +kernel
theorem f_145_5 : x_fe 145 5 = some (.iaload, 6) := by decide +kernel
theorem f_145_6 : x_fe 145 6 = some (.ifCond .ne (Int.ofNat 12), 9) := by decide +kernel
theorem f_145_9 : x_fe 145 9 = some (.iconst (-1000002), 11) := by decide +kernel
theorem f_145_11 : x_fe 145 11 = some (.ireturn, 12) := by decide +kernel
theorem f_145_12 : x_fe 145 12 = some (.iload 1, 13) := by decide +kernel
theorem f_145_13 : x_fe 145 13 = some (.invokestatic 128, 16) := by decide +kernel
theorem f_145_16 : x_fe 145 16 = some (.ifCond .eq (Int.ofNat 24), 19) := by decide +kernel
theorem f_145_19 : x_fe 145 19 = some (.iload 2, 20) := by decide +kernel
theorem f_145_20 : x_fe 145 20 = some (.iconst (-1), 21) := by decide +kernel
theorem f_145_21 : x_fe 145 21 = some (.if_icmp .ge (Int.ofNat 27), 24) := by decide +kernel
theorem f_145_24 : x_fe 145 24 = some (.iconst (-1000001), 26) := by decide +kernel
theorem f_145_26 : x_fe 145 26 = some (.ireturn, 27) := by decide +kernel
theorem f_145_27 : x_fe 145 27 = some (.aload 0, 28) := by decide +kernel
theorem f_145_28 : x_fe 145 28 = some (.iload 1, 29) := by decide +kernel
theorem f_145_29 : x_fe 145 29 = some (.invokevirtual 146, 32) := by decide +kernel
theorem f_145_32 : x_fe 145 32 = some (.istore 3, 33) := by decide +kernel
theorem f_145_33 : x_fe 145 33 = some (.iload 2, 34) := by decide +kernel
theorem f_145_34 : x_fe 145 34 = some (.iconst (-1), 35) := by decide +kernel
theorem f_145_35 : x_fe 145 35 = some (.if_icmp .eq (Int.ofNat 44), 38) := by decide +kernel
theorem f_145_38 : x_fe 145 38 = some (.iload 3, 39) := by decide +kernel
theorem f_145_39 : x_fe 145 39 = some (.iconst (-1000000), 41) := by decide +kernel
theorem f_145_41 : x_fe 145 41 = some (.if_icmp .ne (Int.ofNat 48), 44) := by decide +kernel
theorem f_145_44 : x_fe 145 44 = some (.iload 3, 45) := by decide +kernel
theorem f_145_45 : x_fe 145 45 = some (.goto (Int.ofNat 64), 48) := by decide +kernel
theorem f_145_48 : x_fe 145 48 = some (.iload 2, 49) := by decide +kernel
theorem f_145_49 : x_fe 145 49 = some (.iload 3, 50) := by decide +kernel
theorem f_145_50 : x_fe 145 50 = some (.if_icmp .ge (Int.ofNat 62), 53) := by decide +kernel
theorem f_145_53 : x_fe 145 53 = some (.aload 0, 54) := by decide +kernel
theorem f_145_54 : x_fe 145 54 = some (.getfield 218, 57) := by decide +kernel
theorem f_145_57 : x_fe 145 57 = some (.iload 2, 58) := by decide +kernel
theorem f_145_58 : x_fe 145 58 = some (.iaload, 59) := by decide +kernel
theorem f_145_59 : x_fe 145 59 = some (.goto (Int.ofNat 64), 62) := by decide +kernel
theorem f_145_62 : x_fe 145 62 = some (.iconst (-1000000), 64) := by decide +kernel
theorem f_145_64 : x_fe 145 64 = some (.ireturn, 65) := by decide +kernel
theorem f_146_0 : x_fe 146 0 = some (.iconst (8), 2) := by decide +kernel
theorem f_146_2 : x_fe 146 2 = some (.aload 0, 3) := by decide +kernel
theorem f_146_3 : x_fe 146 3 = some (.getfield 192, 6) := by decide +kernel
theorem f_146_6 : x_fe 146 6 = some (.iconst (1), 7) := by decide +kernel
theorem f_146_7 : x_fe 146 7 = some (.iaload, 8) := by decide +kernel
theorem f_146_8 : x_fe 146 8 = some (.imul, 9) := by decide +kernel
theorem f_146_9 : x_fe 146 9 = some (.istore 2, 10) := by decide +kernel
theorem f_146_10 : x_fe 146 10 = some (.iload 1, 11) := by decide +kernel
theorem f_146_11 : x_fe 146 11 = some (.iconst (511), 14) := by decide +kernel
theorem f_146_14 : x_fe 146 14 = some (.if_icmp .ne (Int.ofNat 19), 17) := by decide +kernel
theorem f_146_17 : x_fe 146 17 = some (.iconst (0), 18) := by decide +kernel
theorem f_146_18 : x_fe 146 18 = some (.ireturn, 19) := by decide +kernel
theorem f_146_19 : x_fe 146 19 = some (.iconst (0), 20) := by decide +kernel
theorem f_146_20 : x_fe 146 20 = some (.istore 3, 21) := by decide +kernel
theorem f_146_21 : x_fe 146 21 = some (.iload 3, 22) := by decide +kernel
theorem f_146_22 : x_fe 146 22 = some (.iload 2, 23) := by decide +kernel
theorem f_146_23 : x_fe 146 23 = some (.if_icmp .ge (Int.ofNat 51), 26) := by decide +kernel
theorem f_146_26 : x_fe 146 26 = some (.aload 0, 27) := by decide +kernel
theorem f_146_27 : x_fe 146 27 = some (.getfield 209, 30) := by decide +kernel
theorem f_146_30 : x_fe 146 30 = some (.iload 3, 31) := by decide +kernel
theorem f_146_31 : x_fe 146 31 = some (.iaload, 32) := by decide +kernel
theorem f_146_32 : x_fe 146 32 = some (.iload 1, 33) := by decide +kernel
theorem f_146_33 : x_fe 146 33 = some (.if_icmp .ne (Int.ofNat 45), 36) := by decide +kernel
theorem f_146_36 : x_fe 146 36 = some (.aload 0, 37) := by decide +kernel
theorem f_146_37 : x_fe 146 37 = some (.getfield 218, 40) := by decide +kernel
theorem f_146_40 : x_fe 146 40 = some (.iconst (0), 41) := by decide +kernel
theorem f_146_41 : x_fe 146 41 = some (.iload 3, 42) := by decide +kernel
theorem f_146_42 : x_fe 146 42 = some (.iastore, 43) := by decide +kernel
theorem f_146_43 : x_fe 146 43 = some (.iconst (1), 44) := by decide +kernel
theorem f_146_44 : x_fe 146 44 = some (.ireturn, 45) := by decide +kernel
theorem f_146_45 : x_fe 146 45 = some (.iinc 3 (1), 48) := by decide +kernel
theorem f_146_48 : x_fe 146 48 = some (.goto (Int.ofNat 21), 51) := by decide +kernel
theorem f_146_51 : x_fe 146 51 = some (.iconst (0), 52) := by decide +kernel
theorem f_146_52 : x_fe 146 52 = some (.istore 3, 53) := by decide +kernel
theorem f_146_53 : x_fe 146 53 = some (.iload 3, 54) := by decide +kernel
theorem f_146_54 : x_fe 146 54 = some (.iload 2, 55) := by decide +kernel
theorem f_146_55 : x_fe 146 55 = some (.if_icmp .ge (Int.ofNat 117), 58) := by decide +kernel
theorem f_146_58 : x_fe 146 58 = some (.iload 3, 59) := by decide +kernel
theorem f_146_59 : x_fe 146 59 = some (.invokestatic 147, 62) := by decide +kernel
theorem f_146_62 : x_fe 146 62 = some (.istore 4, 64) := by decide +kernel
theorem f_146_64 : x_fe 146 64 = some (.iload 4, 66) := by decide +kernel
theorem f_146_66 : x_fe 146 66 = some (.iload 2, 67) := by decide +kernel
theorem f_146_67 : x_fe 146 67 = some (.if_icmp .ge (Int.ofNat 111), 70) := by decide +kernel
theorem f_146_70 : x_fe 146 70 = some (.aload 0, 71) := by decide +kernel
theorem f_146_71 : x_fe 146 71 = some (.getfield 209, 74) := by decide +kernel
theorem f_146_74 : x_fe 146 74 = some (.iload 3, 75) := by decide +kernel
theorem f_146_75 : x_fe 146 75 = some (.iaload, 76) := by decide +kernel
theorem f_146_76 : x_fe 146 76 = some (.aload 0, 77) := by decide +kernel
theorem f_146_77 : x_fe 146 77 = some (.getfield 209, 80) := by decide +kernel
theorem f_146_80 : x_fe 146 80 = some (.iload 4, 82) := by decide +kernel
theorem f_146_82 : x_fe 146 82 = some (.iaload, 83) := by decide +kernel
theorem f_146_83 : x_fe 146 83 = some (.iand, 84) := by decide +kernel
theorem f_146_84 : x_fe 146 84 = some (.iload 1, 85) := by decide +kernel
theorem f_146_85 : x_fe 146 85 = some (.if_icmp .ne (Int.ofNat 105), 88) := by decide +kernel
theorem f_146_88 : x_fe 146 88 = some (.aload 0, 89) := by decide +kernel
theorem f_146_89 : x_fe 146 89 = some (.getfield 218, 92) := by decide +kernel
theorem f_146_92 : x_fe 146 92 = some (.iconst (0), 93) := by decide +kernel
theorem f_146_93 : x_fe 146 93 = some (.iload 3, 94) := by decide +kernel
theorem f_146_94 : x_fe 146 94 = some (.iastore, 95) := by decide +kernel
theorem f_146_95 : x_fe 146 95 = some (.aload 0, 96) := by decide +kernel
theorem f_146_96 : x_fe 146 96 = some (.getfield 218, 99) := by decide +kernel
theorem f_146_99 : x_fe 146 99 = some (.iconst (1), 100) := by decide +kernel
theorem f_146_100 : x_fe 146 100 = some (.iload 4, 102) := by decide +kernel
theorem f_146_102 : x_fe 146 102 = some (.iastore, 103) := by decide +kernel
theorem f_146_103 : x_fe 146 103 = some (.iconst (2), 104) := by decide +kernel
theorem f_146_104 : x_fe 146 104 = some (.ireturn, 105) := by decide +kernel
theorem f_146_105 : x_fe 146 105 = some (.iinc 4 (1), 108) := by decide +kernel
theorem f_146_108 : x_fe 146 108 = some (.goto (Int.ofNat 64), 111) := by decide +kernel
theorem f_146_111 : x_fe 146 111 = some (.iinc 3 (1), 114) := by decide +kernel
theorem f_146_114 : x_fe 146 114 = some (.goto (Int.ofNat 53), 117) := by decide +kernel
theorem f_146_117 : x_fe 146 117 = some (.iconst (0), 118) := by decide +kernel
theorem f_146_118 : x_fe 146 118 = some (.istore 3, 119) := by decide +kernel
theorem f_146_119 : x_fe 146 119 = some (.iload 3, 120) := by decide +kernel
theorem f_146_120 : x_fe 146 120 = some (.iload 2, 121) := by decide +kernel
theorem f_146_121 : x_fe 146 121 = some (.if_icmp .ge (Int.ofNat 230), 124) := by decide +kernel
theorem f_146_124 : x_fe 146 124 = some (.iload 3, 125) := by decide +kernel
theorem f_146_125 : x_fe 146 125 = some (.invokestatic 147, 128) := by decide +kernel
theorem f_146_128 : x_fe 146 128 = some (.istore 4, 130) := by decide +kernel
theorem f_146_130 : x_fe 146 130 = some (.iload 4, 132) := by decide +kernel
theorem f_146_132 : x_fe 146 132 = some (.iload 2, 133) := by decide +kernel
theorem f_146_133 : x_fe 146 133 = some (.if_icmp .ge (Int.ofNat 224), 136) := by decide +kernel
theorem f_146_136 : x_fe 146 136 = some (.aload 0, 137) := by decide +kernel
theorem f_146_137 : x_fe 146 137 = some (.getfield 209, 140) := by decide +kernel
theorem f_146_140 : x_fe 146 140 = some (.iload 3, 141) := by decide +kernel
theorem f_146_141 : x_fe 146 141 = some (.iaload, 142) := by decide +kernel
theorem f_146_142 : x_fe 146 142 = some (.aload 0, 143) := by decide +kernel
theorem f_146_143 : x_fe 146 143 = some (.getfield 209, 146) := by decide +kernel
theorem f_146_146 : x_fe 146 146 = some (.iload 4, 148) := by decide +kernel
theorem f_146_148 : x_fe 146 148 = some (.iaload, 149) := by decide +kernel
theorem f_146_149 : x_fe 146 149 = some (.iand, 150) := by decide +kernel
theorem f_146_150 : x_fe 146 150 = some (.istore 5, 152) := by decide +kernel
theorem f_146_152 : x_fe 146 152 = some (.iload 4, 154) := by decide +kernel
theorem f_146_154 : x_fe 146 154 = some (.invokestatic 147, 157) := by decide +kernel
theorem f_146_157 : x_fe 146 157 = some (.istore 6, 159) := by decide +kernel
theorem f_146_159 : x_fe 146 159 = some (.iload 6, 161) := by decide +kernel
theorem f_146_161 : x_fe 146 161 = some (.iload 2, 162) := by decide +kernel
theorem f_146_162 : x_fe 146 162 = some (.if_icmp .ge (Int.ofNat 218), 165) := by decide +kernel
theorem f_146_165 : x_fe 146 165 = some (.iload 5, 167) := by decide +kernel
theorem f_146_167 : x_fe 146 167 = some (.iload 1, 168) := by decide +kernel
theorem f_146_168 : x_fe 146 168 = some (.iand, 169) := by decide +kernel
theorem f_146_169 : x_fe 146 169 = some (.iload 1, 170) := by decide +kernel
theorem f_146_170 : x_fe 146 170 = some (.if_icmp .ne (Int.ofNat 218), 173) := by decide +kernel
theorem f_146_173 : x_fe 146 173 = some (.iload 5, 175) := by decide +kernel
theorem f_146_175 : x_fe 146 175 = some (.aload 0, 176) := by decide +kernel
theorem f_146_176 : x_fe 146 176 = some (.getfield 209, 179) := by decide +kernel
theorem f_146_179 : x_fe 146 179 = some (.iload 6, 181) := by decide +kernel
theorem f_146_181 : x_fe 146 181 = some (.iaload, 182) := by decide +kernel
theorem f_146_182 : x_fe 146 182 = some (.iand, 183) := by decide +kernel
theorem f_146_183 : x_fe 146 183 = some (.iload 1, 184) := by decide +kernel
theorem f_146_184 : x_fe 146 184 = some (.if_icmp .ne (Int.ofNat 212), 187) := by decide +kernel
theorem f_146_187 : x_fe 146 187 = some (.aload 0, 188) := by decide +kernel
theorem f_146_188 : x_fe 146 188 = some (.getfield 218, 191) := by decide +kernel
theorem f_146_191 : x_fe 146 191 = some (.iconst (0), 192) := by decide +kernel
theorem f_146_192 : x_fe 146 192 = some (.iload 3, 193) := by decide +kernel
theorem f_146_193 : x_fe 146 193 = some (.iastore, 194) := by decide +kernel
theorem f_146_194 : x_fe 146 194 = some (.aload 0, 195) := by decide +kernel
theorem f_146_195 : x_fe 146 195 = some (.getfield 218, 198) := by decide +kernel
theorem f_146_198 : x_fe 146 198 = some (.iconst (1), 199) := by decide +kernel
theorem f_146_199 : x_fe 146 199 = some (.iload 4, 201) := by decide +kernel
theorem f_146_201 : x_fe 146 201 = some (.iastore, 202) := by decide +kernel
theorem f_146_202 : x_fe 146 202 = some (.aload 0, 203) := by decide +kernel
theorem f_146_203 : x_fe 146 203 = some (.getfield 218, 206) := by decide +kernel
theorem f_146_206 : x_fe 146 206 = some (.iconst (2), 207) := by decide +kernel
theorem f_146_207 : x_fe 146 207 = some (.iload 6, 209) := by decide +kernel
theorem f_146_209 : x_fe 146 209 = some (.iastore, 210) := by decide +kernel
theorem f_146_210 : x_fe 146 210 = some (.iconst (3), 211) := by decide +kernel
theorem f_146_211 : x_fe 146 211 = some (.ireturn, 212) := by decide +kernel
theorem f_146_212 : x_fe 146 212 = some (.iinc 6 (1), 215) := by decide +kernel
theorem f_146_215 : x_fe 146 215 = some (.goto (Int.ofNat 159), 218) := by decide +kernel
theorem f_146_218 : x_fe 146 218 = some (.iinc 4 (1), 221) := by decide +kernel
theorem f_146_221 : x_fe 146 221 = some (.goto (Int.ofNat 130), 224) := by decide +kernel
theorem f_146_224 : x_fe 146 224 = some (.iinc 3 (1), 227) := by decide +kernel
theorem f_146_227 : x_fe 146 227 = some (.goto (Int.ofNat 119), 230) := by decide +kernel
theorem f_146_230 : x_fe 146 230 = some (.iconst (-1000000), 232) := by decide +kernel
theorem f_146_232 : x_fe 146 232 = some (.ireturn, 233) := by decide +kernel
theorem f_147_0 : x_fe 147 0 = some (.iconst (8), 2) := by decide +kernel
theorem f_147_2 : x_fe 147 2 = some (.iload 0, 3) := by decide +kernel
theorem f_147_3 : x_fe 147 3 = some (.iconst (8), 5) := by decide +kernel
theorem f_147_5 : x_fe 147 5 = some (.idiv, 6) := by decide +kernel
theorem f_147_6 : x_fe 147 6 = some (.iconst (1), 7) := by decide +kernel
theorem f_147_7 : x_fe 147 7 = some (.iadd, 8) := by decide +kernel
theorem f_147_8 : x_fe 147 8 = some (.imul, 9) := by decide +kernel
theorem f_147_9 : x_fe 147 9 = some (.ireturn, 10) := by decide +kernel
theorem f_148_0 : x_fe 148 0 = some (.aload 0, 1) := by decide +kernel
theorem f_148_1 : x_fe 148 1 = some (.getfield 192, 4) := by decide +kernel
theorem f_148_4 : x_fe 148 4 = some (.iconst (0), 5) := by decide +kernel
theorem f_148_5 : x_fe 148 5 = some (.iaload, 6) := by decide +kernel
theorem f_148_6 : x_fe 148 6 = some (.ifCond .ne (Int.ofNat 12), 9) := by decide +kernel
theorem f_148_9 : x_fe 148 9 = some (.iconst (-1000002), 11) := by decide +kernel
theorem f_148_11 : x_fe 148 11 = some (.ireturn, 12) := by decide +kernel
theorem f_148_12 : x_fe 148 12 = some (.iload 1, 13) := by decide +kernel
theorem f_148_13 : x_fe 148 13 = some (.iconst (-1), 14) := by decide +kernel
theorem f_148_14 : x_fe 148 14 = some (.if_icmp .ge (Int.ofNat 20), 17) := by decide +kernel
theorem f_148_17 : x_fe 148 17 = some (.iconst (-1000001), 19) := by decide +kernel
theorem f_148_19 : x_fe 148 19 = some (.ireturn, 20) := by decide +kernel
theorem f_148_20 : x_fe 148 20 = some (.iconst (0), 21) := by decide +kernel
theorem f_148_21 : x_fe 148 21 = some (.istore 2, 22) := by decide +kernel
theorem f_148_22 : x_fe 148 22 = some (.iconst (0), 23) := by decide +kernel
theorem f_148_23 : x_fe 148 23 = some (.istore 3, 24) := by decide +kernel
theorem f_148_24 : x_fe 148 24 = some (.iload 3, 25) := by decide +kernel
theorem f_148_25 : x_fe 148 25 = some (.aload 0, 26) := by decide +kernel
theorem f_148_26 : x_fe 148 26 = some (.getfield 192, 29) := by decide +kernel
theorem f_148_29 : x_fe 148 29 = some (.iconst (1), 30) := by decide +kernel
theorem f_148_30 : x_fe 148 30 = some (.iaload, 31) := by decide +kernel
theorem f_148_31 : x_fe 148 31 = some (.if_icmp .ge (Int.ofNat 120), 34) := by decide +kernel
theorem f_148_34 : x_fe 148 34 = some (.iload 3, 35) := by decide +kernel
theorem f_148_35 : x_fe 148 35 = some (.iconst (1), 36) := by decide +kernel
theorem f_148_36 : x_fe 148 36 = some (.iadd, 37) := by decide +kernel
theorem f_148_37 : x_fe 148 37 = some (.istore 4, 39) := by decide +kernel
theorem f_148_39 : x_fe 148 39 = some (.iload 4, 41) := by decide +kernel
theorem f_148_41 : x_fe 148 41 = some (.aload 0, 42) := by decide +kernel
theorem f_148_42 : x_fe 148 42 = some (.getfield 192, 45) := by decide +kernel
theorem f_148_45 : x_fe 148 45 = some (.iconst (1), 46) := by decide +kernel
theorem f_148_46 : x_fe 148 46 = some (.iaload, 47) := by decide +kernel
theorem f_148_47 : x_fe 148 47 = some (.if_icmp .ge (Int.ofNat 114), 50) := by decide +kernel
theorem f_148_50 : x_fe 148 50 = some (.iload 4, 52) := by decide +kernel
theorem f_148_52 : x_fe 148 52 = some (.iconst (1), 53) := by decide +kernel
theorem f_148_53 : x_fe 148 53 = some (.iadd, 54) := by decide +kernel
theorem f_148_54 : x_fe 148 54 = some (.istore 5, 56) := by decide +kernel
theorem f_148_56 : x_fe 148 56 = some (.iload 5, 58) := by decide +kernel
theorem f_148_58 : x_fe 148 58 = some (.aload 0, 59) := by decide +kernel
theorem f_148_59 : x_fe 148 59 = some (.getfield 192, 62) := by decide +kernel
theorem f_148_62 : x_fe 148 62 = some (.iconst (1), 63) := by decide +kernel
theorem f_148_63 : x_fe 148 63 = some (.iaload, 64) := by decide +kernel
theorem f_148_64 : x_fe 148 64 = some (.if_icmp .ge (Int.ofNat 108), 67) := by decide +kernel
theorem f_148_67 : x_fe 148 67 = some (.aload 0, 68) := by decide +kernel
theorem f_148_68 : x_fe 148 68 = some (.iload 3, 69) := by decide +kernel
theorem f_148_69 : x_fe 148 69 = some (.iload 4, 71) := by decide +kernel
theorem f_148_71 : x_fe 148 71 = some (.iload 5, 73) := by decide +kernel
theorem f_148_73 : x_fe 148 73 = some (.invokevirtual 149, 76) := by decide +kernel
theorem f_148_76 : x_fe 148 76 = some (.ifCond .eq (Int.ofNat 102), 79) := by decide +kernel
theorem f_148_79 : x_fe 148 79 = some (.iload 2, 80) := by decide +kernel
theorem f_148_80 : x_fe 148 80 = some (.iload 1, 81) := by decide +kernel
theorem f_148_81 : x_fe 148 81 = some (.if_icmp .ne (Int.ofNat 99), 84) := by decide +kernel
theorem f_148_84 : x_fe 148 84 = some (.iconst (400), 87) := by decide +kernel
theorem f_148_87 : x_fe 148 87 = some (.iload 3, 88) := by decide +kernel
theorem f_148_88 : x_fe 148 88 = some (.imul, 89) := by decide +kernel
theorem f_148_89 : x_fe 148 89 = some (.iconst (20), 91) := by decide +kernel
theorem f_148_91 : x_fe 148 91 = some (.iload 4, 93) := by decide +kernel
theorem f_148_93 : x_fe 148 93 = some (.imul, 94) := by decide +kernel
theorem f_148_94 : x_fe 148 94 = some (.iadd, 95) := by decide +kernel
theorem f_148_95 : x_fe 148 95 = some (.iload 5, 97) := by decide +kernel
theorem f_148_97 : x_fe 148 97 = some (.iadd, 98) := by decide +kernel
theorem f_148_98 : x_fe 148 98 = some (.ireturn, 99) := by decide +kernel
theorem f_148_99 : x_fe 148 99 = some (.iinc 2 (1), 102) := by decide +kernel
theorem f_148_102 : x_fe 148 102 = some (.iinc 5 (1), 105) := by decide +kernel
theorem f_148_105 : x_fe 148 105 = some (.goto (Int.ofNat 56), 108) := by decide +kernel
theorem f_148_108 : x_fe 148 108 = some (.iinc 4 (1), 111) := by decide +kernel
theorem f_148_111 : x_fe 148 111 = some (.goto (Int.ofNat 39), 114) := by decide +kernel
theorem f_148_114 : x_fe 148 114 = some (.iinc 3 (1), 117) := by decide +kernel
theorem f_148_117 : x_fe 148 117 = some (.goto (Int.ofNat 24), 120) := by decide +kernel
theorem f_148_120 : x_fe 148 120 = some (.iload 1, 121) := by decide +kernel
theorem f_148_121 : x_fe 148 121 = some (.iconst (-1), 122) := by decide +kernel
theorem f_148_122 : x_fe 148 122 = some (.if_icmp .ne (Int.ofNat 129), 125) := by decide +kernel
theorem f_148_125 : x_fe 148 125 = some (.iload 2, 126) := by decide +kernel
theorem f_148_126 : x_fe 148 126 = some (.goto (Int.ofNat 131), 129) := by decide +kernel
theorem f_148_129 : x_fe 148 129 = some (.iconst (-1000000), 131) := by decide +kernel
theorem f_148_131 : x_fe 148 131 = some (.ireturn, 132) := by decide +kernel
theorem f_149_0 : x_fe 149 0 = some (.iconst (0), 1) := by decide +kernel
theorem f_149_1 : x_fe 149 1 = some (.istore 4, 3) := by decide +kernel
theorem f_149_3 : x_fe 149 3 = some (.iconst (0), 4) := by decide +kernel
theorem f_149_4 : x_fe 149 4 = some (.istore 5, 6) := by decide +kernel
theorem f_149_6 : x_fe 149 6 = some (.iload 5, 8) := by decide +kernel
theorem f_149_8 : x_fe 149 8 = some (.iconst (64), 10) := by decide +kernel
theorem f_149_10 : x_fe 149 10 = some (.if_icmp .ge (Int.ofNat 75), 13) := by decide +kernel
theorem f_149_13 : x_fe 149 13 = some (.iload 4, 15) := by decide +kernel
theorem f_149_15 : x_fe 149 15 = some (.ifCond .ne (Int.ofNat 62), 18) := by decide +kernel
theorem f_149_18 : x_fe 149 18 = some (.aload 0, 19) := by decide +kernel
theorem f_149_19 : x_fe 149 19 = some (.getfield 209, 22) := by decide +kernel
theorem f_149_22 : x_fe 149 22 = some (.iconst (8), 24) := by decide +kernel
theorem f_149_24 : x_fe 149 24 = some (.iload 1, 25) := by decide +kernel
theorem f_149_25 : x_fe 149 25 = some (.imul, 26) := by decide +kernel
theorem f_149_26 : x_fe 149 26 = some (.iaload, 27) := by decide +kernel
theorem f_149_27 : x_fe 149 27 = some (.aload 0, 28) := by decide +kernel
theorem f_149_28 : x_fe 149 28 = some (.getfield 209, 31) := by decide +kernel
theorem f_149_31 : x_fe 149 31 = some (.iconst (8), 33) := by decide +kernel
theorem f_149_33 : x_fe 149 33 = some (.iload 2, 34) := by decide +kernel
theorem f_149_34 : x_fe 149 34 = some (.imul, 35) := by decide +kernel
theorem f_149_35 : x_fe 149 35 = some (.iload 5, 37) := by decide +kernel
theorem f_149_37 : x_fe 149 37 = some (.iconst (8), 39) := by decide +kernel
theorem f_149_39 : x_fe 149 39 = some (.idiv, 40) := by decide +kernel
theorem f_149_40 : x_fe 149 40 = some (.iadd, 41) := by decide +kernel
theorem f_149_41 : x_fe 149 41 = some (.iaload, 42) := by decide +kernel
theorem f_149_42 : x_fe 149 42 = some (.iand, 43) := by decide +kernel
theorem f_149_43 : x_fe 149 43 = some (.aload 0, 44) := by decide +kernel
theorem f_149_44 : x_fe 149 44 = some (.getfield 209, 47) := by decide +kernel
theorem f_149_47 : x_fe 149 47 = some (.iconst (8), 49) := by decide +kernel
theorem f_149_49 : x_fe 149 49 = some (.iload 3, 50) := by decide +kernel
theorem f_149_50 : x_fe 149 50 = some (.imul, 51) := by decide +kernel
theorem f_149_51 : x_fe 149 51 = some (.iload 5, 53) := by decide +kernel
theorem f_149_53 : x_fe 149 53 = some (.iconst (8), 55) := by decide +kernel
theorem f_149_55 : x_fe 149 55 = some (.irem, 56) := by decide +kernel
theorem f_149_56 : x_fe 149 56 = some (.iadd, 57) := by decide +kernel
theorem f_149_57 : x_fe 149 57 = some (.iaload, 58) := by decide +kernel
theorem f_149_58 : x_fe 149 58 = some (.iand, 59) := by decide +kernel
theorem f_149_59 : x_fe 149 59 = some (.ifCond .ne (Int.ofNat 66), 62) := by decide +kernel
theorem f_149_62 : x_fe 149 62 = some (.iconst (1), 63) := by decide +kernel
theorem f_149_63 : x_fe 149 63 = some (.goto (Int.ofNat 67), 66) := by decide +kernel
theorem f_149_66 : x_fe 149 66 = some (.iconst (0), 67) := by decide +kernel
theorem f_149_67 : x_fe 149 67 = some (.istore 4, 69) := by decide +kernel
theorem f_149_69 : x_fe 149 69 = some (.iinc 5 (1), 72) := by decide +kernel
theorem f_149_72 : x_fe 149 72 = some (.goto (Int.ofNat 6), 75) := by decide +kernel
theorem f_149_75 : x_fe 149 75 = some (.iload 4, 77) := by decide +kernel
theorem f_149_77 : x_fe 149 77 = some (.ireturn, 78) := by decide +kernel
theorem f_150_0 : x_fe 150 0 = some (.aload 0, 1) := by decide +kernel
theorem f_150_1 : x_fe 150 1 = some (.iload 1, 2) := by decide +kernel
theorem f_150_2 : x_fe 150 2 = some (.invokevirtual 125, 5) := by decide +kernel
theorem f_150_5 : x_fe 150 5 = some (.ifCond .eq (Int.ofNat 18), 8) := by decide +kernel
theorem f_150_8 : x_fe 150 8 = some (.iload 2, 9) := by decide +kernel
theorem f_150_9 : x_fe 150 9 = some (.i2l, 10) := by decide +kernel
theorem f_150_10 : x_fe 150 10 = some (.ldc2_w 0, 11) := by decide +kernel
theorem f_150_11 : x_fe 150 11 = some (.ldc2_w 1, 12) := by decide +kernel
theorem f_150_12 : x_fe 150 12 = some (.invokestatic 101, 15) := by decide +kernel
theorem f_150_15 : x_fe 150 15 = some (.ifCond .ne (Int.ofNat 21), 18) := by decide +kernel
theorem f_150_18 : x_fe 150 18 = some (.iconst (-1000001), 20) := by decide +kernel
theorem f_150_20 : x_fe 150 20 = some (.ireturn, 21) := by decide +kernel
theorem f_150_21 : x_fe 150 21 = some (.iload 2, 22) := by decide +kernel
theorem f_150_22 : x_fe 150 22 = some (.iconst (1), 23) := by decide +kernel
theorem f_150_23 : x_fe 150 23 = some (.if_icmp .ne (Int.ofNat 32), 26) := by decide +kernel
theorem f_150_26 : x_fe 150 26 = some (.aload 0, 27) := by decide +kernel
theorem f_150_27 : x_fe 150 27 = some (.iload 1, 28) := by decide +kernel
theorem f_150_28 : x_fe 150 28 = some (.invokevirtual 151, 31) := by decide +kernel
theorem f_150_31 : x_fe 150 31 = some (.ireturn, 32) := by decide +kernel
theorem f_150_32 : x_fe 150 32 = some (.aload 0, 33) := by decide +kernel
theorem f_150_33 : x_fe 150 33 = some (.iload 1, 34) := by decide +kernel
theorem f_150_34 : x_fe 150 34 = some (.invokevirtual 152, 37) := by decide +kernel
theorem f_150_37 : x_fe 150 37 = some (.istore 3, 38) := by decide +kernel
theorem f_150_38 : x_fe 150 38 = some (.iconst (0), 39) := by decide +kernel
theorem f_150_39 : x_fe 150 39 = some (.istore 4, 41) := by decide +kernel
theorem f_150_41 : x_fe 150 41 = some (.iconst (0), 42) := by decide +kernel
theorem f_150_42 : x_fe 150 42 = some (.istore 5, 44) := by decide +kernel
theorem f_150_44 : x_fe 150 44 = some (.iload 5, 46) := by decide +kernel
theorem f_150_46 : x_fe 150 46 = some (.iload 3, 47) := by decide +kernel
theorem f_150_47 : x_fe 150 47 = some (.if_icmp .ge (Int.ofNat 77), 50) := by decide +kernel
theorem f_150_50 : x_fe 150 50 = some (.iload 4, 52) := by decide +kernel
theorem f_150_52 : x_fe 150 52 = some (.aload 0, 53) := by decide +kernel
theorem f_150_53 : x_fe 150 53 = some (.iload 5, 55) := by decide +kernel
theorem f_150_55 : x_fe 150 55 = some (.invokevirtual 152, 58) := by decide +kernel
theorem f_150_58 : x_fe 150 58 = some (.iload 5, 60) := by decide +kernel
theorem f_150_60 : x_fe 150 60 = some (.if_icmp .ne (Int.ofNat 67), 63) := by decide +kernel
theorem f_150_63 : x_fe 150 63 = some (.iconst (1), 64) := by decide +kernel
theorem f_150_64 : x_fe 150 64 = some (.goto (Int.ofNat 68), 67) := by decide +kernel
theorem f_150_67 : x_fe 150 67 = some (.iconst (0), 68) := by decide +kernel
theorem f_150_68 : x_fe 150 68 = some (.iadd, 69) := by decide +kernel
theorem f_150_69 : x_fe 150 69 = some (.istore 4, 71) := by decide +kernel
theorem f_150_71 : x_fe 150 71 = some (.iinc 5 (1), 74) := by decide +kernel
theorem f_150_74 : x_fe 150 74 = some (.goto (Int.ofNat 44), 77) := by decide +kernel
theorem f_150_77 : x_fe 150 77 = some (.iload 4, 79) := by decide +kernel
theorem f_150_79 : x_fe 150 79 = some (.ireturn, 80) := by decide +kernel
theorem f_151_0 : x_fe 151 0 = some (.iconst (0), 1) := by decide +kernel
theorem f_151_1 : x_fe 151 1 = some (.istore 2, 2) := by decide +kernel
theorem f_151_2 : x_fe 151 2 = some (.iconst (0), 3) := by decide +kernel
theorem f_151_3 : x_fe 151 3 = some (.istore 3, 4) := by decide +kernel
theorem f_151_4 : x_fe 151 4 = some (.iload 3, 5) := by decide +kernel
theorem f_151_5 : x_fe 151 5 = some (.iconst (8), 7) := by decide +kernel
theorem f_151_7 : x_fe 151 7 = some (.if_icmp .ge (Int.ofNat 85), 10) := by decide +kernel
