theorem f_92_14 : x_fe 92 14 = some (.aload 0, 15) := by decide +kernel
theorem f_92_15 : x_fe 92 15 = some (.iload 1, 16) := by decide +kernel
theorem f_92_16 : x_fe 92 16 = some (.invokestatic 88, 19) := by decide +kernel
theorem f_92_19 : x_fe 92 19 = some (.istore 4, 21) := by decide +kernel
theorem f_92_21 : x_fe 92 21 = some (.iload 4, 23) := by decide +kernel
theorem f_92_23 : x_fe 92 23 = some (.ifCond .lt (Int.ofNat 40), 26) := by decide +kernel
theorem f_92_26 : x_fe 92 26 = some (.iload 4, 28) := by decide +kernel
theorem f_92_28 : x_fe 92 28 = some (.aload 3, 29) := by decide +kernel
theorem f_92_29 : x_fe 92 29 = some (.arraylength, 30) := by decide +kernel
theorem f_92_30 : x_fe 92 30 = some (.if_icmp .ge (Int.ofNat 40), 33) := by decide +kernel
theorem f_92_33 : x_fe 92 33 = some (.aload 3, 34) := by decide +kernel
theorem f_92_34 : x_fe 92 34 = some (.iload 4, 36) := by decide +kernel
theorem f_92_36 : x_fe 92 36 = some (.iaload, 37) := by decide +kernel
theorem f_92_37 : x_fe 92 37 = some (.goto (Int.ofNat 43), 40) := by decide +kernel
theorem f_92_40 : x_fe 92 40 = some (.aload 3, 41) := by decide +kernel
theorem f_92_41 : x_fe 92 41 = some (.iconst (0), 42) := by decide +kernel
theorem f_92_42 : x_fe 92 42 = some (.iaload, 43) := by decide +kernel
theorem f_92_43 : x_fe 92 43 = some (.ireturn, 44) := by decide +kernel
theorem f_93_0 : x_fe 93 0 = some (.iload 4, 2) := by decide +kernel
theorem f_93_2 : x_fe 93 2 = some (.iconst (12), 4) := by decide +kernel
theorem f_93_4 : x_fe 93 4 = some (.if_icmp .le (Int.ofNat 9), 7) := by decide +kernel
theorem f_93_7 : x_fe 93 7 = some (.iconst (0), 8) := by decide +kernel
theorem f_93_8 : x_fe 93 8 = some (.ireturn, 9) := by decide +kernel
theorem f_93_9 : x_fe 93 9 = some (.aload 3, 10) := by decide +kernel
theorem f_93_10 : x_fe 93 10 = some (.iload 0, 11) := by decide +kernel
theorem f_93_11 : x_fe 93 11 = some (.invokevirtual 41, 14) := by decide +kernel
theorem f_93_14 : x_fe 93 14 = some (.iload 4, 16) := by decide +kernel
theorem f_93_16 : x_fe 93 16 = some (.iconst (1), 17) := by decide +kernel
theorem f_93_17 : x_fe 93 17 = some (.iadd, 18) := by decide +kernel
theorem f_93_18 : x_fe 93 18 = some (.istore 5, 20) := by decide +kernel
theorem f_93_20 : x_fe 93 20 = some (.iload 0, 21) := by decide +kernel
theorem f_93_21 : x_fe 93 21 = some (.tableswitch (238) (10) (24) #[75, 85, 115, 128, 140, 238, 238, 238, 238, 238, 154, 156, 178, 193, 223], 96) := by decide +kernel
theorem f_93_96 : x_fe 93 96 = some (.aload 1, 97) := by decide +kernel
theorem f_93_97 : x_fe 93 97 = some (.iload 2, 98) := by decide +kernel
theorem f_93_98 : x_fe 93 98 = some (.iconst (0), 99) := by decide +kernel
theorem f_93_99 : x_fe 93 99 = some (.invokevirtual 8, 102) := by decide +kernel
theorem f_93_102 : x_fe 93 102 = some (.invokestatic 179, 105) := by decide +kernel
theorem f_93_105 : x_fe 93 105 = some (.ireturn, 106) := by decide +kernel
theorem f_93_106 : x_fe 93 106 = some (.iconst (10), 108) := by decide +kernel
theorem f_93_108 : x_fe 93 108 = some (.aload 1, 109) := by decide +kernel
theorem f_93_109 : x_fe 93 109 = some (.iload 2, 110) := by decide +kernel
theorem f_93_110 : x_fe 93 110 = some (.aload 3, 111) := by decide +kernel
theorem f_93_111 : x_fe 93 111 = some (.iload 5, 113) := by decide +kernel
theorem f_93_113 : x_fe 93 113 = some (.invokestatic 93, 116) := by decide +kernel
theorem f_93_116 : x_fe 93 116 = some (.istore 6, 118) := by decide +kernel
theorem f_93_118 : x_fe 93 118 = some (.iload 6, 120) := by decide +kernel
theorem f_93_120 : x_fe 93 120 = some (.aload 1, 121) := by decide +kernel
theorem f_93_121 : x_fe 93 121 = some (.iload 2, 122) := by decide +kernel
theorem f_93_122 : x_fe 93 122 = some (.iconst (1), 123) := by decide +kernel
theorem f_93_123 : x_fe 93 123 = some (.invokestatic 92, 126) := by decide +kernel
theorem f_93_126 : x_fe 93 126 = some (.aload 1, 127) := by decide +kernel
theorem f_93_127 : x_fe 93 127 = some (.iload 2, 128) := by decide +kernel
theorem f_93_128 : x_fe 93 128 = some (.aload 3, 129) := by decide +kernel
theorem f_93_129 : x_fe 93 129 = some (.iload 5, 131) := by decide +kernel
theorem f_93_131 : x_fe 93 131 = some (.invokestatic 93, 134) := by decide +kernel
theorem f_93_134 : x_fe 93 134 = some (.iadd, 135) := by decide +kernel
theorem f_93_135 : x_fe 93 135 = some (.ireturn, 136) := by decide +kernel
theorem f_93_136 : x_fe 93 136 = some (.iconst (2), 137) := by decide +kernel
theorem f_93_137 : x_fe 93 137 = some (.iconst (11), 139) := by decide +kernel
theorem f_93_139 : x_fe 93 139 = some (.aload 1, 140) := by decide +kernel
theorem f_93_140 : x_fe 93 140 = some (.iload 2, 141) := by decide +kernel
theorem f_93_141 : x_fe 93 141 = some (.aload 3, 142) := by decide +kernel
theorem f_93_142 : x_fe 93 142 = some (.iload 5, 144) := by decide +kernel
theorem f_93_144 : x_fe 93 144 = some (.invokestatic 93, 147) := by decide +kernel
theorem f_93_147 : x_fe 93 147 = some (.imul, 148) := by decide +kernel
theorem f_93_148 : x_fe 93 148 = some (.ireturn, 149) := by decide +kernel
theorem f_93_149 : x_fe 93 149 = some (.iconst (11), 151) := by decide +kernel
theorem f_93_151 : x_fe 93 151 = some (.aload 1, 152) := by decide +kernel
theorem f_93_152 : x_fe 93 152 = some (.iload 2, 153) := by decide +kernel
theorem f_93_153 : x_fe 93 153 = some (.aload 3, 154) := by decide +kernel
theorem f_93_154 : x_fe 93 154 = some (.iload 5, 156) := by decide +kernel
theorem f_93_156 : x_fe 93 156 = some (.invokestatic 93, 159) := by decide +kernel
theorem f_93_159 : x_fe 93 159 = some (.ineg, 160) := by decide +kernel
theorem f_93_160 : x_fe 93 160 = some (.ireturn, 161) := by decide +kernel
theorem f_93_161 : x_fe 93 161 = some (.iconst (10), 163) := by decide +kernel
theorem f_93_163 : x_fe 93 163 = some (.aload 1, 164) := by decide +kernel
theorem f_93_164 : x_fe 93 164 = some (.iload 2, 165) := by decide +kernel
theorem f_93_165 : x_fe 93 165 = some (.aload 3, 166) := by decide +kernel
theorem f_93_166 : x_fe 93 166 = some (.iload 5, 168) := by decide +kernel
theorem f_93_168 : x_fe 93 168 = some (.invokestatic 93, 171) := by decide +kernel
theorem f_93_171 : x_fe 93 171 = some (.iconst (100), 173) := by decide +kernel
theorem f_93_173 : x_fe 93 173 = some (.isub, 174) := by decide +kernel
theorem f_93_174 : x_fe 93 174 = some (.ireturn, 175) := by decide +kernel
theorem f_93_175 : x_fe 93 175 = some (.iload 2, 176) := by decide +kernel
theorem f_93_176 : x_fe 93 176 = some (.ireturn, 177) := by decide +kernel
theorem f_93_177 : x_fe 93 177 = some (.iconst (20), 179) := by decide +kernel
theorem f_93_179 : x_fe 93 179 = some (.aload 1, 180) := by decide +kernel
theorem f_93_180 : x_fe 93 180 = some (.iload 2, 181) := by decide +kernel
theorem f_93_181 : x_fe 93 181 = some (.aload 3, 182) := by decide +kernel
theorem f_93_182 : x_fe 93 182 = some (.iload 5, 184) := by decide +kernel
theorem f_93_184 : x_fe 93 184 = some (.invokestatic 93, 187) := by decide +kernel
theorem f_93_187 : x_fe 93 187 = some (.aload 1, 188) := by decide +kernel
theorem f_93_188 : x_fe 93 188 = some (.aload 1, 189) := by decide +kernel
theorem f_93_189 : x_fe 93 189 = some (.iload 2, 190) := by decide +kernel
theorem f_93_190 : x_fe 93 190 = some (.iconst (0), 191) := by decide +kernel
theorem f_93_191 : x_fe 93 191 = some (.invokevirtual 8, 194) := by decide +kernel
theorem f_93_194 : x_fe 93 194 = some (.invokevirtual 9, 197) := by decide +kernel
theorem f_93_197 : x_fe 93 197 = some (.iadd, 198) := by decide +kernel
theorem f_93_198 : x_fe 93 198 = some (.ireturn, 199) := by decide +kernel
theorem f_93_199 : x_fe 93 199 = some (.iconst (21), 201) := by decide +kernel
theorem f_93_201 : x_fe 93 201 = some (.aload 1, 202) := by decide +kernel
theorem f_93_202 : x_fe 93 202 = some (.iload 2, 203) := by decide +kernel
theorem f_93_203 : x_fe 93 203 = some (.aload 3, 204) := by decide +kernel
theorem f_93_204 : x_fe 93 204 = some (.iload 5, 206) := by decide +kernel
theorem f_93_206 : x_fe 93 206 = some (.invokestatic 93, 209) := by decide +kernel
theorem f_93_209 : x_fe 93 209 = some (.iconst (1000), 212) := by decide +kernel
theorem f_93_212 : x_fe 93 212 = some (.isub, 213) := by decide +kernel
theorem f_93_213 : x_fe 93 213 = some (.ireturn, 214) := by decide +kernel
theorem f_93_214 : x_fe 93 214 = some (.iconst (20), 216) := by decide +kernel
theorem f_93_216 : x_fe 93 216 = some (.aload 1, 217) := by decide +kernel
theorem f_93_217 : x_fe 93 217 = some (.iload 2, 218) := by decide +kernel
theorem f_93_218 : x_fe 93 218 = some (.aload 3, 219) := by decide +kernel
theorem f_93_219 : x_fe 93 219 = some (.iload 5, 221) := by decide +kernel
theorem f_93_221 : x_fe 93 221 = some (.invokestatic 93, 224) := by decide +kernel
theorem f_93_224 : x_fe 93 224 = some (.istore 6, 226) := by decide +kernel
theorem f_93_226 : x_fe 93 226 = some (.iload 6, 228) := by decide +kernel
theorem f_93_228 : x_fe 93 228 = some (.aload 1, 229) := by decide +kernel
theorem f_93_229 : x_fe 93 229 = some (.iload 2, 230) := by decide +kernel
theorem f_93_230 : x_fe 93 230 = some (.iconst (0), 231) := by decide +kernel
theorem f_93_231 : x_fe 93 231 = some (.invokestatic 92, 234) := by decide +kernel
theorem f_93_234 : x_fe 93 234 = some (.aload 1, 235) := by decide +kernel
theorem f_93_235 : x_fe 93 235 = some (.iload 2, 236) := by decide +kernel
theorem f_93_236 : x_fe 93 236 = some (.aload 3, 237) := by decide +kernel
theorem f_93_237 : x_fe 93 237 = some (.iload 5, 239) := by decide +kernel
theorem f_93_239 : x_fe 93 239 = some (.invokestatic 93, 242) := by decide +kernel
theorem f_93_242 : x_fe 93 242 = some (.iadd, 243) := by decide +kernel
theorem f_93_243 : x_fe 93 243 = some (.ireturn, 244) := by decide +kernel
theorem f_93_244 : x_fe 93 244 = some (.iconst (21), 246) := by decide +kernel
theorem f_93_246 : x_fe 93 246 = some (.aload 1, 247) := by decide +kernel
theorem f_93_247 : x_fe 93 247 = some (.iload 2, 248) := by decide +kernel
theorem f_93_248 : x_fe 93 248 = some (.aload 3, 249) := by decide +kernel
theorem f_93_249 : x_fe 93 249 = some (.iload 5, 251) := by decide +kernel
theorem f_93_251 : x_fe 93 251 = some (.invokestatic 93, 254) := by decide +kernel
theorem f_93_254 : x_fe 93 254 = some (.iconst (500), 257) := by decide +kernel
theorem f_93_257 : x_fe 93 257 = some (.iadd, 258) := by decide +kernel
theorem f_93_258 : x_fe 93 258 = some (.ireturn, 259) := by decide +kernel
theorem f_93_259 : x_fe 93 259 = some (.iconst (0), 260) := by decide +kernel
theorem f_93_260 : x_fe 93 260 = some (.ireturn, 261) := by decide +kernel
theorem f_94_0 : x_fe 94 0 = some (.iload 1, 1) := by decide +kernel
theorem f_94_1 : x_fe 94 1 = some (.ifCond .lt (Int.ofNat 27), 4) := by decide +kernel
theorem f_94_4 : x_fe 94 4 = some (.iload 1, 5) := by decide +kernel
theorem f_94_5 : x_fe 94 5 = some (.aload 0, 6) := by decide +kernel
theorem f_94_6 : x_fe 94 6 = some (.getfield 167, 9) := by decide +kernel
theorem f_94_9 : x_fe 94 9 = some (.getfield 129, 12) := by decide +kernel
theorem f_94_12 : x_fe 94 12 = some (.if_icmp .ge (Int.ofNat 27), 15) := by decide +kernel
theorem f_94_15 : x_fe 94 15 = some (.aload 0, 16) := by decide +kernel
theorem f_94_16 : x_fe 94 16 = some (.getfield 167, 19) := by decide +kernel
theorem f_94_19 : x_fe 94 19 = some (.getfield 128, 22) := by decide +kernel
theorem f_94_22 : x_fe 94 22 = some (.iload 1, 23) := by decide +kernel
theorem f_94_23 : x_fe 94 23 = some (.iaload, 24) := by decide +kernel
theorem f_94_24 : x_fe 94 24 = some (.goto (Int.ofNat 29), 27) := by decide +kernel
theorem f_94_27 : x_fe 94 27 = some (.iconst (-1000000), 29) := by decide +kernel
theorem f_94_29 : x_fe 94 29 = some (.ireturn, 30) := by decide +kernel
theorem f_95_0 : x_fe 95 0 = some (.iload 1, 1) := by decide +kernel
theorem f_95_1 : x_fe 95 1 = some (.tableswitch (68) (0) (3) #[31, 36, 44, 60], 32) := by decide +kernel
theorem f_95_32 : x_fe 95 32 = some (.aload 0, 33) := by decide +kernel
theorem f_95_33 : x_fe 95 33 = some (.invokevirtual 96, 36) := by decide +kernel
theorem f_95_36 : x_fe 95 36 = some (.ireturn, 37) := by decide +kernel
theorem f_95_37 : x_fe 95 37 = some (.aload 0, 38) := by decide +kernel
theorem f_95_38 : x_fe 95 38 = some (.getfield 162, 41) := by decide +kernel
theorem f_95_41 : x_fe 95 41 = some (.getfield 5, 44) := by decide +kernel
theorem f_95_44 : x_fe 95 44 = some (.ireturn, 45) := by decide +kernel
theorem f_95_45 : x_fe 95 45 = some (.aload 0, 46) := by decide +kernel
theorem f_95_46 : x_fe 95 46 = some (.getfield 162, 49) := by decide +kernel
theorem f_95_49 : x_fe 95 49 = some (.getfield 5, 52) := by decide +kernel
theorem f_95_52 : x_fe 95 52 = some (.aload 0, 53) := by decide +kernel
theorem f_95_53 : x_fe 95 53 = some (.getfield 162, 56) := by decide +kernel
theorem f_95_56 : x_fe 95 56 = some (.invokevirtual 13, 59) := by decide +kernel
theorem f_95_59 : x_fe 95 59 = some (.isub, 60) := by decide +kernel
theorem f_95_60 : x_fe 95 60 = some (.ireturn, 61) := by decide +kernel
theorem f_95_61 : x_fe 95 61 = some (.aload 0, 62) := by decide +kernel
theorem f_95_62 : x_fe 95 62 = some (.getfield 161, 65) := by decide +kernel
theorem f_95_65 : x_fe 95 65 = some (.getfield 97, 68) := by decide +kernel
theorem f_95_68 : x_fe 95 68 = some (.ireturn, 69) := by decide +kernel
theorem f_95_69 : x_fe 95 69 = some (.iconst (-1000001), 71) := by decide +kernel
theorem f_95_71 : x_fe 95 71 = some (.ireturn, 72) := by decide +kernel
theorem f_96_0 : x_fe 96 0 = some (.iconst (0), 1) := by decide +kernel
theorem f_96_1 : x_fe 96 1 = some (.istore 1, 2) := by decide +kernel
theorem f_96_2 : x_fe 96 2 = some (.iconst (0), 3) := by decide +kernel
theorem f_96_3 : x_fe 96 3 = some (.istore 2, 4) := by decide +kernel
theorem f_96_4 : x_fe 96 4 = some (.iload 2, 5) := by decide +kernel
theorem f_96_5 : x_fe 96 5 = some (.iconst (8), 7) := by decide +kernel
theorem f_96_7 : x_fe 96 7 = some (.if_icmp .ge (Int.ofNat 31), 10) := by decide +kernel
theorem f_96_10 : x_fe 96 10 = some (.aload 0, 11) := by decide +kernel
theorem f_96_11 : x_fe 96 11 = some (.getfield 160, 14) := by decide +kernel
theorem f_96_14 : x_fe 96 14 = some (.iload 2, 15) := by decide +kernel
theorem f_96_15 : x_fe 96 15 = some (.aaload, 16) := by decide +kernel
theorem f_96_16 : x_fe 96 16 = some (.getfield 65, 19) := by decide +kernel
theorem f_96_19 : x_fe 96 19 = some (.ifCond .eq (Int.ofNat 25), 22) := by decide +kernel
theorem f_96_22 : x_fe 96 22 = some (.iinc 1 (1), 25) := by decide +kernel
theorem f_96_25 : x_fe 96 25 = some (.iinc 2 (1), 28) := by decide +kernel
theorem f_96_28 : x_fe 96 28 = some (.goto (Int.ofNat 4), 31) := by decide +kernel
theorem f_96_31 : x_fe 96 31 = some (.iload 1, 32) := by decide +kernel
theorem f_96_32 : x_fe 96 32 = some (.ireturn, 33) := by decide +kernel
theorem f_97_0 : x_fe 97 0 = some (.aload 0, 1) := by decide +kernel
theorem f_97_1 : x_fe 97 1 = some (.getfield 169, 4) := by decide +kernel
theorem f_97_4 : x_fe 97 4 = some (.ireturn, 5) := by decide +kernel
theorem f_98_0 : x_fe 98 0 = some (.aload 0, 1) := by decide +kernel
theorem f_98_1 : x_fe 98 1 = some (.d2f, 4) := by decide +kernel
theorem f_98_4 : x_fe 98 4 = some (.aload 0, 5) := by decide +kernel
theorem f_98_5 : x_fe 98 5 = some (.iconst (99), 7) := by decide +kernel
theorem f_98_7 : x_fe 98 7 = some (.newarray .int, 9) := by decide +kernel
theorem f_98_9 : x_fe 98 9 = some (.putstatic 192, 12) := by decide +kernel
theorem f_98_12 : x_fe 98 12 = some (.aload 0, 13) := by decide +kernel
theorem f_98_13 : x_fe 98 13 = some (.iconst (400), 16) := by decide +kernel
theorem f_98_16 : x_fe 98 16 = some (.newarray .int, 18) := by decide +kernel
theorem f_98_18 : x_fe 98 18 = some (.putstatic 193, 21) := by decide +kernel
theorem f_98_21 : x_fe 98 21 = some (.aload 0, 22) := by decide +kernel
theorem f_98_22 : x_fe 98 22 = some (.iconst (8), 24) := by decide +kernel
theorem f_98_24 : x_fe 98 24 = some (.newarray .int, 26) := by decide +kernel
theorem f_98_26 : x_fe 98 26 = some (.dup, 27) := by decide +kernel
theorem f_98_27 : x_fe 98 27 = some (.iconst (0), 28) := by decide +kernel
theorem f_98_28 : x_fe 98 28 = some (.iconst (-1000000), 30) := by decide +kernel
theorem f_98_30 : x_fe 98 30 = some (.iastore, 31) := by decide +kernel
theorem f_98_31 : x_fe 98 31 = some (.dup, 32) := by decide +kernel
theorem f_98_32 : x_fe 98 32 = some (.iconst (1), 33) := by decide +kernel
theorem f_98_33 : x_fe 98 33 = some (.iconst (-1000000), 35) := by decide +kernel
theorem f_98_35 : x_fe 98 35 = some (.iastore, 36) := by decide +kernel
theorem f_98_36 : x_fe 98 36 = some (.dup, 37) := by decide +kernel
theorem f_98_37 : x_fe 98 37 = some (.iconst (2), 38) := by decide +kernel
theorem f_98_38 : x_fe 98 38 = some (.iconst (-1000000), 40) := by decide +kernel
theorem f_98_40 : x_fe 98 40 = some (.iastore, 41) := by decide +kernel
theorem f_98_41 : x_fe 98 41 = some (.dup, 42) := by decide +kernel
theorem f_98_42 : x_fe 98 42 = some (.iconst (3), 43) := by decide +kernel
theorem f_98_43 : x_fe 98 43 = some (.iconst (-1000000), 45) := by decide +kernel
theorem f_98_45 : x_fe 98 45 = some (.iastore, 46) := by decide +kernel
theorem f_98_46 : x_fe 98 46 = some (.dup, 47) := by decide +kernel
theorem f_98_47 : x_fe 98 47 = some (.iconst (4), 48) := by decide +kernel
theorem f_98_48 : x_fe 98 48 = some (.iconst (-1000000), 50) := by decide +kernel
theorem f_98_50 : x_fe 98 50 = some (.iastore, 51) := by decide +kernel
theorem f_98_51 : x_fe 98 51 = some (.dup, 52) := by decide +kernel
theorem f_98_52 : x_fe 98 52 = some (.iconst (5), 53) := by decide +kernel
theorem f_98_53 : x_fe 98 53 = some (.iconst (-1000000), 55) := by decide +kernel
theorem f_98_55 : x_fe 98 55 = some (.iastore, 56) := by decide +kernel
theorem f_98_56 : x_fe 98 56 = some (.dup, 57) := by decide +kernel
theorem f_98_57 : x_fe 98 57 = some (.iconst (6), 59) := by decide +kernel
theorem f_98_59 : x_fe 98 59 = some (.iconst (-1000000), 61) := by decide +kernel
theorem f_98_61 : x_fe 98 61 = some (.iastore, 62) := by decide +kernel
theorem f_98_62 : x_fe 98 62 = some (.dup, 63) := by decide +kernel
theorem f_98_63 : x_fe 98 63 = some (.iconst (7), 65) := by decide +kernel
theorem f_98_65 : x_fe 98 65 = some (.iconst (-1000000), 67) := by decide +kernel
theorem f_98_67 : x_fe 98 67 = some (.iastore, 68) := by decide +kernel
theorem f_98_68 : x_fe 98 68 = some (.putstatic 197, 71) := by decide +kernel
theorem f_98_71 : x_fe 98 71 = some (.aload 0, 72) := by decide +kernel
theorem f_98_72 : x_fe 98 72 = some (.iconst (8), 74) := by decide +kernel
theorem f_98_74 : x_fe 98 74 = some (.newarray .int, 76) := by decide +kernel
theorem f_98_76 : x_fe 98 76 = some (.putstatic 198, 79) := by decide +kernel
theorem f_98_79 : x_fe 98 79 = some (.aload 0, 80) := by decide +kernel
theorem f_98_80 : x_fe 98 80 = some (.iconst (320), 83) := by decide +kernel
theorem f_98_83 : x_fe 98 83 = some (.newarray .int, 85) := by decide +kernel
theorem f_98_85 : x_fe 98 85 = some (.putstatic 199, 88) := by decide +kernel
theorem f_98_88 : x_fe 98 88 = some (.aload 0, 89) := by decide +kernel
theorem f_98_89 : x_fe 98 89 = some (.iconst (16), 91) := by decide +kernel
theorem f_98_91 : x_fe 98 91 = some (.newarray .int, 93) := by decide +kernel
theorem f_98_93 : x_fe 98 93 = some (.putstatic 200, 96) := by decide +kernel
theorem f_98_96 : x_fe 98 96 = some (.aload 0, 97) := by decide +kernel
theorem f_98_97 : x_fe 98 97 = some (.iconst (9), 99) := by decide +kernel
theorem f_98_99 : x_fe 98 99 = some (.newarray .int, 101) := by decide +kernel
theorem f_98_101 : x_fe 98 101 = some (.putstatic 205, 104) := by decide +kernel
theorem f_98_104 : x_fe 98 104 = some (.aload 0, 105) := by decide +kernel
theorem f_98_105 : x_fe 98 105 = some (.iconst (14), 107) := by decide +kernel
theorem f_98_107 : x_fe 98 107 = some (.newarray .int, 109) := by decide +kernel
theorem f_98_109 : x_fe 98 109 = some (.putstatic 206, 112) := by decide +kernel
theorem f_98_112 : x_fe 98 112 = some (.aload 0, 113) := by decide +kernel
theorem f_98_113 : x_fe 98 113 = some (.iconst (14), 115) := by decide +kernel
theorem f_98_115 : x_fe 98 115 = some (.newarray .int, 117) := by decide +kernel
theorem f_98_117 : x_fe 98 117 = some (.putstatic 207, 120) := by decide +kernel
theorem f_98_120 : x_fe 98 120 = some (.aload 0, 121) := by decide +kernel
theorem f_98_121 : x_fe 98 121 = some (.iconst (112), 123) := by decide +kernel
theorem f_98_123 : x_fe 98 123 = some (.newarray .int, 125) := by decide +kernel
theorem f_98_125 : x_fe 98 125 = some (.putstatic 209, 128) := by decide +kernel
theorem f_98_128 : x_fe 98 128 = some (.aload 0, 129) := by decide +kernel
theorem f_98_129 : x_fe 98 129 = some (.iconst (3), 130) := by decide +kernel
theorem f_98_130 : x_fe 98 130 = some (.newarray .int, 132) := by decide +kernel
theorem f_98_132 : x_fe 98 132 = some (.putstatic 210, 135) := by decide +kernel
theorem f_98_135 : x_fe 98 135 = some (.aload 0, 136) := by decide +kernel
theorem f_98_136 : x_fe 98 136 = some (.iconst (6), 138) := by decide +kernel
theorem f_98_138 : x_fe 98 138 = some (.newarray .int, 140) := by decide +kernel
theorem f_98_140 : x_fe 98 140 = some (.putstatic 211, 143) := by decide +kernel
theorem f_98_143 : x_fe 98 143 = some (.aload 0, 144) := by decide +kernel
theorem f_98_144 : x_fe 98 144 = some (.iconst (6), 146) := by decide +kernel
theorem f_98_146 : x_fe 98 146 = some (.newarray .int, 148) := by decide +kernel
theorem f_98_148 : x_fe 98 148 = some (.putstatic 212, 151) := by decide +kernel
theorem f_98_151 : x_fe 98 151 = some (.aload 0, 152) := by decide +kernel
theorem f_98_152 : x_fe 98 152 = some (.iconst (12), 154) := by decide +kernel
theorem f_98_154 : x_fe 98 154 = some (.newarray .int, 156) := by decide +kernel
theorem f_98_156 : x_fe 98 156 = some (.putstatic 213, 159) := by decide +kernel
theorem f_98_159 : x_fe 98 159 = some (.aload 0, 160) := by decide +kernel
theorem f_98_160 : x_fe 98 160 = some (.iconst (6), 162) := by decide +kernel
theorem f_98_162 : x_fe 98 162 = some (.newarray .int, 164) := by decide +kernel
theorem f_98_164 : x_fe 98 164 = some (.putstatic 214, 167) := by decide +kernel
theorem f_98_167 : x_fe 98 167 = some (.aload 0, 168) := by decide +kernel
theorem f_98_168 : x_fe 98 168 = some (.iconst (6), 170) := by decide +kernel
theorem f_98_170 : x_fe 98 170 = some (.newarray .int, 172) := by decide +kernel
theorem f_98_172 : x_fe 98 172 = some (.putstatic 215, 175) := by decide +kernel
theorem f_98_175 : x_fe 98 175 = some (.aload 0, 176) := by decide +kernel
theorem f_98_176 : x_fe 98 176 = some (.iconst (6), 178) := by decide +kernel
theorem f_98_178 : x_fe 98 178 = some (.newarray .int, 180) := by decide +kernel
theorem f_98_180 : x_fe 98 180 = some (.putstatic 216, 183) := by decide +kernel
theorem f_98_183 : x_fe 98 183 = some (.aload 0, 184) := by decide +kernel
theorem f_98_184 : x_fe 98 184 = some (.iconst (3), 185) := by decide +kernel
theorem f_98_185 : x_fe 98 185 = some (.newarray .int, 187) := by decide +kernel
theorem f_98_187 : x_fe 98 187 = some (.putstatic 218, 190) := by decide +kernel
theorem f_98_190 : x_fe 98 190 = some (.aload 0, 191) := by decide +kernel
theorem f_98_191 : x_fe 98 191 = some (.getfield 192, 194) := by decide +kernel
theorem f_98_194 : x_fe 98 194 = some (.iconst (25), 196) := by decide +kernel
theorem f_98_196 : x_fe 98 196 = some (.iconst (511), 199) := by decide +kernel
theorem f_98_199 : x_fe 98 199 = some (.iastore, 200) := by decide +kernel
theorem f_98_200 : x_fe 98 200 = some (.return_, 201) := by decide +kernel
theorem f_99_0 : x_fe 99 0 = some (.iload 1, 1) := by decide +kernel
theorem f_99_1 : x_fe 99 1 = some (.invokestatic 100, 4) := by decide +kernel
theorem f_99_4 : x_fe 99 4 = some (.ifCond .eq (Int.ofNat 25), 7) := by decide +kernel
theorem f_99_7 : x_fe 99 7 = some (.iload 2, 8) := by decide +kernel
theorem f_99_8 : x_fe 99 8 = some (.i2l, 9) := by decide +kernel
theorem f_99_9 : x_fe 99 9 = some (.ldc2_w 0, 10) := by decide +kernel
theorem f_99_10 : x_fe 99 10 = some (.ldc2_w 2, 13) := by decide +kernel
theorem f_99_13 : x_fe 99 13 = some (.invokestatic 101, 16) := by decide +kernel
theorem f_99_16 : x_fe 99 16 = some (.ifCond .eq (Int.ofNat 25), 19) := by decide +kernel
theorem f_99_19 : x_fe 99 19 = some (.iload 3, 20) := by decide +kernel
theorem f_99_20 : x_fe 99 20 = some (.iconst (40), 22) := by decide +kernel
theorem f_99_22 : x_fe 99 22 = some (.if_icmp .le (Int.ofNat 28), 25) := by decide +kernel
theorem f_99_25 : x_fe 99 25 = some (.iconst (-1000001), 27) := by decide +kernel
theorem f_99_27 : x_fe 99 27 = some (.ireturn, 28) := by decide +kernel
theorem f_99_28 : x_fe 99 28 = some (.iload 3, 29) := by decide +kernel
theorem f_99_29 : x_fe 99 29 = some (.ifCond .ge (Int.ofNat 38), 32) := by decide +kernel
theorem f_99_32 : x_fe 99 32 = some (.aload 0, 33) := by decide +kernel
theorem f_99_33 : x_fe 99 33 = some (.iconst (4), 34) := by decide +kernel
theorem f_99_34 : x_fe 99 34 = some (.invokevirtual 102, 37) := by decide +kernel
theorem f_99_37 : x_fe 99 37 = some (.ireturn, 38) := by decide +kernel
theorem f_99_38 : x_fe 99 38 = some (.aload 0, 39) := by decide +kernel
theorem f_99_39 : x_fe 99 39 = some (.getfield 197, 42) := by decide +kernel
theorem f_99_42 : x_fe 99 42 = some (.iload 1, 43) := by decide +kernel
theorem f_99_43 : x_fe 99 43 = some (.iload 2, 44) := by decide +kernel
theorem f_99_44 : x_fe 99 44 = some (.iastore, 45) := by decide +kernel
theorem f_99_45 : x_fe 99 45 = some (.aload 0, 46) := by decide +kernel
theorem f_99_46 : x_fe 99 46 = some (.getfield 198, 49) := by decide +kernel
theorem f_99_49 : x_fe 99 49 = some (.iload 1, 50) := by decide +kernel
theorem f_99_50 : x_fe 99 50 = some (.iload 3, 51) := by decide +kernel
theorem f_99_51 : x_fe 99 51 = some (.iastore, 52) := by decide +kernel
theorem f_99_52 : x_fe 99 52 = some (.iconst (0), 53) := by decide +kernel
theorem f_99_53 : x_fe 99 53 = some (.istore 4, 55) := by decide +kernel
theorem f_99_55 : x_fe 99 55 = some (.iload 4, 57) := by decide +kernel
theorem f_99_57 : x_fe 99 57 = some (.iload 3, 58) := by decide +kernel
theorem f_99_58 : x_fe 99 58 = some (.if_icmp .ge (Int.ofNat 80), 61) := by decide +kernel
theorem f_99_61 : x_fe 99 61 = some (.aload 0, 62) := by decide +kernel
theorem f_99_62 : x_fe 99 62 = some (.getfield 199, 65) := by decide +kernel
theorem f_99_65 : x_fe 99 65 = some (.iconst (40), 67) := by decide +kernel
theorem f_99_67 : x_fe 99 67 = some (.iload 1, 68) := by decide +kernel
theorem f_99_68 : x_fe 99 68 = some (.imul, 69) := by decide +kernel
theorem f_99_69 : x_fe 99 69 = some (.iload 4, 71) := by decide +kernel
theorem f_99_71 : x_fe 99 71 = some (.iadd, 72) := by decide +kernel
theorem f_99_72 : x_fe 99 72 = some (.iconst (0), 73) := by decide +kernel
theorem f_99_73 : x_fe 99 73 = some (.iastore, 74) := by decide +kernel
theorem f_99_74 : x_fe 99 74 = some (.iinc 4 (1), 77) := by decide +kernel
theorem f_99_77 : x_fe 99 77 = some (.goto (Int.ofNat 55), 80) := by decide +kernel
theorem f_99_80 : x_fe 99 80 = some (.aload 0, 81) := by decide +kernel
theorem f_99_81 : x_fe 99 81 = some (.iload 3, 82) := by decide +kernel
theorem f_99_82 : x_fe 99 82 = some (.invokevirtual 103, 85) := by decide +kernel
theorem f_99_85 : x_fe 99 85 = some (.ireturn, 86) := by decide +kernel
theorem f_100_0 : x_fe 100 0 = some (.iload 0, 1) := by decide +kernel
theorem f_100_1 : x_fe 100 1 = some (.i2l, 2) := by decide +kernel
theorem f_100_2 : x_fe 100 2 = some (.ldc2_w 0, 3) := by decide +kernel
theorem f_100_3 : x_fe 100 3 = some (.ldc2_w 7, 6) := by decide +kernel
theorem f_100_6 : x_fe 100 6 = some (.invokestatic 101, 9) := by decide +kernel
theorem f_100_9 : x_fe 100 9 = some (.ireturn, 10) := by decide +kernel
theorem f_101_0 : x_fe 101 0 = some (.lload 0, 1) := by decide +kernel
theorem f_101_1 : x_fe 101 1 = some (.lload 2, 2) := by decide +kernel
theorem f_101_2 : x_fe 101 2 = some (.lcmp, 3) := by decide +kernel
theorem f_101_3 : x_fe 101 3 = some (.ifCond .lt (Int.ofNat 17), 6) := by decide +kernel
theorem f_101_6 : x_fe 101 6 = some (.lload 0, 7) := by decide +kernel
theorem f_101_7 : x_fe 101 7 = some (.lload 4, 9) := by decide +kernel
theorem f_101_9 : x_fe 101 9 = some (.lcmp, 10) := by decide +kernel
theorem f_101_10 : x_fe 101 10 = some (.ifCond .gt (Int.ofNat 17), 13) := by decide +kernel
theorem f_101_13 : x_fe 101 13 = some (.iconst (1), 14) := by decide +kernel
theorem f_101_14 : x_fe 101 14 = some (.goto (Int.ofNat 18), 17) := by decide +kernel
theorem f_101_17 : x_fe 101 17 = some (.iconst (0), 18) := by decide +kernel
theorem f_101_18 : x_fe 101 18 = some (.ireturn, 19) := by decide +kernel
theorem f_102_0 : x_fe 102 0 = some (.aload 0, 1) := by decide +kernel
theorem f_102_1 : x_fe 102 1 = some (.iload 1, 2) := by decide +kernel
theorem f_102_2 : x_fe 102 2 = some (.putfield 196, 5) := by decide +kernel
theorem f_102_5 : x_fe 102 5 = some (.iconst (-1000010), 7) := by decide +kernel
theorem f_102_7 : x_fe 102 7 = some (.iload 1, 8) := by decide +kernel
theorem f_102_8 : x_fe 102 8 = some (.isub, 9) := by decide +kernel
theorem f_102_9 : x_fe 102 9 = some (.ireturn, 10) := by decide +kernel
theorem f_103_0 : x_fe 103 0 = some (.aload 0, 1) := by decide +kernel
theorem f_103_1 : x_fe 103 1 = some (.iconst (0), 2) := by decide +kernel
theorem f_103_2 : x_fe 103 2 = some (.putfield 196, 5) := by decide +kernel
theorem f_103_5 : x_fe 103 5 = some (.iload 1, 6) := by decide +kernel
theorem f_103_6 : x_fe 103 6 = some (.ireturn, 7) := by decide +kernel
theorem f_104_0 : x_fe 104 0 = some (.iload 1, 1) := by decide +kernel
theorem f_104_1 : x_fe 104 1 = some (.invokestatic 100, 4) := by decide +kernel
theorem f_104_4 : x_fe 104 4 = some (.ifCond .ne (Int.ofNat 10), 7) := by decide +kernel
theorem f_104_7 : x_fe 104 7 = some (.iconst (-1000001), 9) := by decide +kernel
theorem f_104_9 : x_fe 104 9 = some (.ireturn, 10) := by decide +kernel
theorem f_104_10 : x_fe 104 10 = some (.aload 0, 11) := by decide +kernel
theorem f_104_11 : x_fe 104 11 = some (.getfield 197, 14) := by decide +kernel
theorem f_104_14 : x_fe 104 14 = some (.iload 1, 15) := by decide +kernel
theorem f_104_15 : x_fe 104 15 = some (.iaload, 16) := by decide +kernel
theorem f_104_16 : x_fe 104 16 = some (.iconst (-1000000), 18) := by decide +kernel
theorem f_104_18 : x_fe 104 18 = some (.if_icmp .ne (Int.ofNat 27), 21) := by decide +kernel
theorem f_104_21 : x_fe 104 21 = some (.aload 0, 22) := by decide +kernel
theorem f_104_22 : x_fe 104 22 = some (.iconst (1), 23) := by decide +kernel
theorem f_104_23 : x_fe 104 23 = some (.invokevirtual 102, 26) := by decide +kernel
theorem f_104_26 : x_fe 104 26 = some (.ireturn, 27) := by decide +kernel
theorem f_104_27 : x_fe 104 27 = some (.iload 2, 28) := by decide +kernel
theorem f_104_28 : x_fe 104 28 = some (.i2l, 29) := by decide +kernel
theorem f_104_29 : x_fe 104 29 = some (.ldc2_w 0, 30) := by decide +kernel
theorem f_104_30 : x_fe 104 30 = some (.aload 0, 31) := by decide +kernel
theorem f_104_31 : x_fe 104 31 = some (.getfield 198, 34) := by decide +kernel
theorem f_104_34 : x_fe 104 34 = some (.iload 1, 35) := by decide +kernel
theorem f_104_35 : x_fe 104 35 = some (.iaload, 36) := by decide +kernel
theorem f_104_36 : x_fe 104 36 = some (.iconst (1), 37) := by decide +kernel
theorem f_104_37 : x_fe 104 37 = some (.isub, 38) := by decide +kernel
theorem f_104_38 : x_fe 104 38 = some (.i2l, 39) := by decide +kernel
theorem f_104_39 : x_fe 104 39 = some (.invokestatic 101, 42) := by decide +kernel
theorem f_104_42 : x_fe 104 42 = some (.ifCond .ne (Int.ofNat 51), 45) := by decide +kernel
theorem f_104_45 : x_fe 104 45 = some (.aload 0, 46) := by decide +kernel
theorem f_104_46 : x_fe 104 46 = some (.iconst (2), 47) := by decide +kernel
theorem f_104_47 : x_fe 104 47 = some (.invokevirtual 102, 50) := by decide +kernel
theorem f_104_50 : x_fe 104 50 = some (.ireturn, 51) := by decide +kernel
theorem f_104_51 : x_fe 104 51 = some (.aload 0, 52) := by decide +kernel
theorem f_104_52 : x_fe 104 52 = some (.getfield 199, 55) := by decide +kernel
theorem f_104_55 : x_fe 104 55 = some (.iconst (40), 57) := by decide +kernel
theorem f_104_57 : x_fe 104 57 = some (.iload 1, 58) := by decide +kernel
theorem f_104_58 : x_fe 104 58 = some (.imul, 59) := by decide +kernel
theorem f_104_59 : x_fe 104 59 = some (.iload 2, 60) := by decide +kernel
theorem f_104_60 : x_fe 104 60 = some (.iadd, 61) := by decide +kernel
theorem f_104_61 : x_fe 104 61 = some (.aload 0, 62) := by decide +kernel
theorem f_104_62 : x_fe 104 62 = some (.getfield 197, 65) := by decide +kernel
theorem f_104_65 : x_fe 104 65 = some (.iload 1, 66) := by decide +kernel
theorem f_104_66 : x_fe 104 66 = some (.iaload, 67) := by decide +kernel
theorem f_104_67 : x_fe 104 67 = some (.ifCond .ne (Int.ofNat 75), 70) := by decide +kernel
theorem f_104_70 : x_fe 104 70 = some (.iload 3, 71) := by decide +kernel
theorem f_104_71 : x_fe 104 71 = some (.i2b, 72) := by decide +kernel
theorem f_104_72 : x_fe 104 72 = some (.goto (Int.ofNat 91), 75) := by decide +kernel
theorem f_104_75 : x_fe 104 75 = some (.aload 0, 76) := by decide +kernel
theorem f_104_76 : x_fe 104 76 = some (.getfield 197, 79) := by decide +kernel
theorem f_104_79 : x_fe 104 79 = some (.iload 1, 80) := by decide +kernel
theorem f_104_80 : x_fe 104 80 = some (.iaload, 81) := by decide +kernel
theorem f_104_81 : x_fe 104 81 = some (.iconst (1), 82) := by decide +kernel
theorem f_104_82 : x_fe 104 82 = some (.if_icmp .ne (Int.ofNat 90), 85) := by decide +kernel
theorem f_104_85 : x_fe 104 85 = some (.iload 3, 86) := by decide +kernel
theorem f_104_86 : x_fe 104 86 = some (.i2s, 87) := by decide +kernel
theorem f_104_87 : x_fe 104 87 = some (.goto (Int.ofNat 91), 90) := by decide +kernel
theorem f_104_90 : x_fe 104 90 = some (.iload 3, 91) := by decide +kernel
theorem f_104_91 : x_fe 104 91 = some (.iastore, 92) := by decide +kernel
theorem f_104_92 : x_fe 104 92 = some (.aload 0, 93) := by decide +kernel
theorem f_104_93 : x_fe 104 93 = some (.aload 0, 94) := by decide +kernel
theorem f_104_94 : x_fe 104 94 = some (.getfield 199, 97) := by decide +kernel
theorem f_104_97 : x_fe 104 97 = some (.iconst (40), 99) := by decide +kernel
theorem f_104_99 : x_fe 104 99 = some (.iload 1, 100) := by decide +kernel
theorem f_104_100 : x_fe 104 100 = some (.imul, 101) := by decide +kernel
theorem f_104_101 : x_fe 104 101 = some (.iload 2, 102) := by decide +kernel
theorem f_104_102 : x_fe 104 102 = some (.iadd, 103) := by decide +kernel
theorem f_104_103 : x_fe 104 103 = some (.iaload, 104) := by decide +kernel
theorem f_104_104 : x_fe 104 104 = some (.invokevirtual 103, 107) := by decide +kernel
theorem f_104_107 : x_fe 104 107 = some (.ireturn, 108) := by decide +kernel
theorem f_105_0 : x_fe 105 0 = some (.iload 1, 1) := by decide +kernel
theorem f_105_1 : x_fe 105 1 = some (.invokestatic 100, 4) := by decide +kernel
theorem f_105_4 : x_fe 105 4 = some (.ifCond .eq (Int.ofNat 14), 7) := by decide +kernel
theorem f_105_7 : x_fe 105 7 = some (.iload 3, 8) := by decide +kernel
theorem f_105_8 : x_fe 105 8 = some (.invokestatic 100, 11) := by decide +kernel
theorem f_105_11 : x_fe 105 11 = some (.ifCond .ne (Int.ofNat 17), 14) := by decide +kernel
theorem f_105_14 : x_fe 105 14 = some (.iconst (-1000001), 16) := by decide +kernel
theorem f_105_16 : x_fe 105 16 = some (.ireturn, 17) := by decide +kernel
theorem f_105_17 : x_fe 105 17 = some (.aload 0, 18) := by decide +kernel
theorem f_105_18 : x_fe 105 18 = some (.getfield 197, 21) := by decide +kernel
theorem f_105_21 : x_fe 105 21 = some (.iload 1, 22) := by decide +kernel
theorem f_105_22 : x_fe 105 22 = some (.iaload, 23) := by decide +kernel
theorem f_105_23 : x_fe 105 23 = some (.iconst (-1000000), 25) := by decide +kernel
theorem f_105_25 : x_fe 105 25 = some (.if_icmp .eq (Int.ofNat 39), 28) := by decide +kernel
theorem f_105_28 : x_fe 105 28 = some (.aload 0, 29) := by decide +kernel
theorem f_105_29 : x_fe 105 29 = some (.getfield 197, 32) := by decide +kernel
theorem f_105_32 : x_fe 105 32 = some (.iload 3, 33) := by decide +kernel
theorem f_105_33 : x_fe 105 33 = some (.iaload, 34) := by decide +kernel
theorem f_105_34 : x_fe 105 34 = some (.iconst (-1000000), 36) := by decide +kernel
theorem f_105_36 : x_fe 105 36 = some (.if_icmp .ne (Int.ofNat 45), 39) := by decide +kernel
theorem f_105_39 : x_fe 105 39 = some (.aload 0, 40) := by decide +kernel
theorem f_105_40 : x_fe 105 40 = some (.iconst (1), 41) := by decide +kernel
theorem f_105_41 : x_fe 105 41 = some (.invokevirtual 102, 44) := by decide +kernel
theorem f_105_44 : x_fe 105 44 = some (.ireturn, 45) := by decide +kernel
theorem f_105_45 : x_fe 105 45 = some (.aload 0, 46) := by decide +kernel
theorem f_105_46 : x_fe 105 46 = some (.getfield 197, 49) := by decide +kernel
theorem f_105_49 : x_fe 105 49 = some (.iload 1, 50) := by decide +kernel
theorem f_105_50 : x_fe 105 50 = some (.iaload, 51) := by decide +kernel
theorem f_105_51 : x_fe 105 51 = some (.aload 0, 52) := by decide +kernel
theorem f_105_52 : x_fe 105 52 = some (.getfield 197, 55) := by decide +kernel
theorem f_105_55 : x_fe 105 55 = some (.iload 3, 56) := by decide +kernel
theorem f_105_56 : x_fe 105 56 = some (.iaload, 57) := by decide +kernel
theorem f_105_57 : x_fe 105 57 = some (.if_icmp .eq (Int.ofNat 66), 60) := by decide +kernel
theorem f_105_60 : x_fe 105 60 = some (.aload 0, 61) := by decide +kernel
theorem f_105_61 : x_fe 105 61 = some (.iconst (5), 62) := by decide +kernel
theorem f_105_62 : x_fe 105 62 = some (.invokevirtual 102, 65) := by decide +kernel
theorem f_105_65 : x_fe 105 65 = some (.ireturn, 66) := by decide +kernel
theorem f_105_66 : x_fe 105 66 = some (.aload 0, 67) := by decide +kernel
theorem f_105_67 : x_fe 105 67 = some (.iload 1, 68) := by decide +kernel
theorem f_105_68 : x_fe 105 68 = some (.iload 2, 69) := by decide +kernel
theorem f_105_69 : x_fe 105 69 = some (.iload 5, 71) := by decide +kernel
theorem f_105_71 : x_fe 105 71 = some (.invokevirtual 106, 74) := by decide +kernel
theorem f_105_74 : x_fe 105 74 = some (.ifCond .eq (Int.ofNat 89), 77) := by decide +kernel
theorem f_105_77 : x_fe 105 77 = some (.aload 0, 78) := by decide +kernel
theorem f_105_78 : x_fe 105 78 = some (.iload 3, 79) := by decide +kernel
theorem f_105_79 : x_fe 105 79 = some (.iload 4, 81) := by decide +kernel
theorem f_105_81 : x_fe 105 81 = some (.iload 5, 83) := by decide +kernel
theorem f_105_83 : x_fe 105 83 = some (.invokevirtual 106, 86) := by decide +kernel
theorem f_105_86 : x_fe 105 86 = some (.ifCond .ne (Int.ofNat 95), 89) := by decide +kernel
theorem f_105_89 : x_fe 105 89 = some (.aload 0, 90) := by decide +kernel
theorem f_105_90 : x_fe 105 90 = some (.iconst (2), 91) := by decide +kernel
theorem f_105_91 : x_fe 105 91 = some (.invokevirtual 102, 94) := by decide +kernel
theorem f_105_94 : x_fe 105 94 = some (.ireturn, 95) := by decide +kernel
theorem f_105_95 : x_fe 105 95 = some (.iconst (0), 96) := by decide +kernel
theorem f_105_96 : x_fe 105 96 = some (.istore 6, 98) := by decide +kernel
theorem f_105_98 : x_fe 105 98 = some (.iload 6, 100) := by decide +kernel
theorem f_105_100 : x_fe 105 100 = some (.iload 5, 102) := by decide +kernel
theorem f_105_102 : x_fe 105 102 = some (.if_icmp .ge (Int.ofNat 165), 105) := by decide +kernel
theorem f_105_105 : x_fe 105 105 = some (.iload 1, 106) := by decide +kernel
theorem f_105_106 : x_fe 105 106 = some (.iload 3, 107) := by decide +kernel
theorem f_105_107 : x_fe 105 107 = some (.if_icmp .ne (Int.ofNat 126), 110) := by decide +kernel
theorem f_105_110 : x_fe 105 110 = some (.iload 2, 111) := by decide +kernel
theorem f_105_111 : x_fe 105 111 = some (.iload 4, 113) := by decide +kernel
theorem f_105_113 : x_fe 105 113 = some (.if_icmp .ge (Int.ofNat 126), 116) := by decide +kernel
theorem f_105_116 : x_fe 105 116 = some (.iload 5, 118) := by decide +kernel
theorem f_105_118 : x_fe 105 118 = some (.iconst (1), 119) := by decide +kernel
theorem f_105_119 : x_fe 105 119 = some (.isub, 120) := by decide +kernel
theorem f_105_120 : x_fe 105 120 = some (.iload 6, 122) := by decide +kernel
theorem f_105_122 : x_fe 105 122 = some (.isub, 123) := by decide +kernel
theorem f_105_123 : x_fe 105 123 = some (.goto (Int.ofNat 128), 126) := by decide +kernel
theorem f_105_126 : x_fe 105 126 = some (.iload 6, 128) := by decide +kernel
theorem f_105_128 : x_fe 105 128 = some (.istore 7, 130) := by decide +kernel
theorem f_105_130 : x_fe 105 130 = some (.aload 0, 131) := by decide +kernel
theorem f_105_131 : x_fe 105 131 = some (.getfield 199, 134) := by decide +kernel
theorem f_105_134 : x_fe 105 134 = some (.iconst (40), 136) := by decide +kernel
theorem f_105_136 : x_fe 105 136 = some (.iload 3, 137) := by decide +kernel
theorem f_105_137 : x_fe 105 137 = some (.imul, 138) := by decide +kernel
theorem f_105_138 : x_fe 105 138 = some (.iload 4, 140) := by decide +kernel
theorem f_105_140 : x_fe 105 140 = some (.iadd, 141) := by decide +kernel
theorem f_105_141 : x_fe 105 141 = some (.iload 7, 143) := by decide +kernel
theorem f_105_143 : x_fe 105 143 = some (.iadd, 144) := by decide +kernel
theorem f_105_144 : x_fe 105 144 = some (.aload 0, 145) := by decide +kernel
theorem f_105_145 : x_fe 105 145 = some (.getfield 199, 148) := by decide +kernel
theorem f_105_148 : x_fe 105 148 = some (.iconst (40), 150) := by decide +kernel
theorem f_105_150 : x_fe 105 150 = some (.iload 1, 151) := by decide +kernel
theorem f_105_151 : x_fe 105 151 = some (.imul, 152) := by decide +kernel
theorem f_105_152 : x_fe 105 152 = some (.iload 2, 153) := by decide +kernel
theorem f_105_153 : x_fe 105 153 = some (.iadd, 154) := by decide +kernel
theorem f_105_154 : x_fe 105 154 = some (.iload 7, 156) := by decide +kernel
theorem f_105_156 : x_fe 105 156 = some (.iadd, 157) := by decide +kernel
theorem f_105_157 : x_fe 105 157 = some (.iaload, 158) := by decide +kernel
theorem f_105_158 : x_fe 105 158 = some (.iastore, 159) := by decide +kernel
theorem f_105_159 : x_fe 105 159 = some (.iinc 6 (1), 162) := by decide +kernel
theorem f_105_162 : x_fe 105 162 = some (.goto (Int.ofNat 98), 165) := by decide +kernel
theorem f_105_165 : x_fe 105 165 = some (.aload 0, 166) := by decide +kernel
theorem f_105_166 : x_fe 105 166 = some (.iload 5, 168) := by decide +kernel
theorem f_105_168 : x_fe 105 168 = some (.invokevirtual 103, 171) := by decide +kernel
theorem f_105_171 : x_fe 105 171 = some (.ireturn, 172) := by decide +kernel
theorem f_106_0 : x_fe 106 0 = some (.iload 2, 1) := by decide +kernel
theorem f_106_1 : x_fe 106 1 = some (.ifCond .lt (Int.ofNat 28), 4) := by decide +kernel
theorem f_106_4 : x_fe 106 4 = some (.iload 3, 5) := by decide +kernel
theorem f_106_5 : x_fe 106 5 = some (.ifCond .lt (Int.ofNat 28), 8) := by decide +kernel
theorem f_106_8 : x_fe 106 8 = some (.iload 2, 9) := by decide +kernel
theorem f_106_9 : x_fe 106 9 = some (.i2l, 10) := by decide +kernel
theorem f_106_10 : x_fe 106 10 = some (.iload 3, 11) := by decide +kernel
theorem f_106_11 : x_fe 106 11 = some (.i2l, 12) := by decide +kernel
theorem f_106_12 : x_fe 106 12 = some (.ladd, 13) := by decide +kernel
theorem f_106_13 : x_fe 106 13 = some (.aload 0, 14) := by decide +kernel
theorem f_106_14 : x_fe 106 14 = some (.getfield 198, 17) := by decide +kernel
theorem f_106_17 : x_fe 106 17 = some (.iload 1, 18) := by decide +kernel
theorem f_106_18 : x_fe 106 18 = some (.iaload, 19) := by decide +kernel
theorem f_106_19 : x_fe 106 19 = some (.i2l, 20) := by decide +kernel
theorem f_106_20 : x_fe 106 20 = some (.lcmp, 21) := by decide +kernel
theorem f_106_21 : x_fe 106 21 = some (.ifCond .gt (Int.ofNat 28), 24) := by decide +kernel
theorem f_106_24 : x_fe 106 24 = some (.iconst (1), 25) := by decide +kernel
theorem f_106_25 : x_fe 106 25 = some (.goto (Int.ofNat 29), 28) := by decide +kernel
theorem f_106_28 : x_fe 106 28 = some (.iconst (0), 29) := by decide +kernel
theorem f_106_29 : x_fe 106 29 = some (.ireturn, 30) := by decide +kernel
theorem f_107_0 : x_fe 107 0 = some (.iload 1, 1) := by decide +kernel
theorem f_107_1 : x_fe 107 1 = some (.invokestatic 100, 4) := by decide +kernel
theorem f_107_4 : x_fe 107 4 = some (.ifCond .ne (Int.ofNat 10), 7) := by decide +kernel
theorem f_107_7 : x_fe 107 7 = some (.iconst (-1000001), 9) := by decide +kernel
theorem f_107_9 : x_fe 107 9 = some (.ireturn, 10) := by decide +kernel
theorem f_107_10 : x_fe 107 10 = some (.aload 0, 11) := by decide +kernel
theorem f_107_11 : x_fe 107 11 = some (.getfield 197, 14) := by decide +kernel
theorem f_107_14 : x_fe 107 14 = some (.iload 1, 15) := by decide +kernel
theorem f_107_15 : x_fe 107 15 = some (.iaload, 16) := by decide +kernel
theorem f_107_16 : x_fe 107 16 = some (.iconst (-1000000), 18) := by decide +kernel
theorem f_107_18 : x_fe 107 18 = some (.if_icmp .ne (Int.ofNat 27), 21) := by decide +kernel
theorem f_107_21 : x_fe 107 21 = some (.aload 0, 22) := by decide +kernel
theorem f_107_22 : x_fe 107 22 = some (.iconst (1), 23) := by decide +kernel
theorem f_107_23 : x_fe 107 23 = some (.invokevirtual 102, 26) := by decide +kernel
theorem f_107_26 : x_fe 107 26 = some (.ireturn, 27) := by decide +kernel
theorem f_107_27 : x_fe 107 27 = some (.aload 0, 28) := by decide +kernel
theorem f_107_28 : x_fe 107 28 = some (.getfield 197, 31) := by decide +kernel
theorem f_107_31 : x_fe 107 31 = some (.iload 1, 32) := by decide +kernel
theorem f_107_32 : x_fe 107 32 = some (.iconst (-1000000), 34) := by decide +kernel
theorem f_107_34 : x_fe 107 34 = some (.iastore, 35) := by decide +kernel
theorem f_107_35 : x_fe 107 35 = some (.aload 0, 36) := by decide +kernel
theorem f_107_36 : x_fe 107 36 = some (.aload 0, 37) := by decide +kernel
theorem f_107_37 : x_fe 107 37 = some (.getfield 198, 40) := by decide +kernel
theorem f_107_40 : x_fe 107 40 = some (.iload 1, 41) := by decide +kernel
theorem f_107_41 : x_fe 107 41 = some (.iaload, 42) := by decide +kernel
theorem f_107_42 : x_fe 107 42 = some (.invokevirtual 103, 45) := by decide +kernel
theorem f_107_45 : x_fe 107 45 = some (.ireturn, 46) := by decide +kernel
theorem f_108_0 : x_fe 108 0 = some (.iload 3, 1) := by decide +kernel
theorem f_108_1 : x_fe 108 1 = some (.i2l, 2) := by decide +kernel
theorem f_108_2 : x_fe 108 2 = some (.ldc2_w 1, 3) := by decide +kernel
theorem f_108_3 : x_fe 108 3 = some (.ldc2_w 8, 6) := by decide +kernel
theorem f_108_6 : x_fe 108 6 = some (.invokestatic 101, 9) := by decide +kernel
theorem f_108_9 : x_fe 108 9 = some (.ifCond .ne (Int.ofNat 15), 12) := by decide +kernel
theorem f_108_12 : x_fe 108 12 = some (.iconst (-1000001), 14) := by decide +kernel
theorem f_108_14 : x_fe 108 14 = some (.ireturn, 15) := by decide +kernel
theorem f_108_15 : x_fe 108 15 = some (.aload 0, 16) := by decide +kernel
theorem f_108_16 : x_fe 108 16 = some (.getfield 194, 19) := by decide +kernel
theorem f_108_19 : x_fe 108 19 = some (.iload 3, 20) := by decide +kernel
theorem f_108_20 : x_fe 108 20 = some (.iadd, 21) := by decide +kernel
theorem f_108_21 : x_fe 108 21 = some (.iconst (400), 24) := by decide +kernel
theorem f_108_24 : x_fe 108 24 = some (.if_icmp .le (Int.ofNat 30), 27) := by decide +kernel
theorem f_108_27 : x_fe 108 27 = some (.iconst (-1000003), 29) := by decide +kernel
theorem f_108_29 : x_fe 108 29 = some (.ireturn, 30) := by decide +kernel
theorem f_108_30 : x_fe 108 30 = some (.iload 3, 31) := by decide +kernel
theorem f_108_31 : x_fe 108 31 = some (.iconst (1), 32) := by decide +kernel
theorem f_108_32 : x_fe 108 32 = some (.isub, 33) := by decide +kernel
theorem f_108_33 : x_fe 108 33 = some (.istore 4, 35) := by decide +kernel
theorem f_108_35 : x_fe 108 35 = some (.iload 4, 37) := by decide +kernel
theorem f_108_37 : x_fe 108 37 = some (.ifCond .lt (Int.ofNat 77), 40) := by decide +kernel
theorem f_108_40 : x_fe 108 40 = some (.aload 0, 41) := by decide +kernel
theorem f_108_41 : x_fe 108 41 = some (.getfield 193, 44) := by decide +kernel
theorem f_108_44 : x_fe 108 44 = some (.aload 0, 45) := by decide +kernel
theorem f_108_45 : x_fe 108 45 = some (.getfield 194, 48) := by decide +kernel
theorem f_108_48 : x_fe 108 48 = some (.lload 1, 49) := by decide +kernel
theorem f_108_49 : x_fe 108 49 = some (.iconst (8), 51) := by decide +kernel
theorem f_108_51 : x_fe 108 51 = some (.iload 4, 53) := by decide +kernel
theorem f_108_53 : x_fe 108 53 = some (.imul, 54) := by decide +kernel
theorem f_108_54 : x_fe 108 54 = some (.lshr, 55) := by decide +kernel
theorem f_108_55 : x_fe 108 55 = some (.ldc2_w 255, 58) := by decide +kernel
theorem f_108_58 : x_fe 108 58 = some (.land, 59) := by decide +kernel
theorem f_108_59 : x_fe 108 59 = some (.l2i, 60) := by decide +kernel
theorem f_108_60 : x_fe 108 60 = some (.iastore, 61) := by decide +kernel
theorem f_108_61 : x_fe 108 61 = some (.aload 0, 62) := by decide +kernel
theorem f_108_62 : x_fe 108 62 = some (.dup, 63) := by decide +kernel
theorem f_108_63 : x_fe 108 63 = some (.getfield 194, 66) := by decide +kernel
theorem f_108_66 : x_fe 108 66 = some (.iconst (1), 67) := by decide +kernel
theorem f_108_67 : x_fe 108 67 = some (.iadd, 68) := by decide +kernel
theorem f_108_68 : x_fe 108 68 = some (.putfield 194, 71) := by decide +kernel
theorem f_108_71 : x_fe 108 71 = some (.iinc 4 (-1), 74) := by decide +kernel
theorem f_108_74 : x_fe 108 74 = some (.goto (Int.ofNat 35), 77) := by decide +kernel
theorem f_108_77 : x_fe 108 77 = some (.aload 0, 78) := by decide +kernel
theorem f_108_78 : x_fe 108 78 = some (.getfield 194, 81) := by decide +kernel
theorem f_108_81 : x_fe 108 81 = some (.ireturn, 82) := by decide +kernel
theorem f_109_0 : x_fe 109 0 = some (.aload 0, 1) := by decide +kernel
theorem f_109_1 : x_fe 109 1 = some (.invokevirtual 110, 4) := by decide +kernel
theorem f_109_4 : x_fe 109 4 = some (.istore 1, 5) := by decide +kernel
theorem f_109_5 : x_fe 109 5 = some (.aload 0, 6) := by decide +kernel
theorem f_109_6 : x_fe 109 6 = some (.getfield 203, 9) := by decide +kernel
theorem f_109_9 : x_fe 109 9 = some (.istore 2, 10) := by decide +kernel
theorem f_109_10 : x_fe 109 10 = some (.aload 0, 11) := by decide +kernel
theorem f_109_11 : x_fe 109 11 = some (.iconst (0), 12) := by decide +kernel
theorem f_109_12 : x_fe 109 12 = some (.putfield 194, 15) := by decide +kernel
theorem f_109_15 : x_fe 109 15 = some (.iload 1, 16) := by decide +kernel
theorem f_109_16 : x_fe 109 16 = some (.ifCond .ne (Int.ofNat 24), 19) := by decide +kernel
theorem f_109_19 : x_fe 109 19 = some (.iconst (-1000100), 21) := by decide +kernel
theorem f_109_21 : x_fe 109 21 = some (.iload 2, 22) := by decide +kernel
theorem f_109_22 : x_fe 109 22 = some (.isub, 23) := by decide +kernel
theorem f_109_23 : x_fe 109 23 = some (.ireturn, 24) := by decide +kernel
theorem f_109_24 : x_fe 109 24 = some (.aload 0, 25) := by decide +kernel
theorem f_109_25 : x_fe 109 25 = some (.getfield 192, 28) := by decide +kernel
theorem f_109_28 : x_fe 109 28 = some (.iconst (0), 29) := by decide +kernel
theorem f_109_29 : x_fe 109 29 = some (.iconst (1), 30) := by decide +kernel
theorem f_109_30 : x_fe 109 30 = some (.iastore, 31) := by decide +kernel
theorem f_109_31 : x_fe 109 31 = some (.aload 0, 32) := by decide +kernel
theorem f_109_32 : x_fe 109 32 = some (.getfield 192, 35) := by decide +kernel
theorem f_109_35 : x_fe 109 35 = some (.iconst (1), 36) := by decide +kernel
theorem f_109_36 : x_fe 109 36 = some (.aload 0, 37) := by decide +kernel
theorem f_109_37 : x_fe 109 37 = some (.getfield 208, 40) := by decide +kernel
theorem f_109_40 : x_fe 109 40 = some (.iastore, 41) := by decide +kernel
theorem f_109_41 : x_fe 109 41 = some (.aload 0, 42) := by decide +kernel
theorem f_109_42 : x_fe 109 42 = some (.getfield 192, 45) := by decide +kernel
theorem f_109_45 : x_fe 109 45 = some (.iconst (30), 47) := by decide +kernel
theorem f_109_47 : x_fe 109 47 = some (.iconst (0), 48) := by decide +kernel
theorem f_109_48 : x_fe 109 48 = some (.iastore, 49) := by decide +kernel
theorem f_109_49 : x_fe 109 49 = some (.aload 0, 50) := by decide +kernel
theorem f_109_50 : x_fe 109 50 = some (.getfield 192, 53) := by decide +kernel
theorem f_109_53 : x_fe 109 53 = some (.iconst (31), 55) := by decide +kernel
theorem f_109_55 : x_fe 109 55 = some (.iconst (0), 56) := by decide +kernel
theorem f_109_56 : x_fe 109 56 = some (.iastore, 57) := by decide +kernel
theorem f_109_57 : x_fe 109 57 = some (.iconst (0), 58) := by decide +kernel
theorem f_109_58 : x_fe 109 58 = some (.istore 3, 59) := by decide +kernel
theorem f_109_59 : x_fe 109 59 = some (.iload 3, 60) := by decide +kernel
theorem f_109_60 : x_fe 109 60 = some (.aload 0, 61) := by decide +kernel
theorem f_109_61 : x_fe 109 61 = some (.getfield 208, 64) := by decide +kernel
theorem f_109_64 : x_fe 109 64 = some (.if_icmp .ge (Int.ofNat 107), 67) := by decide +kernel
theorem f_109_67 : x_fe 109 67 = some (.aload 0, 68) := by decide +kernel
theorem f_109_68 : x_fe 109 68 = some (.getfield 192, 71) := by decide +kernel
theorem f_109_71 : x_fe 109 71 = some (.iconst (2), 72) := by decide +kernel
theorem f_109_72 : x_fe 109 72 = some (.iload 3, 73) := by decide +kernel
theorem f_109_73 : x_fe 109 73 = some (.iadd, 74) := by decide +kernel
theorem f_109_74 : x_fe 109 74 = some (.aload 0, 75) := by decide +kernel
theorem f_109_75 : x_fe 109 75 = some (.getfield 206, 78) := by decide +kernel
theorem f_109_78 : x_fe 109 78 = some (.iload 3, 79) := by decide +kernel
theorem f_109_79 : x_fe 109 79 = some (.iaload, 80) := by decide +kernel
theorem f_109_80 : x_fe 109 80 = some (.iastore, 81) := by decide +kernel
