theorem f_109_81 : x_fe 109 81 = some (.aload 0, 82) := by decide +kernel
theorem f_109_82 : x_fe 109 82 = some (.getfield 192, 85) := by decide +kernel
theorem f_109_85 : x_fe 109 85 = some (.iconst (30), 87) := by decide +kernel
theorem f_109_87 : x_fe 109 87 = some (.aload 0, 88) := by decide +kernel
theorem f_109_88 : x_fe 109 88 = some (.getfield 207, 91) := by decide +kernel
theorem f_109_91 : x_fe 109 91 = some (.iload 3, 92) := by decide +kernel
theorem f_109_92 : x_fe 109 92 = some (.iaload, 93) := by decide +kernel
theorem f_109_93 : x_fe 109 93 = some (.iadd, 94) := by decide +kernel
theorem f_109_94 : x_fe 109 94 = some (.dup2, 95) := by decide +kernel
theorem f_109_95 : x_fe 109 95 = some (.iaload, 96) := by decide +kernel
theorem f_109_96 : x_fe 109 96 = some (.iconst (1), 97) := by decide +kernel
theorem f_109_97 : x_fe 109 97 = some (.iload 3, 98) := by decide +kernel
theorem f_109_98 : x_fe 109 98 = some (.ishl, 99) := by decide +kernel
theorem f_109_99 : x_fe 109 99 = some (.ior, 100) := by decide +kernel
theorem f_109_100 : x_fe 109 100 = some (.iastore, 101) := by decide +kernel
theorem f_109_101 : x_fe 109 101 = some (.iinc 3 (1), 104) := by decide +kernel
theorem f_109_104 : x_fe 109 104 = some (.goto (Int.ofNat 59), 107) := by decide +kernel
theorem f_109_107 : x_fe 109 107 = some (.iconst (0), 108) := by decide +kernel
theorem f_109_108 : x_fe 109 108 = some (.istore 3, 109) := by decide +kernel
theorem f_109_109 : x_fe 109 109 = some (.iload 3, 110) := by decide +kernel
theorem f_109_110 : x_fe 109 110 = some (.iconst (9), 112) := by decide +kernel
theorem f_109_112 : x_fe 109 112 = some (.if_icmp .ge (Int.ofNat 136), 115) := by decide +kernel
theorem f_109_115 : x_fe 109 115 = some (.aload 0, 116) := by decide +kernel
theorem f_109_116 : x_fe 109 116 = some (.getfield 192, 119) := by decide +kernel
theorem f_109_119 : x_fe 109 119 = some (.iconst (16), 121) := by decide +kernel
theorem f_109_121 : x_fe 109 121 = some (.iload 3, 122) := by decide +kernel
theorem f_109_122 : x_fe 109 122 = some (.iadd, 123) := by decide +kernel
theorem f_109_123 : x_fe 109 123 = some (.aload 0, 124) := by decide +kernel
theorem f_109_124 : x_fe 109 124 = some (.getfield 205, 127) := by decide +kernel
theorem f_109_127 : x_fe 109 127 = some (.iload 3, 128) := by decide +kernel
theorem f_109_128 : x_fe 109 128 = some (.iaload, 129) := by decide +kernel
theorem f_109_129 : x_fe 109 129 = some (.iastore, 130) := by decide +kernel
theorem f_109_130 : x_fe 109 130 = some (.iinc 3 (1), 133) := by decide +kernel
theorem f_109_133 : x_fe 109 133 = some (.goto (Int.ofNat 109), 136) := by decide +kernel
theorem f_109_136 : x_fe 109 136 = some (.aload 0, 137) := by decide +kernel
theorem f_109_137 : x_fe 109 137 = some (.getfield 192, 140) := by decide +kernel
theorem f_109_140 : x_fe 109 140 = some (.iconst (25), 142) := by decide +kernel
theorem f_109_142 : x_fe 109 142 = some (.iconst (511), 145) := by decide +kernel
theorem f_109_145 : x_fe 109 145 = some (.iastore, 146) := by decide +kernel
theorem f_109_146 : x_fe 109 146 = some (.aload 0, 147) := by decide +kernel
theorem f_109_147 : x_fe 109 147 = some (.getfield 192, 150) := by decide +kernel
theorem f_109_150 : x_fe 109 150 = some (.iconst (26), 152) := by decide +kernel
theorem f_109_152 : x_fe 109 152 = some (.iconst (0), 153) := by decide +kernel
theorem f_109_153 : x_fe 109 153 = some (.iastore, 154) := by decide +kernel
theorem f_109_154 : x_fe 109 154 = some (.aload 0, 155) := by decide +kernel
theorem f_109_155 : x_fe 109 155 = some (.getfield 192, 158) := by decide +kernel
theorem f_109_158 : x_fe 109 158 = some (.iconst (27), 160) := by decide +kernel
theorem f_109_160 : x_fe 109 160 = some (.aload 0, 161) := by decide +kernel
theorem f_109_161 : x_fe 109 161 = some (.getfield 192, 164) := by decide +kernel
theorem f_109_164 : x_fe 109 164 = some (.iconst (30), 166) := by decide +kernel
theorem f_109_166 : x_fe 109 166 = some (.iaload, 167) := by decide +kernel
theorem f_109_167 : x_fe 109 167 = some (.ifCond .ne (Int.ofNat 174), 170) := by decide +kernel
theorem f_109_170 : x_fe 109 170 = some (.iconst (1), 171) := by decide +kernel
theorem f_109_171 : x_fe 109 171 = some (.goto (Int.ofNat 175), 174) := by decide +kernel
theorem f_109_174 : x_fe 109 174 = some (.iconst (0), 175) := by decide +kernel
theorem f_109_175 : x_fe 109 175 = some (.iastore, 176) := by decide +kernel
theorem f_109_176 : x_fe 109 176 = some (.aload 0, 177) := by decide +kernel
theorem f_109_177 : x_fe 109 177 = some (.getfield 192, 180) := by decide +kernel
theorem f_109_180 : x_fe 109 180 = some (.iconst (28), 182) := by decide +kernel
theorem f_109_182 : x_fe 109 182 = some (.iconst (0), 183) := by decide +kernel
theorem f_109_183 : x_fe 109 183 = some (.iastore, 184) := by decide +kernel
theorem f_109_184 : x_fe 109 184 = some (.aload 0, 185) := by decide +kernel
theorem f_109_185 : x_fe 109 185 = some (.getfield 192, 188) := by decide +kernel
theorem f_109_188 : x_fe 109 188 = some (.iconst (29), 190) := by decide +kernel
theorem f_109_190 : x_fe 109 190 = some (.iconst (0), 191) := by decide +kernel
theorem f_109_191 : x_fe 109 191 = some (.iastore, 192) := by decide +kernel
theorem f_109_192 : x_fe 109 192 = some (.aload 0, 193) := by decide +kernel
theorem f_109_193 : x_fe 109 193 = some (.getfield 192, 196) := by decide +kernel
theorem f_109_196 : x_fe 109 196 = some (.iconst (32), 198) := by decide +kernel
theorem f_109_198 : x_fe 109 198 = some (.iconst (0), 199) := by decide +kernel
theorem f_109_199 : x_fe 109 199 = some (.iastore, 200) := by decide +kernel
theorem f_109_200 : x_fe 109 200 = some (.aload 0, 201) := by decide +kernel
theorem f_109_201 : x_fe 109 201 = some (.invokevirtual 120, 204) := by decide +kernel
theorem f_109_204 : x_fe 109 204 = some (.aload 0, 205) := by decide +kernel
theorem f_109_205 : x_fe 109 205 = some (.getfield 208, 208) := by decide +kernel
theorem f_109_208 : x_fe 109 208 = some (.ireturn, 209) := by decide +kernel
theorem f_110_0 : x_fe 110 0 = some (.aload 0, 1) := by decide +kernel
theorem f_110_1 : x_fe 110 1 = some (.iconst (0), 2) := by decide +kernel
theorem f_110_2 : x_fe 110 2 = some (.putfield 202, 5) := by decide +kernel
theorem f_110_5 : x_fe 110 5 = some (.aload 0, 6) := by decide +kernel
theorem f_110_6 : x_fe 110 6 = some (.iconst (0), 7) := by decide +kernel
theorem f_110_7 : x_fe 110 7 = some (.putfield 208, 10) := by decide +kernel
theorem f_110_10 : x_fe 110 10 = some (.aload 0, 11) := by decide +kernel
theorem f_110_11 : x_fe 110 11 = some (.invokevirtual 111, 14) := by decide +kernel
theorem f_110_14 : x_fe 110 14 = some (.aload 0, 15) := by decide +kernel
theorem f_110_15 : x_fe 110 15 = some (.invokevirtual 113, 18) := by decide +kernel
theorem f_110_18 : x_fe 110 18 = some (.ifCond .eq (Int.ofNat 28), 21) := by decide +kernel
theorem f_110_21 : x_fe 110 21 = some (.aload 0, 22) := by decide +kernel
theorem f_110_22 : x_fe 110 22 = some (.invokevirtual 118, 25) := by decide +kernel
theorem f_110_25 : x_fe 110 25 = some (.ifCond .ne (Int.ofNat 30), 28) := by decide +kernel
theorem f_110_28 : x_fe 110 28 = some (.iconst (0), 29) := by decide +kernel
theorem f_110_29 : x_fe 110 29 = some (.ireturn, 30) := by decide +kernel
theorem f_110_30 : x_fe 110 30 = some (.aload 0, 31) := by decide +kernel
theorem f_110_31 : x_fe 110 31 = some (.getfield 203, 34) := by decide +kernel
theorem f_110_34 : x_fe 110 34 = some (.aload 0, 35) := by decide +kernel
theorem f_110_35 : x_fe 110 35 = some (.getfield 194, 38) := by decide +kernel
theorem f_110_38 : x_fe 110 38 = some (.if_icmp .ge (Int.ofNat 50), 41) := by decide +kernel
theorem f_110_41 : x_fe 110 41 = some (.aload 0, 42) := by decide +kernel
theorem f_110_42 : x_fe 110 42 = some (.invokevirtual 118, 45) := by decide +kernel
theorem f_110_45 : x_fe 110 45 = some (.ifCond .ne (Int.ofNat 30), 48) := by decide +kernel
theorem f_110_48 : x_fe 110 48 = some (.iconst (0), 49) := by decide +kernel
theorem f_110_49 : x_fe 110 49 = some (.ireturn, 50) := by decide +kernel
theorem f_110_50 : x_fe 110 50 = some (.iconst (1), 51) := by decide +kernel
theorem f_110_51 : x_fe 110 51 = some (.ireturn, 52) := by decide +kernel
theorem f_111_0 : x_fe 111 0 = some (.aload 0, 1) := by decide +kernel
theorem f_111_1 : x_fe 111 1 = some (.getfield 202, 4) := by decide +kernel
theorem f_111_4 : x_fe 111 4 = some (.aload 0, 5) := by decide +kernel
theorem f_111_5 : x_fe 111 5 = some (.getfield 194, 8) := by decide +kernel
theorem f_111_8 : x_fe 111 8 = some (.if_icmp .ge (Int.ofNat 52), 11) := by decide +kernel
theorem f_111_11 : x_fe 111 11 = some (.aload 0, 12) := by decide +kernel
theorem f_111_12 : x_fe 111 12 = some (.getfield 193, 15) := by decide +kernel
theorem f_111_15 : x_fe 111 15 = some (.aload 0, 16) := by decide +kernel
theorem f_111_16 : x_fe 111 16 = some (.getfield 202, 19) := by decide +kernel
theorem f_111_19 : x_fe 111 19 = some (.iaload, 20) := by decide +kernel
theorem f_111_20 : x_fe 111 20 = some (.iconst (32), 22) := by decide +kernel
theorem f_111_22 : x_fe 111 22 = some (.if_icmp .eq (Int.ofNat 39), 25) := by decide +kernel
theorem f_111_25 : x_fe 111 25 = some (.aload 0, 26) := by decide +kernel
theorem f_111_26 : x_fe 111 26 = some (.getfield 193, 29) := by decide +kernel
theorem f_111_29 : x_fe 111 29 = some (.aload 0, 30) := by decide +kernel
theorem f_111_30 : x_fe 111 30 = some (.getfield 202, 33) := by decide +kernel
theorem f_111_33 : x_fe 111 33 = some (.iaload, 34) := by decide +kernel
theorem f_111_34 : x_fe 111 34 = some (.iconst (10), 36) := by decide +kernel
theorem f_111_36 : x_fe 111 36 = some (.if_icmp .ne (Int.ofNat 52), 39) := by decide +kernel
theorem f_111_39 : x_fe 111 39 = some (.aload 0, 40) := by decide +kernel
theorem f_111_40 : x_fe 111 40 = some (.dup, 41) := by decide +kernel
theorem f_111_41 : x_fe 111 41 = some (.getfield 202, 44) := by decide +kernel
theorem f_111_44 : x_fe 111 44 = some (.iconst (1), 45) := by decide +kernel
theorem f_111_45 : x_fe 111 45 = some (.iadd, 46) := by decide +kernel
theorem f_111_46 : x_fe 111 46 = some (.putfield 202, 49) := by decide +kernel
theorem f_111_49 : x_fe 111 49 = some (.goto (Int.ofNat 0), 52) := by decide +kernel
theorem f_111_52 : x_fe 111 52 = some (.aload 0, 53) := by decide +kernel
theorem f_111_53 : x_fe 111 53 = some (.aload 0, 54) := by decide +kernel
theorem f_111_54 : x_fe 111 54 = some (.getfield 202, 57) := by decide +kernel
theorem f_111_57 : x_fe 111 57 = some (.putfield 203, 60) := by decide +kernel
theorem f_111_60 : x_fe 111 60 = some (.aload 0, 61) := by decide +kernel
theorem f_111_61 : x_fe 111 61 = some (.dup, 62) := by decide +kernel
theorem f_111_62 : x_fe 111 62 = some (.getfield 202, 65) := by decide +kernel
theorem f_111_65 : x_fe 111 65 = some (.aload 0, 66) := by decide +kernel
theorem f_111_66 : x_fe 111 66 = some (.getfield 202, 69) := by decide +kernel
theorem f_111_69 : x_fe 111 69 = some (.aload 0, 70) := by decide +kernel
theorem f_111_70 : x_fe 111 70 = some (.getfield 194, 73) := by decide +kernel
theorem f_111_73 : x_fe 111 73 = some (.if_icmp .ge (Int.ofNat 80), 76) := by decide +kernel
theorem f_111_76 : x_fe 111 76 = some (.iconst (1), 77) := by decide +kernel
theorem f_111_77 : x_fe 111 77 = some (.goto (Int.ofNat 81), 80) := by decide +kernel
theorem f_111_80 : x_fe 111 80 = some (.iconst (0), 81) := by decide +kernel
theorem f_111_81 : x_fe 111 81 = some (.iadd, 82) := by decide +kernel
theorem f_111_82 : x_fe 111 82 = some (.putfield 202, 85) := by decide +kernel
theorem f_111_85 : x_fe 111 85 = some (.aload 0, 86) := by decide +kernel
theorem f_111_86 : x_fe 111 86 = some (.getfield 202, 89) := by decide +kernel
theorem f_111_89 : x_fe 111 89 = some (.aload 0, 90) := by decide +kernel
theorem f_111_90 : x_fe 111 90 = some (.getfield 194, 93) := by decide +kernel
theorem f_111_93 : x_fe 111 93 = some (.if_icmp .ge (Int.ofNat 151), 96) := by decide +kernel
theorem f_111_96 : x_fe 111 96 = some (.aload 0, 97) := by decide +kernel
theorem f_111_97 : x_fe 111 97 = some (.getfield 193, 100) := by decide +kernel
theorem f_111_100 : x_fe 111 100 = some (.aload 0, 101) := by decide +kernel
theorem f_111_101 : x_fe 111 101 = some (.getfield 203, 104) := by decide +kernel
theorem f_111_104 : x_fe 111 104 = some (.iaload, 105) := by decide +kernel
theorem f_111_105 : x_fe 111 105 = some (.invokestatic 112, 108) := by decide +kernel
theorem f_111_108 : x_fe 111 108 = some (.ifCond .le (Int.ofNat 151), 111) := by decide +kernel
theorem f_111_111 : x_fe 111 111 = some (.aload 0, 112) := by decide +kernel
theorem f_111_112 : x_fe 111 112 = some (.getfield 193, 115) := by decide +kernel
theorem f_111_115 : x_fe 111 115 = some (.aload 0, 116) := by decide +kernel
theorem f_111_116 : x_fe 111 116 = some (.getfield 202, 119) := by decide +kernel
theorem f_111_119 : x_fe 111 119 = some (.iaload, 120) := by decide +kernel
theorem f_111_120 : x_fe 111 120 = some (.invokestatic 112, 123) := by decide +kernel
theorem f_111_123 : x_fe 111 123 = some (.aload 0, 124) := by decide +kernel
theorem f_111_124 : x_fe 111 124 = some (.getfield 193, 127) := by decide +kernel
theorem f_111_127 : x_fe 111 127 = some (.aload 0, 128) := by decide +kernel
theorem f_111_128 : x_fe 111 128 = some (.getfield 203, 131) := by decide +kernel
theorem f_111_131 : x_fe 111 131 = some (.iaload, 132) := by decide +kernel
theorem f_111_132 : x_fe 111 132 = some (.invokestatic 112, 135) := by decide +kernel
theorem f_111_135 : x_fe 111 135 = some (.if_icmp .ne (Int.ofNat 151), 138) := by decide +kernel
theorem f_111_138 : x_fe 111 138 = some (.aload 0, 139) := by decide +kernel
theorem f_111_139 : x_fe 111 139 = some (.dup, 140) := by decide +kernel
theorem f_111_140 : x_fe 111 140 = some (.getfield 202, 143) := by decide +kernel
theorem f_111_143 : x_fe 111 143 = some (.iconst (1), 144) := by decide +kernel
theorem f_111_144 : x_fe 111 144 = some (.iadd, 145) := by decide +kernel
theorem f_111_145 : x_fe 111 145 = some (.putfield 202, 148) := by decide +kernel
theorem f_111_148 : x_fe 111 148 = some (.goto (Int.ofNat 85), 151) := by decide +kernel
theorem f_111_151 : x_fe 111 151 = some (.aload 0, 152) := by decide +kernel
theorem f_111_152 : x_fe 111 152 = some (.aload 0, 153) := by decide +kernel
theorem f_111_153 : x_fe 111 153 = some (.getfield 202, 156) := by decide +kernel
theorem f_111_156 : x_fe 111 156 = some (.putfield 204, 159) := by decide +kernel
theorem f_111_159 : x_fe 111 159 = some (.return_, 160) := by decide +kernel
theorem f_112_0 : x_fe 112 0 = some (.iload 0, 1) := by decide +kernel
theorem f_112_1 : x_fe 112 1 = some (.iconst (97), 3) := by decide +kernel
theorem f_112_3 : x_fe 112 3 = some (.if_icmp .lt (Int.ofNat 16), 6) := by decide +kernel
theorem f_112_6 : x_fe 112 6 = some (.iload 0, 7) := by decide +kernel
theorem f_112_7 : x_fe 112 7 = some (.iconst (122), 9) := by decide +kernel
theorem f_112_9 : x_fe 112 9 = some (.if_icmp .gt (Int.ofNat 16), 12) := by decide +kernel
theorem f_112_12 : x_fe 112 12 = some (.iconst (1), 13) := by decide +kernel
theorem f_112_13 : x_fe 112 13 = some (.goto (Int.ofNat 33), 16) := by decide +kernel
theorem f_112_16 : x_fe 112 16 = some (.iload 0, 17) := by decide +kernel
theorem f_112_17 : x_fe 112 17 = some (.iconst (48), 19) := by decide +kernel
theorem f_112_19 : x_fe 112 19 = some (.if_icmp .lt (Int.ofNat 32), 22) := by decide +kernel
theorem f_112_22 : x_fe 112 22 = some (.iload 0, 23) := by decide +kernel
theorem f_112_23 : x_fe 112 23 = some (.iconst (57), 25) := by decide +kernel
theorem f_112_25 : x_fe 112 25 = some (.if_icmp .gt (Int.ofNat 32), 28) := by decide +kernel
theorem f_112_28 : x_fe 112 28 = some (.iconst (2), 29) := by decide +kernel
theorem f_112_29 : x_fe 112 29 = some (.goto (Int.ofNat 33), 32) := by decide +kernel
theorem f_112_32 : x_fe 112 32 = some (.iconst (0), 33) := by decide +kernel
theorem f_112_33 : x_fe 112 33 = some (.ireturn, 34) := by decide +kernel
theorem f_113_0 : x_fe 113 0 = some (.aload 0, 1) := by decide +kernel
theorem f_113_1 : x_fe 113 1 = some (.iconst (5638196), 3) := by decide +kernel
theorem f_113_3 : x_fe 113 3 = some (.iconst (5), 4) := by decide +kernel
theorem f_113_4 : x_fe 113 4 = some (.invokevirtual 114, 7) := by decide +kernel
theorem f_113_7 : x_fe 113 7 = some (.ifCond .ne (Int.ofNat 17), 10) := by decide +kernel
theorem f_113_10 : x_fe 113 10 = some (.aload 0, 11) := by decide +kernel
theorem f_113_11 : x_fe 113 11 = some (.iconst (1), 12) := by decide +kernel
theorem f_113_12 : x_fe 113 12 = some (.putfield 195, 15) := by decide +kernel
theorem f_113_15 : x_fe 113 15 = some (.iconst (0), 16) := by decide +kernel
theorem f_113_16 : x_fe 113 16 = some (.ireturn, 17) := by decide +kernel
theorem f_113_17 : x_fe 113 17 = some (.aload 0, 18) := by decide +kernel
theorem f_113_18 : x_fe 113 18 = some (.invokevirtual 111, 21) := by decide +kernel
theorem f_113_21 : x_fe 113 21 = some (.iconst (0), 22) := by decide +kernel
theorem f_113_22 : x_fe 113 22 = some (.istore 1, 23) := by decide +kernel
theorem f_113_23 : x_fe 113 23 = some (.iload 1, 24) := by decide +kernel
theorem f_113_24 : x_fe 113 24 = some (.iconst (9), 26) := by decide +kernel
theorem f_113_26 : x_fe 113 26 = some (.if_icmp .ge (Int.ofNat 57), 29) := by decide +kernel
theorem f_113_29 : x_fe 113 29 = some (.aload 0, 30) := by decide +kernel
theorem f_113_30 : x_fe 113 30 = some (.iconst (99), 32) := by decide +kernel
theorem f_113_32 : x_fe 113 32 = some (.invokevirtual 115, 35) := by decide +kernel
theorem f_113_35 : x_fe 113 35 = some (.istore 2, 36) := by decide +kernel
theorem f_113_36 : x_fe 113 36 = some (.iload 2, 37) := by decide +kernel
theorem f_113_37 : x_fe 113 37 = some (.iconst (-1000000), 39) := by decide +kernel
theorem f_113_39 : x_fe 113 39 = some (.if_icmp .ne (Int.ofNat 44), 42) := by decide +kernel
theorem f_113_42 : x_fe 113 42 = some (.iconst (0), 43) := by decide +kernel
theorem f_113_43 : x_fe 113 43 = some (.ireturn, 44) := by decide +kernel
theorem f_113_44 : x_fe 113 44 = some (.aload 0, 45) := by decide +kernel
theorem f_113_45 : x_fe 113 45 = some (.getfield 205, 48) := by decide +kernel
theorem f_113_48 : x_fe 113 48 = some (.iload 1, 49) := by decide +kernel
theorem f_113_49 : x_fe 113 49 = some (.iload 2, 50) := by decide +kernel
theorem f_113_50 : x_fe 113 50 = some (.iastore, 51) := by decide +kernel
theorem f_113_51 : x_fe 113 51 = some (.iinc 1 (1), 54) := by decide +kernel
theorem f_113_54 : x_fe 113 54 = some (.goto (Int.ofNat 23), 57) := by decide +kernel
theorem f_113_57 : x_fe 113 57 = some (.aload 0, 58) := by decide +kernel
theorem f_113_58 : x_fe 113 58 = some (.invokevirtual 116, 61) := by decide +kernel
theorem f_113_61 : x_fe 113 61 = some (.ireturn, 62) := by decide +kernel
theorem f_114_0 : x_fe 114 0 = some (.aload 0, 1) := by decide +kernel
theorem f_114_1 : x_fe 114 1 = some (.getfield 204, 4) := by decide +kernel
theorem f_114_4 : x_fe 114 4 = some (.aload 0, 5) := by decide +kernel
theorem f_114_5 : x_fe 114 5 = some (.getfield 203, 8) := by decide +kernel
theorem f_114_8 : x_fe 114 8 = some (.isub, 9) := by decide +kernel
theorem f_114_9 : x_fe 114 9 = some (.iload 2, 10) := by decide +kernel
theorem f_114_10 : x_fe 114 10 = some (.if_icmp .ne (Int.ofNat 17), 13) := by decide +kernel
theorem f_114_13 : x_fe 114 13 = some (.iconst (1), 14) := by decide +kernel
theorem f_114_14 : x_fe 114 14 = some (.goto (Int.ofNat 18), 17) := by decide +kernel
theorem f_114_17 : x_fe 114 17 = some (.iconst (0), 18) := by decide +kernel
theorem f_114_18 : x_fe 114 18 = some (.istore 3, 19) := by decide +kernel
theorem f_114_19 : x_fe 114 19 = some (.iconst (0), 20) := by decide +kernel
theorem f_114_20 : x_fe 114 20 = some (.istore 4, 22) := by decide +kernel
theorem f_114_22 : x_fe 114 22 = some (.iload 3, 23) := by decide +kernel
theorem f_114_23 : x_fe 114 23 = some (.ifCond .eq (Int.ofNat 71), 26) := by decide +kernel
theorem f_114_26 : x_fe 114 26 = some (.iload 4, 28) := by decide +kernel
theorem f_114_28 : x_fe 114 28 = some (.iload 2, 29) := by decide +kernel
theorem f_114_29 : x_fe 114 29 = some (.if_icmp .ge (Int.ofNat 71), 32) := by decide +kernel
theorem f_114_32 : x_fe 114 32 = some (.aload 0, 33) := by decide +kernel
theorem f_114_33 : x_fe 114 33 = some (.getfield 193, 36) := by decide +kernel
theorem f_114_36 : x_fe 114 36 = some (.aload 0, 37) := by decide +kernel
theorem f_114_37 : x_fe 114 37 = some (.getfield 203, 40) := by decide +kernel
theorem f_114_40 : x_fe 114 40 = some (.iload 4, 42) := by decide +kernel
theorem f_114_42 : x_fe 114 42 = some (.iadd, 43) := by decide +kernel
theorem f_114_43 : x_fe 114 43 = some (.iaload, 44) := by decide +kernel
theorem f_114_44 : x_fe 114 44 = some (.iconst (96), 46) := by decide +kernel
theorem f_114_46 : x_fe 114 46 = some (.iload 1, 47) := by decide +kernel
theorem f_114_47 : x_fe 114 47 = some (.iconst (5), 48) := by decide +kernel
theorem f_114_48 : x_fe 114 48 = some (.iload 4, 50) := by decide +kernel
theorem f_114_50 : x_fe 114 50 = some (.imul, 51) := by decide +kernel
theorem f_114_51 : x_fe 114 51 = some (.ishr, 52) := by decide +kernel
theorem f_114_52 : x_fe 114 52 = some (.iconst (31), 54) := by decide +kernel
theorem f_114_54 : x_fe 114 54 = some (.iand, 55) := by decide +kernel
theorem f_114_55 : x_fe 114 55 = some (.iadd, 56) := by decide +kernel
theorem f_114_56 : x_fe 114 56 = some (.if_icmp .ne (Int.ofNat 63), 59) := by decide +kernel
theorem f_114_59 : x_fe 114 59 = some (.iconst (1), 60) := by decide +kernel
theorem f_114_60 : x_fe 114 60 = some (.goto (Int.ofNat 64), 63) := by decide +kernel
theorem f_114_63 : x_fe 114 63 = some (.iconst (0), 64) := by decide +kernel
theorem f_114_64 : x_fe 114 64 = some (.istore 3, 65) := by decide +kernel
theorem f_114_65 : x_fe 114 65 = some (.iinc 4 (1), 68) := by decide +kernel
theorem f_114_68 : x_fe 114 68 = some (.goto (Int.ofNat 22), 71) := by decide +kernel
theorem f_114_71 : x_fe 114 71 = some (.iload 3, 72) := by decide +kernel
theorem f_114_72 : x_fe 114 72 = some (.ireturn, 73) := by decide +kernel
theorem f_115_0 : x_fe 115 0 = some (.aload 0, 1) := by decide +kernel
theorem f_115_1 : x_fe 115 1 = some (.getfield 203, 4) := by decide +kernel
theorem f_115_4 : x_fe 115 4 = some (.aload 0, 5) := by decide +kernel
theorem f_115_5 : x_fe 115 5 = some (.getfield 194, 8) := by decide +kernel
theorem f_115_8 : x_fe 115 8 = some (.if_icmp .eq (Int.ofNat 27), 11) := by decide +kernel
theorem f_115_11 : x_fe 115 11 = some (.aload 0, 12) := by decide +kernel
theorem f_115_12 : x_fe 115 12 = some (.getfield 193, 15) := by decide +kernel
theorem f_115_15 : x_fe 115 15 = some (.aload 0, 16) := by decide +kernel
theorem f_115_16 : x_fe 115 16 = some (.getfield 203, 19) := by decide +kernel
theorem f_115_19 : x_fe 115 19 = some (.iaload, 20) := by decide +kernel
theorem f_115_20 : x_fe 115 20 = some (.invokestatic 112, 23) := by decide +kernel
theorem f_115_23 : x_fe 115 23 = some (.iconst (2), 24) := by decide +kernel
theorem f_115_24 : x_fe 115 24 = some (.if_icmp .eq (Int.ofNat 35), 27) := by decide +kernel
theorem f_115_27 : x_fe 115 27 = some (.aload 0, 28) := by decide +kernel
theorem f_115_28 : x_fe 115 28 = some (.iconst (1), 29) := by decide +kernel
theorem f_115_29 : x_fe 115 29 = some (.putfield 195, 32) := by decide +kernel
theorem f_115_32 : x_fe 115 32 = some (.iconst (-1000000), 34) := by decide +kernel
theorem f_115_34 : x_fe 115 34 = some (.ireturn, 35) := by decide +kernel
theorem f_115_35 : x_fe 115 35 = some (.iconst (0), 36) := by decide +kernel
theorem f_115_36 : x_fe 115 36 = some (.istore 2, 37) := by decide +kernel
theorem f_115_37 : x_fe 115 37 = some (.aload 0, 38) := by decide +kernel
theorem f_115_38 : x_fe 115 38 = some (.getfield 203, 41) := by decide +kernel
theorem f_115_41 : x_fe 115 41 = some (.istore 3, 42) := by decide +kernel
theorem f_115_42 : x_fe 115 42 = some (.iload 3, 43) := by decide +kernel
theorem f_115_43 : x_fe 115 43 = some (.aload 0, 44) := by decide +kernel
theorem f_115_44 : x_fe 115 44 = some (.getfield 204, 47) := by decide +kernel
theorem f_115_47 : x_fe 115 47 = some (.if_icmp .ge (Int.ofNat 81), 50) := by decide +kernel
theorem f_115_50 : x_fe 115 50 = some (.iload 3, 51) := by decide +kernel
theorem f_115_51 : x_fe 115 51 = some (.aload 0, 52) := by decide +kernel
theorem f_115_52 : x_fe 115 52 = some (.getfield 203, 55) := by decide +kernel
theorem f_115_55 : x_fe 115 55 = some (.iconst (4), 56) := by decide +kernel
theorem f_115_56 : x_fe 115 56 = some (.iadd, 57) := by decide +kernel
theorem f_115_57 : x_fe 115 57 = some (.if_icmp .ge (Int.ofNat 81), 60) := by decide +kernel
theorem f_115_60 : x_fe 115 60 = some (.iconst (10), 62) := by decide +kernel
theorem f_115_62 : x_fe 115 62 = some (.iload 2, 63) := by decide +kernel
theorem f_115_63 : x_fe 115 63 = some (.imul, 64) := by decide +kernel
theorem f_115_64 : x_fe 115 64 = some (.aload 0, 65) := by decide +kernel
theorem f_115_65 : x_fe 115 65 = some (.getfield 193, 68) := by decide +kernel
theorem f_115_68 : x_fe 115 68 = some (.iload 3, 69) := by decide +kernel
theorem f_115_69 : x_fe 115 69 = some (.iaload, 70) := by decide +kernel
theorem f_115_70 : x_fe 115 70 = some (.iadd, 71) := by decide +kernel
theorem f_115_71 : x_fe 115 71 = some (.iconst (48), 73) := by decide +kernel
theorem f_115_73 : x_fe 115 73 = some (.isub, 74) := by decide +kernel
theorem f_115_74 : x_fe 115 74 = some (.istore 2, 75) := by decide +kernel
theorem f_115_75 : x_fe 115 75 = some (.iinc 3 (1), 78) := by decide +kernel
theorem f_115_78 : x_fe 115 78 = some (.goto (Int.ofNat 42), 81) := by decide +kernel
theorem f_115_81 : x_fe 115 81 = some (.aload 0, 82) := by decide +kernel
theorem f_115_82 : x_fe 115 82 = some (.getfield 204, 85) := by decide +kernel
theorem f_115_85 : x_fe 115 85 = some (.aload 0, 86) := by decide +kernel
theorem f_115_86 : x_fe 115 86 = some (.getfield 203, 89) := by decide +kernel
theorem f_115_89 : x_fe 115 89 = some (.isub, 90) := by decide +kernel
theorem f_115_90 : x_fe 115 90 = some (.iconst (3), 91) := by decide +kernel
theorem f_115_91 : x_fe 115 91 = some (.if_icmp .gt (Int.ofNat 99), 94) := by decide +kernel
theorem f_115_94 : x_fe 115 94 = some (.iload 2, 95) := by decide +kernel
theorem f_115_95 : x_fe 115 95 = some (.iload 1, 96) := by decide +kernel
theorem f_115_96 : x_fe 115 96 = some (.if_icmp .le (Int.ofNat 124), 99) := by decide +kernel
theorem f_115_99 : x_fe 115 99 = some (.aload 0, 100) := by decide +kernel
theorem f_115_100 : x_fe 115 100 = some (.aload 0, 101) := by decide +kernel
theorem f_115_101 : x_fe 115 101 = some (.getfield 204, 104) := by decide +kernel
theorem f_115_104 : x_fe 115 104 = some (.aload 0, 105) := by decide +kernel
theorem f_115_105 : x_fe 115 105 = some (.getfield 203, 108) := by decide +kernel
theorem f_115_108 : x_fe 115 108 = some (.isub, 109) := by decide +kernel
theorem f_115_109 : x_fe 115 109 = some (.iconst (3), 110) := by decide +kernel
theorem f_115_110 : x_fe 115 110 = some (.if_icmp .le (Int.ofNat 117), 113) := by decide +kernel
theorem f_115_113 : x_fe 115 113 = some (.iconst (1), 114) := by decide +kernel
theorem f_115_114 : x_fe 115 114 = some (.goto (Int.ofNat 118), 117) := by decide +kernel
theorem f_115_117 : x_fe 115 117 = some (.iconst (2), 118) := by decide +kernel
theorem f_115_118 : x_fe 115 118 = some (.putfield 195, 121) := by decide +kernel
theorem f_115_121 : x_fe 115 121 = some (.iconst (-1000000), 123) := by decide +kernel
theorem f_115_123 : x_fe 115 123 = some (.ireturn, 124) := by decide +kernel
theorem f_115_124 : x_fe 115 124 = some (.aload 0, 125) := by decide +kernel
theorem f_115_125 : x_fe 115 125 = some (.invokevirtual 111, 128) := by decide +kernel
theorem f_115_128 : x_fe 115 128 = some (.iload 2, 129) := by decide +kernel
theorem f_115_129 : x_fe 115 129 = some (.ireturn, 130) := by decide +kernel
theorem f_116_0 : x_fe 116 0 = some (.aload 0, 1) := by decide +kernel
theorem f_116_1 : x_fe 116 1 = some (.invokevirtual 117, 4) := by decide +kernel
theorem f_116_4 : x_fe 116 4 = some (.ifCond .ne (Int.ofNat 14), 7) := by decide +kernel
theorem f_116_7 : x_fe 116 7 = some (.aload 0, 8) := by decide +kernel
theorem f_116_8 : x_fe 116 8 = some (.iconst (1), 9) := by decide +kernel
theorem f_116_9 : x_fe 116 9 = some (.putfield 195, 12) := by decide +kernel
theorem f_116_12 : x_fe 116 12 = some (.iconst (0), 13) := by decide +kernel
theorem f_116_13 : x_fe 116 13 = some (.ireturn, 14) := by decide +kernel
theorem f_116_14 : x_fe 116 14 = some (.aload 0, 15) := by decide +kernel
theorem f_116_15 : x_fe 116 15 = some (.invokevirtual 111, 18) := by decide +kernel
theorem f_116_18 : x_fe 116 18 = some (.iconst (1), 19) := by decide +kernel
theorem f_116_19 : x_fe 116 19 = some (.ireturn, 20) := by decide +kernel
theorem f_117_0 : x_fe 117 0 = some (.aload 0, 1) := by decide +kernel
theorem f_117_1 : x_fe 117 1 = some (.getfield 203, 4) := by decide +kernel
theorem f_117_4 : x_fe 117 4 = some (.aload 0, 5) := by decide +kernel
theorem f_117_5 : x_fe 117 5 = some (.getfield 194, 8) := by decide +kernel
theorem f_117_8 : x_fe 117 8 = some (.if_icmp .ge (Int.ofNat 29), 11) := by decide +kernel
theorem f_117_11 : x_fe 117 11 = some (.aload 0, 12) := by decide +kernel
theorem f_117_12 : x_fe 117 12 = some (.getfield 193, 15) := by decide +kernel
theorem f_117_15 : x_fe 117 15 = some (.aload 0, 16) := by decide +kernel
theorem f_117_16 : x_fe 117 16 = some (.getfield 203, 19) := by decide +kernel
theorem f_117_19 : x_fe 117 19 = some (.iaload, 20) := by decide +kernel
theorem f_117_20 : x_fe 117 20 = some (.iconst (59), 22) := by decide +kernel
theorem f_117_22 : x_fe 117 22 = some (.if_icmp .ne (Int.ofNat 29), 25) := by decide +kernel
theorem f_117_25 : x_fe 117 25 = some (.iconst (1), 26) := by decide +kernel
theorem f_117_26 : x_fe 117 26 = some (.goto (Int.ofNat 30), 29) := by decide +kernel
theorem f_117_29 : x_fe 117 29 = some (.iconst (0), 30) := by decide +kernel
theorem f_117_30 : x_fe 117 30 = some (.ireturn, 31) := by decide +kernel
theorem f_118_0 : x_fe 118 0 = some (.aload 0, 1) := by decide +kernel
theorem f_118_1 : x_fe 118 1 = some (.iconst (149539), 3) := by decide +kernel
theorem f_118_3 : x_fe 118 3 = some (.iconst (4), 4) := by decide +kernel
theorem f_118_4 : x_fe 118 4 = some (.invokevirtual 114, 7) := by decide +kernel
theorem f_118_7 : x_fe 118 7 = some (.ifCond .ne (Int.ofNat 17), 10) := by decide +kernel
theorem f_118_10 : x_fe 118 10 = some (.aload 0, 11) := by decide +kernel
theorem f_118_11 : x_fe 118 11 = some (.iconst (1), 12) := by decide +kernel
theorem f_118_12 : x_fe 118 12 = some (.putfield 195, 15) := by decide +kernel
theorem f_118_15 : x_fe 118 15 = some (.iconst (0), 16) := by decide +kernel
theorem f_118_16 : x_fe 118 16 = some (.ireturn, 17) := by decide +kernel
theorem f_118_17 : x_fe 118 17 = some (.aload 0, 18) := by decide +kernel
theorem f_118_18 : x_fe 118 18 = some (.getfield 208, 21) := by decide +kernel
theorem f_118_21 : x_fe 118 21 = some (.iconst (14), 23) := by decide +kernel
theorem f_118_23 : x_fe 118 23 = some (.if_icmp .ne (Int.ofNat 33), 26) := by decide +kernel
theorem f_118_26 : x_fe 118 26 = some (.aload 0, 27) := by decide +kernel
theorem f_118_27 : x_fe 118 27 = some (.iconst (3), 28) := by decide +kernel
theorem f_118_28 : x_fe 118 28 = some (.putfield 195, 31) := by decide +kernel
theorem f_118_31 : x_fe 118 31 = some (.iconst (0), 32) := by decide +kernel
theorem f_118_32 : x_fe 118 32 = some (.ireturn, 33) := by decide +kernel
theorem f_118_33 : x_fe 118 33 = some (.aload 0, 34) := by decide +kernel
theorem f_118_34 : x_fe 118 34 = some (.invokevirtual 111, 37) := by decide +kernel
theorem f_118_37 : x_fe 118 37 = some (.aload 0, 38) := by decide +kernel
theorem f_118_38 : x_fe 118 38 = some (.invokevirtual 119, 41) := by decide +kernel
theorem f_118_41 : x_fe 118 41 = some (.ifCond .ne (Int.ofNat 46), 44) := by decide +kernel
theorem f_118_44 : x_fe 118 44 = some (.iconst (0), 45) := by decide +kernel
theorem f_118_45 : x_fe 118 45 = some (.ireturn, 46) := by decide +kernel
theorem f_118_46 : x_fe 118 46 = some (.aload 0, 47) := by decide +kernel
theorem f_118_47 : x_fe 118 47 = some (.iconst (1), 48) := by decide +kernel
theorem f_118_48 : x_fe 118 48 = some (.invokevirtual 115, 51) := by decide +kernel
theorem f_118_51 : x_fe 118 51 = some (.istore 1, 52) := by decide +kernel
theorem f_118_52 : x_fe 118 52 = some (.iload 1, 53) := by decide +kernel
theorem f_118_53 : x_fe 118 53 = some (.iconst (-1000000), 55) := by decide +kernel
theorem f_118_55 : x_fe 118 55 = some (.if_icmp .ne (Int.ofNat 60), 58) := by decide +kernel
theorem f_118_58 : x_fe 118 58 = some (.iconst (0), 59) := by decide +kernel
theorem f_118_59 : x_fe 118 59 = some (.ireturn, 60) := by decide +kernel
theorem f_118_60 : x_fe 118 60 = some (.aload 0, 61) := by decide +kernel
theorem f_118_61 : x_fe 118 61 = some (.getfield 207, 64) := by decide +kernel
theorem f_118_64 : x_fe 118 64 = some (.aload 0, 65) := by decide +kernel
theorem f_118_65 : x_fe 118 65 = some (.getfield 208, 68) := by decide +kernel
theorem f_118_68 : x_fe 118 68 = some (.iload 1, 69) := by decide +kernel
theorem f_118_69 : x_fe 118 69 = some (.iastore, 70) := by decide +kernel
theorem f_118_70 : x_fe 118 70 = some (.aload 0, 71) := by decide +kernel
theorem f_118_71 : x_fe 118 71 = some (.dup, 72) := by decide +kernel
theorem f_118_72 : x_fe 118 72 = some (.getfield 208, 75) := by decide +kernel
theorem f_118_75 : x_fe 118 75 = some (.iconst (1), 76) := by decide +kernel
theorem f_118_76 : x_fe 118 76 = some (.iadd, 77) := by decide +kernel
theorem f_118_77 : x_fe 118 77 = some (.putfield 208, 80) := by decide +kernel
theorem f_118_80 : x_fe 118 80 = some (.aload 0, 81) := by decide +kernel
theorem f_118_81 : x_fe 118 81 = some (.invokevirtual 116, 84) := by decide +kernel
theorem f_118_84 : x_fe 118 84 = some (.ireturn, 85) := by decide +kernel
theorem f_119_0 : x_fe 119 0 = some (.iconst (0), 1) := by decide +kernel
theorem f_119_1 : x_fe 119 1 = some (.istore 1, 2) := by decide +kernel
theorem f_119_2 : x_fe 119 2 = some (.aload 0, 3) := by decide +kernel
theorem f_119_3 : x_fe 119 3 = some (.getfield 203, 6) := by decide +kernel
theorem f_119_6 : x_fe 119 6 = some (.aload 0, 7) := by decide +kernel
theorem f_119_7 : x_fe 119 7 = some (.getfield 194, 10) := by decide +kernel
theorem f_119_10 : x_fe 119 10 = some (.if_icmp .ge (Int.ofNat 31), 13) := by decide +kernel
theorem f_119_13 : x_fe 119 13 = some (.aload 0, 14) := by decide +kernel
theorem f_119_14 : x_fe 119 14 = some (.getfield 204, 17) := by decide +kernel
theorem f_119_17 : x_fe 119 17 = some (.aload 0, 18) := by decide +kernel
theorem f_119_18 : x_fe 119 18 = some (.getfield 203, 21) := by decide +kernel
theorem f_119_21 : x_fe 119 21 = some (.isub, 22) := by decide +kernel
theorem f_119_22 : x_fe 119 22 = some (.iconst (9), 24) := by decide +kernel
theorem f_119_24 : x_fe 119 24 = some (.if_icmp .ne (Int.ofNat 31), 27) := by decide +kernel
theorem f_119_27 : x_fe 119 27 = some (.iconst (1), 28) := by decide +kernel
theorem f_119_28 : x_fe 119 28 = some (.goto (Int.ofNat 32), 31) := by decide +kernel
theorem f_119_31 : x_fe 119 31 = some (.iconst (0), 32) := by decide +kernel
theorem f_119_32 : x_fe 119 32 = some (.istore 2, 33) := by decide +kernel
theorem f_119_33 : x_fe 119 33 = some (.iconst (0), 34) := by decide +kernel
theorem f_119_34 : x_fe 119 34 = some (.istore 3, 35) := by decide +kernel
theorem f_119_35 : x_fe 119 35 = some (.iload 3, 36) := by decide +kernel
theorem f_119_36 : x_fe 119 36 = some (.iconst (9), 38) := by decide +kernel
theorem f_119_38 : x_fe 119 38 = some (.if_icmp .ge (Int.ofNat 115), 41) := by decide +kernel
theorem f_119_41 : x_fe 119 41 = some (.iload 2, 42) := by decide +kernel
theorem f_119_42 : x_fe 119 42 = some (.ifCond .eq (Int.ofNat 115), 45) := by decide +kernel
theorem f_119_45 : x_fe 119 45 = some (.aload 0, 46) := by decide +kernel
theorem f_119_46 : x_fe 119 46 = some (.getfield 193, 49) := by decide +kernel
theorem f_119_49 : x_fe 119 49 = some (.aload 0, 50) := by decide +kernel
theorem f_119_50 : x_fe 119 50 = some (.getfield 203, 53) := by decide +kernel
theorem f_119_53 : x_fe 119 53 = some (.iload 3, 54) := by decide +kernel
theorem f_119_54 : x_fe 119 54 = some (.iadd, 55) := by decide +kernel
theorem f_119_55 : x_fe 119 55 = some (.iaload, 56) := by decide +kernel
theorem f_119_56 : x_fe 119 56 = some (.iconst (111), 58) := by decide +kernel
theorem f_119_58 : x_fe 119 58 = some (.if_icmp .eq (Int.ofNat 77), 61) := by decide +kernel
theorem f_119_61 : x_fe 119 61 = some (.aload 0, 62) := by decide +kernel
theorem f_119_62 : x_fe 119 62 = some (.getfield 193, 65) := by decide +kernel
theorem f_119_65 : x_fe 119 65 = some (.aload 0, 66) := by decide +kernel
theorem f_119_66 : x_fe 119 66 = some (.getfield 203, 69) := by decide +kernel
theorem f_119_69 : x_fe 119 69 = some (.iload 3, 70) := by decide +kernel
theorem f_119_70 : x_fe 119 70 = some (.iadd, 71) := by decide +kernel
theorem f_119_71 : x_fe 119 71 = some (.iaload, 72) := by decide +kernel
theorem f_119_72 : x_fe 119 72 = some (.iconst (120), 74) := by decide +kernel
theorem f_119_74 : x_fe 119 74 = some (.if_icmp .ne (Int.ofNat 81), 77) := by decide +kernel
theorem f_119_77 : x_fe 119 77 = some (.iconst (1), 78) := by decide +kernel
theorem f_119_78 : x_fe 119 78 = some (.goto (Int.ofNat 82), 81) := by decide +kernel
theorem f_119_81 : x_fe 119 81 = some (.iconst (0), 82) := by decide +kernel
theorem f_119_82 : x_fe 119 82 = some (.istore 2, 83) := by decide +kernel
theorem f_119_83 : x_fe 119 83 = some (.iload 1, 84) := by decide +kernel
theorem f_119_84 : x_fe 119 84 = some (.aload 0, 85) := by decide +kernel
theorem f_119_85 : x_fe 119 85 = some (.getfield 193, 88) := by decide +kernel
theorem f_119_88 : x_fe 119 88 = some (.aload 0, 89) := by decide +kernel
theorem f_119_89 : x_fe 119 89 = some (.getfield 203, 92) := by decide +kernel
theorem f_119_92 : x_fe 119 92 = some (.iload 3, 93) := by decide +kernel
theorem f_119_93 : x_fe 119 93 = some (.iadd, 94) := by decide +kernel
theorem f_119_94 : x_fe 119 94 = some (.iaload, 95) := by decide +kernel
theorem f_119_95 : x_fe 119 95 = some (.iconst (111), 97) := by decide +kernel
theorem f_119_97 : x_fe 119 97 = some (.if_icmp .ne (Int.ofNat 106), 100) := by decide +kernel
theorem f_119_100 : x_fe 119 100 = some (.iconst (1), 101) := by decide +kernel
theorem f_119_101 : x_fe 119 101 = some (.iload 3, 102) := by decide +kernel
theorem f_119_102 : x_fe 119 102 = some (.ishl, 103) := by decide +kernel
theorem f_119_103 : x_fe 119 103 = some (.goto (Int.ofNat 107), 106) := by decide +kernel
theorem f_119_106 : x_fe 119 106 = some (.iconst (0), 107) := by decide +kernel
theorem f_119_107 : x_fe 119 107 = some (.ior, 108) := by decide +kernel
theorem f_119_108 : x_fe 119 108 = some (.istore 1, 109) := by decide +kernel
theorem f_119_109 : x_fe 119 109 = some (.iinc 3 (1), 112) := by decide +kernel
theorem f_119_112 : x_fe 119 112 = some (.goto (Int.ofNat 35), 115) := by decide +kernel
theorem f_119_115 : x_fe 119 115 = some (.iload 2, 116) := by decide +kernel
theorem f_119_116 : x_fe 119 116 = some (.ifCond .ne (Int.ofNat 126), 119) := by decide +kernel
theorem f_119_119 : x_fe 119 119 = some (.aload 0, 120) := by decide +kernel
theorem f_119_120 : x_fe 119 120 = some (.iconst (1), 121) := by decide +kernel
theorem f_119_121 : x_fe 119 121 = some (.putfield 195, 124) := by decide +kernel
theorem f_119_124 : x_fe 119 124 = some (.iconst (0), 125) := by decide +kernel
theorem f_119_125 : x_fe 119 125 = some (.ireturn, 126) := by decide +kernel
theorem f_119_126 : x_fe 119 126 = some (.aload 0, 127) := by decide +kernel
theorem f_119_127 : x_fe 119 127 = some (.getfield 206, 130) := by decide +kernel
theorem f_119_130 : x_fe 119 130 = some (.aload 0, 131) := by decide +kernel
theorem f_119_131 : x_fe 119 131 = some (.getfield 208, 134) := by decide +kernel
theorem f_119_134 : x_fe 119 134 = some (.iload 1, 135) := by decide +kernel
theorem f_119_135 : x_fe 119 135 = some (.iastore, 136) := by decide +kernel
theorem f_119_136 : x_fe 119 136 = some (.aload 0, 137) := by decide +kernel
theorem f_119_137 : x_fe 119 137 = some (.invokevirtual 111, 140) := by decide +kernel
theorem f_119_140 : x_fe 119 140 = some (.iconst (1), 141) := by decide +kernel
theorem f_119_141 : x_fe 119 141 = some (.ireturn, 142) := by decide +kernel
theorem f_120_0 : x_fe 120 0 = some (.iconst (0), 1) := by decide +kernel
theorem f_120_1 : x_fe 120 1 = some (.istore 1, 2) := by decide +kernel
theorem f_120_2 : x_fe 120 2 = some (.iload 1, 3) := by decide +kernel
theorem f_120_3 : x_fe 120 3 = some (.iconst (8), 5) := by decide +kernel
theorem f_120_5 : x_fe 120 5 = some (.aload 0, 6) := by decide +kernel
theorem f_120_6 : x_fe 120 6 = some (.getfield 192, 9) := by decide +kernel
theorem f_120_9 : x_fe 120 9 = some (.iconst (1), 10) := by decide +kernel
theorem f_120_10 : x_fe 120 10 = some (.iaload, 11) := by decide +kernel
theorem f_120_11 : x_fe 120 11 = some (.imul, 12) := by decide +kernel
theorem f_120_12 : x_fe 120 12 = some (.if_icmp .ge (Int.ofNat 45), 15) := by decide +kernel
theorem f_120_15 : x_fe 120 15 = some (.aload 0, 16) := by decide +kernel
theorem f_120_16 : x_fe 120 16 = some (.getfield 209, 19) := by decide +kernel
theorem f_120_19 : x_fe 120 19 = some (.iload 1, 20) := by decide +kernel
theorem f_120_20 : x_fe 120 20 = some (.aload 0, 21) := by decide +kernel
theorem f_120_21 : x_fe 120 21 = some (.getfield 192, 24) := by decide +kernel
theorem f_120_24 : x_fe 120 24 = some (.iconst (2), 25) := by decide +kernel
theorem f_120_25 : x_fe 120 25 = some (.iload 1, 26) := by decide +kernel
theorem f_120_26 : x_fe 120 26 = some (.iconst (8), 28) := by decide +kernel
theorem f_120_28 : x_fe 120 28 = some (.idiv, 29) := by decide +kernel
theorem f_120_29 : x_fe 120 29 = some (.iadd, 30) := by decide +kernel
theorem f_120_30 : x_fe 120 30 = some (.iaload, 31) := by decide +kernel
theorem f_120_31 : x_fe 120 31 = some (.iload 1, 32) := by decide +kernel
theorem f_120_32 : x_fe 120 32 = some (.iconst (8), 34) := by decide +kernel
theorem f_120_34 : x_fe 120 34 = some (.irem, 35) := by decide +kernel
theorem f_120_35 : x_fe 120 35 = some (.invokestatic 121, 38) := by decide +kernel
theorem f_120_38 : x_fe 120 38 = some (.iastore, 39) := by decide +kernel
theorem f_120_39 : x_fe 120 39 = some (.iinc 1 (1), 42) := by decide +kernel
theorem f_120_42 : x_fe 120 42 = some (.goto (Int.ofNat 2), 45) := by decide +kernel
theorem f_120_45 : x_fe 120 45 = some (.return_, 46) := by decide +kernel
theorem f_121_0 : x_fe 121 0 = some (.iconst (0), 1) := by decide +kernel
theorem f_121_1 : x_fe 121 1 = some (.istore 2, 2) := by decide +kernel
theorem f_121_2 : x_fe 121 2 = some (.iconst (0), 3) := by decide +kernel
theorem f_121_3 : x_fe 121 3 = some (.istore 3, 4) := by decide +kernel
theorem f_121_4 : x_fe 121 4 = some (.iload 3, 5) := by decide +kernel
theorem f_121_5 : x_fe 121 5 = some (.iconst (9), 7) := by decide +kernel
theorem f_121_7 : x_fe 121 7 = some (.if_icmp .ge (Int.ofNat 94), 10) := by decide +kernel
theorem f_121_10 : x_fe 121 10 = some (.iload 1, 11) := by decide +kernel
theorem f_121_11 : x_fe 121 11 = some (.iconst (4), 12) := by decide +kernel
theorem f_121_12 : x_fe 121 12 = some (.if_icmp .ge (Int.ofNat 21), 15) := by decide +kernel
theorem f_121_15 : x_fe 121 15 = some (.iload 3, 16) := by decide +kernel
theorem f_121_16 : x_fe 121 16 = some (.iconst (3), 17) := by decide +kernel
theorem f_121_17 : x_fe 121 17 = some (.irem, 18) := by decide +kernel
theorem f_121_18 : x_fe 121 18 = some (.goto (Int.ofNat 26), 21) := by decide +kernel
theorem f_121_21 : x_fe 121 21 = some (.iconst (2), 22) := by decide +kernel
theorem f_121_22 : x_fe 121 22 = some (.iload 3, 23) := by decide +kernel
theorem f_121_23 : x_fe 121 23 = some (.iconst (3), 24) := by decide +kernel
theorem f_121_24 : x_fe 121 24 = some (.irem, 25) := by decide +kernel
theorem f_121_25 : x_fe 121 25 = some (.isub, 26) := by decide +kernel
theorem f_121_26 : x_fe 121 26 = some (.istore 4, 28) := by decide +kernel
theorem f_121_28 : x_fe 121 28 = some (.iload 3, 29) := by decide +kernel
theorem f_121_29 : x_fe 121 29 = some (.iconst (3), 30) := by decide +kernel
theorem f_121_30 : x_fe 121 30 = some (.idiv, 31) := by decide +kernel
theorem f_121_31 : x_fe 121 31 = some (.istore 5, 33) := by decide +kernel
theorem f_121_33 : x_fe 121 33 = some (.iconst (0), 34) := by decide +kernel
theorem f_121_34 : x_fe 121 34 = some (.istore 6, 36) := by decide +kernel
theorem f_121_36 : x_fe 121 36 = some (.iload 6, 38) := by decide +kernel
theorem f_121_38 : x_fe 121 38 = some (.iload 1, 39) := by decide +kernel
theorem f_121_39 : x_fe 121 39 = some (.iconst (4), 40) := by decide +kernel
theorem f_121_40 : x_fe 121 40 = some (.irem, 41) := by decide +kernel
theorem f_121_41 : x_fe 121 41 = some (.if_icmp .ge (Int.ofNat 64), 44) := by decide +kernel
theorem f_121_44 : x_fe 121 44 = some (.iload 4, 46) := by decide +kernel
theorem f_121_46 : x_fe 121 46 = some (.istore 7, 48) := by decide +kernel
theorem f_121_48 : x_fe 121 48 = some (.iconst (2), 49) := by decide +kernel
theorem f_121_49 : x_fe 121 49 = some (.iload 5, 51) := by decide +kernel
theorem f_121_51 : x_fe 121 51 = some (.isub, 52) := by decide +kernel
theorem f_121_52 : x_fe 121 52 = some (.istore 4, 54) := by decide +kernel
theorem f_121_54 : x_fe 121 54 = some (.iload 7, 56) := by decide +kernel
theorem f_121_56 : x_fe 121 56 = some (.istore 5, 58) := by decide +kernel
theorem f_121_58 : x_fe 121 58 = some (.iinc 6 (1), 61) := by decide +kernel
theorem f_121_61 : x_fe 121 61 = some (.goto (Int.ofNat 36), 64) := by decide +kernel
theorem f_121_64 : x_fe 121 64 = some (.iload 2, 65) := by decide +kernel
theorem f_121_65 : x_fe 121 65 = some (.iload 0, 66) := by decide +kernel
theorem f_121_66 : x_fe 121 66 = some (.iload 3, 67) := by decide +kernel
theorem f_121_67 : x_fe 121 67 = some (.invokestatic 122, 70) := by decide +kernel
theorem f_121_70 : x_fe 121 70 = some (.ifCond .eq (Int.ofNat 85), 73) := by decide +kernel
theorem f_121_73 : x_fe 121 73 = some (.iconst (1), 74) := by decide +kernel
theorem f_121_74 : x_fe 121 74 = some (.iload 4, 76) := by decide +kernel
theorem f_121_76 : x_fe 121 76 = some (.iconst (3), 77) := by decide +kernel
theorem f_121_77 : x_fe 121 77 = some (.iload 5, 79) := by decide +kernel
theorem f_121_79 : x_fe 121 79 = some (.imul, 80) := by decide +kernel
theorem f_121_80 : x_fe 121 80 = some (.iadd, 81) := by decide +kernel
theorem f_121_81 : x_fe 121 81 = some (.ishl, 82) := by decide +kernel
theorem f_121_82 : x_fe 121 82 = some (.goto (Int.ofNat 86), 85) := by decide +kernel
theorem f_121_85 : x_fe 121 85 = some (.iconst (0), 86) := by decide +kernel
theorem f_121_86 : x_fe 121 86 = some (.ior, 87) := by decide +kernel
theorem f_121_87 : x_fe 121 87 = some (.istore 2, 88) := by decide +kernel
theorem f_121_88 : x_fe 121 88 = some (.iinc 3 (1), 91) := by decide +kernel
theorem f_121_91 : x_fe 121 91 = some (.goto (Int.ofNat 4), 94) := by decide +kernel
theorem f_121_94 : x_fe 121 94 = some (.iload 2, 95) := by decide +kernel
theorem f_121_95 : x_fe 121 95 = some (.ireturn, 96) := by decide +kernel
theorem f_122_0 : x_fe 122 0 = some (.iload 0, 1) := by decide +kernel
theorem f_122_1 : x_fe 122 1 = some (.iload 1, 2) := by decide +kernel
theorem f_122_2 : x_fe 122 2 = some (.ishr, 3) := by decide +kernel
theorem f_122_3 : x_fe 122 3 = some (.iconst (1), 4) := by decide +kernel
theorem f_122_4 : x_fe 122 4 = some (.iand, 5) := by decide +kernel
theorem f_122_5 : x_fe 122 5 = some (.iconst (1), 6) := by decide +kernel
theorem f_122_6 : x_fe 122 6 = some (.if_icmp .ne (Int.ofNat 13), 9) := by decide +kernel
theorem f_122_9 : x_fe 122 9 = some (.iconst (1), 10) := by decide +kernel
theorem f_122_10 : x_fe 122 10 = some (.goto (Int.ofNat 14), 13) := by decide +kernel
theorem f_122_13 : x_fe 122 13 = some (.iconst (0), 14) := by decide +kernel
theorem f_122_14 : x_fe 122 14 = some (.ireturn, 15) := by decide +kernel
theorem f_123_0 : x_fe 123 0 = some (.aload 0, 1) := by decide +kernel
theorem f_123_1 : x_fe 123 1 = some (.getfield 195, 4) := by decide +kernel
theorem f_123_4 : x_fe 123 4 = some (.ireturn, 5) := by decide +kernel
theorem f_124_0 : x_fe 124 0 = some (.aload 0, 1) := by decide +kernel
theorem f_124_1 : x_fe 124 1 = some (.iload 1, 2) := by decide +kernel
theorem f_124_2 : x_fe 124 2 = some (.invokevirtual 125, 5) := by decide +kernel
theorem f_124_5 : x_fe 124 5 = some (.ifCond .eq (Int.ofNat 29), 8) := by decide +kernel
theorem f_124_8 : x_fe 124 8 = some (.iload 2, 9) := by decide +kernel
theorem f_124_9 : x_fe 124 9 = some (.invokestatic 126, 12) := by decide +kernel
theorem f_124_12 : x_fe 124 12 = some (.ifCond .eq (Int.ofNat 29), 15) := by decide +kernel
theorem f_124_15 : x_fe 124 15 = some (.aload 0, 16) := by decide +kernel
theorem f_124_16 : x_fe 124 16 = some (.getfield 209, 19) := by decide +kernel
theorem f_124_19 : x_fe 124 19 = some (.iconst (8), 21) := by decide +kernel
theorem f_124_21 : x_fe 124 21 = some (.iload 1, 22) := by decide +kernel
theorem f_124_22 : x_fe 124 22 = some (.imul, 23) := by decide +kernel
theorem f_124_23 : x_fe 124 23 = some (.iload 2, 24) := by decide +kernel
theorem f_124_24 : x_fe 124 24 = some (.iadd, 25) := by decide +kernel
theorem f_124_25 : x_fe 124 25 = some (.iaload, 26) := by decide +kernel
theorem f_124_26 : x_fe 124 26 = some (.goto (Int.ofNat 31), 29) := by decide +kernel
theorem f_124_29 : x_fe 124 29 = some (.iconst (-1000001), 31) := by decide +kernel
theorem f_124_31 : x_fe 124 31 = some (.ireturn, 32) := by decide +kernel
theorem f_125_0 : x_fe 125 0 = some (.iload 1, 1) := by decide +kernel
theorem f_125_1 : x_fe 125 1 = some (.i2l, 2) := by decide +kernel
theorem f_125_2 : x_fe 125 2 = some (.ldc2_w 0, 3) := by decide +kernel
theorem f_125_3 : x_fe 125 3 = some (.aload 0, 4) := by decide +kernel
theorem f_125_4 : x_fe 125 4 = some (.getfield 192, 7) := by decide +kernel
theorem f_125_7 : x_fe 125 7 = some (.iconst (1), 8) := by decide +kernel
theorem f_125_8 : x_fe 125 8 = some (.iaload, 9) := by decide +kernel
theorem f_125_9 : x_fe 125 9 = some (.iconst (1), 10) := by decide +kernel
theorem f_125_10 : x_fe 125 10 = some (.isub, 11) := by decide +kernel
theorem f_125_11 : x_fe 125 11 = some (.i2l, 12) := by decide +kernel
theorem f_125_12 : x_fe 125 12 = some (.invokestatic 101, 15) := by decide +kernel
theorem f_125_15 : x_fe 125 15 = some (.ireturn, 16) := by decide +kernel
theorem f_126_0 : x_fe 126 0 = some (.iload 0, 1) := by decide +kernel
theorem f_126_1 : x_fe 126 1 = some (.i2l, 2) := by decide +kernel
theorem f_126_2 : x_fe 126 2 = some (.ldc2_w 0, 3) := by decide +kernel
theorem f_126_3 : x_fe 126 3 = some (.ldc2_w 7, 6) := by decide +kernel
theorem f_126_6 : x_fe 126 6 = some (.invokestatic 101, 9) := by decide +kernel
theorem f_126_9 : x_fe 126 9 = some (.ireturn, 10) := by decide +kernel
theorem f_127_0 : x_fe 127 0 = some (.aload 0, 1) := by decide +kernel
theorem f_127_1 : x_fe 127 1 = some (.getfield 192, 4) := by decide +kernel
theorem f_127_4 : x_fe 127 4 = some (.iconst (0), 5) := by decide +kernel
theorem f_127_5 : x_fe 127 5 = some (.iaload, 6) := by decide +kernel
theorem f_127_6 : x_fe 127 6 = some (.ifCond .ne (Int.ofNat 14), 9) := by decide +kernel
theorem f_127_9 : x_fe 127 9 = some (.iconst (-1000002), 11) := by decide +kernel
theorem f_127_11 : x_fe 127 11 = some (.goto (Int.ofNat 31), 14) := by decide +kernel
theorem f_127_14 : x_fe 127 14 = some (.iload 1, 15) := by decide +kernel
theorem f_127_15 : x_fe 127 15 = some (.invokestatic 128, 18) := by decide +kernel
theorem f_127_18 : x_fe 127 18 = some (.ifCond .eq (Int.ofNat 29), 21) := by decide +kernel
theorem f_127_21 : x_fe 127 21 = some (.aload 0, 22) := by decide +kernel
theorem f_127_22 : x_fe 127 22 = some (.iload 1, 23) := by decide +kernel
theorem f_127_23 : x_fe 127 23 = some (.invokevirtual 129, 26) := by decide +kernel
theorem f_127_26 : x_fe 127 26 = some (.goto (Int.ofNat 31), 29) := by decide +kernel
theorem f_127_29 : x_fe 127 29 = some (.iconst (-1000001), 31) := by decide +kernel
theorem f_127_31 : x_fe 127 31 = some (.ireturn, 32) := by decide +kernel
theorem f_128_0 : x_fe 128 0 = some (.iload 0, 1) := by decide +kernel
theorem f_128_1 : x_fe 128 1 = some (.i2l, 2) := by decide +kernel
theorem f_128_2 : x_fe 128 2 = some (.ldc2_w 0, 3) := by decide +kernel
theorem f_128_3 : x_fe 128 3 = some (.ldc2_w 511, 6) := by decide +kernel
theorem f_128_6 : x_fe 128 6 = some (.invokestatic 101, 9) := by decide +kernel
theorem f_128_9 : x_fe 128 9 = some (.ireturn, 10) := by decide +kernel
theorem f_129_0 : x_fe 129 0 = some (.iconst (0), 1) := by decide +kernel
theorem f_129_1 : x_fe 129 1 = some (.istore 2, 2) := by decide +kernel
theorem f_129_2 : x_fe 129 2 = some (.iconst (0), 3) := by decide +kernel
theorem f_129_3 : x_fe 129 3 = some (.istore 3, 4) := by decide +kernel
theorem f_129_4 : x_fe 129 4 = some (.iload 3, 5) := by decide +kernel
theorem f_129_5 : x_fe 129 5 = some (.iconst (9), 7) := by decide +kernel
theorem f_129_7 : x_fe 129 7 = some (.if_icmp .ge (Int.ofNat 40), 10) := by decide +kernel
theorem f_129_10 : x_fe 129 10 = some (.iload 2, 11) := by decide +kernel
theorem f_129_11 : x_fe 129 11 = some (.iload 1, 12) := by decide +kernel
theorem f_129_12 : x_fe 129 12 = some (.iload 3, 13) := by decide +kernel
theorem f_129_13 : x_fe 129 13 = some (.invokestatic 122, 16) := by decide +kernel
theorem f_129_16 : x_fe 129 16 = some (.ifCond .eq (Int.ofNat 31), 19) := by decide +kernel
theorem f_129_19 : x_fe 129 19 = some (.aload 0, 20) := by decide +kernel
theorem f_129_20 : x_fe 129 20 = some (.getfield 192, 23) := by decide +kernel
theorem f_129_23 : x_fe 129 23 = some (.iconst (16), 25) := by decide +kernel
theorem f_129_25 : x_fe 129 25 = some (.iload 3, 26) := by decide +kernel
theorem f_129_26 : x_fe 129 26 = some (.iadd, 27) := by decide +kernel
theorem f_129_27 : x_fe 129 27 = some (.iaload, 28) := by decide +kernel
theorem f_129_28 : x_fe 129 28 = some (.goto (Int.ofNat 32), 31) := by decide +kernel
theorem f_129_31 : x_fe 129 31 = some (.iconst (0), 32) := by decide +kernel
theorem f_129_32 : x_fe 129 32 = some (.iadd, 33) := by decide +kernel
theorem f_129_33 : x_fe 129 33 = some (.istore 2, 34) := by decide +kernel
