theorem f_129_34 : x_fe 129 34 = some (.iinc 3 (1), 37) := by decide +kernel
theorem f_129_37 : x_fe 129 37 = some (.goto (Int.ofNat 4), 40) := by decide +kernel
theorem f_129_40 : x_fe 129 40 = some (.iload 2, 41) := by decide +kernel
theorem f_129_41 : x_fe 129 41 = some (.ireturn, 42) := by decide +kernel
theorem f_130_0 : x_fe 130 0 = some (.aload 0, 1) := by decide +kernel
theorem f_130_1 : x_fe 130 1 = some (.iload 1, 2) := by decide +kernel
theorem f_130_2 : x_fe 130 2 = some (.invokevirtual 125, 5) := by decide +kernel
theorem f_130_5 : x_fe 130 5 = some (.ifCond .eq (Int.ofNat 15), 8) := by decide +kernel
theorem f_130_8 : x_fe 130 8 = some (.iload 2, 9) := by decide +kernel
theorem f_130_9 : x_fe 130 9 = some (.invokestatic 126, 12) := by decide +kernel
theorem f_130_12 : x_fe 130 12 = some (.ifCond .ne (Int.ofNat 18), 15) := by decide +kernel
theorem f_130_15 : x_fe 130 15 = some (.iconst (-1000001), 17) := by decide +kernel
theorem f_130_17 : x_fe 130 17 = some (.ireturn, 18) := by decide +kernel
theorem f_130_18 : x_fe 130 18 = some (.aload 0, 19) := by decide +kernel
theorem f_130_19 : x_fe 130 19 = some (.iload 1, 20) := by decide +kernel
theorem f_130_20 : x_fe 130 20 = some (.invokevirtual 131, 23) := by decide +kernel
theorem f_130_23 : x_fe 130 23 = some (.ifCond .eq (Int.ofNat 39), 26) := by decide +kernel
theorem f_130_26 : x_fe 130 26 = some (.aload 0, 27) := by decide +kernel
theorem f_130_27 : x_fe 130 27 = some (.iconst (8), 29) := by decide +kernel
theorem f_130_29 : x_fe 130 29 = some (.iload 1, 30) := by decide +kernel
theorem f_130_30 : x_fe 130 30 = some (.imul, 31) := by decide +kernel
theorem f_130_31 : x_fe 130 31 = some (.iload 2, 32) := by decide +kernel
theorem f_130_32 : x_fe 130 32 = some (.iadd, 33) := by decide +kernel
theorem f_130_33 : x_fe 130 33 = some (.invokevirtual 132, 36) := by decide +kernel
theorem f_130_36 : x_fe 130 36 = some (.goto (Int.ofNat 41), 39) := by decide +kernel
theorem f_130_39 : x_fe 130 39 = some (.iconst (-1000002), 41) := by decide +kernel
theorem f_130_41 : x_fe 130 41 = some (.ireturn, 42) := by decide +kernel
theorem f_131_0 : x_fe 131 0 = some (.aload 0, 1) := by decide +kernel
theorem f_131_1 : x_fe 131 1 = some (.getfield 192, 4) := by decide +kernel
theorem f_131_4 : x_fe 131 4 = some (.iconst (30), 6) := by decide +kernel
theorem f_131_6 : x_fe 131 6 = some (.aload 0, 7) := by decide +kernel
theorem f_131_7 : x_fe 131 7 = some (.getfield 192, 10) := by decide +kernel
theorem f_131_10 : x_fe 131 10 = some (.iconst (27), 12) := by decide +kernel
theorem f_131_12 : x_fe 131 12 = some (.iaload, 13) := by decide +kernel
theorem f_131_13 : x_fe 131 13 = some (.iadd, 14) := by decide +kernel
theorem f_131_14 : x_fe 131 14 = some (.iaload, 15) := by decide +kernel
theorem f_131_15 : x_fe 131 15 = some (.iload 1, 16) := by decide +kernel
theorem f_131_16 : x_fe 131 16 = some (.invokestatic 122, 19) := by decide +kernel
theorem f_131_19 : x_fe 131 19 = some (.ireturn, 20) := by decide +kernel
theorem f_132_0 : x_fe 132 0 = some (.aload 0, 1) := by decide +kernel
theorem f_132_1 : x_fe 132 1 = some (.getfield 192, 4) := by decide +kernel
theorem f_132_4 : x_fe 132 4 = some (.iconst (27), 6) := by decide +kernel
theorem f_132_6 : x_fe 132 6 = some (.iaload, 7) := by decide +kernel
theorem f_132_7 : x_fe 132 7 = some (.istore 2, 8) := by decide +kernel
theorem f_132_8 : x_fe 132 8 = some (.aload 0, 9) := by decide +kernel
theorem f_132_9 : x_fe 132 9 = some (.getfield 192, 12) := by decide +kernel
theorem f_132_12 : x_fe 132 12 = some (.iconst (25), 14) := by decide +kernel
theorem f_132_14 : x_fe 132 14 = some (.iaload, 15) := by decide +kernel
theorem f_132_15 : x_fe 132 15 = some (.aload 0, 16) := by decide +kernel
theorem f_132_16 : x_fe 132 16 = some (.getfield 209, 19) := by decide +kernel
theorem f_132_19 : x_fe 132 19 = some (.iload 1, 20) := by decide +kernel
theorem f_132_20 : x_fe 132 20 = some (.iaload, 21) := by decide +kernel
theorem f_132_21 : x_fe 132 21 = some (.iand, 22) := by decide +kernel
theorem f_132_22 : x_fe 132 22 = some (.istore 3, 23) := by decide +kernel
theorem f_132_23 : x_fe 132 23 = some (.aload 0, 24) := by decide +kernel
theorem f_132_24 : x_fe 132 24 = some (.iload 3, 25) := by decide +kernel
theorem f_132_25 : x_fe 132 25 = some (.invokevirtual 129, 28) := by decide +kernel
theorem f_132_28 : x_fe 132 28 = some (.istore 4, 30) := by decide +kernel
theorem f_132_30 : x_fe 132 30 = some (.aload 0, 31) := by decide +kernel
theorem f_132_31 : x_fe 132 31 = some (.getfield 192, 34) := by decide +kernel
theorem f_132_34 : x_fe 132 34 = some (.iconst (28), 36) := by decide +kernel
theorem f_132_36 : x_fe 132 36 = some (.iload 2, 37) := by decide +kernel
theorem f_132_37 : x_fe 132 37 = some (.iadd, 38) := by decide +kernel
theorem f_132_38 : x_fe 132 38 = some (.dup2, 39) := by decide +kernel
theorem f_132_39 : x_fe 132 39 = some (.iaload, 40) := by decide +kernel
theorem f_132_40 : x_fe 132 40 = some (.iload 4, 42) := by decide +kernel
theorem f_132_42 : x_fe 132 42 = some (.iadd, 43) := by decide +kernel
theorem f_132_43 : x_fe 132 43 = some (.iastore, 44) := by decide +kernel
theorem f_132_44 : x_fe 132 44 = some (.aload 0, 45) := by decide +kernel
theorem f_132_45 : x_fe 132 45 = some (.getfield 192, 48) := by decide +kernel
theorem f_132_48 : x_fe 132 48 = some (.iconst (30), 50) := by decide +kernel
theorem f_132_50 : x_fe 132 50 = some (.iload 2, 51) := by decide +kernel
theorem f_132_51 : x_fe 132 51 = some (.iadd, 52) := by decide +kernel
theorem f_132_52 : x_fe 132 52 = some (.dup2, 53) := by decide +kernel
theorem f_132_53 : x_fe 132 53 = some (.iaload, 54) := by decide +kernel
theorem f_132_54 : x_fe 132 54 = some (.iconst (1), 55) := by decide +kernel
theorem f_132_55 : x_fe 132 55 = some (.iload 1, 56) := by decide +kernel
theorem f_132_56 : x_fe 132 56 = some (.iconst (8), 58) := by decide +kernel
theorem f_132_58 : x_fe 132 58 = some (.idiv, 59) := by decide +kernel
theorem f_132_59 : x_fe 132 59 = some (.ishl, 60) := by decide +kernel
theorem f_132_60 : x_fe 132 60 = some (.iconst (-1), 61) := by decide +kernel
theorem f_132_61 : x_fe 132 61 = some (.ixor, 62) := by decide +kernel
theorem f_132_62 : x_fe 132 62 = some (.iand, 63) := by decide +kernel
theorem f_132_63 : x_fe 132 63 = some (.iastore, 64) := by decide +kernel
theorem f_132_64 : x_fe 132 64 = some (.aload 0, 65) := by decide +kernel
theorem f_132_65 : x_fe 132 65 = some (.getfield 192, 68) := by decide +kernel
theorem f_132_68 : x_fe 132 68 = some (.iconst (25), 70) := by decide +kernel
theorem f_132_70 : x_fe 132 70 = some (.iload 3, 71) := by decide +kernel
theorem f_132_71 : x_fe 132 71 = some (.ifCond .ne (Int.ofNat 80), 74) := by decide +kernel
theorem f_132_74 : x_fe 132 74 = some (.iconst (511), 77) := by decide +kernel
theorem f_132_77 : x_fe 132 77 = some (.goto (Int.ofNat 81), 80) := by decide +kernel
theorem f_132_80 : x_fe 132 80 = some (.iload 3, 81) := by decide +kernel
theorem f_132_81 : x_fe 132 81 = some (.iastore, 82) := by decide +kernel
theorem f_132_82 : x_fe 132 82 = some (.aload 0, 83) := by decide +kernel
theorem f_132_83 : x_fe 132 83 = some (.getfield 192, 86) := by decide +kernel
theorem f_132_86 : x_fe 132 86 = some (.iconst (26), 88) := by decide +kernel
theorem f_132_88 : x_fe 132 88 = some (.iload 3, 89) := by decide +kernel
theorem f_132_89 : x_fe 132 89 = some (.ifCond .ne (Int.ofNat 96), 92) := by decide +kernel
theorem f_132_92 : x_fe 132 92 = some (.iconst (0), 93) := by decide +kernel
theorem f_132_93 : x_fe 132 93 = some (.goto (Int.ofNat 105), 96) := by decide +kernel
theorem f_132_96 : x_fe 132 96 = some (.aload 0, 97) := by decide +kernel
theorem f_132_97 : x_fe 132 97 = some (.getfield 192, 100) := by decide +kernel
theorem f_132_100 : x_fe 132 100 = some (.iconst (26), 102) := by decide +kernel
theorem f_132_102 : x_fe 132 102 = some (.iaload, 103) := by decide +kernel
theorem f_132_103 : x_fe 132 103 = some (.iconst (1), 104) := by decide +kernel
theorem f_132_104 : x_fe 132 104 = some (.iadd, 105) := by decide +kernel
theorem f_132_105 : x_fe 132 105 = some (.iastore, 106) := by decide +kernel
theorem f_132_106 : x_fe 132 106 = some (.aload 0, 107) := by decide +kernel
theorem f_132_107 : x_fe 132 107 = some (.getfield 192, 110) := by decide +kernel
theorem f_132_110 : x_fe 132 110 = some (.iconst (32), 112) := by decide +kernel
theorem f_132_112 : x_fe 132 112 = some (.dup2, 113) := by decide +kernel
theorem f_132_113 : x_fe 132 113 = some (.iaload, 114) := by decide +kernel
theorem f_132_114 : x_fe 132 114 = some (.iload 3, 115) := by decide +kernel
theorem f_132_115 : x_fe 132 115 = some (.ifCond .ne (Int.ofNat 122), 118) := by decide +kernel
theorem f_132_118 : x_fe 132 118 = some (.iconst (1), 119) := by decide +kernel
theorem f_132_119 : x_fe 132 119 = some (.goto (Int.ofNat 123), 122) := by decide +kernel
theorem f_132_122 : x_fe 132 122 = some (.iconst (0), 123) := by decide +kernel
theorem f_132_123 : x_fe 132 123 = some (.iadd, 124) := by decide +kernel
theorem f_132_124 : x_fe 132 124 = some (.iastore, 125) := by decide +kernel
theorem f_132_125 : x_fe 132 125 = some (.aload 0, 126) := by decide +kernel
theorem f_132_126 : x_fe 132 126 = some (.getfield 192, 129) := by decide +kernel
theorem f_132_129 : x_fe 132 129 = some (.iconst (27), 131) := by decide +kernel
theorem f_132_131 : x_fe 132 131 = some (.aload 0, 132) := by decide +kernel
theorem f_132_132 : x_fe 132 132 = some (.getfield 192, 135) := by decide +kernel
theorem f_132_135 : x_fe 132 135 = some (.iconst (31), 137) := by decide +kernel
theorem f_132_137 : x_fe 132 137 = some (.iload 2, 138) := by decide +kernel
theorem f_132_138 : x_fe 132 138 = some (.isub, 139) := by decide +kernel
theorem f_132_139 : x_fe 132 139 = some (.iaload, 140) := by decide +kernel
theorem f_132_140 : x_fe 132 140 = some (.ifCond .eq (Int.ofNat 149), 143) := by decide +kernel
theorem f_132_143 : x_fe 132 143 = some (.iconst (1), 144) := by decide +kernel
theorem f_132_144 : x_fe 132 144 = some (.iload 2, 145) := by decide +kernel
theorem f_132_145 : x_fe 132 145 = some (.isub, 146) := by decide +kernel
theorem f_132_146 : x_fe 132 146 = some (.goto (Int.ofNat 150), 149) := by decide +kernel
theorem f_132_149 : x_fe 132 149 = some (.iload 2, 150) := by decide +kernel
theorem f_132_150 : x_fe 132 150 = some (.iastore, 151) := by decide +kernel
theorem f_132_151 : x_fe 132 151 = some (.iload 4, 153) := by decide +kernel
theorem f_132_153 : x_fe 132 153 = some (.ireturn, 154) := by decide +kernel
theorem f_133_0 : x_fe 133 0 = some (.aload 0, 1) := by decide +kernel
theorem f_133_1 : x_fe 133 1 = some (.getfield 192, 4) := by decide +kernel
theorem f_133_4 : x_fe 133 4 = some (.iconst (0), 5) := by decide +kernel
theorem f_133_5 : x_fe 133 5 = some (.iaload, 6) := by decide +kernel
theorem f_133_6 : x_fe 133 6 = some (.ifCond .ne (Int.ofNat 12), 9) := by decide +kernel
theorem f_133_9 : x_fe 133 9 = some (.iconst (-1000002), 11) := by decide +kernel
theorem f_133_11 : x_fe 133 11 = some (.ireturn, 12) := by decide +kernel
theorem f_133_12 : x_fe 133 12 = some (.iload 1, 13) := by decide +kernel
theorem f_133_13 : x_fe 133 13 = some (.invokestatic 100, 16) := by decide +kernel
theorem f_133_16 : x_fe 133 16 = some (.ifCond .eq (Int.ofNat 31), 19) := by decide +kernel
theorem f_133_19 : x_fe 133 19 = some (.iload 3, 20) := by decide +kernel
theorem f_133_20 : x_fe 133 20 = some (.i2l, 21) := by decide +kernel
theorem f_133_21 : x_fe 133 21 = some (.ldc2_w 1, 22) := by decide +kernel
theorem f_133_22 : x_fe 133 22 = some (.ldc2_w 14, 25) := by decide +kernel
theorem f_133_25 : x_fe 133 25 = some (.invokestatic 101, 28) := by decide +kernel
theorem f_133_28 : x_fe 133 28 = some (.ifCond .ne (Int.ofNat 34), 31) := by decide +kernel
theorem f_133_31 : x_fe 133 31 = some (.iconst (-1000001), 33) := by decide +kernel
theorem f_133_33 : x_fe 133 33 = some (.ireturn, 34) := by decide +kernel
theorem f_133_34 : x_fe 133 34 = some (.aload 0, 35) := by decide +kernel
theorem f_133_35 : x_fe 133 35 = some (.getfield 197, 38) := by decide +kernel
theorem f_133_38 : x_fe 133 38 = some (.iload 1, 39) := by decide +kernel
theorem f_133_39 : x_fe 133 39 = some (.iaload, 40) := by decide +kernel
theorem f_133_40 : x_fe 133 40 = some (.iconst (-1000000), 42) := by decide +kernel
theorem f_133_42 : x_fe 133 42 = some (.if_icmp .ne (Int.ofNat 51), 45) := by decide +kernel
theorem f_133_45 : x_fe 133 45 = some (.aload 0, 46) := by decide +kernel
theorem f_133_46 : x_fe 133 46 = some (.iconst (1), 47) := by decide +kernel
theorem f_133_47 : x_fe 133 47 = some (.invokevirtual 102, 50) := by decide +kernel
theorem f_133_50 : x_fe 133 50 = some (.ireturn, 51) := by decide +kernel
theorem f_133_51 : x_fe 133 51 = some (.aload 0, 52) := by decide +kernel
theorem f_133_52 : x_fe 133 52 = some (.iload 1, 53) := by decide +kernel
theorem f_133_53 : x_fe 133 53 = some (.iload 2, 54) := by decide +kernel
theorem f_133_54 : x_fe 133 54 = some (.iload 3, 55) := by decide +kernel
theorem f_133_55 : x_fe 133 55 = some (.invokevirtual 106, 58) := by decide +kernel
theorem f_133_58 : x_fe 133 58 = some (.ifCond .ne (Int.ofNat 67), 61) := by decide +kernel
theorem f_133_61 : x_fe 133 61 = some (.aload 0, 62) := by decide +kernel
theorem f_133_62 : x_fe 133 62 = some (.iconst (2), 63) := by decide +kernel
theorem f_133_63 : x_fe 133 63 = some (.invokevirtual 102, 66) := by decide +kernel
theorem f_133_66 : x_fe 133 66 = some (.ireturn, 67) := by decide +kernel
theorem f_133_67 : x_fe 133 67 = some (.aload 0, 68) := by decide +kernel
theorem f_133_68 : x_fe 133 68 = some (.iconst (40), 70) := by decide +kernel
theorem f_133_70 : x_fe 133 70 = some (.iload 1, 71) := by decide +kernel
theorem f_133_71 : x_fe 133 71 = some (.imul, 72) := by decide +kernel
theorem f_133_72 : x_fe 133 72 = some (.iload 2, 73) := by decide +kernel
theorem f_133_73 : x_fe 133 73 = some (.iadd, 74) := by decide +kernel
theorem f_133_74 : x_fe 133 74 = some (.iload 3, 75) := by decide +kernel
theorem f_133_75 : x_fe 133 75 = some (.invokevirtual 134, 78) := by decide +kernel
theorem f_133_78 : x_fe 133 78 = some (.istore 4, 80) := by decide +kernel
theorem f_133_80 : x_fe 133 80 = some (.iload 4, 82) := by decide +kernel
theorem f_133_82 : x_fe 133 82 = some (.ifCond .eq (Int.ofNat 88), 85) := by decide +kernel
theorem f_133_85 : x_fe 133 85 = some (.iload 4, 87) := by decide +kernel
theorem f_133_87 : x_fe 133 87 = some (.ireturn, 88) := by decide +kernel
theorem f_133_88 : x_fe 133 88 = some (.iconst (0), 89) := by decide +kernel
theorem f_133_89 : x_fe 133 89 = some (.istore 5, 91) := by decide +kernel
theorem f_133_91 : x_fe 133 91 = some (.iconst (0), 92) := by decide +kernel
theorem f_133_92 : x_fe 133 92 = some (.istore 6, 94) := by decide +kernel
theorem f_133_94 : x_fe 133 94 = some (.iload 6, 96) := by decide +kernel
theorem f_133_96 : x_fe 133 96 = some (.iload 3, 97) := by decide +kernel
theorem f_133_97 : x_fe 133 97 = some (.if_icmp .ge (Int.ofNat 153), 100) := by decide +kernel
theorem f_133_100 : x_fe 133 100 = some (.aload 0, 101) := by decide +kernel
theorem f_133_101 : x_fe 133 101 = some (.getfield 192, 104) := by decide +kernel
theorem f_133_104 : x_fe 133 104 = some (.iconst (27), 106) := by decide +kernel
theorem f_133_106 : x_fe 133 106 = some (.iaload, 107) := by decide +kernel
theorem f_133_107 : x_fe 133 107 = some (.istore 7, 109) := by decide +kernel
theorem f_133_109 : x_fe 133 109 = some (.aload 0, 110) := by decide +kernel
theorem f_133_110 : x_fe 133 110 = some (.aload 0, 111) := by decide +kernel
theorem f_133_111 : x_fe 133 111 = some (.getfield 199, 114) := by decide +kernel
theorem f_133_114 : x_fe 133 114 = some (.iconst (40), 116) := by decide +kernel
theorem f_133_116 : x_fe 133 116 = some (.iload 1, 117) := by decide +kernel
theorem f_133_117 : x_fe 133 117 = some (.imul, 118) := by decide +kernel
theorem f_133_118 : x_fe 133 118 = some (.iload 2, 119) := by decide +kernel
theorem f_133_119 : x_fe 133 119 = some (.iadd, 120) := by decide +kernel
theorem f_133_120 : x_fe 133 120 = some (.iload 6, 122) := by decide +kernel
theorem f_133_122 : x_fe 133 122 = some (.iadd, 123) := by decide +kernel
theorem f_133_123 : x_fe 133 123 = some (.iaload, 124) := by decide +kernel
theorem f_133_124 : x_fe 133 124 = some (.invokevirtual 132, 127) := by decide +kernel
theorem f_133_127 : x_fe 133 127 = some (.istore 8, 129) := by decide +kernel
theorem f_133_129 : x_fe 133 129 = some (.iload 5, 131) := by decide +kernel
theorem f_133_131 : x_fe 133 131 = some (.iload 7, 133) := by decide +kernel
theorem f_133_133 : x_fe 133 133 = some (.ifCond .ne (Int.ofNat 141), 136) := by decide +kernel
theorem f_133_136 : x_fe 133 136 = some (.iload 8, 138) := by decide +kernel
theorem f_133_138 : x_fe 133 138 = some (.goto (Int.ofNat 144), 141) := by decide +kernel
theorem f_133_141 : x_fe 133 141 = some (.iload 8, 143) := by decide +kernel
theorem f_133_143 : x_fe 133 143 = some (.ineg, 144) := by decide +kernel
theorem f_133_144 : x_fe 133 144 = some (.iadd, 145) := by decide +kernel
theorem f_133_145 : x_fe 133 145 = some (.istore 5, 147) := by decide +kernel
theorem f_133_147 : x_fe 133 147 = some (.iinc 6 (1), 150) := by decide +kernel
theorem f_133_150 : x_fe 133 150 = some (.goto (Int.ofNat 94), 153) := by decide +kernel
theorem f_133_153 : x_fe 133 153 = some (.aload 0, 154) := by decide +kernel
theorem f_133_154 : x_fe 133 154 = some (.iload 5, 156) := by decide +kernel
theorem f_133_156 : x_fe 133 156 = some (.invokevirtual 103, 159) := by decide +kernel
theorem f_133_159 : x_fe 133 159 = some (.ireturn, 160) := by decide +kernel
theorem f_134_0 : x_fe 134 0 = some (.iconst (0), 1) := by decide +kernel
theorem f_134_1 : x_fe 134 1 = some (.istore 3, 2) := by decide +kernel
theorem f_134_2 : x_fe 134 2 = some (.iload 3, 3) := by decide +kernel
theorem f_134_3 : x_fe 134 3 = some (.iload 2, 4) := by decide +kernel
theorem f_134_4 : x_fe 134 4 = some (.if_icmp .ge (Int.ofNat 44), 7) := by decide +kernel
theorem f_134_7 : x_fe 134 7 = some (.aload 0, 8) := by decide +kernel
theorem f_134_8 : x_fe 134 8 = some (.getfield 199, 11) := by decide +kernel
theorem f_134_11 : x_fe 134 11 = some (.iload 1, 12) := by decide +kernel
theorem f_134_12 : x_fe 134 12 = some (.iload 3, 13) := by decide +kernel
theorem f_134_13 : x_fe 134 13 = some (.iadd, 14) := by decide +kernel
theorem f_134_14 : x_fe 134 14 = some (.iaload, 15) := by decide +kernel
theorem f_134_15 : x_fe 134 15 = some (.i2l, 16) := by decide +kernel
theorem f_134_16 : x_fe 134 16 = some (.ldc2_w 0, 17) := by decide +kernel
theorem f_134_17 : x_fe 134 17 = some (.iconst (8), 19) := by decide +kernel
theorem f_134_19 : x_fe 134 19 = some (.aload 0, 20) := by decide +kernel
theorem f_134_20 : x_fe 134 20 = some (.getfield 192, 23) := by decide +kernel
theorem f_134_23 : x_fe 134 23 = some (.iconst (1), 24) := by decide +kernel
theorem f_134_24 : x_fe 134 24 = some (.iaload, 25) := by decide +kernel
theorem f_134_25 : x_fe 134 25 = some (.imul, 26) := by decide +kernel
theorem f_134_26 : x_fe 134 26 = some (.iconst (1), 27) := by decide +kernel
theorem f_134_27 : x_fe 134 27 = some (.isub, 28) := by decide +kernel
theorem f_134_28 : x_fe 134 28 = some (.i2l, 29) := by decide +kernel
theorem f_134_29 : x_fe 134 29 = some (.invokestatic 101, 32) := by decide +kernel
theorem f_134_32 : x_fe 134 32 = some (.ifCond .ne (Int.ofNat 38), 35) := by decide +kernel
theorem f_134_35 : x_fe 134 35 = some (.iconst (-1000001), 37) := by decide +kernel
theorem f_134_37 : x_fe 134 37 = some (.ireturn, 38) := by decide +kernel
theorem f_134_38 : x_fe 134 38 = some (.iinc 3 (1), 41) := by decide +kernel
theorem f_134_41 : x_fe 134 41 = some (.goto (Int.ofNat 2), 44) := by decide +kernel
theorem f_134_44 : x_fe 134 44 = some (.aload 0, 45) := by decide +kernel
theorem f_134_45 : x_fe 134 45 = some (.getfield 210, 48) := by decide +kernel
theorem f_134_48 : x_fe 134 48 = some (.iconst (0), 49) := by decide +kernel
theorem f_134_49 : x_fe 134 49 = some (.aload 0, 50) := by decide +kernel
theorem f_134_50 : x_fe 134 50 = some (.getfield 192, 53) := by decide +kernel
theorem f_134_53 : x_fe 134 53 = some (.iconst (30), 55) := by decide +kernel
theorem f_134_55 : x_fe 134 55 = some (.iaload, 56) := by decide +kernel
theorem f_134_56 : x_fe 134 56 = some (.iastore, 57) := by decide +kernel
theorem f_134_57 : x_fe 134 57 = some (.aload 0, 58) := by decide +kernel
theorem f_134_58 : x_fe 134 58 = some (.getfield 210, 61) := by decide +kernel
theorem f_134_61 : x_fe 134 61 = some (.iconst (1), 62) := by decide +kernel
theorem f_134_62 : x_fe 134 62 = some (.aload 0, 63) := by decide +kernel
theorem f_134_63 : x_fe 134 63 = some (.getfield 192, 66) := by decide +kernel
theorem f_134_66 : x_fe 134 66 = some (.iconst (31), 68) := by decide +kernel
theorem f_134_68 : x_fe 134 68 = some (.iaload, 69) := by decide +kernel
theorem f_134_69 : x_fe 134 69 = some (.iastore, 70) := by decide +kernel
theorem f_134_70 : x_fe 134 70 = some (.aload 0, 71) := by decide +kernel
theorem f_134_71 : x_fe 134 71 = some (.getfield 210, 74) := by decide +kernel
theorem f_134_74 : x_fe 134 74 = some (.iconst (2), 75) := by decide +kernel
theorem f_134_75 : x_fe 134 75 = some (.aload 0, 76) := by decide +kernel
theorem f_134_76 : x_fe 134 76 = some (.getfield 192, 79) := by decide +kernel
theorem f_134_79 : x_fe 134 79 = some (.iconst (27), 81) := by decide +kernel
theorem f_134_81 : x_fe 134 81 = some (.iaload, 82) := by decide +kernel
theorem f_134_82 : x_fe 134 82 = some (.iastore, 83) := by decide +kernel
theorem f_134_83 : x_fe 134 83 = some (.iconst (0), 84) := by decide +kernel
theorem f_134_84 : x_fe 134 84 = some (.istore 3, 85) := by decide +kernel
theorem f_134_85 : x_fe 134 85 = some (.iload 3, 86) := by decide +kernel
theorem f_134_86 : x_fe 134 86 = some (.iload 2, 87) := by decide +kernel
theorem f_134_87 : x_fe 134 87 = some (.if_icmp .ge (Int.ofNat 193), 90) := by decide +kernel
theorem f_134_90 : x_fe 134 90 = some (.aload 0, 91) := by decide +kernel
theorem f_134_91 : x_fe 134 91 = some (.getfield 199, 94) := by decide +kernel
theorem f_134_94 : x_fe 134 94 = some (.iload 1, 95) := by decide +kernel
theorem f_134_95 : x_fe 134 95 = some (.iload 3, 96) := by decide +kernel
theorem f_134_96 : x_fe 134 96 = some (.iadd, 97) := by decide +kernel
theorem f_134_97 : x_fe 134 97 = some (.iaload, 98) := by decide +kernel
theorem f_134_98 : x_fe 134 98 = some (.istore 4, 100) := by decide +kernel
theorem f_134_100 : x_fe 134 100 = some (.aload 0, 101) := by decide +kernel
theorem f_134_101 : x_fe 134 101 = some (.getfield 210, 104) := by decide +kernel
theorem f_134_104 : x_fe 134 104 = some (.aload 0, 105) := by decide +kernel
theorem f_134_105 : x_fe 134 105 = some (.getfield 210, 108) := by decide +kernel
theorem f_134_108 : x_fe 134 108 = some (.iconst (2), 109) := by decide +kernel
theorem f_134_109 : x_fe 134 109 = some (.iaload, 110) := by decide +kernel
theorem f_134_110 : x_fe 134 110 = some (.iaload, 111) := by decide +kernel
theorem f_134_111 : x_fe 134 111 = some (.iload 4, 113) := by decide +kernel
theorem f_134_113 : x_fe 134 113 = some (.iconst (8), 115) := by decide +kernel
theorem f_134_115 : x_fe 134 115 = some (.idiv, 116) := by decide +kernel
theorem f_134_116 : x_fe 134 116 = some (.invokestatic 122, 119) := by decide +kernel
theorem f_134_119 : x_fe 134 119 = some (.ifCond .ne (Int.ofNat 125), 122) := by decide +kernel
theorem f_134_122 : x_fe 134 122 = some (.iconst (-1000002), 124) := by decide +kernel
theorem f_134_124 : x_fe 134 124 = some (.ireturn, 125) := by decide +kernel
theorem f_134_125 : x_fe 134 125 = some (.aload 0, 126) := by decide +kernel
theorem f_134_126 : x_fe 134 126 = some (.getfield 210, 129) := by decide +kernel
theorem f_134_129 : x_fe 134 129 = some (.aload 0, 130) := by decide +kernel
theorem f_134_130 : x_fe 134 130 = some (.getfield 210, 133) := by decide +kernel
theorem f_134_133 : x_fe 134 133 = some (.iconst (2), 134) := by decide +kernel
theorem f_134_134 : x_fe 134 134 = some (.iaload, 135) := by decide +kernel
theorem f_134_135 : x_fe 134 135 = some (.dup2, 136) := by decide +kernel
theorem f_134_136 : x_fe 134 136 = some (.iaload, 137) := by decide +kernel
theorem f_134_137 : x_fe 134 137 = some (.iconst (1), 138) := by decide +kernel
theorem f_134_138 : x_fe 134 138 = some (.iload 4, 140) := by decide +kernel
theorem f_134_140 : x_fe 134 140 = some (.iconst (8), 142) := by decide +kernel
theorem f_134_142 : x_fe 134 142 = some (.idiv, 143) := by decide +kernel
theorem f_134_143 : x_fe 134 143 = some (.ishl, 144) := by decide +kernel
theorem f_134_144 : x_fe 134 144 = some (.iconst (-1), 145) := by decide +kernel
theorem f_134_145 : x_fe 134 145 = some (.ixor, 146) := by decide +kernel
theorem f_134_146 : x_fe 134 146 = some (.iand, 147) := by decide +kernel
theorem f_134_147 : x_fe 134 147 = some (.iastore, 148) := by decide +kernel
theorem f_134_148 : x_fe 134 148 = some (.aload 0, 149) := by decide +kernel
theorem f_134_149 : x_fe 134 149 = some (.getfield 210, 152) := by decide +kernel
theorem f_134_152 : x_fe 134 152 = some (.iconst (2), 153) := by decide +kernel
theorem f_134_153 : x_fe 134 153 = some (.aload 0, 154) := by decide +kernel
theorem f_134_154 : x_fe 134 154 = some (.getfield 210, 157) := by decide +kernel
theorem f_134_157 : x_fe 134 157 = some (.iconst (1), 158) := by decide +kernel
theorem f_134_158 : x_fe 134 158 = some (.aload 0, 159) := by decide +kernel
theorem f_134_159 : x_fe 134 159 = some (.getfield 210, 162) := by decide +kernel
theorem f_134_162 : x_fe 134 162 = some (.iconst (2), 163) := by decide +kernel
theorem f_134_163 : x_fe 134 163 = some (.iaload, 164) := by decide +kernel
theorem f_134_164 : x_fe 134 164 = some (.isub, 165) := by decide +kernel
theorem f_134_165 : x_fe 134 165 = some (.iaload, 166) := by decide +kernel
theorem f_134_166 : x_fe 134 166 = some (.ifCond .eq (Int.ofNat 180), 169) := by decide +kernel
theorem f_134_169 : x_fe 134 169 = some (.iconst (1), 170) := by decide +kernel
theorem f_134_170 : x_fe 134 170 = some (.aload 0, 171) := by decide +kernel
theorem f_134_171 : x_fe 134 171 = some (.getfield 210, 174) := by decide +kernel
theorem f_134_174 : x_fe 134 174 = some (.iconst (2), 175) := by decide +kernel
theorem f_134_175 : x_fe 134 175 = some (.iaload, 176) := by decide +kernel
theorem f_134_176 : x_fe 134 176 = some (.isub, 177) := by decide +kernel
theorem f_134_177 : x_fe 134 177 = some (.goto (Int.ofNat 186), 180) := by decide +kernel
theorem f_134_180 : x_fe 134 180 = some (.aload 0, 181) := by decide +kernel
theorem f_134_181 : x_fe 134 181 = some (.getfield 210, 184) := by decide +kernel
theorem f_134_184 : x_fe 134 184 = some (.iconst (2), 185) := by decide +kernel
theorem f_134_185 : x_fe 134 185 = some (.iaload, 186) := by decide +kernel
theorem f_134_186 : x_fe 134 186 = some (.iastore, 187) := by decide +kernel
theorem f_134_187 : x_fe 134 187 = some (.iinc 3 (1), 190) := by decide +kernel
theorem f_134_190 : x_fe 134 190 = some (.goto (Int.ofNat 85), 193) := by decide +kernel
theorem f_134_193 : x_fe 134 193 = some (.iconst (0), 194) := by decide +kernel
theorem f_134_194 : x_fe 134 194 = some (.ireturn, 195) := by decide +kernel
theorem f_135_0 : x_fe 135 0 = some (.aload 0, 1) := by decide +kernel
theorem f_135_1 : x_fe 135 1 = some (.getfield 192, 4) := by decide +kernel
theorem f_135_4 : x_fe 135 4 = some (.iconst (0), 5) := by decide +kernel
theorem f_135_5 : x_fe 135 5 = some (.iaload, 6) := by decide +kernel
theorem f_135_6 : x_fe 135 6 = some (.ifCond .ne (Int.ofNat 12), 9) := by decide +kernel
theorem f_135_9 : x_fe 135 9 = some (.iconst (-1000002), 11) := by decide +kernel
theorem f_135_11 : x_fe 135 11 = some (.ireturn, 12) := by decide +kernel
theorem f_135_12 : x_fe 135 12 = some (.iload 1, 13) := by decide +kernel
theorem f_135_13 : x_fe 135 13 = some (.i2l, 14) := by decide +kernel
theorem f_135_14 : x_fe 135 14 = some (.ldc2_w 1, 15) := by decide +kernel
theorem f_135_15 : x_fe 135 15 = some (.ldc2_w 14, 18) := by decide +kernel
theorem f_135_18 : x_fe 135 18 = some (.invokestatic 101, 21) := by decide +kernel
theorem f_135_21 : x_fe 135 21 = some (.ifCond .eq (Int.ofNat 36), 24) := by decide +kernel
theorem f_135_24 : x_fe 135 24 = some (.iload 2, 25) := by decide +kernel
theorem f_135_25 : x_fe 135 25 = some (.i2l, 26) := by decide +kernel
theorem f_135_26 : x_fe 135 26 = some (.ldc2_w 1, 27) := by decide +kernel
theorem f_135_27 : x_fe 135 27 = some (.ldc2_w 999999, 30) := by decide +kernel
theorem f_135_30 : x_fe 135 30 = some (.invokestatic 101, 33) := by decide +kernel
theorem f_135_33 : x_fe 135 33 = some (.ifCond .ne (Int.ofNat 39), 36) := by decide +kernel
theorem f_135_36 : x_fe 135 36 = some (.iconst (-1000001), 38) := by decide +kernel
theorem f_135_38 : x_fe 135 38 = some (.ireturn, 39) := by decide +kernel
theorem f_135_39 : x_fe 135 39 = some (.iload 2, 40) := by decide +kernel
theorem f_135_40 : x_fe 135 40 = some (.i2l, 41) := by decide +kernel
theorem f_135_41 : x_fe 135 41 = some (.lstore 3, 42) := by decide +kernel
theorem f_135_42 : x_fe 135 42 = some (.iconst (0), 43) := by decide +kernel
theorem f_135_43 : x_fe 135 43 = some (.istore 5, 45) := by decide +kernel
theorem f_135_45 : x_fe 135 45 = some (.iload 5, 47) := by decide +kernel
theorem f_135_47 : x_fe 135 47 = some (.iload 1, 48) := by decide +kernel
theorem f_135_48 : x_fe 135 48 = some (.if_icmp .ge (Int.ofNat 184), 51) := by decide +kernel
theorem f_135_51 : x_fe 135 51 = some (.aload 0, 52) := by decide +kernel
theorem f_135_52 : x_fe 135 52 = some (.getfield 192, 55) := by decide +kernel
theorem f_135_55 : x_fe 135 55 = some (.iconst (30), 57) := by decide +kernel
theorem f_135_57 : x_fe 135 57 = some (.aload 0, 58) := by decide +kernel
theorem f_135_58 : x_fe 135 58 = some (.getfield 192, 61) := by decide +kernel
theorem f_135_61 : x_fe 135 61 = some (.iconst (27), 63) := by decide +kernel
theorem f_135_63 : x_fe 135 63 = some (.iaload, 64) := by decide +kernel
theorem f_135_64 : x_fe 135 64 = some (.iadd, 65) := by decide +kernel
theorem f_135_65 : x_fe 135 65 = some (.iaload, 66) := by decide +kernel
theorem f_135_66 : x_fe 135 66 = some (.ifCond .eq (Int.ofNat 184), 69) := by decide +kernel
theorem f_135_69 : x_fe 135 69 = some (.lload 3, 70) := by decide +kernel
theorem f_135_70 : x_fe 135 70 = some (.ldc2_w 16807, 73) := by decide +kernel
theorem f_135_73 : x_fe 135 73 = some (.lmul, 74) := by decide +kernel
theorem f_135_74 : x_fe 135 74 = some (.ldc2_w 2147483647, 77) := by decide +kernel
theorem f_135_77 : x_fe 135 77 = some (.lrem, 78) := by decide +kernel
theorem f_135_78 : x_fe 135 78 = some (.lstore 3, 79) := by decide +kernel
theorem f_135_79 : x_fe 135 79 = some (.aload 0, 80) := by decide +kernel
theorem f_135_80 : x_fe 135 80 = some (.getfield 192, 83) := by decide +kernel
theorem f_135_83 : x_fe 135 83 = some (.iconst (30), 85) := by decide +kernel
theorem f_135_85 : x_fe 135 85 = some (.aload 0, 86) := by decide +kernel
theorem f_135_86 : x_fe 135 86 = some (.getfield 192, 89) := by decide +kernel
theorem f_135_89 : x_fe 135 89 = some (.iconst (27), 91) := by decide +kernel
theorem f_135_91 : x_fe 135 91 = some (.iaload, 92) := by decide +kernel
theorem f_135_92 : x_fe 135 92 = some (.iadd, 93) := by decide +kernel
theorem f_135_93 : x_fe 135 93 = some (.iaload, 94) := by decide +kernel
theorem f_135_94 : x_fe 135 94 = some (.istore 6, 96) := by decide +kernel
theorem f_135_96 : x_fe 135 96 = some (.lload 3, 97) := by decide +kernel
theorem f_135_97 : x_fe 135 97 = some (.ldc2_w 8, 100) := by decide +kernel
theorem f_135_100 : x_fe 135 100 = some (.iload 6, 102) := by decide +kernel
theorem f_135_102 : x_fe 135 102 = some (.invokestatic 136, 105) := by decide +kernel
theorem f_135_105 : x_fe 135 105 = some (.i2l, 106) := by decide +kernel
theorem f_135_106 : x_fe 135 106 = some (.lmul, 107) := by decide +kernel
theorem f_135_107 : x_fe 135 107 = some (.lrem, 108) := by decide +kernel
theorem f_135_108 : x_fe 135 108 = some (.l2i, 109) := by decide +kernel
theorem f_135_109 : x_fe 135 109 = some (.istore 7, 111) := by decide +kernel
theorem f_135_111 : x_fe 135 111 = some (.iconst (0), 112) := by decide +kernel
theorem f_135_112 : x_fe 135 112 = some (.istore 8, 114) := by decide +kernel
theorem f_135_114 : x_fe 135 114 = some (.iload 7, 116) := by decide +kernel
theorem f_135_116 : x_fe 135 116 = some (.iconst (8), 118) := by decide +kernel
theorem f_135_118 : x_fe 135 118 = some (.idiv, 119) := by decide +kernel
theorem f_135_119 : x_fe 135 119 = some (.istore 9, 121) := by decide +kernel
theorem f_135_121 : x_fe 135 121 = some (.iload 6, 123) := by decide +kernel
theorem f_135_123 : x_fe 135 123 = some (.iload 8, 125) := by decide +kernel
theorem f_135_125 : x_fe 135 125 = some (.invokestatic 122, 128) := by decide +kernel
theorem f_135_128 : x_fe 135 128 = some (.ifCond .eq (Int.ofNat 136), 131) := by decide +kernel
theorem f_135_131 : x_fe 135 131 = some (.iload 9, 133) := by decide +kernel
theorem f_135_133 : x_fe 135 133 = some (.ifCond .le (Int.ofNat 162), 136) := by decide +kernel
theorem f_135_136 : x_fe 135 136 = some (.iload 9, 138) := by decide +kernel
theorem f_135_138 : x_fe 135 138 = some (.iload 6, 140) := by decide +kernel
theorem f_135_140 : x_fe 135 140 = some (.iload 8, 142) := by decide +kernel
theorem f_135_142 : x_fe 135 142 = some (.invokestatic 122, 145) := by decide +kernel
theorem f_135_145 : x_fe 135 145 = some (.ifCond .eq (Int.ofNat 152), 148) := by decide +kernel
theorem f_135_148 : x_fe 135 148 = some (.iconst (1), 149) := by decide +kernel
theorem f_135_149 : x_fe 135 149 = some (.goto (Int.ofNat 153), 152) := by decide +kernel
theorem f_135_152 : x_fe 135 152 = some (.iconst (0), 153) := by decide +kernel
theorem f_135_153 : x_fe 135 153 = some (.isub, 154) := by decide +kernel
theorem f_135_154 : x_fe 135 154 = some (.istore 9, 156) := by decide +kernel
theorem f_135_156 : x_fe 135 156 = some (.iinc 8 (1), 159) := by decide +kernel
theorem f_135_159 : x_fe 135 159 = some (.goto (Int.ofNat 121), 162) := by decide +kernel
theorem f_135_162 : x_fe 135 162 = some (.aload 0, 163) := by decide +kernel
theorem f_135_163 : x_fe 135 163 = some (.iconst (8), 165) := by decide +kernel
theorem f_135_165 : x_fe 135 165 = some (.iload 8, 167) := by decide +kernel
theorem f_135_167 : x_fe 135 167 = some (.imul, 168) := by decide +kernel
theorem f_135_168 : x_fe 135 168 = some (.iload 7, 170) := by decide +kernel
theorem f_135_170 : x_fe 135 170 = some (.iconst (8), 172) := by decide +kernel
theorem f_135_172 : x_fe 135 172 = some (.irem, 173) := by decide +kernel
theorem f_135_173 : x_fe 135 173 = some (.iadd, 174) := by decide +kernel
theorem f_135_174 : x_fe 135 174 = some (.invokevirtual 132, 177) := by decide +kernel
theorem f_135_177 : x_fe 135 177 = some (.pop, 178) := by decide +kernel
theorem f_135_178 : x_fe 135 178 = some (.iinc 5 (1), 181) := by decide +kernel
theorem f_135_181 : x_fe 135 181 = some (.goto (Int.ofNat 45), 184) := by decide +kernel
theorem f_135_184 : x_fe 135 184 = some (.iload 5, 186) := by decide +kernel
theorem f_135_186 : x_fe 135 186 = some (.ireturn, 187) := by decide +kernel
theorem f_136_0 : x_fe 136 0 = some (.iconst (0), 1) := by decide +kernel
theorem f_136_1 : x_fe 136 1 = some (.istore 1, 2) := by decide +kernel
theorem f_136_2 : x_fe 136 2 = some (.iconst (0), 3) := by decide +kernel
theorem f_136_3 : x_fe 136 3 = some (.istore 2, 4) := by decide +kernel
theorem f_136_4 : x_fe 136 4 = some (.iload 2, 5) := by decide +kernel
theorem f_136_5 : x_fe 136 5 = some (.iconst (14), 7) := by decide +kernel
theorem f_136_7 : x_fe 136 7 = some (.if_icmp .ge (Int.ofNat 24), 10) := by decide +kernel
theorem f_136_10 : x_fe 136 10 = some (.iload 1, 11) := by decide +kernel
theorem f_136_11 : x_fe 136 11 = some (.iload 0, 12) := by decide +kernel
theorem f_136_12 : x_fe 136 12 = some (.iload 2, 13) := by decide +kernel
theorem f_136_13 : x_fe 136 13 = some (.ishr, 14) := by decide +kernel
theorem f_136_14 : x_fe 136 14 = some (.iconst (1), 15) := by decide +kernel
theorem f_136_15 : x_fe 136 15 = some (.iand, 16) := by decide +kernel
theorem f_136_16 : x_fe 136 16 = some (.iadd, 17) := by decide +kernel
theorem f_136_17 : x_fe 136 17 = some (.istore 1, 18) := by decide +kernel
theorem f_136_18 : x_fe 136 18 = some (.iinc 2 (1), 21) := by decide +kernel
theorem f_136_21 : x_fe 136 21 = some (.goto (Int.ofNat 4), 24) := by decide +kernel
theorem f_136_24 : x_fe 136 24 = some (.iload 1, 25) := by decide +kernel
theorem f_136_25 : x_fe 136 25 = some (.ireturn, 26) := by decide +kernel
theorem f_137_0 : x_fe 137 0 = some (.aload 0, 1) := by decide +kernel
theorem f_137_1 : x_fe 137 1 = some (.getfield 192, 4) := by decide +kernel
theorem f_137_4 : x_fe 137 4 = some (.iconst (0), 5) := by decide +kernel
theorem f_137_5 : x_fe 137 5 = some (.iaload, 6) := by decide +kernel
theorem f_137_6 : x_fe 137 6 = some (.ifCond .ne (Int.ofNat 12), 9) := by decide +kernel
theorem f_137_9 : x_fe 137 9 = some (.iconst (-1000002), 11) := by decide +kernel
theorem f_137_11 : x_fe 137 11 = some (.ireturn, 12) := by decide +kernel
theorem f_137_12 : x_fe 137 12 = some (.iload 1, 13) := by decide +kernel
theorem f_137_13 : x_fe 137 13 = some (.tableswitch (115) (0) (7) #[47, 55, 63, 83, 83, 95, 95, 107], 60) := by decide +kernel
theorem f_137_60 : x_fe 137 60 = some (.aload 0, 61) := by decide +kernel
theorem f_137_61 : x_fe 137 61 = some (.getfield 192, 64) := by decide +kernel
theorem f_137_64 : x_fe 137 64 = some (.iconst (25), 66) := by decide +kernel
theorem f_137_66 : x_fe 137 66 = some (.iaload, 67) := by decide +kernel
theorem f_137_67 : x_fe 137 67 = some (.ireturn, 68) := by decide +kernel
theorem f_137_68 : x_fe 137 68 = some (.aload 0, 69) := by decide +kernel
theorem f_137_69 : x_fe 137 69 = some (.getfield 192, 72) := by decide +kernel
theorem f_137_72 : x_fe 137 72 = some (.iconst (26), 74) := by decide +kernel
theorem f_137_74 : x_fe 137 74 = some (.iaload, 75) := by decide +kernel
theorem f_137_75 : x_fe 137 75 = some (.ireturn, 76) := by decide +kernel
theorem f_137_76 : x_fe 137 76 = some (.aload 0, 77) := by decide +kernel
theorem f_137_77 : x_fe 137 77 = some (.invokevirtual 138, 80) := by decide +kernel
theorem f_137_80 : x_fe 137 80 = some (.ifCond .eq (Int.ofNat 88), 83) := by decide +kernel
theorem f_137_83 : x_fe 137 83 = some (.iconst (-1000000), 85) := by decide +kernel
theorem f_137_85 : x_fe 137 85 = some (.goto (Int.ofNat 95), 88) := by decide +kernel
theorem f_137_88 : x_fe 137 88 = some (.aload 0, 89) := by decide +kernel
theorem f_137_89 : x_fe 137 89 = some (.getfield 192, 92) := by decide +kernel
theorem f_137_92 : x_fe 137 92 = some (.iconst (27), 94) := by decide +kernel
theorem f_137_94 : x_fe 137 94 = some (.iaload, 95) := by decide +kernel
theorem f_137_95 : x_fe 137 95 = some (.ireturn, 96) := by decide +kernel
theorem f_137_96 : x_fe 137 96 = some (.aload 0, 97) := by decide +kernel
theorem f_137_97 : x_fe 137 97 = some (.getfield 192, 100) := by decide +kernel
theorem f_137_100 : x_fe 137 100 = some (.iconst (28), 102) := by decide +kernel
theorem f_137_102 : x_fe 137 102 = some (.iload 1, 103) := by decide +kernel
theorem f_137_103 : x_fe 137 103 = some (.iadd, 104) := by decide +kernel
theorem f_137_104 : x_fe 137 104 = some (.iconst (3), 105) := by decide +kernel
theorem f_137_105 : x_fe 137 105 = some (.isub, 106) := by decide +kernel
theorem f_137_106 : x_fe 137 106 = some (.iaload, 107) := by decide +kernel
theorem f_137_107 : x_fe 137 107 = some (.ireturn, 108) := by decide +kernel
theorem f_137_108 : x_fe 137 108 = some (.aload 0, 109) := by decide +kernel
theorem f_137_109 : x_fe 137 109 = some (.getfield 192, 112) := by decide +kernel
theorem f_137_112 : x_fe 137 112 = some (.iconst (30), 114) := by decide +kernel
theorem f_137_114 : x_fe 137 114 = some (.iload 1, 115) := by decide +kernel
theorem f_137_115 : x_fe 137 115 = some (.iadd, 116) := by decide +kernel
theorem f_137_116 : x_fe 137 116 = some (.iconst (5), 117) := by decide +kernel
theorem f_137_117 : x_fe 137 117 = some (.isub, 118) := by decide +kernel
theorem f_137_118 : x_fe 137 118 = some (.iaload, 119) := by decide +kernel
theorem f_137_119 : x_fe 137 119 = some (.ireturn, 120) := by decide +kernel
theorem f_137_120 : x_fe 137 120 = some (.aload 0, 121) := by decide +kernel
theorem f_137_121 : x_fe 137 121 = some (.getfield 192, 124) := by decide +kernel
theorem f_137_124 : x_fe 137 124 = some (.iconst (32), 126) := by decide +kernel
theorem f_137_126 : x_fe 137 126 = some (.iaload, 127) := by decide +kernel
theorem f_137_127 : x_fe 137 127 = some (.ireturn, 128) := by decide +kernel
theorem f_137_128 : x_fe 137 128 = some (.iconst (-1000001), 130) := by decide +kernel
theorem f_137_130 : x_fe 137 130 = some (.ireturn, 131) := by decide +kernel
theorem f_138_0 : x_fe 138 0 = some (.aload 0, 1) := by decide +kernel
theorem f_138_1 : x_fe 138 1 = some (.getfield 192, 4) := by decide +kernel
theorem f_138_4 : x_fe 138 4 = some (.iconst (30), 6) := by decide +kernel
theorem f_138_6 : x_fe 138 6 = some (.iaload, 7) := by decide +kernel
theorem f_138_7 : x_fe 138 7 = some (.ifCond .ne (Int.ofNat 24), 10) := by decide +kernel
theorem f_138_10 : x_fe 138 10 = some (.aload 0, 11) := by decide +kernel
theorem f_138_11 : x_fe 138 11 = some (.getfield 192, 14) := by decide +kernel
theorem f_138_14 : x_fe 138 14 = some (.iconst (31), 16) := by decide +kernel
theorem f_138_16 : x_fe 138 16 = some (.iaload, 17) := by decide +kernel
theorem f_138_17 : x_fe 138 17 = some (.ifCond .ne (Int.ofNat 24), 20) := by decide +kernel
theorem f_138_20 : x_fe 138 20 = some (.iconst (1), 21) := by decide +kernel
theorem f_138_21 : x_fe 138 21 = some (.goto (Int.ofNat 25), 24) := by decide +kernel
theorem f_138_24 : x_fe 138 24 = some (.iconst (0), 25) := by decide +kernel
theorem f_138_25 : x_fe 138 25 = some (.ireturn, 26) := by decide +kernel
theorem f_139_0 : x_fe 139 0 = some (.aload 0, 1) := by decide +kernel
theorem f_139_1 : x_fe 139 1 = some (.getfield 192, 4) := by decide +kernel
theorem f_139_4 : x_fe 139 4 = some (.iconst (0), 5) := by decide +kernel
theorem f_139_5 : x_fe 139 5 = some (.iaload, 6) := by decide +kernel
theorem f_139_6 : x_fe 139 6 = some (.ifCond .ne (Int.ofNat 12), 9) := by decide +kernel
theorem f_139_9 : x_fe 139 9 = some (.iconst (-1000002), 11) := by decide +kernel
theorem f_139_11 : x_fe 139 11 = some (.ireturn, 12) := by decide +kernel
theorem f_139_12 : x_fe 139 12 = some (.iload 1, 13) := by decide +kernel
theorem f_139_13 : x_fe 139 13 = some (.i2l, 14) := by decide +kernel
theorem f_139_14 : x_fe 139 14 = some (.ldc2_w 0, 15) := by decide +kernel
theorem f_139_15 : x_fe 139 15 = some (.ldc2_w 1, 16) := by decide +kernel
theorem f_139_16 : x_fe 139 16 = some (.invokestatic 101, 19) := by decide +kernel
theorem f_139_19 : x_fe 139 19 = some (.ifCond .ne (Int.ofNat 25), 22) := by decide +kernel
theorem f_139_22 : x_fe 139 22 = some (.iconst (-1000001), 24) := by decide +kernel
theorem f_139_24 : x_fe 139 24 = some (.ireturn, 25) := by decide +kernel
theorem f_139_25 : x_fe 139 25 = some (.aload 0, 26) := by decide +kernel
theorem f_139_26 : x_fe 139 26 = some (.invokevirtual 138, 29) := by decide +kernel
theorem f_139_29 : x_fe 139 29 = some (.ifCond .ne (Int.ofNat 57), 32) := by decide +kernel
theorem f_139_32 : x_fe 139 32 = some (.aload 0, 33) := by decide +kernel
theorem f_139_33 : x_fe 139 33 = some (.getfield 192, 36) := by decide +kernel
theorem f_139_36 : x_fe 139 36 = some (.iconst (30), 38) := by decide +kernel
theorem f_139_38 : x_fe 139 38 = some (.iaload, 39) := by decide +kernel
theorem f_139_39 : x_fe 139 39 = some (.invokestatic 136, 42) := by decide +kernel
theorem f_139_42 : x_fe 139 42 = some (.aload 0, 43) := by decide +kernel
theorem f_139_43 : x_fe 139 43 = some (.getfield 192, 46) := by decide +kernel
theorem f_139_46 : x_fe 139 46 = some (.iconst (31), 48) := by decide +kernel
theorem f_139_48 : x_fe 139 48 = some (.iaload, 49) := by decide +kernel
theorem f_139_49 : x_fe 139 49 = some (.invokestatic 136, 52) := by decide +kernel
theorem f_139_52 : x_fe 139 52 = some (.iadd, 53) := by decide +kernel
theorem f_139_53 : x_fe 139 53 = some (.iconst (4), 54) := by decide +kernel
theorem f_139_54 : x_fe 139 54 = some (.if_icmp .le (Int.ofNat 60), 57) := by decide +kernel
theorem f_139_57 : x_fe 139 57 = some (.iconst (-1000000), 59) := by decide +kernel
theorem f_139_59 : x_fe 139 59 = some (.ireturn, 60) := by decide +kernel
theorem f_139_60 : x_fe 139 60 = some (.aload 0, 61) := by decide +kernel
theorem f_139_61 : x_fe 139 61 = some (.invokevirtual 140, 64) := by decide +kernel
theorem f_139_64 : x_fe 139 64 = some (.iload 1, 65) := by decide +kernel
theorem f_139_65 : x_fe 139 65 = some (.ifCond .ne (Int.ofNat 77), 68) := by decide +kernel
theorem f_139_68 : x_fe 139 68 = some (.aload 0, 69) := by decide +kernel
theorem f_139_69 : x_fe 139 69 = some (.getfield 216, 72) := by decide +kernel
theorem f_139_72 : x_fe 139 72 = some (.iconst (0), 73) := by decide +kernel
theorem f_139_73 : x_fe 139 73 = some (.iaload, 74) := by decide +kernel
theorem f_139_74 : x_fe 139 74 = some (.goto (Int.ofNat 81), 77) := by decide +kernel
theorem f_139_77 : x_fe 139 77 = some (.aload 0, 78) := by decide +kernel
theorem f_139_78 : x_fe 139 78 = some (.getfield 217, 81) := by decide +kernel
theorem f_139_81 : x_fe 139 81 = some (.ireturn, 82) := by decide +kernel
theorem f_140_0 : x_fe 140 0 = some (.aload 0, 1) := by decide +kernel
theorem f_140_1 : x_fe 140 1 = some (.getfield 213, 4) := by decide +kernel
theorem f_140_4 : x_fe 140 4 = some (.iconst (0), 5) := by decide +kernel
theorem f_140_5 : x_fe 140 5 = some (.aload 0, 6) := by decide +kernel
theorem f_140_6 : x_fe 140 6 = some (.getfield 192, 9) := by decide +kernel
theorem f_140_9 : x_fe 140 9 = some (.iconst (30), 11) := by decide +kernel
theorem f_140_11 : x_fe 140 11 = some (.iaload, 12) := by decide +kernel
theorem f_140_12 : x_fe 140 12 = some (.iastore, 13) := by decide +kernel
theorem f_140_13 : x_fe 140 13 = some (.aload 0, 14) := by decide +kernel
theorem f_140_14 : x_fe 140 14 = some (.getfield 213, 17) := by decide +kernel
theorem f_140_17 : x_fe 140 17 = some (.iconst (1), 18) := by decide +kernel
theorem f_140_18 : x_fe 140 18 = some (.aload 0, 19) := by decide +kernel
theorem f_140_19 : x_fe 140 19 = some (.getfield 192, 22) := by decide +kernel
theorem f_140_22 : x_fe 140 22 = some (.iconst (31), 24) := by decide +kernel
theorem f_140_24 : x_fe 140 24 = some (.iaload, 25) := by decide +kernel
theorem f_140_25 : x_fe 140 25 = some (.iastore, 26) := by decide +kernel
theorem f_140_26 : x_fe 140 26 = some (.aload 0, 27) := by decide +kernel
theorem f_140_27 : x_fe 140 27 = some (.iconst (0), 28) := by decide +kernel
theorem f_140_28 : x_fe 140 28 = some (.aload 0, 29) := by decide +kernel
theorem f_140_29 : x_fe 140 29 = some (.getfield 192, 32) := by decide +kernel
theorem f_140_32 : x_fe 140 32 = some (.iconst (25), 34) := by decide +kernel
theorem f_140_34 : x_fe 140 34 = some (.iaload, 35) := by decide +kernel
theorem f_140_35 : x_fe 140 35 = some (.aload 0, 36) := by decide +kernel
theorem f_140_36 : x_fe 140 36 = some (.getfield 192, 39) := by decide +kernel
theorem f_140_39 : x_fe 140 39 = some (.iconst (27), 41) := by decide +kernel
theorem f_140_41 : x_fe 140 41 = some (.iaload, 42) := by decide +kernel
theorem f_140_42 : x_fe 140 42 = some (.invokevirtual 141, 45) := by decide +kernel
theorem f_140_45 : x_fe 140 45 = some (.aload 0, 46) := by decide +kernel
theorem f_140_46 : x_fe 140 46 = some (.iconst (-1000000), 48) := by decide +kernel
theorem f_140_48 : x_fe 140 48 = some (.putfield 217, 51) := by decide +kernel
theorem f_140_51 : x_fe 140 51 = some (.iconst (0), 52) := by decide +kernel
theorem f_140_52 : x_fe 140 52 = some (.istore 1, 53) := by decide +kernel
theorem f_140_53 : x_fe 140 53 = some (.iload 1, 54) := by decide +kernel
theorem f_140_54 : x_fe 140 54 = some (.ifCond .lt (Int.ofNat 262), 57) := by decide +kernel
theorem f_140_57 : x_fe 140 57 = some (.aload 0, 58) := by decide +kernel
theorem f_140_58 : x_fe 140 58 = some (.getfield 213, 61) := by decide +kernel
theorem f_140_61 : x_fe 140 61 = some (.iconst (2), 62) := by decide +kernel
theorem f_140_62 : x_fe 140 62 = some (.iload 1, 63) := by decide +kernel
theorem f_140_63 : x_fe 140 63 = some (.imul, 64) := by decide +kernel
theorem f_140_64 : x_fe 140 64 = some (.iaload, 65) := by decide +kernel
theorem f_140_65 : x_fe 140 65 = some (.ifCond .ne (Int.ofNat 81), 68) := by decide +kernel
theorem f_140_68 : x_fe 140 68 = some (.aload 0, 69) := by decide +kernel
theorem f_140_69 : x_fe 140 69 = some (.getfield 213, 72) := by decide +kernel
theorem f_140_72 : x_fe 140 72 = some (.iconst (2), 73) := by decide +kernel
theorem f_140_73 : x_fe 140 73 = some (.iload 1, 74) := by decide +kernel
theorem f_140_74 : x_fe 140 74 = some (.imul, 75) := by decide +kernel
theorem f_140_75 : x_fe 140 75 = some (.iconst (1), 76) := by decide +kernel
theorem f_140_76 : x_fe 140 76 = some (.iadd, 77) := by decide +kernel
theorem f_140_77 : x_fe 140 77 = some (.iaload, 78) := by decide +kernel
theorem f_140_78 : x_fe 140 78 = some (.ifCond .eq (Int.ofNat 99), 81) := by decide +kernel
theorem f_140_81 : x_fe 140 81 = some (.aload 0, 82) := by decide +kernel
theorem f_140_82 : x_fe 140 82 = some (.getfield 214, 85) := by decide +kernel
theorem f_140_85 : x_fe 140 85 = some (.iload 1, 86) := by decide +kernel
theorem f_140_86 : x_fe 140 86 = some (.iaload, 87) := by decide +kernel
theorem f_140_87 : x_fe 140 87 = some (.iconst (8), 89) := by decide +kernel
theorem f_140_89 : x_fe 140 89 = some (.aload 0, 90) := by decide +kernel
theorem f_140_90 : x_fe 140 90 = some (.getfield 192, 93) := by decide +kernel
theorem f_140_93 : x_fe 140 93 = some (.iconst (1), 94) := by decide +kernel
theorem f_140_94 : x_fe 140 94 = some (.iaload, 95) := by decide +kernel
theorem f_140_95 : x_fe 140 95 = some (.imul, 96) := by decide +kernel
theorem f_140_96 : x_fe 140 96 = some (.if_icmp .ne (Int.ofNat 103), 99) := by decide +kernel
theorem f_140_99 : x_fe 140 99 = some (.iconst (1), 100) := by decide +kernel
theorem f_140_100 : x_fe 140 100 = some (.goto (Int.ofNat 104), 103) := by decide +kernel
theorem f_140_103 : x_fe 140 103 = some (.iconst (0), 104) := by decide +kernel
theorem f_140_104 : x_fe 140 104 = some (.istore 2, 105) := by decide +kernel
theorem f_140_105 : x_fe 140 105 = some (.iload 2, 106) := by decide +kernel
theorem f_140_106 : x_fe 140 106 = some (.ifCond .ne (Int.ofNat 123), 109) := by decide +kernel
theorem f_140_109 : x_fe 140 109 = some (.aload 0, 110) := by decide +kernel
theorem f_140_110 : x_fe 140 110 = some (.iload 1, 111) := by decide +kernel
theorem f_140_111 : x_fe 140 111 = some (.invokevirtual 142, 114) := by decide +kernel
theorem f_140_114 : x_fe 140 114 = some (.ifCond .eq (Int.ofNat 123), 117) := by decide +kernel
theorem f_140_117 : x_fe 140 117 = some (.iinc 1 (1), 120) := by decide +kernel
theorem f_140_120 : x_fe 140 120 = some (.goto (Int.ofNat 259), 123) := by decide +kernel
theorem f_140_123 : x_fe 140 123 = some (.iload 2, 124) := by decide +kernel
theorem f_140_124 : x_fe 140 124 = some (.ifCond .ne (Int.ofNat 140), 127) := by decide +kernel
theorem f_140_127 : x_fe 140 127 = some (.aload 0, 128) := by decide +kernel
theorem f_140_128 : x_fe 140 128 = some (.getfield 214, 131) := by decide +kernel
theorem f_140_131 : x_fe 140 131 = some (.iload 1, 132) := by decide +kernel
theorem f_140_132 : x_fe 140 132 = some (.dup2, 133) := by decide +kernel
theorem f_140_133 : x_fe 140 133 = some (.iaload, 134) := by decide +kernel
theorem f_140_134 : x_fe 140 134 = some (.iconst (1), 135) := by decide +kernel
theorem f_140_135 : x_fe 140 135 = some (.iadd, 136) := by decide +kernel
theorem f_140_136 : x_fe 140 136 = some (.iastore, 137) := by decide +kernel
theorem f_140_137 : x_fe 140 137 = some (.goto (Int.ofNat 259), 140) := by decide +kernel
theorem f_140_140 : x_fe 140 140 = some (.iinc 1 (-1), 143) := by decide +kernel
theorem f_140_143 : x_fe 140 143 = some (.iload 1, 144) := by decide +kernel
theorem f_140_144 : x_fe 140 144 = some (.ifCond .lt (Int.ofNat 259), 147) := by decide +kernel
theorem f_140_147 : x_fe 140 147 = some (.aload 0, 148) := by decide +kernel
theorem f_140_148 : x_fe 140 148 = some (.getfield 215, 151) := by decide +kernel
theorem f_140_151 : x_fe 140 151 = some (.iload 1, 152) := by decide +kernel
theorem f_140_152 : x_fe 140 152 = some (.iaload, 153) := by decide +kernel
theorem f_140_153 : x_fe 140 153 = some (.aload 0, 154) := by decide +kernel
theorem f_140_154 : x_fe 140 154 = some (.getfield 212, 157) := by decide +kernel
theorem f_140_157 : x_fe 140 157 = some (.iload 1, 158) := by decide +kernel
theorem f_140_158 : x_fe 140 158 = some (.iconst (1), 159) := by decide +kernel
theorem f_140_159 : x_fe 140 159 = some (.iadd, 160) := by decide +kernel
theorem f_140_160 : x_fe 140 160 = some (.iaload, 161) := by decide +kernel
theorem f_140_161 : x_fe 140 161 = some (.aload 0, 162) := by decide +kernel
theorem f_140_162 : x_fe 140 162 = some (.getfield 212, 165) := by decide +kernel
theorem f_140_165 : x_fe 140 165 = some (.iload 1, 166) := by decide +kernel
theorem f_140_166 : x_fe 140 166 = some (.iaload, 167) := by decide +kernel
theorem f_140_167 : x_fe 140 167 = some (.if_icmp .ne (Int.ofNat 181), 170) := by decide +kernel
theorem f_140_170 : x_fe 140 170 = some (.aload 0, 171) := by decide +kernel
theorem f_140_171 : x_fe 140 171 = some (.getfield 216, 174) := by decide +kernel
theorem f_140_174 : x_fe 140 174 = some (.iload 1, 175) := by decide +kernel
theorem f_140_175 : x_fe 140 175 = some (.iconst (1), 176) := by decide +kernel
theorem f_140_176 : x_fe 140 176 = some (.iadd, 177) := by decide +kernel
theorem f_140_177 : x_fe 140 177 = some (.iaload, 178) := by decide +kernel
theorem f_140_178 : x_fe 140 178 = some (.goto (Int.ofNat 190), 181) := by decide +kernel
theorem f_140_181 : x_fe 140 181 = some (.aload 0, 182) := by decide +kernel
theorem f_140_182 : x_fe 140 182 = some (.getfield 216, 185) := by decide +kernel
theorem f_140_185 : x_fe 140 185 = some (.iload 1, 186) := by decide +kernel
theorem f_140_186 : x_fe 140 186 = some (.iconst (1), 187) := by decide +kernel
theorem f_140_187 : x_fe 140 187 = some (.iadd, 188) := by decide +kernel
