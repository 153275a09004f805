theorem f_73_36 : x_fe 73 36 = some (.getfield 162, 39) := by decide +kernel
theorem f_73_39 : x_fe 73 39 = some (.getfield 6, 42) := by decide +kernel
theorem f_73_42 : x_fe 73 42 = some (.aload 0, 43) := by decide +kernel
theorem f_73_43 : x_fe 73 43 = some (.getfield 162, 46) := by decide +kernel
theorem f_73_46 : x_fe 73 46 = some (.iload 1, 47) := by decide +kernel
theorem f_73_47 : x_fe 73 47 = some (.iload 2, 48) := by decide +kernel
theorem f_73_48 : x_fe 73 48 = some (.invokevirtual 8, 51) := by decide +kernel
theorem f_73_51 : x_fe 73 51 = some (.iand, 52) := by decide +kernel
theorem f_73_52 : x_fe 73 52 = some (.istore 4, 54) := by decide +kernel
theorem f_73_54 : x_fe 73 54 = some (.aload 0, 55) := by decide +kernel
theorem f_73_55 : x_fe 73 55 = some (.getfield 162, 58) := by decide +kernel
theorem f_73_58 : x_fe 73 58 = some (.iload 4, 60) := by decide +kernel
theorem f_73_60 : x_fe 73 60 = some (.invokevirtual 9, 63) := by decide +kernel
theorem f_73_63 : x_fe 73 63 = some (.istore 5, 65) := by decide +kernel
theorem f_73_65 : x_fe 73 65 = some (.aload 0, 66) := by decide +kernel
theorem f_73_66 : x_fe 73 66 = some (.getfield 162, 69) := by decide +kernel
theorem f_73_69 : x_fe 73 69 = some (.invokevirtual 14, 72) := by decide +kernel
theorem f_73_72 : x_fe 73 72 = some (.istore 6, 74) := by decide +kernel
theorem f_73_74 : x_fe 73 74 = some (.iconst (8), 76) := by decide +kernel
theorem f_73_76 : x_fe 73 76 = some (.iload 6, 78) := by decide +kernel
theorem f_73_78 : x_fe 73 78 = some (.invokestatic 179, 81) := by decide +kernel
theorem f_73_81 : x_fe 73 81 = some (.imul, 82) := by decide +kernel
theorem f_73_82 : x_fe 73 82 = some (.istore 7, 84) := by decide +kernel
theorem f_73_84 : x_fe 73 84 = some (.iload 7, 86) := by decide +kernel
theorem f_73_86 : x_fe 73 86 = some (.ifCond .ne (Int.ofNat 100), 89) := by decide +kernel
theorem f_73_89 : x_fe 73 89 = some (.iload 3, 90) := by decide +kernel
theorem f_73_90 : x_fe 73 90 = some (.ifCond .ne (Int.ofNat 98), 93) := by decide +kernel
theorem f_73_93 : x_fe 73 93 = some (.iload 5, 95) := by decide +kernel
theorem f_73_95 : x_fe 73 95 = some (.goto (Int.ofNat 99), 98) := by decide +kernel
theorem f_73_98 : x_fe 73 98 = some (.iconst (1), 99) := by decide +kernel
theorem f_73_99 : x_fe 73 99 = some (.ireturn, 100) := by decide +kernel
theorem f_73_100 : x_fe 73 100 = some (.iload 5, 102) := by decide +kernel
theorem f_73_102 : x_fe 73 102 = some (.iload 7, 104) := by decide +kernel
theorem f_73_104 : x_fe 73 104 = some (.imul, 105) := by decide +kernel
theorem f_73_105 : x_fe 73 105 = some (.aload 0, 106) := by decide +kernel
theorem f_73_106 : x_fe 73 106 = some (.getfield 162, 109) := by decide +kernel
theorem f_73_109 : x_fe 73 109 = some (.iload 6, 111) := by decide +kernel
theorem f_73_111 : x_fe 73 111 = some (.iload 4, 113) := by decide +kernel
theorem f_73_113 : x_fe 73 113 = some (.ifCond .ne (Int.ofNat 122), 116) := by decide +kernel
theorem f_73_116 : x_fe 73 116 = some (.iconst (511), 119) := by decide +kernel
theorem f_73_119 : x_fe 73 119 = some (.goto (Int.ofNat 124), 122) := by decide +kernel
theorem f_73_122 : x_fe 73 122 = some (.iload 4, 124) := by decide +kernel
theorem f_73_124 : x_fe 73 124 = some (.invokestatic 74, 127) := by decide +kernel
theorem f_73_127 : x_fe 73 127 = some (.isub, 128) := by decide +kernel
theorem f_73_128 : x_fe 73 128 = some (.istore 8, 130) := by decide +kernel
theorem f_73_130 : x_fe 73 130 = some (.iload 8, 132) := by decide +kernel
theorem f_73_132 : x_fe 73 132 = some (.f2d, 135) := by decide +kernel
theorem f_73_135 : x_fe 73 135 = some (.iload 7, 137) := by decide +kernel
theorem f_73_137 : x_fe 73 137 = some (.invokestatic 75, 140) := by decide +kernel
theorem f_73_140 : x_fe 73 140 = some (.istore 9, 142) := by decide +kernel
theorem f_73_142 : x_fe 73 142 = some (.iload 3, 143) := by decide +kernel
theorem f_73_143 : x_fe 73 143 = some (.ifCond .ne (Int.ofNat 151), 146) := by decide +kernel
theorem f_73_146 : x_fe 73 146 = some (.iload 8, 148) := by decide +kernel
theorem f_73_148 : x_fe 73 148 = some (.goto (Int.ofNat 153), 151) := by decide +kernel
theorem f_73_151 : x_fe 73 151 = some (.iload 7, 153) := by decide +kernel
theorem f_73_153 : x_fe 73 153 = some (.iload 9, 155) := by decide +kernel
theorem f_73_155 : x_fe 73 155 = some (.idiv, 156) := by decide +kernel
theorem f_73_156 : x_fe 73 156 = some (.ireturn, 157) := by decide +kernel
theorem f_74_0 : x_fe 74 0 = some (.iconst (0), 1) := by decide +kernel
theorem f_74_1 : x_fe 74 1 = some (.istore 3, 2) := by decide +kernel
theorem f_74_2 : x_fe 74 2 = some (.iconst (0), 3) := by decide +kernel
theorem f_74_3 : x_fe 74 3 = some (.istore 4, 5) := by decide +kernel
theorem f_74_5 : x_fe 74 5 = some (.iload 4, 7) := by decide +kernel
theorem f_74_7 : x_fe 74 7 = some (.aload 0, 8) := by decide +kernel
theorem f_74_8 : x_fe 74 8 = some (.getfield 5, 11) := by decide +kernel
theorem f_74_11 : x_fe 74 11 = some (.if_icmp .ge (Int.ofNat 65), 14) := by decide +kernel
theorem f_74_14 : x_fe 74 14 = some (.iload 1, 15) := by decide +kernel
theorem f_74_15 : x_fe 74 15 = some (.iload 4, 17) := by decide +kernel
theorem f_74_17 : x_fe 74 17 = some (.ishr, 18) := by decide +kernel
theorem f_74_18 : x_fe 74 18 = some (.iconst (1), 19) := by decide +kernel
theorem f_74_19 : x_fe 74 19 = some (.iand, 20) := by decide +kernel
theorem f_74_20 : x_fe 74 20 = some (.ifCond .ne (Int.ofNat 26), 23) := by decide +kernel
theorem f_74_23 : x_fe 74 23 = some (.goto (Int.ofNat 59), 26) := by decide +kernel
theorem f_74_26 : x_fe 74 26 = some (.iconst (0), 27) := by decide +kernel
theorem f_74_27 : x_fe 74 27 = some (.istore 5, 29) := by decide +kernel
theorem f_74_29 : x_fe 74 29 = some (.iload 5, 31) := by decide +kernel
theorem f_74_31 : x_fe 74 31 = some (.iconst (8), 33) := by decide +kernel
theorem f_74_33 : x_fe 74 33 = some (.if_icmp .ge (Int.ofNat 59), 36) := by decide +kernel
theorem f_74_36 : x_fe 74 36 = some (.iload 3, 37) := by decide +kernel
theorem f_74_37 : x_fe 74 37 = some (.aload 0, 38) := by decide +kernel
theorem f_74_38 : x_fe 74 38 = some (.iload 2, 39) := by decide +kernel
theorem f_74_39 : x_fe 74 39 = some (.aload 0, 40) := by decide +kernel
theorem f_74_40 : x_fe 74 40 = some (.iload 4, 42) := by decide +kernel
theorem f_74_42 : x_fe 74 42 = some (.iload 5, 44) := by decide +kernel
theorem f_74_44 : x_fe 74 44 = some (.invokevirtual 8, 47) := by decide +kernel
theorem f_74_47 : x_fe 74 47 = some (.iand, 48) := by decide +kernel
theorem f_74_48 : x_fe 74 48 = some (.invokevirtual 9, 51) := by decide +kernel
theorem f_74_51 : x_fe 74 51 = some (.iadd, 52) := by decide +kernel
theorem f_74_52 : x_fe 74 52 = some (.istore 3, 53) := by decide +kernel
theorem f_74_53 : x_fe 74 53 = some (.iinc 5 (1), 56) := by decide +kernel
theorem f_74_56 : x_fe 74 56 = some (.goto (Int.ofNat 29), 59) := by decide +kernel
theorem f_74_59 : x_fe 74 59 = some (.iinc 4 (1), 62) := by decide +kernel
theorem f_74_62 : x_fe 74 62 = some (.goto (Int.ofNat 5), 65) := by decide +kernel
theorem f_74_65 : x_fe 74 65 = some (.iload 3, 66) := by decide +kernel
theorem f_74_66 : x_fe 74 66 = some (.ireturn, 67) := by decide +kernel
theorem f_75_0 : x_fe 75 0 = some (.iload 0, 1) := by decide +kernel
theorem f_75_1 : x_fe 75 1 = some (.istore 2, 2) := by decide +kernel
theorem f_75_2 : x_fe 75 2 = some (.iload 1, 3) := by decide +kernel
theorem f_75_3 : x_fe 75 3 = some (.iconst (1), 4) := by decide +kernel
theorem f_75_4 : x_fe 75 4 = some (.f2i, 7) := by decide +kernel
theorem f_75_7 : x_fe 75 7 = some (.istore 3, 8) := by decide +kernel
theorem f_75_8 : x_fe 75 8 = some (.iconst (0), 9) := by decide +kernel
theorem f_75_9 : x_fe 75 9 = some (.istore 4, 11) := by decide +kernel
theorem f_75_11 : x_fe 75 11 = some (.iload 4, 13) := by decide +kernel
theorem f_75_13 : x_fe 75 13 = some (.iconst (1000), 16) := by decide +kernel
theorem f_75_16 : x_fe 75 16 = some (.if_icmp .ge (Int.ofNat 42), 19) := by decide +kernel
theorem f_75_19 : x_fe 75 19 = some (.iload 2, 20) := by decide +kernel
theorem f_75_20 : x_fe 75 20 = some (.iload 3, 21) := by decide +kernel
theorem f_75_21 : x_fe 75 21 = some (.irem, 22) := by decide +kernel
theorem f_75_22 : x_fe 75 22 = some (.istore 5, 24) := by decide +kernel
theorem f_75_24 : x_fe 75 24 = some (.iload 5, 26) := by decide +kernel
theorem f_75_26 : x_fe 75 26 = some (.ifCond .ne (Int.ofNat 31), 29) := by decide +kernel
theorem f_75_29 : x_fe 75 29 = some (.iload 3, 30) := by decide +kernel
theorem f_75_30 : x_fe 75 30 = some (.ireturn, 31) := by decide +kernel
theorem f_75_31 : x_fe 75 31 = some (.iload 3, 32) := by decide +kernel
theorem f_75_32 : x_fe 75 32 = some (.istore 2, 33) := by decide +kernel
theorem f_75_33 : x_fe 75 33 = some (.iload 5, 35) := by decide +kernel
theorem f_75_35 : x_fe 75 35 = some (.istore 3, 36) := by decide +kernel
theorem f_75_36 : x_fe 75 36 = some (.iinc 4 (1), 39) := by decide +kernel
theorem f_75_39 : x_fe 75 39 = some (.goto (Int.ofNat 11), 42) := by decide +kernel
theorem f_75_42 : x_fe 75 42 = some (.iconst (1), 43) := by decide +kernel
theorem f_75_43 : x_fe 75 43 = some (.ireturn, 44) := by decide +kernel
theorem f_76_0 : x_fe 76 0 = some (.aload 0, 1) := by decide +kernel
theorem f_76_1 : x_fe 76 1 = some (.getfield 162, 4) := by decide +kernel
theorem f_76_4 : x_fe 76 4 = some (.getfield 4, 7) := by decide +kernel
theorem f_76_7 : x_fe 76 7 = some (.ifCond .ne (Int.ofNat 13), 10) := by decide +kernel
theorem f_76_10 : x_fe 76 10 = some (.iconst (-1000002), 12) := by decide +kernel
theorem f_76_12 : x_fe 76 12 = some (.ireturn, 13) := by decide +kernel
theorem f_76_13 : x_fe 76 13 = some (.iload 1, 14) := by decide +kernel
theorem f_76_14 : x_fe 76 14 = some (.invokestatic 62, 17) := by decide +kernel
theorem f_76_17 : x_fe 76 17 = some (.ifCond .eq (Int.ofNat 25), 20) := by decide +kernel
theorem f_76_20 : x_fe 76 20 = some (.iload 2, 21) := by decide +kernel
theorem f_76_21 : x_fe 76 21 = some (.iconst (-1), 22) := by decide +kernel
theorem f_76_22 : x_fe 76 22 = some (.if_icmp .ge (Int.ofNat 28), 25) := by decide +kernel
theorem f_76_25 : x_fe 76 25 = some (.iconst (-1000001), 27) := by decide +kernel
theorem f_76_27 : x_fe 76 27 = some (.ireturn, 28) := by decide +kernel
theorem f_76_28 : x_fe 76 28 = some (.iconst (0), 29) := by decide +kernel
theorem f_76_29 : x_fe 76 29 = some (.istore 3, 30) := by decide +kernel
theorem f_76_30 : x_fe 76 30 = some (.iload 3, 31) := by decide +kernel
theorem f_76_31 : x_fe 76 31 = some (.iconst (3), 32) := by decide +kernel
theorem f_76_32 : x_fe 76 32 = some (.if_icmp .gt (Int.ofNat 95), 35) := by decide +kernel
theorem f_76_35 : x_fe 76 35 = some (.aload 0, 36) := by decide +kernel
theorem f_76_36 : x_fe 76 36 = some (.getfield 162, 39) := by decide +kernel
theorem f_76_39 : x_fe 76 39 = some (.aload 0, 40) := by decide +kernel
theorem f_76_40 : x_fe 76 40 = some (.getfield 166, 43) := by decide +kernel
theorem f_76_43 : x_fe 76 43 = some (.iload 1, 44) := by decide +kernel
theorem f_76_44 : x_fe 76 44 = some (.iconst (511), 47) := by decide +kernel
theorem f_76_47 : x_fe 76 47 = some (.iconst (0), 48) := by decide +kernel
theorem f_76_48 : x_fe 76 48 = some (.iconst (0), 49) := by decide +kernel
theorem f_76_49 : x_fe 76 49 = some (.iload 3, 50) := by decide +kernel
theorem f_76_50 : x_fe 76 50 = some (.invokestatic 77, 53) := by decide +kernel
theorem f_76_53 : x_fe 76 53 = some (.ifCond .eq (Int.ofNat 89), 56) := by decide +kernel
theorem f_76_56 : x_fe 76 56 = some (.iload 2, 57) := by decide +kernel
theorem f_76_57 : x_fe 76 57 = some (.iconst (-1), 58) := by decide +kernel
theorem f_76_58 : x_fe 76 58 = some (.if_icmp .ne (Int.ofNat 63), 61) := by decide +kernel
theorem f_76_61 : x_fe 76 61 = some (.iload 3, 62) := by decide +kernel
theorem f_76_62 : x_fe 76 62 = some (.ireturn, 63) := by decide +kernel
theorem f_76_63 : x_fe 76 63 = some (.iload 2, 64) := by decide +kernel
theorem f_76_64 : x_fe 76 64 = some (.iload 3, 65) := by decide +kernel
theorem f_76_65 : x_fe 76 65 = some (.if_icmp .ge (Int.ofNat 86), 68) := by decide +kernel
theorem f_76_68 : x_fe 76 68 = some (.iload 2, 69) := by decide +kernel
theorem f_76_69 : x_fe 76 69 = some (.aload 0, 70) := by decide +kernel
theorem f_76_70 : x_fe 76 70 = some (.getfield 166, 73) := by decide +kernel
theorem f_76_73 : x_fe 76 73 = some (.arraylength, 74) := by decide +kernel
theorem f_76_74 : x_fe 76 74 = some (.if_icmp .ge (Int.ofNat 86), 77) := by decide +kernel
theorem f_76_77 : x_fe 76 77 = some (.aload 0, 78) := by decide +kernel
theorem f_76_78 : x_fe 76 78 = some (.getfield 166, 81) := by decide +kernel
theorem f_76_81 : x_fe 76 81 = some (.iload 2, 82) := by decide +kernel
theorem f_76_82 : x_fe 76 82 = some (.iaload, 83) := by decide +kernel
theorem f_76_83 : x_fe 76 83 = some (.goto (Int.ofNat 88), 86) := by decide +kernel
theorem f_76_86 : x_fe 76 86 = some (.iconst (-1000000), 88) := by decide +kernel
theorem f_76_88 : x_fe 76 88 = some (.ireturn, 89) := by decide +kernel
theorem f_76_89 : x_fe 76 89 = some (.iinc 3 (1), 92) := by decide +kernel
theorem f_76_92 : x_fe 76 92 = some (.goto (Int.ofNat 30), 95) := by decide +kernel
theorem f_76_95 : x_fe 76 95 = some (.iconst (-1000000), 97) := by decide +kernel
theorem f_76_97 : x_fe 76 97 = some (.ireturn, 98) := by decide +kernel
theorem f_77_0 : x_fe 77 0 = some (.iload 5, 2) := by decide +kernel
theorem f_77_2 : x_fe 77 2 = some (.iload 6, 4) := by decide +kernel
theorem f_77_4 : x_fe 77 4 = some (.if_icmp .ge (Int.ofNat 14), 7) := by decide +kernel
theorem f_77_7 : x_fe 77 7 = some (.iload 5, 9) := by decide +kernel
theorem f_77_9 : x_fe 77 9 = some (.aload 1, 10) := by decide +kernel
theorem f_77_10 : x_fe 77 10 = some (.arraylength, 11) := by decide +kernel
theorem f_77_11 : x_fe 77 11 = some (.if_icmp .lt (Int.ofNat 25), 14) := by decide +kernel
theorem f_77_14 : x_fe 77 14 = some (.iload 3, 15) := by decide +kernel
theorem f_77_15 : x_fe 77 15 = some (.iload 2, 16) := by decide +kernel
theorem f_77_16 : x_fe 77 16 = some (.if_icmp .ne (Int.ofNat 23), 19) := by decide +kernel
theorem f_77_19 : x_fe 77 19 = some (.iconst (1), 20) := by decide +kernel
theorem f_77_20 : x_fe 77 20 = some (.goto (Int.ofNat 24), 23) := by decide +kernel
theorem f_77_23 : x_fe 77 23 = some (.iconst (0), 24) := by decide +kernel
theorem f_77_24 : x_fe 77 24 = some (.ireturn, 25) := by decide +kernel
theorem f_77_25 : x_fe 77 25 = some (.iload 4, 27) := by decide +kernel
theorem f_77_27 : x_fe 77 27 = some (.istore 7, 29) := by decide +kernel
theorem f_77_29 : x_fe 77 29 = some (.iload 7, 31) := by decide +kernel
theorem f_77_31 : x_fe 77 31 = some (.aload 0, 32) := by decide +kernel
theorem f_77_32 : x_fe 77 32 = some (.getfield 5, 35) := by decide +kernel
theorem f_77_35 : x_fe 77 35 = some (.if_icmp .ge (Int.ofNat 118), 38) := by decide +kernel
theorem f_77_38 : x_fe 77 38 = some (.iconst (0), 39) := by decide +kernel
theorem f_77_39 : x_fe 77 39 = some (.istore 8, 41) := by decide +kernel
theorem f_77_41 : x_fe 77 41 = some (.iload 8, 43) := by decide +kernel
theorem f_77_43 : x_fe 77 43 = some (.iconst (8), 45) := by decide +kernel
theorem f_77_45 : x_fe 77 45 = some (.if_icmp .ge (Int.ofNat 112), 48) := by decide +kernel
theorem f_77_48 : x_fe 77 48 = some (.aload 0, 49) := by decide +kernel
theorem f_77_49 : x_fe 77 49 = some (.iload 7, 51) := by decide +kernel
theorem f_77_51 : x_fe 77 51 = some (.iload 8, 53) := by decide +kernel
theorem f_77_53 : x_fe 77 53 = some (.invokevirtual 8, 56) := by decide +kernel
theorem f_77_56 : x_fe 77 56 = some (.istore 9, 58) := by decide +kernel
theorem f_77_58 : x_fe 77 58 = some (.iload 9, 60) := by decide +kernel
theorem f_77_60 : x_fe 77 60 = some (.iload 2, 61) := by decide +kernel
theorem f_77_61 : x_fe 77 61 = some (.iand, 62) := by decide +kernel
theorem f_77_62 : x_fe 77 62 = some (.iload 2, 63) := by decide +kernel
theorem f_77_63 : x_fe 77 63 = some (.if_icmp .eq (Int.ofNat 69), 66) := by decide +kernel
theorem f_77_66 : x_fe 77 66 = some (.goto (Int.ofNat 106), 69) := by decide +kernel
theorem f_77_69 : x_fe 77 69 = some (.aload 1, 70) := by decide +kernel
theorem f_77_70 : x_fe 77 70 = some (.iload 5, 72) := by decide +kernel
theorem f_77_72 : x_fe 77 72 = some (.iconst (8), 74) := by decide +kernel
theorem f_77_74 : x_fe 77 74 = some (.iload 7, 76) := by decide +kernel
theorem f_77_76 : x_fe 77 76 = some (.imul, 77) := by decide +kernel
theorem f_77_77 : x_fe 77 77 = some (.iload 8, 79) := by decide +kernel
theorem f_77_79 : x_fe 77 79 = some (.iadd, 80) := by decide +kernel
theorem f_77_80 : x_fe 77 80 = some (.iastore, 81) := by decide +kernel
theorem f_77_81 : x_fe 77 81 = some (.aload 0, 82) := by decide +kernel
theorem f_77_82 : x_fe 77 82 = some (.aload 1, 83) := by decide +kernel
theorem f_77_83 : x_fe 77 83 = some (.iload 2, 84) := by decide +kernel
theorem f_77_84 : x_fe 77 84 = some (.iload 3, 85) := by decide +kernel
theorem f_77_85 : x_fe 77 85 = some (.iload 9, 87) := by decide +kernel
theorem f_77_87 : x_fe 77 87 = some (.iand, 88) := by decide +kernel
theorem f_77_88 : x_fe 77 88 = some (.iload 7, 90) := by decide +kernel
theorem f_77_90 : x_fe 77 90 = some (.iconst (1), 91) := by decide +kernel
theorem f_77_91 : x_fe 77 91 = some (.iadd, 92) := by decide +kernel
theorem f_77_92 : x_fe 77 92 = some (.iload 5, 94) := by decide +kernel
theorem f_77_94 : x_fe 77 94 = some (.iconst (1), 95) := by decide +kernel
theorem f_77_95 : x_fe 77 95 = some (.iadd, 96) := by decide +kernel
theorem f_77_96 : x_fe 77 96 = some (.iload 6, 98) := by decide +kernel
theorem f_77_98 : x_fe 77 98 = some (.invokestatic 77, 101) := by decide +kernel
theorem f_77_101 : x_fe 77 101 = some (.ifCond .eq (Int.ofNat 106), 104) := by decide +kernel
theorem f_77_104 : x_fe 77 104 = some (.iconst (1), 105) := by decide +kernel
theorem f_77_105 : x_fe 77 105 = some (.ireturn, 106) := by decide +kernel
theorem f_77_106 : x_fe 77 106 = some (.iinc 8 (1), 109) := by decide +kernel
theorem f_77_109 : x_fe 77 109 = some (.goto (Int.ofNat 41), 112) := by decide +kernel
theorem f_77_112 : x_fe 77 112 = some (.iinc 7 (1), 115) := by decide +kernel
theorem f_77_115 : x_fe 77 115 = some (.goto (Int.ofNat 29), 118) := by decide +kernel
theorem f_77_118 : x_fe 77 118 = some (.iconst (0), 119) := by decide +kernel
theorem f_77_119 : x_fe 77 119 = some (.ireturn, 120) := by decide +kernel
theorem f_78_0 : x_fe 78 0 = some (.aload 0, 1) := by decide +kernel
theorem f_78_1 : x_fe 78 1 = some (.getfield 162, 4) := by decide +kernel
theorem f_78_4 : x_fe 78 4 = some (.getfield 4, 7) := by decide +kernel
theorem f_78_7 : x_fe 78 7 = some (.ifCond .ne (Int.ofNat 13), 10) := by decide +kernel
theorem f_78_10 : x_fe 78 10 = some (.iconst (-1000002), 12) := by decide +kernel
theorem f_78_12 : x_fe 78 12 = some (.ireturn, 13) := by decide +kernel
theorem f_78_13 : x_fe 78 13 = some (.iload 1, 14) := by decide +kernel
theorem f_78_14 : x_fe 78 14 = some (.iconst (-1), 15) := by decide +kernel
theorem f_78_15 : x_fe 78 15 = some (.if_icmp .ge (Int.ofNat 21), 18) := by decide +kernel
theorem f_78_18 : x_fe 78 18 = some (.iconst (-1000001), 20) := by decide +kernel
theorem f_78_20 : x_fe 78 20 = some (.ireturn, 21) := by decide +kernel
theorem f_78_21 : x_fe 78 21 = some (.iconst (0), 22) := by decide +kernel
theorem f_78_22 : x_fe 78 22 = some (.istore 2, 23) := by decide +kernel
theorem f_78_23 : x_fe 78 23 = some (.iconst (0), 24) := by decide +kernel
theorem f_78_24 : x_fe 78 24 = some (.istore 3, 25) := by decide +kernel
theorem f_78_25 : x_fe 78 25 = some (.iload 3, 26) := by decide +kernel
theorem f_78_26 : x_fe 78 26 = some (.aload 0, 27) := by decide +kernel
theorem f_78_27 : x_fe 78 27 = some (.getfield 162, 30) := by decide +kernel
theorem f_78_30 : x_fe 78 30 = some (.getfield 5, 33) := by decide +kernel
theorem f_78_33 : x_fe 78 33 = some (.if_icmp .ge (Int.ofNat 130), 36) := by decide +kernel
theorem f_78_36 : x_fe 78 36 = some (.iload 3, 37) := by decide +kernel
theorem f_78_37 : x_fe 78 37 = some (.iconst (1), 38) := by decide +kernel
theorem f_78_38 : x_fe 78 38 = some (.iadd, 39) := by decide +kernel
theorem f_78_39 : x_fe 78 39 = some (.istore 4, 41) := by decide +kernel
theorem f_78_41 : x_fe 78 41 = some (.iload 4, 43) := by decide +kernel
theorem f_78_43 : x_fe 78 43 = some (.aload 0, 44) := by decide +kernel
theorem f_78_44 : x_fe 78 44 = some (.getfield 162, 47) := by decide +kernel
theorem f_78_47 : x_fe 78 47 = some (.getfield 5, 50) := by decide +kernel
theorem f_78_50 : x_fe 78 50 = some (.if_icmp .ge (Int.ofNat 124), 53) := by decide +kernel
theorem f_78_53 : x_fe 78 53 = some (.iload 4, 55) := by decide +kernel
theorem f_78_55 : x_fe 78 55 = some (.iconst (1), 56) := by decide +kernel
theorem f_78_56 : x_fe 78 56 = some (.iadd, 57) := by decide +kernel
theorem f_78_57 : x_fe 78 57 = some (.istore 5, 59) := by decide +kernel
theorem f_78_59 : x_fe 78 59 = some (.iload 5, 61) := by decide +kernel
theorem f_78_61 : x_fe 78 61 = some (.aload 0, 62) := by decide +kernel
theorem f_78_62 : x_fe 78 62 = some (.getfield 162, 65) := by decide +kernel
theorem f_78_65 : x_fe 78 65 = some (.getfield 5, 68) := by decide +kernel
theorem f_78_68 : x_fe 78 68 = some (.if_icmp .ge (Int.ofNat 118), 71) := by decide +kernel
theorem f_78_71 : x_fe 78 71 = some (.aload 0, 72) := by decide +kernel
theorem f_78_72 : x_fe 78 72 = some (.getfield 162, 75) := by decide +kernel
theorem f_78_75 : x_fe 78 75 = some (.iload 3, 76) := by decide +kernel
theorem f_78_76 : x_fe 78 76 = some (.iload 4, 78) := by decide +kernel
theorem f_78_78 : x_fe 78 78 = some (.iload 5, 80) := by decide +kernel
theorem f_78_80 : x_fe 78 80 = some (.invokestatic 79, 83) := by decide +kernel
theorem f_78_83 : x_fe 78 83 = some (.ifCond .ne (Int.ofNat 89), 86) := by decide +kernel
theorem f_78_86 : x_fe 78 86 = some (.goto (Int.ofNat 112), 89) := by decide +kernel
theorem f_78_89 : x_fe 78 89 = some (.iload 2, 90) := by decide +kernel
theorem f_78_90 : x_fe 78 90 = some (.iload 1, 91) := by decide +kernel
theorem f_78_91 : x_fe 78 91 = some (.if_icmp .ne (Int.ofNat 109), 94) := by decide +kernel
theorem f_78_94 : x_fe 78 94 = some (.iconst (400), 97) := by decide +kernel
theorem f_78_97 : x_fe 78 97 = some (.iload 3, 98) := by decide +kernel
theorem f_78_98 : x_fe 78 98 = some (.imul, 99) := by decide +kernel
theorem f_78_99 : x_fe 78 99 = some (.iconst (20), 101) := by decide +kernel
theorem f_78_101 : x_fe 78 101 = some (.iload 4, 103) := by decide +kernel
theorem f_78_103 : x_fe 78 103 = some (.imul, 104) := by decide +kernel
theorem f_78_104 : x_fe 78 104 = some (.iadd, 105) := by decide +kernel
theorem f_78_105 : x_fe 78 105 = some (.iload 5, 107) := by decide +kernel
theorem f_78_107 : x_fe 78 107 = some (.iadd, 108) := by decide +kernel
theorem f_78_108 : x_fe 78 108 = some (.ireturn, 109) := by decide +kernel
theorem f_78_109 : x_fe 78 109 = some (.iinc 2 (1), 112) := by decide +kernel
theorem f_78_112 : x_fe 78 112 = some (.iinc 5 (1), 115) := by decide +kernel
theorem f_78_115 : x_fe 78 115 = some (.goto (Int.ofNat 59), 118) := by decide +kernel
theorem f_78_118 : x_fe 78 118 = some (.iinc 4 (1), 121) := by decide +kernel
theorem f_78_121 : x_fe 78 121 = some (.goto (Int.ofNat 41), 124) := by decide +kernel
theorem f_78_124 : x_fe 78 124 = some (.iinc 3 (1), 127) := by decide +kernel
theorem f_78_127 : x_fe 78 127 = some (.goto (Int.ofNat 25), 130) := by decide +kernel
theorem f_78_130 : x_fe 78 130 = some (.iload 1, 131) := by decide +kernel
theorem f_78_131 : x_fe 78 131 = some (.iconst (-1), 132) := by decide +kernel
theorem f_78_132 : x_fe 78 132 = some (.if_icmp .ne (Int.ofNat 139), 135) := by decide +kernel
theorem f_78_135 : x_fe 78 135 = some (.iload 2, 136) := by decide +kernel
theorem f_78_136 : x_fe 78 136 = some (.goto (Int.ofNat 141), 139) := by decide +kernel
theorem f_78_139 : x_fe 78 139 = some (.iconst (-1000000), 141) := by decide +kernel
theorem f_78_141 : x_fe 78 141 = some (.ireturn, 142) := by decide +kernel
theorem f_79_0 : x_fe 79 0 = some (.iconst (0), 1) := by decide +kernel
theorem f_79_1 : x_fe 79 1 = some (.istore 4, 3) := by decide +kernel
theorem f_79_3 : x_fe 79 3 = some (.iload 4, 5) := by decide +kernel
theorem f_79_5 : x_fe 79 5 = some (.iconst (8), 7) := by decide +kernel
theorem f_79_7 : x_fe 79 7 = some (.if_icmp .ge (Int.ofNat 63), 10) := by decide +kernel
theorem f_79_10 : x_fe 79 10 = some (.aload 0, 11) := by decide +kernel
theorem f_79_11 : x_fe 79 11 = some (.iload 1, 12) := by decide +kernel
theorem f_79_12 : x_fe 79 12 = some (.iconst (0), 13) := by decide +kernel
theorem f_79_13 : x_fe 79 13 = some (.invokevirtual 8, 16) := by decide +kernel
theorem f_79_16 : x_fe 79 16 = some (.aload 0, 17) := by decide +kernel
theorem f_79_17 : x_fe 79 17 = some (.iload 2, 18) := by decide +kernel
theorem f_79_18 : x_fe 79 18 = some (.iload 4, 20) := by decide +kernel
theorem f_79_20 : x_fe 79 20 = some (.invokevirtual 8, 23) := by decide +kernel
theorem f_79_23 : x_fe 79 23 = some (.iand, 24) := by decide +kernel
theorem f_79_24 : x_fe 79 24 = some (.istore 5, 26) := by decide +kernel
theorem f_79_26 : x_fe 79 26 = some (.iconst (0), 27) := by decide +kernel
theorem f_79_27 : x_fe 79 27 = some (.istore 6, 29) := by decide +kernel
theorem f_79_29 : x_fe 79 29 = some (.iload 6, 31) := by decide +kernel
theorem f_79_31 : x_fe 79 31 = some (.iconst (8), 33) := by decide +kernel
theorem f_79_33 : x_fe 79 33 = some (.if_icmp .ge (Int.ofNat 57), 36) := by decide +kernel
theorem f_79_36 : x_fe 79 36 = some (.iload 5, 38) := by decide +kernel
theorem f_79_38 : x_fe 79 38 = some (.aload 0, 39) := by decide +kernel
theorem f_79_39 : x_fe 79 39 = some (.iload 3, 40) := by decide +kernel
theorem f_79_40 : x_fe 79 40 = some (.iload 6, 42) := by decide +kernel
theorem f_79_42 : x_fe 79 42 = some (.invokevirtual 8, 45) := by decide +kernel
theorem f_79_45 : x_fe 79 45 = some (.iand, 46) := by decide +kernel
theorem f_79_46 : x_fe 79 46 = some (.ifCond .ne (Int.ofNat 51), 49) := by decide +kernel
theorem f_79_49 : x_fe 79 49 = some (.iconst (1), 50) := by decide +kernel
theorem f_79_50 : x_fe 79 50 = some (.ireturn, 51) := by decide +kernel
theorem f_79_51 : x_fe 79 51 = some (.iinc 6 (1), 54) := by decide +kernel
theorem f_79_54 : x_fe 79 54 = some (.goto (Int.ofNat 29), 57) := by decide +kernel
theorem f_79_57 : x_fe 79 57 = some (.iinc 4 (1), 60) := by decide +kernel
theorem f_79_60 : x_fe 79 60 = some (.goto (Int.ofNat 3), 63) := by decide +kernel
theorem f_79_63 : x_fe 79 63 = some (.iconst (0), 64) := by decide +kernel
theorem f_79_64 : x_fe 79 64 = some (.ireturn, 65) := by decide +kernel
theorem f_80_0 : x_fe 80 0 = some (.aload 0, 1) := by decide +kernel
theorem f_80_1 : x_fe 80 1 = some (.iload 1, 2) := by decide +kernel
theorem f_80_2 : x_fe 80 2 = some (.invokevirtual 60, 5) := by decide +kernel
theorem f_80_5 : x_fe 80 5 = some (.ifCond .eq (Int.ofNat 17), 8) := by decide +kernel
theorem f_80_8 : x_fe 80 8 = some (.iload 2, 9) := by decide +kernel
theorem f_80_9 : x_fe 80 9 = some (.ifCond .lt (Int.ofNat 17), 12) := by decide +kernel
theorem f_80_12 : x_fe 80 12 = some (.iload 2, 13) := by decide +kernel
theorem f_80_13 : x_fe 80 13 = some (.iconst (1), 14) := by decide +kernel
theorem f_80_14 : x_fe 80 14 = some (.if_icmp .le (Int.ofNat 20), 17) := by decide +kernel
theorem f_80_17 : x_fe 80 17 = some (.iconst (-1000001), 19) := by decide +kernel
theorem f_80_19 : x_fe 80 19 = some (.ireturn, 20) := by decide +kernel
theorem f_80_20 : x_fe 80 20 = some (.iload 2, 21) := by decide +kernel
theorem f_80_21 : x_fe 80 21 = some (.ifCond .ne (Int.ofNat 35), 24) := by decide +kernel
theorem f_80_24 : x_fe 80 24 = some (.aload 0, 25) := by decide +kernel
theorem f_80_25 : x_fe 80 25 = some (.getfield 162, 28) := by decide +kernel
theorem f_80_28 : x_fe 80 28 = some (.iload 1, 29) := by decide +kernel
theorem f_80_29 : x_fe 80 29 = some (.invokestatic 81, 32) := by decide +kernel
theorem f_80_32 : x_fe 80 32 = some (.goto (Int.ofNat 43), 35) := by decide +kernel
theorem f_80_35 : x_fe 80 35 = some (.aload 0, 36) := by decide +kernel
theorem f_80_36 : x_fe 80 36 = some (.getfield 162, 39) := by decide +kernel
theorem f_80_39 : x_fe 80 39 = some (.iload 1, 40) := by decide +kernel
theorem f_80_40 : x_fe 80 40 = some (.invokevirtual 15, 43) := by decide +kernel
theorem f_80_43 : x_fe 80 43 = some (.ireturn, 44) := by decide +kernel
theorem f_81_0 : x_fe 81 0 = some (.aload 0, 1) := by decide +kernel
theorem f_81_1 : x_fe 81 1 = some (.iload 1, 2) := by decide +kernel
theorem f_81_2 : x_fe 81 2 = some (.invokestatic 82, 5) := by decide +kernel
theorem f_81_5 : x_fe 81 5 = some (.istore 2, 6) := by decide +kernel
theorem f_81_6 : x_fe 81 6 = some (.iconst (0), 7) := by decide +kernel
theorem f_81_7 : x_fe 81 7 = some (.istore 3, 8) := by decide +kernel
theorem f_81_8 : x_fe 81 8 = some (.iconst (0), 9) := by decide +kernel
theorem f_81_9 : x_fe 81 9 = some (.istore 4, 11) := by decide +kernel
theorem f_81_11 : x_fe 81 11 = some (.iload 4, 13) := by decide +kernel
theorem f_81_13 : x_fe 81 13 = some (.iload 2, 14) := by decide +kernel
theorem f_81_14 : x_fe 81 14 = some (.if_icmp .ge (Int.ofNat 37), 17) := by decide +kernel
theorem f_81_17 : x_fe 81 17 = some (.aload 0, 18) := by decide +kernel
theorem f_81_18 : x_fe 81 18 = some (.iload 4, 20) := by decide +kernel
theorem f_81_20 : x_fe 81 20 = some (.invokestatic 82, 23) := by decide +kernel
theorem f_81_23 : x_fe 81 23 = some (.iload 4, 25) := by decide +kernel
theorem f_81_25 : x_fe 81 25 = some (.if_icmp .ne (Int.ofNat 31), 28) := by decide +kernel
theorem f_81_28 : x_fe 81 28 = some (.iinc 3 (1), 31) := by decide +kernel
theorem f_81_31 : x_fe 81 31 = some (.iinc 4 (1), 34) := by decide +kernel
theorem f_81_34 : x_fe 81 34 = some (.goto (Int.ofNat 11), 37) := by decide +kernel
theorem f_81_37 : x_fe 81 37 = some (.iload 3, 38) := by decide +kernel
theorem f_81_38 : x_fe 81 38 = some (.ireturn, 39) := by decide +kernel
theorem f_82_0 : x_fe 82 0 = some (.iconst (0), 1) := by decide +kernel
theorem f_82_1 : x_fe 82 1 = some (.istore 2, 2) := by decide +kernel
theorem f_82_2 : x_fe 82 2 = some (.iload 2, 3) := by decide +kernel
theorem f_82_3 : x_fe 82 3 = some (.iload 1, 4) := by decide +kernel
theorem f_82_4 : x_fe 82 4 = some (.if_icmp .ge (Int.ofNat 44), 7) := by decide +kernel
theorem f_82_7 : x_fe 82 7 = some (.iconst (0), 8) := by decide +kernel
theorem f_82_8 : x_fe 82 8 = some (.istore 3, 9) := by decide +kernel
theorem f_82_9 : x_fe 82 9 = some (.iload 3, 10) := by decide +kernel
theorem f_82_10 : x_fe 82 10 = some (.iconst (8), 12) := by decide +kernel
theorem f_82_12 : x_fe 82 12 = some (.if_icmp .ge (Int.ofNat 38), 15) := by decide +kernel
theorem f_82_15 : x_fe 82 15 = some (.aload 0, 16) := by decide +kernel
theorem f_82_16 : x_fe 82 16 = some (.iload 2, 17) := by decide +kernel
theorem f_82_17 : x_fe 82 17 = some (.iload 3, 18) := by decide +kernel
theorem f_82_18 : x_fe 82 18 = some (.invokevirtual 8, 21) := by decide +kernel
theorem f_82_21 : x_fe 82 21 = some (.aload 0, 22) := by decide +kernel
theorem f_82_22 : x_fe 82 22 = some (.iload 1, 23) := by decide +kernel
theorem f_82_23 : x_fe 82 23 = some (.iconst (0), 24) := by decide +kernel
theorem f_82_24 : x_fe 82 24 = some (.invokevirtual 8, 27) := by decide +kernel
theorem f_82_27 : x_fe 82 27 = some (.if_icmp .ne (Int.ofNat 32), 30) := by decide +kernel
theorem f_82_30 : x_fe 82 30 = some (.iload 2, 31) := by decide +kernel
theorem f_82_31 : x_fe 82 31 = some (.ireturn, 32) := by decide +kernel
theorem f_82_32 : x_fe 82 32 = some (.iinc 3 (1), 35) := by decide +kernel
theorem f_82_35 : x_fe 82 35 = some (.goto (Int.ofNat 9), 38) := by decide +kernel
theorem f_82_38 : x_fe 82 38 = some (.iinc 2 (1), 41) := by decide +kernel
theorem f_82_41 : x_fe 82 41 = some (.goto (Int.ofNat 2), 44) := by decide +kernel
theorem f_82_44 : x_fe 82 44 = some (.iload 1, 45) := by decide +kernel
theorem f_82_45 : x_fe 82 45 = some (.ireturn, 46) := by decide +kernel
theorem f_83_0 : x_fe 83 0 = some (.aload 0, 1) := by decide +kernel
theorem f_83_1 : x_fe 83 1 = some (.getfield 162, 4) := by decide +kernel
theorem f_83_4 : x_fe 83 4 = some (.getfield 4, 7) := by decide +kernel
theorem f_83_7 : x_fe 83 7 = some (.ifCond .ne (Int.ofNat 13), 10) := by decide +kernel
theorem f_83_10 : x_fe 83 10 = some (.iconst (-1000002), 12) := by decide +kernel
theorem f_83_12 : x_fe 83 12 = some (.ireturn, 13) := by decide +kernel
theorem f_83_13 : x_fe 83 13 = some (.iload 1, 14) := by decide +kernel
theorem f_83_14 : x_fe 83 14 = some (.invokestatic 62, 17) := by decide +kernel
theorem f_83_17 : x_fe 83 17 = some (.ifCond .eq (Int.ofNat 40), 20) := by decide +kernel
theorem f_83_20 : x_fe 83 20 = some (.iload 2, 21) := by decide +kernel
theorem f_83_21 : x_fe 83 21 = some (.invokestatic 62, 24) := by decide +kernel
theorem f_83_24 : x_fe 83 24 = some (.ifCond .eq (Int.ofNat 40), 27) := by decide +kernel
theorem f_83_27 : x_fe 83 27 = some (.iload 3, 28) := by decide +kernel
theorem f_83_28 : x_fe 83 28 = some (.iconst (-1), 29) := by decide +kernel
theorem f_83_29 : x_fe 83 29 = some (.if_icmp .eq (Int.ofNat 43), 32) := by decide +kernel
theorem f_83_32 : x_fe 83 32 = some (.aload 0, 33) := by decide +kernel
theorem f_83_33 : x_fe 83 33 = some (.iload 3, 34) := by decide +kernel
theorem f_83_34 : x_fe 83 34 = some (.invokevirtual 60, 37) := by decide +kernel
theorem f_83_37 : x_fe 83 37 = some (.ifCond .ne (Int.ofNat 43), 40) := by decide +kernel
theorem f_83_40 : x_fe 83 40 = some (.iconst (-1000001), 42) := by decide +kernel
theorem f_83_42 : x_fe 83 42 = some (.ireturn, 43) := by decide +kernel
theorem f_83_43 : x_fe 83 43 = some (.iload 3, 44) := by decide +kernel
theorem f_83_44 : x_fe 83 44 = some (.iconst (-1), 45) := by decide +kernel
theorem f_83_45 : x_fe 83 45 = some (.if_icmp .eq (Int.ofNat 59), 48) := by decide +kernel
theorem f_83_48 : x_fe 83 48 = some (.aload 0, 49) := by decide +kernel
theorem f_83_49 : x_fe 83 49 = some (.getfield 162, 52) := by decide +kernel
theorem f_83_52 : x_fe 83 52 = some (.iload 1, 53) := by decide +kernel
theorem f_83_53 : x_fe 83 53 = some (.iload 2, 54) := by decide +kernel
theorem f_83_54 : x_fe 83 54 = some (.iload 3, 55) := by decide +kernel
theorem f_83_55 : x_fe 83 55 = some (.invokestatic 84, 58) := by decide +kernel
theorem f_83_58 : x_fe 83 58 = some (.ireturn, 59) := by decide +kernel
theorem f_83_59 : x_fe 83 59 = some (.iconst (0), 60) := by decide +kernel
theorem f_83_60 : x_fe 83 60 = some (.istore 4, 62) := by decide +kernel
theorem f_83_62 : x_fe 83 62 = some (.iconst (0), 63) := by decide +kernel
theorem f_83_63 : x_fe 83 63 = some (.istore 5, 65) := by decide +kernel
theorem f_83_65 : x_fe 83 65 = some (.iload 5, 67) := by decide +kernel
theorem f_83_67 : x_fe 83 67 = some (.aload 0, 68) := by decide +kernel
theorem f_83_68 : x_fe 83 68 = some (.getfield 162, 71) := by decide +kernel
theorem f_83_71 : x_fe 83 71 = some (.getfield 5, 74) := by decide +kernel
theorem f_83_74 : x_fe 83 74 = some (.if_icmp .ge (Int.ofNat 108), 77) := by decide +kernel
theorem f_83_77 : x_fe 83 77 = some (.aload 0, 78) := by decide +kernel
theorem f_83_78 : x_fe 83 78 = some (.getfield 162, 81) := by decide +kernel
theorem f_83_81 : x_fe 83 81 = some (.iload 1, 82) := by decide +kernel
theorem f_83_82 : x_fe 83 82 = some (.iload 2, 83) := by decide +kernel
theorem f_83_83 : x_fe 83 83 = some (.iload 5, 85) := by decide +kernel
theorem f_83_85 : x_fe 83 85 = some (.invokestatic 84, 88) := by decide +kernel
theorem f_83_88 : x_fe 83 88 = some (.iconst (-1000000), 90) := by decide +kernel
theorem f_83_90 : x_fe 83 90 = some (.if_icmp .eq (Int.ofNat 102), 93) := by decide +kernel
theorem f_83_93 : x_fe 83 93 = some (.iload 4, 95) := by decide +kernel
theorem f_83_95 : x_fe 83 95 = some (.iconst (1), 96) := by decide +kernel
theorem f_83_96 : x_fe 83 96 = some (.iload 5, 98) := by decide +kernel
theorem f_83_98 : x_fe 83 98 = some (.ishl, 99) := by decide +kernel
theorem f_83_99 : x_fe 83 99 = some (.ior, 100) := by decide +kernel
theorem f_83_100 : x_fe 83 100 = some (.istore 4, 102) := by decide +kernel
theorem f_83_102 : x_fe 83 102 = some (.iinc 5 (1), 105) := by decide +kernel
theorem f_83_105 : x_fe 83 105 = some (.goto (Int.ofNat 65), 108) := by decide +kernel
theorem f_83_108 : x_fe 83 108 = some (.iload 4, 110) := by decide +kernel
theorem f_83_110 : x_fe 83 110 = some (.ireturn, 111) := by decide +kernel
theorem f_84_0 : x_fe 84 0 = some (.iconst (0), 1) := by decide +kernel
theorem f_84_1 : x_fe 84 1 = some (.istore 4, 3) := by decide +kernel
theorem f_84_3 : x_fe 84 3 = some (.iload 4, 5) := by decide +kernel
theorem f_84_5 : x_fe 84 5 = some (.iconst (8), 7) := by decide +kernel
theorem f_84_7 : x_fe 84 7 = some (.if_icmp .ge (Int.ofNat 32), 10) := by decide +kernel
theorem f_84_10 : x_fe 84 10 = some (.iload 1, 11) := by decide +kernel
theorem f_84_11 : x_fe 84 11 = some (.aload 0, 12) := by decide +kernel
theorem f_84_12 : x_fe 84 12 = some (.iload 3, 13) := by decide +kernel
theorem f_84_13 : x_fe 84 13 = some (.iload 4, 15) := by decide +kernel
theorem f_84_15 : x_fe 84 15 = some (.invokevirtual 8, 18) := by decide +kernel
theorem f_84_18 : x_fe 84 18 = some (.iand, 19) := by decide +kernel
theorem f_84_19 : x_fe 84 19 = some (.iload 2, 20) := by decide +kernel
theorem f_84_20 : x_fe 84 20 = some (.if_icmp .ne (Int.ofNat 26), 23) := by decide +kernel
theorem f_84_23 : x_fe 84 23 = some (.iload 4, 25) := by decide +kernel
theorem f_84_25 : x_fe 84 25 = some (.ireturn, 26) := by decide +kernel
theorem f_84_26 : x_fe 84 26 = some (.iinc 4 (1), 29) := by decide +kernel
theorem f_84_29 : x_fe 84 29 = some (.goto (Int.ofNat 3), 32) := by decide +kernel
theorem f_84_32 : x_fe 84 32 = some (.iconst (-1000000), 34) := by decide +kernel
theorem f_84_34 : x_fe 84 34 = some (.ireturn, 35) := by decide +kernel
theorem f_85_0 : x_fe 85 0 = some (.iload 1, 1) := by decide +kernel
theorem f_85_1 : x_fe 85 1 = some (.ifCond .lt (Int.ofNat 9), 4) := by decide +kernel
theorem f_85_4 : x_fe 85 4 = some (.iload 1, 5) := by decide +kernel
theorem f_85_5 : x_fe 85 5 = some (.iconst (2), 6) := by decide +kernel
theorem f_85_6 : x_fe 85 6 = some (.if_icmp .lt (Int.ofNat 12), 9) := by decide +kernel
theorem f_85_9 : x_fe 85 9 = some (.iconst (-1000001), 11) := by decide +kernel
theorem f_85_11 : x_fe 85 11 = some (.ireturn, 12) := by decide +kernel
theorem f_85_12 : x_fe 85 12 = some (.aload 0, 13) := by decide +kernel
theorem f_85_13 : x_fe 85 13 = some (.getfield 162, 16) := by decide +kernel
theorem f_85_16 : x_fe 85 16 = some (.getfield 4, 19) := by decide +kernel
theorem f_85_19 : x_fe 85 19 = some (.ifCond .ne (Int.ofNat 25), 22) := by decide +kernel
theorem f_85_22 : x_fe 85 22 = some (.iconst (-1000002), 24) := by decide +kernel
theorem f_85_24 : x_fe 85 24 = some (.ireturn, 25) := by decide +kernel
theorem f_85_25 : x_fe 85 25 = some (.aload 0, 26) := by decide +kernel
theorem f_85_26 : x_fe 85 26 = some (.getfield 164, 29) := by decide +kernel
theorem f_85_29 : x_fe 85 29 = some (.iload 1, 30) := by decide +kernel
theorem f_85_30 : x_fe 85 30 = some (.aaload, 31) := by decide +kernel
theorem f_85_31 : x_fe 85 31 = some (.aload 0, 32) := by decide +kernel
theorem f_85_32 : x_fe 85 32 = some (.getfield 162, 35) := by decide +kernel
theorem f_85_35 : x_fe 85 35 = some (.invokevirtual 7, 38) := by decide +kernel
theorem f_85_38 : x_fe 85 38 = some (.iconst (1), 39) := by decide +kernel
theorem f_85_39 : x_fe 85 39 = some (.ireturn, 40) := by decide +kernel
theorem f_86_0 : x_fe 86 0 = some (.iload 1, 1) := by decide +kernel
theorem f_86_1 : x_fe 86 1 = some (.ifCond .lt (Int.ofNat 9), 4) := by decide +kernel
theorem f_86_4 : x_fe 86 4 = some (.iload 1, 5) := by decide +kernel
theorem f_86_5 : x_fe 86 5 = some (.iconst (2), 6) := by decide +kernel
theorem f_86_6 : x_fe 86 6 = some (.if_icmp .lt (Int.ofNat 12), 9) := by decide +kernel
theorem f_86_9 : x_fe 86 9 = some (.iconst (-1000001), 11) := by decide +kernel
theorem f_86_11 : x_fe 86 11 = some (.ireturn, 12) := by decide +kernel
theorem f_86_12 : x_fe 86 12 = some (.aload 0, 13) := by decide +kernel
theorem f_86_13 : x_fe 86 13 = some (.getfield 164, 16) := by decide +kernel
theorem f_86_16 : x_fe 86 16 = some (.iload 1, 17) := by decide +kernel
theorem f_86_17 : x_fe 86 17 = some (.aaload, 18) := by decide +kernel
theorem f_86_18 : x_fe 86 18 = some (.getfield 4, 21) := by decide +kernel
theorem f_86_21 : x_fe 86 21 = some (.ifCond .ne (Int.ofNat 27), 24) := by decide +kernel
theorem f_86_24 : x_fe 86 24 = some (.iconst (-1000002), 26) := by decide +kernel
theorem f_86_26 : x_fe 86 26 = some (.ireturn, 27) := by decide +kernel
theorem f_86_27 : x_fe 86 27 = some (.aload 0, 28) := by decide +kernel
theorem f_86_28 : x_fe 86 28 = some (.getfield 162, 31) := by decide +kernel
theorem f_86_31 : x_fe 86 31 = some (.aload 0, 32) := by decide +kernel
theorem f_86_32 : x_fe 86 32 = some (.getfield 164, 35) := by decide +kernel
theorem f_86_35 : x_fe 86 35 = some (.iload 1, 36) := by decide +kernel
theorem f_86_36 : x_fe 86 36 = some (.aaload, 37) := by decide +kernel
theorem f_86_37 : x_fe 86 37 = some (.invokevirtual 7, 40) := by decide +kernel
theorem f_86_40 : x_fe 86 40 = some (.iconst (1), 41) := by decide +kernel
theorem f_86_41 : x_fe 86 41 = some (.ireturn, 42) := by decide +kernel
theorem f_87_0 : x_fe 87 0 = some (.aload 0, 1) := by decide +kernel
theorem f_87_1 : x_fe 87 1 = some (.iload 1, 2) := by decide +kernel
theorem f_87_2 : x_fe 87 2 = some (.invokevirtual 60, 5) := by decide +kernel
theorem f_87_5 : x_fe 87 5 = some (.ifCond .eq (Int.ofNat 19), 8) := by decide +kernel
theorem f_87_8 : x_fe 87 8 = some (.aload 0, 9) := by decide +kernel
theorem f_87_9 : x_fe 87 9 = some (.getfield 162, 12) := by decide +kernel
theorem f_87_12 : x_fe 87 12 = some (.iload 1, 13) := by decide +kernel
theorem f_87_13 : x_fe 87 13 = some (.invokestatic 88, 16) := by decide +kernel
theorem f_87_16 : x_fe 87 16 = some (.goto (Int.ofNat 21), 19) := by decide +kernel
theorem f_87_19 : x_fe 87 19 = some (.iconst (-1000001), 21) := by decide +kernel
theorem f_87_21 : x_fe 87 21 = some (.ireturn, 22) := by decide +kernel
theorem f_88_0 : x_fe 88 0 = some (.aload 0, 1) := by decide +kernel
theorem f_88_1 : x_fe 88 1 = some (.iload 1, 2) := by decide +kernel
theorem f_88_2 : x_fe 88 2 = some (.iconst (2), 3) := by decide +kernel
theorem f_88_3 : x_fe 88 3 = some (.invokestatic 89, 6) := by decide +kernel
theorem f_88_6 : x_fe 88 6 = some (.ifCond .eq (Int.ofNat 11), 9) := by decide +kernel
theorem f_88_9 : x_fe 88 9 = some (.iconst (2), 10) := by decide +kernel
theorem f_88_10 : x_fe 88 10 = some (.ireturn, 11) := by decide +kernel
theorem f_88_11 : x_fe 88 11 = some (.aload 0, 12) := by decide +kernel
theorem f_88_12 : x_fe 88 12 = some (.iload 1, 13) := by decide +kernel
theorem f_88_13 : x_fe 88 13 = some (.iconst (5), 14) := by decide +kernel
theorem f_88_14 : x_fe 88 14 = some (.invokestatic 89, 17) := by decide +kernel
theorem f_88_17 : x_fe 88 17 = some (.ifCond .eq (Int.ofNat 22), 20) := by decide +kernel
theorem f_88_20 : x_fe 88 20 = some (.iconst (5), 21) := by decide +kernel
theorem f_88_21 : x_fe 88 21 = some (.ireturn, 22) := by decide +kernel
theorem f_88_22 : x_fe 88 22 = some (.aload 0, 23) := by decide +kernel
theorem f_88_23 : x_fe 88 23 = some (.iload 1, 24) := by decide +kernel
theorem f_88_24 : x_fe 88 24 = some (.iconst (3), 25) := by decide +kernel
theorem f_88_25 : x_fe 88 25 = some (.invokestatic 89, 28) := by decide +kernel
theorem f_88_28 : x_fe 88 28 = some (.ifCond .eq (Int.ofNat 33), 31) := by decide +kernel
theorem f_88_31 : x_fe 88 31 = some (.iconst (3), 32) := by decide +kernel
theorem f_88_32 : x_fe 88 32 = some (.ireturn, 33) := by decide +kernel
theorem f_88_33 : x_fe 88 33 = some (.aload 0, 34) := by decide +kernel
theorem f_88_34 : x_fe 88 34 = some (.iload 1, 35) := by decide +kernel
theorem f_88_35 : x_fe 88 35 = some (.iconst (4), 36) := by decide +kernel
theorem f_88_36 : x_fe 88 36 = some (.invokestatic 89, 39) := by decide +kernel
theorem f_88_39 : x_fe 88 39 = some (.ifCond .eq (Int.ofNat 46), 42) := by decide +kernel
theorem f_88_42 : x_fe 88 42 = some (.iconst (4), 43) := by decide +kernel
theorem f_88_43 : x_fe 88 43 = some (.goto (Int.ofNat 47), 46) := by decide +kernel
theorem f_88_46 : x_fe 88 46 = some (.iconst (1), 47) := by decide +kernel
theorem f_88_47 : x_fe 88 47 = some (.ireturn, 48) := by decide +kernel
theorem f_89_0 : x_fe 89 0 = some (.aload 0, 1) := by decide +kernel
theorem f_89_1 : x_fe 89 1 = some (.iload 1, 2) := by decide +kernel
theorem f_89_2 : x_fe 89 2 = some (.iconst (0), 3) := by decide +kernel
theorem f_89_3 : x_fe 89 3 = some (.invokevirtual 8, 6) := by decide +kernel
theorem f_89_6 : x_fe 89 6 = some (.invokestatic 179, 9) := by decide +kernel
theorem f_89_9 : x_fe 89 9 = some (.istore 3, 10) := by decide +kernel
theorem f_89_10 : x_fe 89 10 = some (.iload 3, 11) := by decide +kernel
theorem f_89_11 : x_fe 89 11 = some (.ifCond .le (Int.ofNat 27), 14) := by decide +kernel
theorem f_89_14 : x_fe 89 14 = some (.aload 0, 15) := by decide +kernel
theorem f_89_15 : x_fe 89 15 = some (.iload 1, 16) := by decide +kernel
theorem f_89_16 : x_fe 89 16 = some (.invokevirtual 15, 19) := by decide +kernel
theorem f_89_19 : x_fe 89 19 = some (.iconst (1), 20) := by decide +kernel
theorem f_89_20 : x_fe 89 20 = some (.if_icmp .ne (Int.ofNat 27), 23) := by decide +kernel
theorem f_89_23 : x_fe 89 23 = some (.iconst (1), 24) := by decide +kernel
theorem f_89_24 : x_fe 89 24 = some (.goto (Int.ofNat 28), 27) := by decide +kernel
theorem f_89_27 : x_fe 89 27 = some (.iconst (0), 28) := by decide +kernel
theorem f_89_28 : x_fe 89 28 = some (.istore 4, 30) := by decide +kernel
theorem f_89_30 : x_fe 89 30 = some (.iload 2, 31) := by decide +kernel
theorem f_89_31 : x_fe 89 31 = some (.tableswitch (96) (0) (5) #[37, 39, 49, 59, 62, 79], 68) := by decide +kernel
theorem f_89_68 : x_fe 89 68 = some (.iconst (1), 69) := by decide +kernel
theorem f_89_69 : x_fe 89 69 = some (.ireturn, 70) := by decide +kernel
theorem f_89_70 : x_fe 89 70 = some (.iload 3, 71) := by decide +kernel
theorem f_89_71 : x_fe 89 71 = some (.ifCond .le (Int.ofNat 78), 74) := by decide +kernel
theorem f_89_74 : x_fe 89 74 = some (.iconst (1), 75) := by decide +kernel
theorem f_89_75 : x_fe 89 75 = some (.goto (Int.ofNat 79), 78) := by decide +kernel
theorem f_89_78 : x_fe 89 78 = some (.iconst (0), 79) := by decide +kernel
theorem f_89_79 : x_fe 89 79 = some (.ireturn, 80) := by decide +kernel
theorem f_89_80 : x_fe 89 80 = some (.iload 3, 81) := by decide +kernel
theorem f_89_81 : x_fe 89 81 = some (.ifCond .ne (Int.ofNat 88), 84) := by decide +kernel
theorem f_89_84 : x_fe 89 84 = some (.iconst (1), 85) := by decide +kernel
theorem f_89_85 : x_fe 89 85 = some (.goto (Int.ofNat 89), 88) := by decide +kernel
theorem f_89_88 : x_fe 89 88 = some (.iconst (0), 89) := by decide +kernel
theorem f_89_89 : x_fe 89 89 = some (.ireturn, 90) := by decide +kernel
theorem f_89_90 : x_fe 89 90 = some (.iload 4, 92) := by decide +kernel
theorem f_89_92 : x_fe 89 92 = some (.ireturn, 93) := by decide +kernel
theorem f_89_93 : x_fe 89 93 = some (.iload 4, 95) := by decide +kernel
theorem f_89_95 : x_fe 89 95 = some (.ifCond .ne (Int.ofNat 108), 98) := by decide +kernel
theorem f_89_98 : x_fe 89 98 = some (.iload 3, 99) := by decide +kernel
theorem f_89_99 : x_fe 89 99 = some (.iconst (6), 101) := by decide +kernel
theorem f_89_101 : x_fe 89 101 = some (.if_icmp .lt (Int.ofNat 108), 104) := by decide +kernel
theorem f_89_104 : x_fe 89 104 = some (.iconst (1), 105) := by decide +kernel
theorem f_89_105 : x_fe 89 105 = some (.goto (Int.ofNat 109), 108) := by decide +kernel
theorem f_89_108 : x_fe 89 108 = some (.iconst (0), 109) := by decide +kernel
theorem f_89_109 : x_fe 89 109 = some (.ireturn, 110) := by decide +kernel
theorem f_89_110 : x_fe 89 110 = some (.iload 4, 112) := by decide +kernel
theorem f_89_112 : x_fe 89 112 = some (.ifCond .eq (Int.ofNat 125), 115) := by decide +kernel
theorem f_89_115 : x_fe 89 115 = some (.iload 3, 116) := by decide +kernel
theorem f_89_116 : x_fe 89 116 = some (.iconst (6), 118) := by decide +kernel
theorem f_89_118 : x_fe 89 118 = some (.if_icmp .lt (Int.ofNat 125), 121) := by decide +kernel
theorem f_89_121 : x_fe 89 121 = some (.iconst (1), 122) := by decide +kernel
theorem f_89_122 : x_fe 89 122 = some (.goto (Int.ofNat 126), 125) := by decide +kernel
theorem f_89_125 : x_fe 89 125 = some (.iconst (0), 126) := by decide +kernel
theorem f_89_126 : x_fe 89 126 = some (.ireturn, 127) := by decide +kernel
theorem f_89_127 : x_fe 89 127 = some (.iconst (0), 128) := by decide +kernel
theorem f_89_128 : x_fe 89 128 = some (.ireturn, 129) := by decide +kernel
theorem f_90_0 : x_fe 90 0 = some (.aload 0, 1) := by decide +kernel
theorem f_90_1 : x_fe 90 1 = some (.iload 1, 2) := by decide +kernel
theorem f_90_2 : x_fe 90 2 = some (.invokevirtual 60, 5) := by decide +kernel
theorem f_90_5 : x_fe 90 5 = some (.ifCond .eq (Int.ofNat 18), 8) := by decide +kernel
theorem f_90_8 : x_fe 90 8 = some (.iload 2, 9) := by decide +kernel
theorem f_90_9 : x_fe 90 9 = some (.ifCond .lt (Int.ofNat 18), 12) := by decide +kernel
theorem f_90_12 : x_fe 90 12 = some (.iload 2, 13) := by decide +kernel
theorem f_90_13 : x_fe 90 13 = some (.iconst (6), 15) := by decide +kernel
theorem f_90_15 : x_fe 90 15 = some (.if_icmp .lt (Int.ofNat 21), 18) := by decide +kernel
theorem f_90_18 : x_fe 90 18 = some (.iconst (-1000001), 20) := by decide +kernel
theorem f_90_20 : x_fe 90 20 = some (.ireturn, 21) := by decide +kernel
theorem f_90_21 : x_fe 90 21 = some (.aload 0, 22) := by decide +kernel
theorem f_90_22 : x_fe 90 22 = some (.getfield 162, 25) := by decide +kernel
theorem f_90_25 : x_fe 90 25 = some (.iload 1, 26) := by decide +kernel
theorem f_90_26 : x_fe 90 26 = some (.iload 2, 27) := by decide +kernel
theorem f_90_27 : x_fe 90 27 = some (.invokestatic 89, 30) := by decide +kernel
theorem f_90_30 : x_fe 90 30 = some (.ifCond .eq (Int.ofNat 41), 33) := by decide +kernel
theorem f_90_33 : x_fe 90 33 = some (.aload 0, 34) := by decide +kernel
theorem f_90_34 : x_fe 90 34 = some (.iload 1, 35) := by decide +kernel
theorem f_90_35 : x_fe 90 35 = some (.invokevirtual 46, 38) := by decide +kernel
theorem f_90_38 : x_fe 90 38 = some (.goto (Int.ofNat 46), 41) := by decide +kernel
theorem f_90_41 : x_fe 90 41 = some (.aload 0, 42) := by decide +kernel
theorem f_90_42 : x_fe 90 42 = some (.iconst (3), 43) := by decide +kernel
theorem f_90_43 : x_fe 90 43 = some (.invokevirtual 45, 46) := by decide +kernel
theorem f_90_46 : x_fe 90 46 = some (.ireturn, 47) := by decide +kernel
theorem f_91_0 : x_fe 91 0 = some (.aload 0, 1) := by decide +kernel
theorem f_91_1 : x_fe 91 1 = some (.iload 1, 2) := by decide +kernel
theorem f_91_2 : x_fe 91 2 = some (.invokevirtual 60, 5) := by decide +kernel
theorem f_91_5 : x_fe 91 5 = some (.ifCond .eq (Int.ofNat 17), 8) := by decide +kernel
theorem f_91_8 : x_fe 91 8 = some (.iload 2, 9) := by decide +kernel
theorem f_91_9 : x_fe 91 9 = some (.ifCond .eq (Int.ofNat 20), 12) := by decide +kernel
theorem f_91_12 : x_fe 91 12 = some (.iload 2, 13) := by decide +kernel
theorem f_91_13 : x_fe 91 13 = some (.iconst (1), 14) := by decide +kernel
theorem f_91_14 : x_fe 91 14 = some (.if_icmp .eq (Int.ofNat 20), 17) := by decide +kernel
theorem f_91_17 : x_fe 91 17 = some (.iconst (-1000001), 19) := by decide +kernel
theorem f_91_19 : x_fe 91 19 = some (.ireturn, 20) := by decide +kernel
theorem f_91_20 : x_fe 91 20 = some (.aload 0, 21) := by decide +kernel
theorem f_91_21 : x_fe 91 21 = some (.getfield 167, 24) := by decide +kernel
theorem f_91_24 : x_fe 91 24 = some (.iconst (0), 25) := by decide +kernel
theorem f_91_25 : x_fe 91 25 = some (.putfield 129, 28) := by decide +kernel
theorem f_91_28 : x_fe 91 28 = some (.aload 0, 29) := by decide +kernel
theorem f_91_29 : x_fe 91 29 = some (.getfield 162, 32) := by decide +kernel
theorem f_91_32 : x_fe 91 32 = some (.iload 1, 33) := by decide +kernel
theorem f_91_33 : x_fe 91 33 = some (.iload 2, 34) := by decide +kernel
theorem f_91_34 : x_fe 91 34 = some (.invokestatic 92, 37) := by decide +kernel
theorem f_91_37 : x_fe 91 37 = some (.aload 0, 38) := by decide +kernel
theorem f_91_38 : x_fe 91 38 = some (.getfield 162, 41) := by decide +kernel
theorem f_91_41 : x_fe 91 41 = some (.iload 1, 42) := by decide +kernel
theorem f_91_42 : x_fe 91 42 = some (.aload 0, 43) := by decide +kernel
theorem f_91_43 : x_fe 91 43 = some (.getfield 167, 46) := by decide +kernel
theorem f_91_46 : x_fe 91 46 = some (.iconst (0), 47) := by decide +kernel
theorem f_91_47 : x_fe 91 47 = some (.invokestatic 93, 50) := by decide +kernel
theorem f_91_50 : x_fe 91 50 = some (.ireturn, 51) := by decide +kernel
theorem f_92_0 : x_fe 92 0 = some (.iload 2, 1) := by decide +kernel
theorem f_92_1 : x_fe 92 1 = some (.ifCond .ne (Int.ofNat 10), 4) := by decide +kernel
theorem f_92_4 : x_fe 92 4 = some (.getstatic 0, 7) := by decide +kernel
theorem f_92_7 : x_fe 92 7 = some (.goto (Int.ofNat 13), 10) := by decide +kernel
theorem f_92_10 : x_fe 92 10 = some (.getstatic 1, 13) := by decide +kernel
theorem f_92_13 : x_fe 92 13 = some (.astore 3, 14) := by decide +kernel
