theorem f_151_10 : x_fe 151 10 = some (.iconst (1), 11) := by decide +kernel
theorem f_151_11 : x_fe 151 11 = some (.istore 4, 13) := by decide +kernel
theorem f_151_13 : x_fe 151 13 = some (.iconst (0), 14) := by decide +kernel
theorem f_151_14 : x_fe 151 14 = some (.istore 5, 16) := by decide +kernel
theorem f_151_16 : x_fe 151 16 = some (.iload 5, 18) := by decide +kernel
theorem f_151_18 : x_fe 151 18 = some (.iload 3, 19) := by decide +kernel
theorem f_151_19 : x_fe 151 19 = some (.if_icmp .ge (Int.ofNat 66), 22) := by decide +kernel
theorem f_151_22 : x_fe 151 22 = some (.iload 4, 24) := by decide +kernel
theorem f_151_24 : x_fe 151 24 = some (.ifCond .eq (Int.ofNat 57), 27) := by decide +kernel
theorem f_151_27 : x_fe 151 27 = some (.aload 0, 28) := by decide +kernel
theorem f_151_28 : x_fe 151 28 = some (.getfield 209, 31) := by decide +kernel
theorem f_151_31 : x_fe 151 31 = some (.iconst (8), 33) := by decide +kernel
theorem f_151_33 : x_fe 151 33 = some (.iload 1, 34) := by decide +kernel
theorem f_151_34 : x_fe 151 34 = some (.imul, 35) := by decide +kernel
theorem f_151_35 : x_fe 151 35 = some (.iload 5, 37) := by decide +kernel
theorem f_151_37 : x_fe 151 37 = some (.iadd, 38) := by decide +kernel
theorem f_151_38 : x_fe 151 38 = some (.iaload, 39) := by decide +kernel
theorem f_151_39 : x_fe 151 39 = some (.aload 0, 40) := by decide +kernel
theorem f_151_40 : x_fe 151 40 = some (.getfield 209, 43) := by decide +kernel
theorem f_151_43 : x_fe 151 43 = some (.iconst (8), 45) := by decide +kernel
theorem f_151_45 : x_fe 151 45 = some (.iload 1, 46) := by decide +kernel
theorem f_151_46 : x_fe 151 46 = some (.imul, 47) := by decide +kernel
theorem f_151_47 : x_fe 151 47 = some (.iload 3, 48) := by decide +kernel
theorem f_151_48 : x_fe 151 48 = some (.iadd, 49) := by decide +kernel
theorem f_151_49 : x_fe 151 49 = some (.iaload, 50) := by decide +kernel
theorem f_151_50 : x_fe 151 50 = some (.if_icmp .eq (Int.ofNat 57), 53) := by decide +kernel
theorem f_151_53 : x_fe 151 53 = some (.iconst (1), 54) := by decide +kernel
theorem f_151_54 : x_fe 151 54 = some (.goto (Int.ofNat 58), 57) := by decide +kernel
theorem f_151_57 : x_fe 151 57 = some (.iconst (0), 58) := by decide +kernel
theorem f_151_58 : x_fe 151 58 = some (.istore 4, 60) := by decide +kernel
theorem f_151_60 : x_fe 151 60 = some (.iinc 5 (1), 63) := by decide +kernel
theorem f_151_63 : x_fe 151 63 = some (.goto (Int.ofNat 16), 66) := by decide +kernel
theorem f_151_66 : x_fe 151 66 = some (.iload 2, 67) := by decide +kernel
theorem f_151_67 : x_fe 151 67 = some (.iload 4, 69) := by decide +kernel
theorem f_151_69 : x_fe 151 69 = some (.ifCond .eq (Int.ofNat 76), 72) := by decide +kernel
theorem f_151_72 : x_fe 151 72 = some (.iconst (1), 73) := by decide +kernel
theorem f_151_73 : x_fe 151 73 = some (.goto (Int.ofNat 77), 76) := by decide +kernel
theorem f_151_76 : x_fe 151 76 = some (.iconst (0), 77) := by decide +kernel
theorem f_151_77 : x_fe 151 77 = some (.iadd, 78) := by decide +kernel
theorem f_151_78 : x_fe 151 78 = some (.istore 2, 79) := by decide +kernel
theorem f_151_79 : x_fe 151 79 = some (.iinc 3 (1), 82) := by decide +kernel
theorem f_151_82 : x_fe 151 82 = some (.goto (Int.ofNat 4), 85) := by decide +kernel
theorem f_151_85 : x_fe 151 85 = some (.iload 2, 86) := by decide +kernel
theorem f_151_86 : x_fe 151 86 = some (.ireturn, 87) := by decide +kernel
theorem f_152_0 : x_fe 152 0 = some (.iconst (0), 1) := by decide +kernel
theorem f_152_1 : x_fe 152 1 = some (.istore 2, 2) := by decide +kernel
theorem f_152_2 : x_fe 152 2 = some (.aload 0, 3) := by decide +kernel
theorem f_152_3 : x_fe 152 3 = some (.iload 1, 4) := by decide +kernel
theorem f_152_4 : x_fe 152 4 = some (.iload 2, 5) := by decide +kernel
theorem f_152_5 : x_fe 152 5 = some (.invokevirtual 153, 8) := by decide +kernel
theorem f_152_8 : x_fe 152 8 = some (.ifCond .ne (Int.ofNat 17), 11) := by decide +kernel
theorem f_152_11 : x_fe 152 11 = some (.iinc 2 (1), 14) := by decide +kernel
theorem f_152_14 : x_fe 152 14 = some (.goto (Int.ofNat 2), 17) := by decide +kernel
theorem f_152_17 : x_fe 152 17 = some (.iload 2, 18) := by decide +kernel
theorem f_152_18 : x_fe 152 18 = some (.ireturn, 19) := by decide +kernel
theorem f_153_0 : x_fe 153 0 = some (.iconst (0), 1) := by decide +kernel
theorem f_153_1 : x_fe 153 1 = some (.istore 3, 2) := by decide +kernel
theorem f_153_2 : x_fe 153 2 = some (.iconst (0), 3) := by decide +kernel
theorem f_153_3 : x_fe 153 3 = some (.istore 4, 5) := by decide +kernel
theorem f_153_5 : x_fe 153 5 = some (.iload 4, 7) := by decide +kernel
theorem f_153_7 : x_fe 153 7 = some (.iconst (8), 9) := by decide +kernel
theorem f_153_9 : x_fe 153 9 = some (.if_icmp .ge (Int.ofNat 52), 12) := by decide +kernel
theorem f_153_12 : x_fe 153 12 = some (.iload 3, 13) := by decide +kernel
theorem f_153_13 : x_fe 153 13 = some (.ifCond .ne (Int.ofNat 40), 16) := by decide +kernel
theorem f_153_16 : x_fe 153 16 = some (.aload 0, 17) := by decide +kernel
theorem f_153_17 : x_fe 153 17 = some (.getfield 209, 20) := by decide +kernel
theorem f_153_20 : x_fe 153 20 = some (.iconst (8), 22) := by decide +kernel
theorem f_153_22 : x_fe 153 22 = some (.iload 1, 23) := by decide +kernel
theorem f_153_23 : x_fe 153 23 = some (.imul, 24) := by decide +kernel
theorem f_153_24 : x_fe 153 24 = some (.iload 4, 26) := by decide +kernel
theorem f_153_26 : x_fe 153 26 = some (.iadd, 27) := by decide +kernel
theorem f_153_27 : x_fe 153 27 = some (.iaload, 28) := by decide +kernel
theorem f_153_28 : x_fe 153 28 = some (.aload 0, 29) := by decide +kernel
theorem f_153_29 : x_fe 153 29 = some (.getfield 209, 32) := by decide +kernel
theorem f_153_32 : x_fe 153 32 = some (.iconst (8), 34) := by decide +kernel
theorem f_153_34 : x_fe 153 34 = some (.iload 2, 35) := by decide +kernel
theorem f_153_35 : x_fe 153 35 = some (.imul, 36) := by decide +kernel
theorem f_153_36 : x_fe 153 36 = some (.iaload, 37) := by decide +kernel
theorem f_153_37 : x_fe 153 37 = some (.if_icmp .ne (Int.ofNat 44), 40) := by decide +kernel
theorem f_153_40 : x_fe 153 40 = some (.iconst (1), 41) := by decide +kernel
theorem f_153_41 : x_fe 153 41 = some (.goto (Int.ofNat 45), 44) := by decide +kernel
theorem f_153_44 : x_fe 153 44 = some (.iconst (0), 45) := by decide +kernel
theorem f_153_45 : x_fe 153 45 = some (.istore 3, 46) := by decide +kernel
theorem f_153_46 : x_fe 153 46 = some (.iinc 4 (1), 49) := by decide +kernel
theorem f_153_49 : x_fe 153 49 = some (.goto (Int.ofNat 5), 52) := by decide +kernel
theorem f_153_52 : x_fe 153 52 = some (.iload 3, 53) := by decide +kernel
theorem f_153_53 : x_fe 153 53 = some (.ireturn, 54) := by decide +kernel
theorem f_154_0 : x_fe 154 0 = some (.aload 0, 1) := by decide +kernel
theorem f_154_1 : x_fe 154 1 = some (.getfield 192, 4) := by decide +kernel
theorem f_154_4 : x_fe 154 4 = some (.iconst (0), 5) := by decide +kernel
theorem f_154_5 : x_fe 154 5 = some (.iaload, 6) := by decide +kernel
theorem f_154_6 : x_fe 154 6 = some (.ifCond .ne (Int.ofNat 12), 9) := by decide +kernel
theorem f_154_9 : x_fe 154 9 = some (.iconst (-1000002), 11) := by decide +kernel
theorem f_154_11 : x_fe 154 11 = some (.ireturn, 12) := by decide +kernel
theorem f_154_12 : x_fe 154 12 = some (.iload 1, 13) := by decide +kernel
theorem f_154_13 : x_fe 154 13 = some (.invokestatic 128, 16) := by decide +kernel
theorem f_154_16 : x_fe 154 16 = some (.ifCond .eq (Int.ofNat 39), 19) := by decide +kernel
theorem f_154_19 : x_fe 154 19 = some (.iload 2, 20) := by decide +kernel
theorem f_154_20 : x_fe 154 20 = some (.invokestatic 128, 23) := by decide +kernel
theorem f_154_23 : x_fe 154 23 = some (.ifCond .eq (Int.ofNat 39), 26) := by decide +kernel
theorem f_154_26 : x_fe 154 26 = some (.iload 3, 27) := by decide +kernel
theorem f_154_27 : x_fe 154 27 = some (.iconst (-1), 28) := by decide +kernel
theorem f_154_28 : x_fe 154 28 = some (.if_icmp .eq (Int.ofNat 42), 31) := by decide +kernel
theorem f_154_31 : x_fe 154 31 = some (.aload 0, 32) := by decide +kernel
theorem f_154_32 : x_fe 154 32 = some (.iload 3, 33) := by decide +kernel
theorem f_154_33 : x_fe 154 33 = some (.invokevirtual 125, 36) := by decide +kernel
theorem f_154_36 : x_fe 154 36 = some (.ifCond .ne (Int.ofNat 42), 39) := by decide +kernel
theorem f_154_39 : x_fe 154 39 = some (.iconst (-1000001), 41) := by decide +kernel
theorem f_154_41 : x_fe 154 41 = some (.ireturn, 42) := by decide +kernel
theorem f_154_42 : x_fe 154 42 = some (.iload 3, 43) := by decide +kernel
theorem f_154_43 : x_fe 154 43 = some (.iconst (-1), 44) := by decide +kernel
theorem f_154_44 : x_fe 154 44 = some (.if_icmp .eq (Int.ofNat 55), 47) := by decide +kernel
theorem f_154_47 : x_fe 154 47 = some (.aload 0, 48) := by decide +kernel
theorem f_154_48 : x_fe 154 48 = some (.iload 1, 49) := by decide +kernel
theorem f_154_49 : x_fe 154 49 = some (.iload 2, 50) := by decide +kernel
theorem f_154_50 : x_fe 154 50 = some (.iload 3, 51) := by decide +kernel
theorem f_154_51 : x_fe 154 51 = some (.invokevirtual 155, 54) := by decide +kernel
theorem f_154_54 : x_fe 154 54 = some (.ireturn, 55) := by decide +kernel
theorem f_154_55 : x_fe 154 55 = some (.iconst (0), 56) := by decide +kernel
theorem f_154_56 : x_fe 154 56 = some (.istore 4, 58) := by decide +kernel
theorem f_154_58 : x_fe 154 58 = some (.iconst (0), 59) := by decide +kernel
theorem f_154_59 : x_fe 154 59 = some (.istore 5, 61) := by decide +kernel
theorem f_154_61 : x_fe 154 61 = some (.iload 5, 63) := by decide +kernel
theorem f_154_63 : x_fe 154 63 = some (.aload 0, 64) := by decide +kernel
theorem f_154_64 : x_fe 154 64 = some (.getfield 192, 67) := by decide +kernel
theorem f_154_67 : x_fe 154 67 = some (.iconst (1), 68) := by decide +kernel
theorem f_154_68 : x_fe 154 68 = some (.iaload, 69) := by decide +kernel
theorem f_154_69 : x_fe 154 69 = some (.if_icmp .ge (Int.ofNat 104), 72) := by decide +kernel
theorem f_154_72 : x_fe 154 72 = some (.iload 4, 74) := by decide +kernel
theorem f_154_74 : x_fe 154 74 = some (.aload 0, 75) := by decide +kernel
theorem f_154_75 : x_fe 154 75 = some (.iload 1, 76) := by decide +kernel
theorem f_154_76 : x_fe 154 76 = some (.iload 2, 77) := by decide +kernel
theorem f_154_77 : x_fe 154 77 = some (.iload 5, 79) := by decide +kernel
theorem f_154_79 : x_fe 154 79 = some (.invokevirtual 155, 82) := by decide +kernel
theorem f_154_82 : x_fe 154 82 = some (.iconst (-1000000), 84) := by decide +kernel
theorem f_154_84 : x_fe 154 84 = some (.if_icmp .ne (Int.ofNat 91), 87) := by decide +kernel
theorem f_154_87 : x_fe 154 87 = some (.iconst (0), 88) := by decide +kernel
theorem f_154_88 : x_fe 154 88 = some (.goto (Int.ofNat 95), 91) := by decide +kernel
theorem f_154_91 : x_fe 154 91 = some (.iconst (1), 92) := by decide +kernel
theorem f_154_92 : x_fe 154 92 = some (.iload 5, 94) := by decide +kernel
theorem f_154_94 : x_fe 154 94 = some (.ishl, 95) := by decide +kernel
theorem f_154_95 : x_fe 154 95 = some (.ior, 96) := by decide +kernel
theorem f_154_96 : x_fe 154 96 = some (.istore 4, 98) := by decide +kernel
theorem f_154_98 : x_fe 154 98 = some (.iinc 5 (1), 101) := by decide +kernel
theorem f_154_101 : x_fe 154 101 = some (.goto (Int.ofNat 61), 104) := by decide +kernel
theorem f_154_104 : x_fe 154 104 = some (.iload 4, 106) := by decide +kernel
theorem f_154_106 : x_fe 154 106 = some (.ireturn, 107) := by decide +kernel
theorem f_155_0 : x_fe 155 0 = some (.iconst (0), 1) := by decide +kernel
theorem f_155_1 : x_fe 155 1 = some (.istore 4, 3) := by decide +kernel
theorem f_155_3 : x_fe 155 3 = some (.iload 4, 5) := by decide +kernel
theorem f_155_5 : x_fe 155 5 = some (.iconst (8), 7) := by decide +kernel
theorem f_155_7 : x_fe 155 7 = some (.if_icmp .ge (Int.ofNat 37), 10) := by decide +kernel
theorem f_155_10 : x_fe 155 10 = some (.iload 1, 11) := by decide +kernel
theorem f_155_11 : x_fe 155 11 = some (.aload 0, 12) := by decide +kernel
theorem f_155_12 : x_fe 155 12 = some (.getfield 209, 15) := by decide +kernel
theorem f_155_15 : x_fe 155 15 = some (.iconst (8), 17) := by decide +kernel
theorem f_155_17 : x_fe 155 17 = some (.iload 3, 18) := by decide +kernel
theorem f_155_18 : x_fe 155 18 = some (.imul, 19) := by decide +kernel
theorem f_155_19 : x_fe 155 19 = some (.iload 4, 21) := by decide +kernel
theorem f_155_21 : x_fe 155 21 = some (.iadd, 22) := by decide +kernel
theorem f_155_22 : x_fe 155 22 = some (.iaload, 23) := by decide +kernel
theorem f_155_23 : x_fe 155 23 = some (.iand, 24) := by decide +kernel
theorem f_155_24 : x_fe 155 24 = some (.iload 2, 25) := by decide +kernel
theorem f_155_25 : x_fe 155 25 = some (.if_icmp .ne (Int.ofNat 31), 28) := by decide +kernel
theorem f_155_28 : x_fe 155 28 = some (.iload 4, 30) := by decide +kernel
theorem f_155_30 : x_fe 155 30 = some (.ireturn, 31) := by decide +kernel
theorem f_155_31 : x_fe 155 31 = some (.iinc 4 (1), 34) := by decide +kernel
theorem f_155_34 : x_fe 155 34 = some (.goto (Int.ofNat 3), 37) := by decide +kernel
theorem f_155_37 : x_fe 155 37 = some (.iconst (-1000000), 39) := by decide +kernel
theorem f_155_39 : x_fe 155 39 = some (.ireturn, 40) := by decide +kernel
theorem f_156_0 : x_fe 156 0 = some (.iload 1, 1) := by decide +kernel
theorem f_156_1 : x_fe 156 1 = some (.i2l, 2) := by decide +kernel
theorem f_156_2 : x_fe 156 2 = some (.ldc2_w 0, 3) := by decide +kernel
theorem f_156_3 : x_fe 156 3 = some (.ldc2_w 1, 4) := by decide +kernel
theorem f_156_4 : x_fe 156 4 = some (.invokestatic 101, 7) := by decide +kernel
theorem f_156_7 : x_fe 156 7 = some (.ifCond .ne (Int.ofNat 13), 10) := by decide +kernel
theorem f_156_10 : x_fe 156 10 = some (.iconst (-1000001), 12) := by decide +kernel
theorem f_156_12 : x_fe 156 12 = some (.ireturn, 13) := by decide +kernel
theorem f_156_13 : x_fe 156 13 = some (.aload 0, 14) := by decide +kernel
theorem f_156_14 : x_fe 156 14 = some (.getfield 192, 17) := by decide +kernel
theorem f_156_17 : x_fe 156 17 = some (.iconst (0), 18) := by decide +kernel
theorem f_156_18 : x_fe 156 18 = some (.iaload, 19) := by decide +kernel
theorem f_156_19 : x_fe 156 19 = some (.ifCond .ne (Int.ofNat 25), 22) := by decide +kernel
theorem f_156_22 : x_fe 156 22 = some (.iconst (-1000002), 24) := by decide +kernel
theorem f_156_24 : x_fe 156 24 = some (.ireturn, 25) := by decide +kernel
theorem f_156_25 : x_fe 156 25 = some (.aload 0, 26) := by decide +kernel
theorem f_156_26 : x_fe 156 26 = some (.iconst (0), 27) := by decide +kernel
theorem f_156_27 : x_fe 156 27 = some (.iconst (1), 28) := by decide +kernel
theorem f_156_28 : x_fe 156 28 = some (.iload 1, 29) := by decide +kernel
theorem f_156_29 : x_fe 156 29 = some (.iadd, 30) := by decide +kernel
theorem f_156_30 : x_fe 156 30 = some (.invokevirtual 157, 33) := by decide +kernel
theorem f_156_33 : x_fe 156 33 = some (.iconst (1), 34) := by decide +kernel
theorem f_156_34 : x_fe 156 34 = some (.ireturn, 35) := by decide +kernel
theorem f_157_0 : x_fe 157 0 = some (.iconst (0), 1) := by decide +kernel
theorem f_157_1 : x_fe 157 1 = some (.istore 3, 2) := by decide +kernel
theorem f_157_2 : x_fe 157 2 = some (.iload 3, 3) := by decide +kernel
theorem f_157_3 : x_fe 157 3 = some (.iconst (33), 5) := by decide +kernel
theorem f_157_5 : x_fe 157 5 = some (.if_icmp .ge (Int.ofNat 36), 8) := by decide +kernel
theorem f_157_8 : x_fe 157 8 = some (.aload 0, 9) := by decide +kernel
theorem f_157_9 : x_fe 157 9 = some (.getfield 192, 12) := by decide +kernel
theorem f_157_12 : x_fe 157 12 = some (.iconst (33), 14) := by decide +kernel
theorem f_157_14 : x_fe 157 14 = some (.iload 2, 15) := by decide +kernel
theorem f_157_15 : x_fe 157 15 = some (.imul, 16) := by decide +kernel
theorem f_157_16 : x_fe 157 16 = some (.iload 3, 17) := by decide +kernel
theorem f_157_17 : x_fe 157 17 = some (.iadd, 18) := by decide +kernel
theorem f_157_18 : x_fe 157 18 = some (.aload 0, 19) := by decide +kernel
theorem f_157_19 : x_fe 157 19 = some (.getfield 192, 22) := by decide +kernel
theorem f_157_22 : x_fe 157 22 = some (.iconst (33), 24) := by decide +kernel
theorem f_157_24 : x_fe 157 24 = some (.iload 1, 25) := by decide +kernel
theorem f_157_25 : x_fe 157 25 = some (.imul, 26) := by decide +kernel
theorem f_157_26 : x_fe 157 26 = some (.iload 3, 27) := by decide +kernel
theorem f_157_27 : x_fe 157 27 = some (.iadd, 28) := by decide +kernel
theorem f_157_28 : x_fe 157 28 = some (.iaload, 29) := by decide +kernel
theorem f_157_29 : x_fe 157 29 = some (.iastore, 30) := by decide +kernel
theorem f_157_30 : x_fe 157 30 = some (.iinc 3 (1), 33) := by decide +kernel
theorem f_157_33 : x_fe 157 33 = some (.goto (Int.ofNat 2), 36) := by decide +kernel
theorem f_157_36 : x_fe 157 36 = some (.return_, 37) := by decide +kernel
theorem f_158_0 : x_fe 158 0 = some (.iload 1, 1) := by decide +kernel
theorem f_158_1 : x_fe 158 1 = some (.i2l, 2) := by decide +kernel
theorem f_158_2 : x_fe 158 2 = some (.ldc2_w 0, 3) := by decide +kernel
theorem f_158_3 : x_fe 158 3 = some (.ldc2_w 1, 4) := by decide +kernel
theorem f_158_4 : x_fe 158 4 = some (.invokestatic 101, 7) := by decide +kernel
theorem f_158_7 : x_fe 158 7 = some (.ifCond .ne (Int.ofNat 13), 10) := by decide +kernel
theorem f_158_10 : x_fe 158 10 = some (.iconst (-1000001), 12) := by decide +kernel
theorem f_158_12 : x_fe 158 12 = some (.ireturn, 13) := by decide +kernel
theorem f_158_13 : x_fe 158 13 = some (.aload 0, 14) := by decide +kernel
theorem f_158_14 : x_fe 158 14 = some (.getfield 192, 17) := by decide +kernel
theorem f_158_17 : x_fe 158 17 = some (.iconst (33), 19) := by decide +kernel
theorem f_158_19 : x_fe 158 19 = some (.iconst (1), 20) := by decide +kernel
theorem f_158_20 : x_fe 158 20 = some (.iload 1, 21) := by decide +kernel
theorem f_158_21 : x_fe 158 21 = some (.iadd, 22) := by decide +kernel
theorem f_158_22 : x_fe 158 22 = some (.imul, 23) := by decide +kernel
theorem f_158_23 : x_fe 158 23 = some (.iconst (0), 24) := by decide +kernel
theorem f_158_24 : x_fe 158 24 = some (.iadd, 25) := by decide +kernel
theorem f_158_25 : x_fe 158 25 = some (.iaload, 26) := by decide +kernel
theorem f_158_26 : x_fe 158 26 = some (.ifCond .ne (Int.ofNat 32), 29) := by decide +kernel
theorem f_158_29 : x_fe 158 29 = some (.iconst (-1000002), 31) := by decide +kernel
theorem f_158_31 : x_fe 158 31 = some (.ireturn, 32) := by decide +kernel
theorem f_158_32 : x_fe 158 32 = some (.aload 0, 33) := by decide +kernel
theorem f_158_33 : x_fe 158 33 = some (.iconst (1), 34) := by decide +kernel
theorem f_158_34 : x_fe 158 34 = some (.iload 1, 35) := by decide +kernel
theorem f_158_35 : x_fe 158 35 = some (.iadd, 36) := by decide +kernel
theorem f_158_36 : x_fe 158 36 = some (.iconst (0), 37) := by decide +kernel
theorem f_158_37 : x_fe 158 37 = some (.invokevirtual 157, 40) := by decide +kernel
theorem f_158_40 : x_fe 158 40 = some (.aload 0, 41) := by decide +kernel
theorem f_158_41 : x_fe 158 41 = some (.invokevirtual 120, 44) := by decide +kernel
theorem f_158_44 : x_fe 158 44 = some (.iconst (1), 45) := by decide +kernel
theorem f_158_45 : x_fe 158 45 = some (.ireturn, 46) := by decide +kernel
theorem f_159_0 : x_fe 159 0 = some (.aload 0, 1) := by decide +kernel
theorem f_159_1 : x_fe 159 1 = some (.iload 1, 2) := by decide +kernel
theorem f_159_2 : x_fe 159 2 = some (.invokevirtual 125, 5) := by decide +kernel
theorem f_159_5 : x_fe 159 5 = some (.ifCond .eq (Int.ofNat 16), 8) := by decide +kernel
theorem f_159_8 : x_fe 159 8 = some (.aload 0, 9) := by decide +kernel
theorem f_159_9 : x_fe 159 9 = some (.iload 1, 10) := by decide +kernel
theorem f_159_10 : x_fe 159 10 = some (.invokevirtual 160, 13) := by decide +kernel
theorem f_159_13 : x_fe 159 13 = some (.goto (Int.ofNat 18), 16) := by decide +kernel
theorem f_159_16 : x_fe 159 16 = some (.iconst (-1000001), 18) := by decide +kernel
theorem f_159_18 : x_fe 159 18 = some (.ireturn, 19) := by decide +kernel
theorem f_160_0 : x_fe 160 0 = some (.aload 0, 1) := by decide +kernel
theorem f_160_1 : x_fe 160 1 = some (.getfield 192, 4) := by decide +kernel
theorem f_160_4 : x_fe 160 4 = some (.iconst (2), 5) := by decide +kernel
theorem f_160_5 : x_fe 160 5 = some (.iload 1, 6) := by decide +kernel
theorem f_160_6 : x_fe 160 6 = some (.iadd, 7) := by decide +kernel
theorem f_160_7 : x_fe 160 7 = some (.iaload, 8) := by decide +kernel
theorem f_160_8 : x_fe 160 8 = some (.invokestatic 136, 11) := by decide +kernel
theorem f_160_11 : x_fe 160 11 = some (.istore 2, 12) := by decide +kernel
theorem f_160_12 : x_fe 160 12 = some (.aload 0, 13) := by decide +kernel
theorem f_160_13 : x_fe 160 13 = some (.iload 1, 14) := by decide +kernel
theorem f_160_14 : x_fe 160 14 = some (.invokevirtual 151, 17) := by decide +kernel
theorem f_160_17 : x_fe 160 17 = some (.iconst (1), 18) := by decide +kernel
theorem f_160_18 : x_fe 160 18 = some (.if_icmp .ne (Int.ofNat 25), 21) := by decide +kernel
theorem f_160_21 : x_fe 160 21 = some (.iconst (1), 22) := by decide +kernel
theorem f_160_22 : x_fe 160 22 = some (.goto (Int.ofNat 26), 25) := by decide +kernel
theorem f_160_25 : x_fe 160 25 = some (.iconst (0), 26) := by decide +kernel
theorem f_160_26 : x_fe 160 26 = some (.istore 3, 27) := by decide +kernel
theorem f_160_27 : x_fe 160 27 = some (.iload 2, 28) := by decide +kernel
theorem f_160_28 : x_fe 160 28 = some (.ifCond .ne (Int.ofNat 35), 31) := by decide +kernel
theorem f_160_31 : x_fe 160 31 = some (.iconst (2), 32) := by decide +kernel
theorem f_160_32 : x_fe 160 32 = some (.goto (Int.ofNat 66), 35) := by decide +kernel
theorem f_160_35 : x_fe 160 35 = some (.iload 3, 36) := by decide +kernel
theorem f_160_36 : x_fe 160 36 = some (.ifCond .eq (Int.ofNat 48), 39) := by decide +kernel
theorem f_160_39 : x_fe 160 39 = some (.iload 2, 40) := by decide +kernel
theorem f_160_40 : x_fe 160 40 = some (.iconst (5), 41) := by decide +kernel
theorem f_160_41 : x_fe 160 41 = some (.if_icmp .le (Int.ofNat 48), 44) := by decide +kernel
theorem f_160_44 : x_fe 160 44 = some (.iconst (5), 45) := by decide +kernel
theorem f_160_45 : x_fe 160 45 = some (.goto (Int.ofNat 66), 48) := by decide +kernel
theorem f_160_48 : x_fe 160 48 = some (.iload 3, 49) := by decide +kernel
theorem f_160_49 : x_fe 160 49 = some (.ifCond .eq (Int.ofNat 56), 52) := by decide +kernel
theorem f_160_52 : x_fe 160 52 = some (.iconst (3), 53) := by decide +kernel
theorem f_160_53 : x_fe 160 53 = some (.goto (Int.ofNat 66), 56) := by decide +kernel
theorem f_160_56 : x_fe 160 56 = some (.iload 2, 57) := by decide +kernel
theorem f_160_57 : x_fe 160 57 = some (.iconst (5), 58) := by decide +kernel
theorem f_160_58 : x_fe 160 58 = some (.if_icmp .le (Int.ofNat 65), 61) := by decide +kernel
theorem f_160_61 : x_fe 160 61 = some (.iconst (4), 62) := by decide +kernel
theorem f_160_62 : x_fe 160 62 = some (.goto (Int.ofNat 66), 65) := by decide +kernel
theorem f_160_65 : x_fe 160 65 = some (.iconst (1), 66) := by decide +kernel
theorem f_160_66 : x_fe 160 66 = some (.ireturn, 67) := by decide +kernel
theorem f_161_0 : x_fe 161 0 = some (.aload 0, 1) := by decide +kernel
theorem f_161_1 : x_fe 161 1 = some (.iload 1, 2) := by decide +kernel
theorem f_161_2 : x_fe 161 2 = some (.invokevirtual 125, 5) := by decide +kernel
theorem f_161_5 : x_fe 161 5 = some (.ifCond .eq (Int.ofNat 20), 8) := by decide +kernel
theorem f_161_8 : x_fe 161 8 = some (.iload 2, 9) := by decide +kernel
theorem f_161_9 : x_fe 161 9 = some (.i2l, 10) := by decide +kernel
theorem f_161_10 : x_fe 161 10 = some (.ldc2_w 0, 11) := by decide +kernel
theorem f_161_11 : x_fe 161 11 = some (.ldc2_w 5, 14) := by decide +kernel
theorem f_161_14 : x_fe 161 14 = some (.invokestatic 101, 17) := by decide +kernel
theorem f_161_17 : x_fe 161 17 = some (.ifCond .ne (Int.ofNat 23), 20) := by decide +kernel
theorem f_161_20 : x_fe 161 20 = some (.iconst (-1000001), 22) := by decide +kernel
theorem f_161_22 : x_fe 161 22 = some (.ireturn, 23) := by decide +kernel
theorem f_161_23 : x_fe 161 23 = some (.aload 0, 24) := by decide +kernel
theorem f_161_24 : x_fe 161 24 = some (.iload 1, 25) := by decide +kernel
theorem f_161_25 : x_fe 161 25 = some (.invokevirtual 160, 28) := by decide +kernel
theorem f_161_28 : x_fe 161 28 = some (.istore 3, 29) := by decide +kernel
theorem f_161_29 : x_fe 161 29 = some (.iload 2, 30) := by decide +kernel
theorem f_161_30 : x_fe 161 30 = some (.ifCond .eq (Int.ofNat 58), 33) := by decide +kernel
theorem f_161_33 : x_fe 161 33 = some (.iload 2, 34) := by decide +kernel
theorem f_161_34 : x_fe 161 34 = some (.iload 3, 35) := by decide +kernel
theorem f_161_35 : x_fe 161 35 = some (.if_icmp .eq (Int.ofNat 58), 38) := by decide +kernel
theorem f_161_38 : x_fe 161 38 = some (.iload 2, 39) := by decide +kernel
theorem f_161_39 : x_fe 161 39 = some (.iconst (1), 40) := by decide +kernel
theorem f_161_40 : x_fe 161 40 = some (.if_icmp .ne (Int.ofNat 48), 43) := by decide +kernel
theorem f_161_43 : x_fe 161 43 = some (.iload 3, 44) := by decide +kernel
theorem f_161_44 : x_fe 161 44 = some (.iconst (2), 45) := by decide +kernel
theorem f_161_45 : x_fe 161 45 = some (.if_icmp .ne (Int.ofNat 58), 48) := by decide +kernel
theorem f_161_48 : x_fe 161 48 = some (.iload 2, 49) := by decide +kernel
theorem f_161_49 : x_fe 161 49 = some (.iconst (3), 50) := by decide +kernel
theorem f_161_50 : x_fe 161 50 = some (.if_icmp .ne (Int.ofNat 62), 53) := by decide +kernel
theorem f_161_53 : x_fe 161 53 = some (.iload 3, 54) := by decide +kernel
theorem f_161_54 : x_fe 161 54 = some (.iconst (5), 55) := by decide +kernel
theorem f_161_55 : x_fe 161 55 = some (.if_icmp .ne (Int.ofNat 62), 58) := by decide +kernel
theorem f_161_58 : x_fe 161 58 = some (.iconst (1), 59) := by decide +kernel
theorem f_161_59 : x_fe 161 59 = some (.goto (Int.ofNat 63), 62) := by decide +kernel
theorem f_161_62 : x_fe 161 62 = some (.iconst (0), 63) := by decide +kernel
theorem f_161_63 : x_fe 161 63 = some (.istore 4, 65) := by decide +kernel
theorem f_161_65 : x_fe 161 65 = some (.iload 4, 67) := by decide +kernel
theorem f_161_67 : x_fe 161 67 = some (.ifCond .eq (Int.ofNat 78), 70) := by decide +kernel
theorem f_161_70 : x_fe 161 70 = some (.aload 0, 71) := by decide +kernel
theorem f_161_71 : x_fe 161 71 = some (.iload 1, 72) := by decide +kernel
theorem f_161_72 : x_fe 161 72 = some (.invokevirtual 103, 75) := by decide +kernel
theorem f_161_75 : x_fe 161 75 = some (.goto (Int.ofNat 83), 78) := by decide +kernel
theorem f_161_78 : x_fe 161 78 = some (.aload 0, 79) := by decide +kernel
theorem f_161_79 : x_fe 161 79 = some (.iconst (3), 80) := by decide +kernel
theorem f_161_80 : x_fe 161 80 = some (.invokevirtual 102, 83) := by decide +kernel
theorem f_161_83 : x_fe 161 83 = some (.ireturn, 84) := by decide +kernel
theorem f_162_0 : x_fe 162 0 = some (.aload 0, 1) := by decide +kernel
theorem f_162_1 : x_fe 162 1 = some (.iload 1, 2) := by decide +kernel
theorem f_162_2 : x_fe 162 2 = some (.invokevirtual 125, 5) := by decide +kernel
theorem f_162_5 : x_fe 162 5 = some (.ifCond .eq (Int.ofNat 18), 8) := by decide +kernel
theorem f_162_8 : x_fe 162 8 = some (.iload 2, 9) := by decide +kernel
theorem f_162_9 : x_fe 162 9 = some (.i2l, 10) := by decide +kernel
theorem f_162_10 : x_fe 162 10 = some (.ldc2_w 0, 11) := by decide +kernel
theorem f_162_11 : x_fe 162 11 = some (.ldc2_w 1, 12) := by decide +kernel
theorem f_162_12 : x_fe 162 12 = some (.invokestatic 101, 15) := by decide +kernel
theorem f_162_15 : x_fe 162 15 = some (.ifCond .ne (Int.ofNat 21), 18) := by decide +kernel
theorem f_162_18 : x_fe 162 18 = some (.iconst (-1000001), 20) := by decide +kernel
theorem f_162_20 : x_fe 162 20 = some (.ireturn, 21) := by decide +kernel
theorem f_162_21 : x_fe 162 21 = some (.aload 0, 22) := by decide +kernel
theorem f_162_22 : x_fe 162 22 = some (.iconst (0), 23) := by decide +kernel
theorem f_162_23 : x_fe 162 23 = some (.putfield 201, 26) := by decide +kernel
theorem f_162_26 : x_fe 162 26 = some (.iload 2, 27) := by decide +kernel
theorem f_162_27 : x_fe 162 27 = some (.ifCond .ne (Int.ofNat 38), 30) := by decide +kernel
theorem f_162_30 : x_fe 162 30 = some (.aload 0, 31) := by decide +kernel
theorem f_162_31 : x_fe 162 31 = some (.iload 1, 32) := by decide +kernel
theorem f_162_32 : x_fe 162 32 = some (.invokevirtual 163, 35) := by decide +kernel
theorem f_162_35 : x_fe 162 35 = some (.goto (Int.ofNat 43), 38) := by decide +kernel
theorem f_162_38 : x_fe 162 38 = some (.aload 0, 39) := by decide +kernel
theorem f_162_39 : x_fe 162 39 = some (.iload 1, 40) := by decide +kernel
theorem f_162_40 : x_fe 162 40 = some (.invokevirtual 167, 43) := by decide +kernel
theorem f_162_43 : x_fe 162 43 = some (.ireturn, 44) := by decide +kernel
theorem f_163_0 : x_fe 163 0 = some (.aload 0, 1) := by decide +kernel
theorem f_163_1 : x_fe 163 1 = some (.iload 1, 2) := by decide +kernel
theorem f_163_2 : x_fe 163 2 = some (.invokevirtual 160, 5) := by decide +kernel
theorem f_163_5 : x_fe 163 5 = some (.istore 2, 6) := by decide +kernel
theorem f_163_6 : x_fe 163 6 = some (.iload 2, 7) := by decide +kernel
theorem f_163_7 : x_fe 163 7 = some (.iconst (3), 8) := by decide +kernel
theorem f_163_8 : x_fe 163 8 = some (.if_icmp .eq (Int.ofNat 16), 11) := by decide +kernel
theorem f_163_11 : x_fe 163 11 = some (.iload 2, 12) := by decide +kernel
theorem f_163_12 : x_fe 163 12 = some (.iconst (5), 13) := by decide +kernel
theorem f_163_13 : x_fe 163 13 = some (.if_icmp .ne (Int.ofNat 30), 16) := by decide +kernel
theorem f_163_16 : x_fe 163 16 = some (.aload 0, 17) := by decide +kernel
theorem f_163_17 : x_fe 163 17 = some (.iconst (12), 19) := by decide +kernel
theorem f_163_19 : x_fe 163 19 = some (.invokevirtual 164, 22) := by decide +kernel
theorem f_163_22 : x_fe 163 22 = some (.iconst (2), 23) := by decide +kernel
theorem f_163_23 : x_fe 163 23 = some (.aload 0, 24) := by decide +kernel
theorem f_163_24 : x_fe 163 24 = some (.iload 1, 25) := by decide +kernel
theorem f_163_25 : x_fe 163 25 = some (.invokevirtual 165, 28) := by decide +kernel
theorem f_163_28 : x_fe 163 28 = some (.imul, 29) := by decide +kernel
theorem f_163_29 : x_fe 163 29 = some (.ireturn, 30) := by decide +kernel
theorem f_163_30 : x_fe 163 30 = some (.iload 2, 31) := by decide +kernel
theorem f_163_31 : x_fe 163 31 = some (.iconst (4), 32) := by decide +kernel
theorem f_163_32 : x_fe 163 32 = some (.if_icmp .ne (Int.ofNat 48), 35) := by decide +kernel
theorem f_163_35 : x_fe 163 35 = some (.aload 0, 36) := by decide +kernel
theorem f_163_36 : x_fe 163 36 = some (.iconst (13), 38) := by decide +kernel
theorem f_163_38 : x_fe 163 38 = some (.invokevirtual 164, 41) := by decide +kernel
theorem f_163_41 : x_fe 163 41 = some (.aload 0, 42) := by decide +kernel
theorem f_163_42 : x_fe 163 42 = some (.iload 1, 43) := by decide +kernel
theorem f_163_43 : x_fe 163 43 = some (.invokevirtual 165, 46) := by decide +kernel
theorem f_163_46 : x_fe 163 46 = some (.ineg, 47) := by decide +kernel
theorem f_163_47 : x_fe 163 47 = some (.ireturn, 48) := by decide +kernel
theorem f_163_48 : x_fe 163 48 = some (.iload 2, 49) := by decide +kernel
theorem f_163_49 : x_fe 163 49 = some (.iconst (2), 50) := by decide +kernel
theorem f_163_50 : x_fe 163 50 = some (.if_icmp .ne (Int.ofNat 68), 53) := by decide +kernel
theorem f_163_53 : x_fe 163 53 = some (.aload 0, 54) := by decide +kernel
theorem f_163_54 : x_fe 163 54 = some (.iconst (14), 56) := by decide +kernel
theorem f_163_56 : x_fe 163 56 = some (.invokevirtual 164, 59) := by decide +kernel
theorem f_163_59 : x_fe 163 59 = some (.aload 0, 60) := by decide +kernel
theorem f_163_60 : x_fe 163 60 = some (.iload 1, 61) := by decide +kernel
theorem f_163_61 : x_fe 163 61 = some (.invokevirtual 166, 64) := by decide +kernel
theorem f_163_64 : x_fe 163 64 = some (.iconst (100), 66) := by decide +kernel
theorem f_163_66 : x_fe 163 66 = some (.isub, 67) := by decide +kernel
theorem f_163_67 : x_fe 163 67 = some (.ireturn, 68) := by decide +kernel
theorem f_163_68 : x_fe 163 68 = some (.aload 0, 69) := by decide +kernel
theorem f_163_69 : x_fe 163 69 = some (.iload 1, 70) := by decide +kernel
theorem f_163_70 : x_fe 163 70 = some (.invokevirtual 165, 73) := by decide +kernel
theorem f_163_73 : x_fe 163 73 = some (.ireturn, 74) := by decide +kernel
theorem f_164_0 : x_fe 164 0 = some (.aload 0, 1) := by decide +kernel
theorem f_164_1 : x_fe 164 1 = some (.getfield 201, 4) := by decide +kernel
theorem f_164_4 : x_fe 164 4 = some (.iconst (16), 6) := by decide +kernel
theorem f_164_6 : x_fe 164 6 = some (.if_icmp .ge (Int.ofNat 29), 9) := by decide +kernel
theorem f_164_9 : x_fe 164 9 = some (.aload 0, 10) := by decide +kernel
theorem f_164_10 : x_fe 164 10 = some (.getfield 200, 13) := by decide +kernel
theorem f_164_13 : x_fe 164 13 = some (.aload 0, 14) := by decide +kernel
theorem f_164_14 : x_fe 164 14 = some (.getfield 201, 17) := by decide +kernel
theorem f_164_17 : x_fe 164 17 = some (.iload 1, 18) := by decide +kernel
theorem f_164_18 : x_fe 164 18 = some (.iastore, 19) := by decide +kernel
theorem f_164_19 : x_fe 164 19 = some (.aload 0, 20) := by decide +kernel
theorem f_164_20 : x_fe 164 20 = some (.dup, 21) := by decide +kernel
theorem f_164_21 : x_fe 164 21 = some (.getfield 201, 24) := by decide +kernel
theorem f_164_24 : x_fe 164 24 = some (.iconst (1), 25) := by decide +kernel
theorem f_164_25 : x_fe 164 25 = some (.iadd, 26) := by decide +kernel
theorem f_164_26 : x_fe 164 26 = some (.putfield 201, 29) := by decide +kernel
theorem f_164_29 : x_fe 164 29 = some (.return_, 30) := by decide +kernel
theorem f_165_0 : x_fe 165 0 = some (.aload 0, 1) := by decide +kernel
theorem f_165_1 : x_fe 165 1 = some (.iconst (11), 3) := by decide +kernel
theorem f_165_3 : x_fe 165 3 = some (.invokevirtual 164, 6) := by decide +kernel
theorem f_165_6 : x_fe 165 6 = some (.aload 0, 7) := by decide +kernel
theorem f_165_7 : x_fe 165 7 = some (.iload 1, 8) := by decide +kernel
theorem f_165_8 : x_fe 165 8 = some (.invokevirtual 166, 11) := by decide +kernel
theorem f_165_11 : x_fe 165 11 = some (.istore 2, 12) := by decide +kernel
theorem f_165_12 : x_fe 165 12 = some (.iload 2, 13) := by decide +kernel
theorem f_165_13 : x_fe 165 13 = some (.aload 0, 14) := by decide +kernel
theorem f_165_14 : x_fe 165 14 = some (.iload 1, 15) := by decide +kernel
theorem f_165_15 : x_fe 165 15 = some (.invokevirtual 167, 18) := by decide +kernel
theorem f_165_18 : x_fe 165 18 = some (.iadd, 19) := by decide +kernel
theorem f_165_19 : x_fe 165 19 = some (.ireturn, 20) := by decide +kernel
theorem f_166_0 : x_fe 166 0 = some (.aload 0, 1) := by decide +kernel
theorem f_166_1 : x_fe 166 1 = some (.iconst (10), 3) := by decide +kernel
theorem f_166_3 : x_fe 166 3 = some (.invokevirtual 164, 6) := by decide +kernel
theorem f_166_6 : x_fe 166 6 = some (.aload 0, 7) := by decide +kernel
theorem f_166_7 : x_fe 166 7 = some (.getfield 192, 10) := by decide +kernel
theorem f_166_10 : x_fe 166 10 = some (.iconst (2), 11) := by decide +kernel
theorem f_166_11 : x_fe 166 11 = some (.iload 1, 12) := by decide +kernel
theorem f_166_12 : x_fe 166 12 = some (.iadd, 13) := by decide +kernel
theorem f_166_13 : x_fe 166 13 = some (.iaload, 14) := by decide +kernel
theorem f_166_14 : x_fe 166 14 = some (.invokestatic 136, 17) := by decide +kernel
theorem f_166_17 : x_fe 166 17 = some (.ireturn, 18) := by decide +kernel
theorem f_167_0 : x_fe 167 0 = some (.aload 0, 1) := by decide +kernel
theorem f_167_1 : x_fe 167 1 = some (.iload 1, 2) := by decide +kernel
theorem f_167_2 : x_fe 167 2 = some (.invokevirtual 160, 5) := by decide +kernel
theorem f_167_5 : x_fe 167 5 = some (.istore 2, 6) := by decide +kernel
theorem f_167_6 : x_fe 167 6 = some (.iload 2, 7) := by decide +kernel
theorem f_167_7 : x_fe 167 7 = some (.iconst (5), 8) := by decide +kernel
theorem f_167_8 : x_fe 167 8 = some (.if_icmp .ne (Int.ofNat 27), 11) := by decide +kernel
theorem f_167_11 : x_fe 167 11 = some (.aload 0, 12) := by decide +kernel
theorem f_167_12 : x_fe 167 12 = some (.iconst (22), 14) := by decide +kernel
theorem f_167_14 : x_fe 167 14 = some (.invokevirtual 164, 17) := by decide +kernel
theorem f_167_17 : x_fe 167 17 = some (.aload 0, 18) := by decide +kernel
theorem f_167_18 : x_fe 167 18 = some (.iload 1, 19) := by decide +kernel
theorem f_167_19 : x_fe 167 19 = some (.invokevirtual 168, 22) := by decide +kernel
theorem f_167_22 : x_fe 167 22 = some (.iconst (1000), 25) := by decide +kernel
theorem f_167_25 : x_fe 167 25 = some (.isub, 26) := by decide +kernel
theorem f_167_26 : x_fe 167 26 = some (.ireturn, 27) := by decide +kernel
theorem f_167_27 : x_fe 167 27 = some (.iload 2, 28) := by decide +kernel
theorem f_167_28 : x_fe 167 28 = some (.iconst (4), 29) := by decide +kernel
theorem f_167_29 : x_fe 167 29 = some (.if_icmp .ne (Int.ofNat 48), 32) := by decide +kernel
theorem f_167_32 : x_fe 167 32 = some (.aload 0, 33) := by decide +kernel
theorem f_167_33 : x_fe 167 33 = some (.iconst (24), 35) := by decide +kernel
theorem f_167_35 : x_fe 167 35 = some (.invokevirtual 164, 38) := by decide +kernel
theorem f_167_38 : x_fe 167 38 = some (.aload 0, 39) := by decide +kernel
theorem f_167_39 : x_fe 167 39 = some (.iload 1, 40) := by decide +kernel
theorem f_167_40 : x_fe 167 40 = some (.invokevirtual 168, 43) := by decide +kernel
theorem f_167_43 : x_fe 167 43 = some (.iconst (500), 46) := by decide +kernel
theorem f_167_46 : x_fe 167 46 = some (.iadd, 47) := by decide +kernel
theorem f_167_47 : x_fe 167 47 = some (.ireturn, 48) := by decide +kernel
theorem f_167_48 : x_fe 167 48 = some (.iload 2, 49) := by decide +kernel
theorem f_167_49 : x_fe 167 49 = some (.iconst (2), 50) := by decide +kernel
theorem f_167_50 : x_fe 167 50 = some (.if_icmp .ne (Int.ofNat 82), 53) := by decide +kernel
theorem f_167_53 : x_fe 167 53 = some (.aload 0, 54) := by decide +kernel
theorem f_167_54 : x_fe 167 54 = some (.iconst (23), 56) := by decide +kernel
theorem f_167_56 : x_fe 167 56 = some (.invokevirtual 164, 59) := by decide +kernel
theorem f_167_59 : x_fe 167 59 = some (.aload 0, 60) := by decide +kernel
theorem f_167_60 : x_fe 167 60 = some (.iload 1, 61) := by decide +kernel
theorem f_167_61 : x_fe 167 61 = some (.invokevirtual 169, 64) := by decide +kernel
theorem f_167_64 : x_fe 167 64 = some (.istore 3, 65) := by decide +kernel
theorem f_167_65 : x_fe 167 65 = some (.aload 0, 66) := by decide +kernel
theorem f_167_66 : x_fe 167 66 = some (.iconst (14), 68) := by decide +kernel
theorem f_167_68 : x_fe 167 68 = some (.invokevirtual 164, 71) := by decide +kernel
theorem f_167_71 : x_fe 167 71 = some (.iload 3, 72) := by decide +kernel
theorem f_167_72 : x_fe 167 72 = some (.aload 0, 73) := by decide +kernel
theorem f_167_73 : x_fe 167 73 = some (.iload 1, 74) := by decide +kernel
theorem f_167_74 : x_fe 167 74 = some (.invokevirtual 166, 77) := by decide +kernel
theorem f_167_77 : x_fe 167 77 = some (.iadd, 78) := by decide +kernel
theorem f_167_78 : x_fe 167 78 = some (.iconst (100), 80) := by decide +kernel
theorem f_167_80 : x_fe 167 80 = some (.isub, 81) := by decide +kernel
theorem f_167_81 : x_fe 167 81 = some (.ireturn, 82) := by decide +kernel
theorem f_167_82 : x_fe 167 82 = some (.aload 0, 83) := by decide +kernel
theorem f_167_83 : x_fe 167 83 = some (.iload 1, 84) := by decide +kernel
theorem f_167_84 : x_fe 167 84 = some (.invokevirtual 168, 87) := by decide +kernel
theorem f_167_87 : x_fe 167 87 = some (.ireturn, 88) := by decide +kernel
theorem f_168_0 : x_fe 168 0 = some (.aload 0, 1) := by decide +kernel
theorem f_168_1 : x_fe 168 1 = some (.iconst (21), 3) := by decide +kernel
theorem f_168_3 : x_fe 168 3 = some (.invokevirtual 164, 6) := by decide +kernel
theorem f_168_6 : x_fe 168 6 = some (.aload 0, 7) := by decide +kernel
theorem f_168_7 : x_fe 168 7 = some (.iload 1, 8) := by decide +kernel
theorem f_168_8 : x_fe 168 8 = some (.invokevirtual 169, 11) := by decide +kernel
theorem f_168_11 : x_fe 168 11 = some (.istore 2, 12) := by decide +kernel
theorem f_168_12 : x_fe 168 12 = some (.iload 2, 13) := by decide +kernel
theorem f_168_13 : x_fe 168 13 = some (.aload 0, 14) := by decide +kernel
theorem f_168_14 : x_fe 168 14 = some (.aload 0, 15) := by decide +kernel
theorem f_168_15 : x_fe 168 15 = some (.getfield 192, 18) := by decide +kernel
theorem f_168_18 : x_fe 168 18 = some (.iconst (2), 19) := by decide +kernel
theorem f_168_19 : x_fe 168 19 = some (.iload 1, 20) := by decide +kernel
theorem f_168_20 : x_fe 168 20 = some (.iadd, 21) := by decide +kernel
theorem f_168_21 : x_fe 168 21 = some (.iaload, 22) := by decide +kernel
theorem f_168_22 : x_fe 168 22 = some (.invokevirtual 129, 25) := by decide +kernel
theorem f_168_25 : x_fe 168 25 = some (.iadd, 26) := by decide +kernel
theorem f_168_26 : x_fe 168 26 = some (.ireturn, 27) := by decide +kernel
theorem f_169_0 : x_fe 169 0 = some (.aload 0, 1) := by decide +kernel
theorem f_169_1 : x_fe 169 1 = some (.iconst (20), 3) := by decide +kernel
theorem f_169_3 : x_fe 169 3 = some (.invokevirtual 164, 6) := by decide +kernel
theorem f_169_6 : x_fe 169 6 = some (.iload 1, 7) := by decide +kernel
theorem f_169_7 : x_fe 169 7 = some (.ireturn, 8) := by decide +kernel
theorem f_170_0 : x_fe 170 0 = some (.iload 1, 1) := by decide +kernel
theorem f_170_1 : x_fe 170 1 = some (.i2l, 2) := by decide +kernel
theorem f_170_2 : x_fe 170 2 = some (.ldc2_w 0, 3) := by decide +kernel
theorem f_170_3 : x_fe 170 3 = some (.aload 0, 4) := by decide +kernel
theorem f_170_4 : x_fe 170 4 = some (.getfield 201, 7) := by decide +kernel
theorem f_170_7 : x_fe 170 7 = some (.iconst (1), 8) := by decide +kernel
theorem f_170_8 : x_fe 170 8 = some (.isub, 9) := by decide +kernel
theorem f_170_9 : x_fe 170 9 = some (.i2l, 10) := by decide +kernel
theorem f_170_10 : x_fe 170 10 = some (.invokestatic 101, 13) := by decide +kernel
theorem f_170_13 : x_fe 170 13 = some (.ifCond .eq (Int.ofNat 25), 16) := by decide +kernel
theorem f_170_16 : x_fe 170 16 = some (.aload 0, 17) := by decide +kernel
theorem f_170_17 : x_fe 170 17 = some (.getfield 200, 20) := by decide +kernel
theorem f_170_20 : x_fe 170 20 = some (.iload 1, 21) := by decide +kernel
theorem f_170_21 : x_fe 170 21 = some (.iaload, 22) := by decide +kernel
theorem f_170_22 : x_fe 170 22 = some (.goto (Int.ofNat 27), 25) := by decide +kernel
theorem f_170_25 : x_fe 170 25 = some (.iconst (-1000000), 27) := by decide +kernel
theorem f_170_27 : x_fe 170 27 = some (.ireturn, 28) := by decide +kernel
theorem f_171_0 : x_fe 171 0 = some (.iconst (0), 1) := by decide +kernel
theorem f_171_1 : x_fe 171 1 = some (.istore 2, 2) := by decide +kernel
theorem f_171_2 : x_fe 171 2 = some (.iconst (0), 3) := by decide +kernel
theorem f_171_3 : x_fe 171 3 = some (.istore 3, 4) := by decide +kernel
theorem f_171_4 : x_fe 171 4 = some (.iload 3, 5) := by decide +kernel
theorem f_171_5 : x_fe 171 5 = some (.iconst (8), 7) := by decide +kernel
theorem f_171_7 : x_fe 171 7 = some (.if_icmp .ge (Int.ofNat 35), 10) := by decide +kernel
theorem f_171_10 : x_fe 171 10 = some (.iload 2, 11) := by decide +kernel
theorem f_171_11 : x_fe 171 11 = some (.aload 0, 12) := by decide +kernel
theorem f_171_12 : x_fe 171 12 = some (.getfield 197, 15) := by decide +kernel
theorem f_171_15 : x_fe 171 15 = some (.iload 3, 16) := by decide +kernel
theorem f_171_16 : x_fe 171 16 = some (.iaload, 17) := by decide +kernel
theorem f_171_17 : x_fe 171 17 = some (.iconst (-1000000), 19) := by decide +kernel
theorem f_171_19 : x_fe 171 19 = some (.if_icmp .ne (Int.ofNat 26), 22) := by decide +kernel
theorem f_171_22 : x_fe 171 22 = some (.iconst (0), 23) := by decide +kernel
theorem f_171_23 : x_fe 171 23 = some (.goto (Int.ofNat 27), 26) := by decide +kernel
theorem f_171_26 : x_fe 171 26 = some (.iconst (1), 27) := by decide +kernel
theorem f_171_27 : x_fe 171 27 = some (.iadd, 28) := by decide +kernel
theorem f_171_28 : x_fe 171 28 = some (.istore 2, 29) := by decide +kernel
theorem f_171_29 : x_fe 171 29 = some (.iinc 3 (1), 32) := by decide +kernel
theorem f_171_32 : x_fe 171 32 = some (.goto (Int.ofNat 4), 35) := by decide +kernel
theorem f_171_35 : x_fe 171 35 = some (.iload 1, 36) := by decide +kernel
theorem f_171_36 : x_fe 171 36 = some (.ifCond .ne (Int.ofNat 43), 39) := by decide +kernel
theorem f_171_39 : x_fe 171 39 = some (.iload 2, 40) := by decide +kernel
theorem f_171_40 : x_fe 171 40 = some (.goto (Int.ofNat 107), 43) := by decide +kernel
theorem f_171_43 : x_fe 171 43 = some (.iload 1, 44) := by decide +kernel
theorem f_171_44 : x_fe 171 44 = some (.iconst (1), 45) := by decide +kernel
theorem f_171_45 : x_fe 171 45 = some (.if_icmp .ne (Int.ofNat 57), 48) := by decide +kernel
theorem f_171_48 : x_fe 171 48 = some (.aload 0, 49) := by decide +kernel
theorem f_171_49 : x_fe 171 49 = some (.getfield 192, 52) := by decide +kernel
theorem f_171_52 : x_fe 171 52 = some (.iconst (1), 53) := by decide +kernel
theorem f_171_53 : x_fe 171 53 = some (.iaload, 54) := by decide +kernel
theorem f_171_54 : x_fe 171 54 = some (.goto (Int.ofNat 107), 57) := by decide +kernel
theorem f_171_57 : x_fe 171 57 = some (.iload 1, 58) := by decide +kernel
theorem f_171_58 : x_fe 171 58 = some (.iconst (2), 59) := by decide +kernel
theorem f_171_59 : x_fe 171 59 = some (.if_icmp .ne (Int.ofNat 93), 62) := by decide +kernel
theorem f_171_62 : x_fe 171 62 = some (.aload 0, 63) := by decide +kernel
theorem f_171_63 : x_fe 171 63 = some (.getfield 192, 66) := by decide +kernel
theorem f_171_66 : x_fe 171 66 = some (.iconst (1), 67) := by decide +kernel
theorem f_171_67 : x_fe 171 67 = some (.iaload, 68) := by decide +kernel
theorem f_171_68 : x_fe 171 68 = some (.aload 0, 69) := by decide +kernel
theorem f_171_69 : x_fe 171 69 = some (.getfield 192, 72) := by decide +kernel
theorem f_171_72 : x_fe 171 72 = some (.iconst (30), 74) := by decide +kernel
theorem f_171_74 : x_fe 171 74 = some (.iaload, 75) := by decide +kernel
theorem f_171_75 : x_fe 171 75 = some (.invokestatic 136, 78) := by decide +kernel
theorem f_171_78 : x_fe 171 78 = some (.isub, 79) := by decide +kernel
theorem f_171_79 : x_fe 171 79 = some (.aload 0, 80) := by decide +kernel
theorem f_171_80 : x_fe 171 80 = some (.getfield 192, 83) := by decide +kernel
theorem f_171_83 : x_fe 171 83 = some (.iconst (31), 85) := by decide +kernel
theorem f_171_85 : x_fe 171 85 = some (.iaload, 86) := by decide +kernel
theorem f_171_86 : x_fe 171 86 = some (.invokestatic 136, 89) := by decide +kernel
theorem f_171_89 : x_fe 171 89 = some (.isub, 90) := by decide +kernel
theorem f_171_90 : x_fe 171 90 = some (.goto (Int.ofNat 107), 93) := by decide +kernel
theorem f_171_93 : x_fe 171 93 = some (.iload 1, 94) := by decide +kernel
theorem f_171_94 : x_fe 171 94 = some (.iconst (3), 95) := by decide +kernel
theorem f_171_95 : x_fe 171 95 = some (.if_icmp .ne (Int.ofNat 105), 98) := by decide +kernel
theorem f_171_98 : x_fe 171 98 = some (.aload 0, 99) := by decide +kernel
theorem f_171_99 : x_fe 171 99 = some (.getfield 194, 102) := by decide +kernel
theorem f_171_102 : x_fe 171 102 = some (.goto (Int.ofNat 107), 105) := by decide +kernel
theorem f_171_105 : x_fe 171 105 = some (.iconst (-1000001), 107) := by decide +kernel
theorem f_171_107 : x_fe 171 107 = some (.ireturn, 108) := by decide +kernel
theorem f_172_0 : x_fe 172 0 = some (.aload 0, 1) := by decide +kernel
theorem f_172_1 : x_fe 172 1 = some (.getfield 196, 4) := by decide +kernel
theorem f_172_4 : x_fe 172 4 = some (.ireturn, 5) := by decide +kernel
theorem f_173_0 : x_fe 173 0 = some (.aload 0, 1) := by decide +kernel
theorem f_173_1 : x_fe 173 1 = some (.getfield 256, 4) := by decide +kernel
theorem f_173_4 : x_fe 173 4 = some (.arraylength, 5) := by decide +kernel
theorem f_173_5 : x_fe 173 5 = some (.aload 0, 6) := by decide +kernel
theorem f_173_6 : x_fe 173 6 = some (.invokevirtual 174, 9) := by decide +kernel
theorem f_173_9 : x_fe 173 9 = some (.ishr, 10) := by decide +kernel
theorem f_173_10 : x_fe 173 10 = some (.ireturn, 11) := by decide +kernel
theorem f_174_0 : x_fe 174 0 = some (.getstatic 2, 3) := by decide +kernel
theorem f_174_3 : x_fe 174 3 = some (.ifCond .eq (Int.ofNat 13), 6) := by decide +kernel
theorem f_174_6 : x_fe 174 6 = some (.aload 0, 7) := by decide +kernel
theorem f_174_7 : x_fe 174 7 = some (.getfield 257, 10) := by decide +kernel
theorem f_174_10 : x_fe 174 10 = some (.goto (Int.ofNat 14), 13) := by decide +kernel
theorem f_174_13 : x_fe 174 13 = some (.iconst (1), 14) := by decide +kernel
theorem f_174_14 : x_fe 174 14 = some (.ireturn, 15) := by decide +kernel
theorem f_175_0 : x_fe 175 0 = some (.aload 0, 1) := by decide +kernel
theorem f_175_1 : x_fe 175 1 = some (.invokevirtual 176, 4) := by decide +kernel
theorem f_175_4 : x_fe 175 4 = some (.ifCond .eq (Int.ofNat 16), 7) := by decide +kernel
theorem f_175_7 : x_fe 175 7 = some (.aload 0, 8) := by decide +kernel
theorem f_175_8 : x_fe 175 8 = some (.getfield 256, 11) := by decide +kernel
theorem f_175_11 : x_fe 175 11 = some (.iload 1, 12) := by decide +kernel
theorem f_175_12 : x_fe 175 12 = some (.invokestatic 178, 15) := by decide +kernel
theorem f_175_15 : x_fe 175 15 = some (.ireturn, 16) := by decide +kernel
theorem f_175_16 : x_fe 175 16 = some (.aload 0, 17) := by decide +kernel
theorem f_175_17 : x_fe 175 17 = some (.getfield 256, 20) := by decide +kernel
theorem f_175_20 : x_fe 175 20 = some (.iload 1, 21) := by decide +kernel
theorem f_175_24 : x_fe 175 24 = some (.ireturn, 25) := by decide +kernel
theorem f_176_0 : x_fe 176 0 = some (.getstatic 2, 3) := by decide +kernel
theorem f_176_3 : x_fe 176 3 = some (.ifCond .eq (Int.ofNat 17), 6) := by decide +kernel
theorem f_176_6 : x_fe 176 6 = some (.aload 0, 7) := by decide +kernel
theorem f_176_7 : x_fe 176 7 = some (.getfield 257, 10) := by decide +kernel
theorem f_176_10 : x_fe 176 10 = some (.ifCond .ne (Int.ofNat 17), 13) := by decide +kernel
theorem f_176_13 : x_fe 176 13 = some (.iconst (1), 14) := by decide +kernel
theorem f_176_14 : x_fe 176 14 = some (.goto (Int.ofNat 18), 17) := by decide +kernel
theorem f_176_17 : x_fe 176 17 = some (.iconst (0), 18) := by decide +kernel
theorem f_176_18 : x_fe 176 18 = some (.ireturn, 19) := by decide +kernel
theorem f_177_0 : x_fe 177 0 = some (.iload 0, 1) := by decide +kernel
theorem f_177_1 : x_fe 177 1 = some (.iload 1, 2) := by decide +kernel
theorem f_177_2 : x_fe 177 2 = some (.getstatic 3, 5) := by decide +kernel
theorem f_177_5 : x_fe 177 5 = some (.invokestatic 183, 8) := by decide +kernel
theorem f_177_8 : x_fe 177 8 = some (.pop, 9) := by decide +kernel
theorem f_177_9 : x_fe 177 9 = some (.return_, 10) := by decide +kernel
theorem f_178_0 : x_fe 178 0 = some (.iload 1, 1) := by decide +kernel
theorem f_178_1 : x_fe 178 1 = some (.aload 0, 2) := by decide +kernel
theorem f_178_2 : x_fe 178 2 = some (.arraylength, 3) := by decide +kernel
theorem f_178_3 : x_fe 178 3 = some (.invokestatic 177, 6) := by decide +kernel
theorem f_178_6 : x_fe 178 6 = some (.aload 0, 7) := by decide +kernel
theorem f_178_7 : x_fe 178 7 = some (.iload 1, 8) := by decide +kernel
theorem f_178_8 : x_fe 178 8 = some (.baload, 9) := by decide +kernel
theorem f_178_9 : x_fe 178 9 = some (.iconst (255), 12) := by decide +kernel
theorem f_178_12 : x_fe 178 12 = some (.iand, 13) := by decide +kernel
theorem f_178_13 : x_fe 178 13 = some (.i2c, 14) := by decide +kernel
theorem f_178_14 : x_fe 178 14 = some (.ireturn, 15) := by decide +kernel
theorem f_179_0 : x_fe 179 0 = some (.iload 0, 1) := by decide +kernel
theorem f_179_1 : x_fe 179 1 = some (.iload 0, 2) := by decide +kernel
theorem f_179_2 : x_fe 179 2 = some (.iconst (1), 3) := by decide +kernel
theorem f_179_3 : x_fe 179 3 = some (.iushr, 4) := by decide +kernel
theorem f_179_4 : x_fe 179 4 = some (.iconst (1431655765), 7) := by decide +kernel
theorem f_179_7 : x_fe 179 7 = some (.iand, 8) := by decide +kernel
theorem f_179_8 : x_fe 179 8 = some (.isub, 9) := by decide +kernel
theorem f_179_9 : x_fe 179 9 = some (.istore 0, 10) := by decide +kernel
theorem f_179_10 : x_fe 179 10 = some (.iload 0, 11) := by decide +kernel
theorem f_179_11 : x_fe 179 11 = some (.iconst (858993459), 14) := by decide +kernel
theorem f_179_14 : x_fe 179 14 = some (.iand, 15) := by decide +kernel
theorem f_179_15 : x_fe 179 15 = some (.iload 0, 16) := by decide +kernel
theorem f_179_16 : x_fe 179 16 = some (.iconst (2), 17) := by decide +kernel
theorem f_179_17 : x_fe 179 17 = some (.iushr, 18) := by decide +kernel
theorem f_179_18 : x_fe 179 18 = some (.iconst (858993459), 21) := by decide +kernel
theorem f_179_21 : x_fe 179 21 = some (.iand, 22) := by decide +kernel
theorem f_179_22 : x_fe 179 22 = some (.iadd, 23) := by decide +kernel
theorem f_179_23 : x_fe 179 23 = some (.istore 0, 24) := by decide +kernel
theorem f_179_24 : x_fe 179 24 = some (.iload 0, 25) := by decide +kernel
theorem f_179_25 : x_fe 179 25 = some (.iload 0, 26) := by decide +kernel
theorem f_179_26 : x_fe 179 26 = some (.iconst (4), 27) := by decide +kernel
theorem f_179_27 : x_fe 179 27 = some (.iushr, 28) := by decide +kernel
theorem f_179_28 : x_fe 179 28 = some (.iadd, 29) := by decide +kernel
theorem f_179_29 : x_fe 179 29 = some (.iconst (252645135), 32) := by decide +kernel
theorem f_179_32 : x_fe 179 32 = some (.iand, 33) := by decide +kernel
theorem f_179_33 : x_fe 179 33 = some (.istore 0, 34) := by decide +kernel
theorem f_179_34 : x_fe 179 34 = some (.iload 0, 35) := by decide +kernel
theorem f_179_35 : x_fe 179 35 = some (.iload 0, 36) := by decide +kernel
theorem f_179_36 : x_fe 179 36 = some (.iconst (8), 38) := by decide +kernel
theorem f_179_38 : x_fe 179 38 = some (.iushr, 39) := by decide +kernel
theorem f_179_39 : x_fe 179 39 = some (.iadd, 40) := by decide +kernel
theorem f_179_40 : x_fe 179 40 = some (.istore 0, 41) := by decide +kernel
theorem f_179_41 : x_fe 179 41 = some (.iload 0, 42) := by decide +kernel
theorem f_179_42 : x_fe 179 42 = some (.iload 0, 43) := by decide +kernel
theorem f_179_43 : x_fe 179 43 = some (.iconst (16), 45) := by decide +kernel
