theorem f_25_14 : x_fe 25 14 = some (.isub, 15) := by decide +kernel
theorem f_25_15 : x_fe 25 15 = some (.if_icmp .gt (Int.ofNat 22), 18) := by decide +kernel
theorem f_25_18 : x_fe 25 18 = some (.iconst (1), 19) := by decide +kernel
theorem f_25_19 : x_fe 25 19 = some (.goto (Int.ofNat 23), 22) := by decide +kernel
theorem f_25_22 : x_fe 25 22 = some (.iconst (0), 23) := by decide +kernel
theorem f_25_23 : x_fe 25 23 = some (.ireturn, 24) := by decide +kernel
theorem f_26_0 : x_fe 26 0 = some (.aload 0, 1) := by decide +kernel
theorem f_26_1 : x_fe 26 1 = some (.getfield 66, 4) := by decide +kernel
theorem f_26_4 : x_fe 26 4 = some (.lookupswitch (34) #[(0, 28), (1, 31)], 32) := by decide +kernel
theorem f_26_32 : x_fe 26 32 = some (.iload 1, 33) := by decide +kernel
theorem f_26_33 : x_fe 26 33 = some (.i2b, 34) := by decide +kernel
theorem f_26_34 : x_fe 26 34 = some (.ireturn, 35) := by decide +kernel
theorem f_26_35 : x_fe 26 35 = some (.iload 1, 36) := by decide +kernel
theorem f_26_36 : x_fe 26 36 = some (.i2s, 37) := by decide +kernel
theorem f_26_37 : x_fe 26 37 = some (.ireturn, 38) := by decide +kernel
theorem f_26_38 : x_fe 26 38 = some (.iload 1, 39) := by decide +kernel
theorem f_26_39 : x_fe 26 39 = some (.ireturn, 40) := by decide +kernel
theorem f_27_0 : x_fe 27 0 = some (.iload 1, 1) := by decide +kernel
theorem f_27_1 : x_fe 27 1 = some (.ifCond .lt (Int.ofNat 30), 4) := by decide +kernel
theorem f_27_4 : x_fe 27 4 = some (.iload 1, 5) := by decide +kernel
theorem f_27_5 : x_fe 27 5 = some (.aload 0, 6) := by decide +kernel
theorem f_27_6 : x_fe 27 6 = some (.getfield 67, 9) := by decide +kernel
theorem f_27_9 : x_fe 27 9 = some (.if_icmp .ge (Int.ofNat 30), 12) := by decide +kernel
theorem f_27_12 : x_fe 27 12 = some (.iload 1, 13) := by decide +kernel
theorem f_27_13 : x_fe 27 13 = some (.aload 0, 14) := by decide +kernel
theorem f_27_14 : x_fe 27 14 = some (.getfield 64, 17) := by decide +kernel
theorem f_27_17 : x_fe 27 17 = some (.arraylength, 18) := by decide +kernel
theorem f_27_18 : x_fe 27 18 = some (.if_icmp .ge (Int.ofNat 30), 21) := by decide +kernel
theorem f_27_21 : x_fe 27 21 = some (.aload 0, 22) := by decide +kernel
theorem f_27_22 : x_fe 27 22 = some (.getfield 64, 25) := by decide +kernel
theorem f_27_25 : x_fe 27 25 = some (.iload 1, 26) := by decide +kernel
theorem f_27_26 : x_fe 27 26 = some (.iaload, 27) := by decide +kernel
theorem f_27_27 : x_fe 27 27 = some (.goto (Int.ofNat 32), 30) := by decide +kernel
theorem f_27_30 : x_fe 27 30 = some (.iconst (-1000000), 32) := by decide +kernel
theorem f_27_32 : x_fe 27 32 = some (.ireturn, 33) := by decide +kernel
theorem f_28_0 : x_fe 28 0 = some (.aload 0, 1) := by decide +kernel
theorem f_28_1 : x_fe 28 1 = some (.d2f, 4) := by decide +kernel
theorem f_28_4 : x_fe 28 4 = some (.aload 0, 5) := by decide +kernel
theorem f_28_5 : x_fe 28 5 = some (.iconst (400), 8) := by decide +kernel
theorem f_28_8 : x_fe 28 8 = some (.newarray .int, 10) := by decide +kernel
theorem f_28_10 : x_fe 28 10 = some (.putstatic 96, 13) := by decide +kernel
theorem f_28_13 : x_fe 28 13 = some (.return_, 14) := by decide +kernel
theorem f_29_0 : x_fe 29 0 = some (.aload 0, 1) := by decide +kernel
theorem f_29_1 : x_fe 29 1 = some (.getfield 97, 4) := by decide +kernel
theorem f_29_4 : x_fe 29 4 = some (.aload 0, 5) := by decide +kernel
theorem f_29_5 : x_fe 29 5 = some (.getfield 96, 8) := by decide +kernel
theorem f_29_8 : x_fe 29 8 = some (.arraylength, 9) := by decide +kernel
theorem f_29_9 : x_fe 29 9 = some (.if_icmp .ge (Int.ofNat 32), 12) := by decide +kernel
theorem f_29_12 : x_fe 29 12 = some (.aload 0, 13) := by decide +kernel
theorem f_29_13 : x_fe 29 13 = some (.getfield 96, 16) := by decide +kernel
theorem f_29_16 : x_fe 29 16 = some (.aload 0, 17) := by decide +kernel
theorem f_29_17 : x_fe 29 17 = some (.getfield 97, 20) := by decide +kernel
theorem f_29_20 : x_fe 29 20 = some (.iload 1, 21) := by decide +kernel
theorem f_29_21 : x_fe 29 21 = some (.iastore, 22) := by decide +kernel
theorem f_29_22 : x_fe 29 22 = some (.aload 0, 23) := by decide +kernel
theorem f_29_23 : x_fe 29 23 = some (.dup, 24) := by decide +kernel
theorem f_29_24 : x_fe 29 24 = some (.getfield 97, 27) := by decide +kernel
theorem f_29_27 : x_fe 29 27 = some (.iconst (1), 28) := by decide +kernel
theorem f_29_28 : x_fe 29 28 = some (.iadd, 29) := by decide +kernel
theorem f_29_29 : x_fe 29 29 = some (.putfield 97, 32) := by decide +kernel
theorem f_29_32 : x_fe 29 32 = some (.return_, 33) := by decide +kernel
theorem f_30_0 : x_fe 30 0 = some (.aload 0, 1) := by decide +kernel
theorem f_30_1 : x_fe 30 1 = some (.iconst (0), 2) := by decide +kernel
theorem f_30_2 : x_fe 30 2 = some (.putfield 100, 5) := by decide +kernel
theorem f_30_5 : x_fe 30 5 = some (.aload 0, 6) := by decide +kernel
theorem f_30_6 : x_fe 30 6 = some (.invokevirtual 31, 9) := by decide +kernel
theorem f_30_9 : x_fe 30 9 = some (.return_, 10) := by decide +kernel
theorem f_31_0 : x_fe 31 0 = some (.aload 0, 1) := by decide +kernel
theorem f_31_1 : x_fe 31 1 = some (.aload 0, 2) := by decide +kernel
theorem f_31_2 : x_fe 31 2 = some (.getfield 100, 5) := by decide +kernel
theorem f_31_5 : x_fe 31 5 = some (.putfield 99, 8) := by decide +kernel
theorem f_31_8 : x_fe 31 8 = some (.aload 0, 9) := by decide +kernel
theorem f_31_9 : x_fe 31 9 = some (.getfield 99, 12) := by decide +kernel
theorem f_31_12 : x_fe 31 12 = some (.aload 0, 13) := by decide +kernel
theorem f_31_13 : x_fe 31 13 = some (.getfield 97, 16) := by decide +kernel
theorem f_31_16 : x_fe 31 16 = some (.if_icmp .ge (Int.ofNat 46), 19) := by decide +kernel
theorem f_31_19 : x_fe 31 19 = some (.aload 0, 20) := by decide +kernel
theorem f_31_20 : x_fe 31 20 = some (.aload 0, 21) := by decide +kernel
theorem f_31_21 : x_fe 31 21 = some (.getfield 99, 24) := by decide +kernel
theorem f_31_24 : x_fe 31 24 = some (.invokevirtual 32, 27) := by decide +kernel
theorem f_31_27 : x_fe 31 27 = some (.invokestatic 33, 30) := by decide +kernel
theorem f_31_30 : x_fe 31 30 = some (.ifCond .eq (Int.ofNat 46), 33) := by decide +kernel
theorem f_31_33 : x_fe 31 33 = some (.aload 0, 34) := by decide +kernel
theorem f_31_34 : x_fe 31 34 = some (.dup, 35) := by decide +kernel
theorem f_31_35 : x_fe 31 35 = some (.getfield 99, 38) := by decide +kernel
theorem f_31_38 : x_fe 31 38 = some (.iconst (1), 39) := by decide +kernel
theorem f_31_39 : x_fe 31 39 = some (.iadd, 40) := by decide +kernel
theorem f_31_40 : x_fe 31 40 = some (.putfield 99, 43) := by decide +kernel
theorem f_31_43 : x_fe 31 43 = some (.goto (Int.ofNat 8), 46) := by decide +kernel
theorem f_31_46 : x_fe 31 46 = some (.aload 0, 47) := by decide +kernel
theorem f_31_47 : x_fe 31 47 = some (.aload 0, 48) := by decide +kernel
theorem f_31_48 : x_fe 31 48 = some (.getfield 99, 51) := by decide +kernel
theorem f_31_51 : x_fe 31 51 = some (.putfield 100, 54) := by decide +kernel
theorem f_31_54 : x_fe 31 54 = some (.aload 0, 55) := by decide +kernel
theorem f_31_55 : x_fe 31 55 = some (.getfield 99, 58) := by decide +kernel
theorem f_31_58 : x_fe 31 58 = some (.aload 0, 59) := by decide +kernel
theorem f_31_59 : x_fe 31 59 = some (.getfield 97, 62) := by decide +kernel
theorem f_31_62 : x_fe 31 62 = some (.if_icmp .lt (Int.ofNat 73), 65) := by decide +kernel
theorem f_31_65 : x_fe 31 65 = some (.aload 0, 66) := by decide +kernel
theorem f_31_66 : x_fe 31 66 = some (.iconst (0), 67) := by decide +kernel
theorem f_31_67 : x_fe 31 67 = some (.putfield 98, 70) := by decide +kernel
theorem f_31_70 : x_fe 31 70 = some (.goto (Int.ofNat 147), 73) := by decide +kernel
theorem f_31_73 : x_fe 31 73 = some (.aload 0, 74) := by decide +kernel
theorem f_31_74 : x_fe 31 74 = some (.aload 0, 75) := by decide +kernel
theorem f_31_75 : x_fe 31 75 = some (.getfield 99, 78) := by decide +kernel
theorem f_31_78 : x_fe 31 78 = some (.invokevirtual 32, 81) := by decide +kernel
theorem f_31_81 : x_fe 31 81 = some (.invokestatic 34, 84) := by decide +kernel
theorem f_31_84 : x_fe 31 84 = some (.ifCond .eq (Int.ofNat 94), 87) := by decide +kernel
theorem f_31_87 : x_fe 31 87 = some (.aload 0, 88) := by decide +kernel
theorem f_31_88 : x_fe 31 88 = some (.invokevirtual 35, 91) := by decide +kernel
theorem f_31_91 : x_fe 31 91 = some (.goto (Int.ofNat 147), 94) := by decide +kernel
theorem f_31_94 : x_fe 31 94 = some (.aload 0, 95) := by decide +kernel
theorem f_31_95 : x_fe 31 95 = some (.aload 0, 96) := by decide +kernel
theorem f_31_96 : x_fe 31 96 = some (.getfield 99, 99) := by decide +kernel
theorem f_31_99 : x_fe 31 99 = some (.invokevirtual 32, 102) := by decide +kernel
theorem f_31_102 : x_fe 31 102 = some (.invokestatic 36, 105) := by decide +kernel
theorem f_31_105 : x_fe 31 105 = some (.ifCond .eq (Int.ofNat 115), 108) := by decide +kernel
theorem f_31_108 : x_fe 31 108 = some (.aload 0, 109) := by decide +kernel
theorem f_31_109 : x_fe 31 109 = some (.invokevirtual 37, 112) := by decide +kernel
theorem f_31_112 : x_fe 31 112 = some (.goto (Int.ofNat 147), 115) := by decide +kernel
theorem f_31_115 : x_fe 31 115 = some (.aload 0, 116) := by decide +kernel
theorem f_31_116 : x_fe 31 116 = some (.aload 0, 117) := by decide +kernel
theorem f_31_117 : x_fe 31 117 = some (.aload 0, 118) := by decide +kernel
theorem f_31_118 : x_fe 31 118 = some (.getfield 99, 121) := by decide +kernel
theorem f_31_121 : x_fe 31 121 = some (.invokevirtual 32, 124) := by decide +kernel
theorem f_31_124 : x_fe 31 124 = some (.iconst (59), 126) := by decide +kernel
theorem f_31_126 : x_fe 31 126 = some (.if_icmp .ne (Int.ofNat 133), 129) := by decide +kernel
theorem f_31_129 : x_fe 31 129 = some (.iconst (3), 130) := by decide +kernel
theorem f_31_130 : x_fe 31 130 = some (.goto (Int.ofNat 134), 133) := by decide +kernel
theorem f_31_133 : x_fe 31 133 = some (.iconst (4), 134) := by decide +kernel
theorem f_31_134 : x_fe 31 134 = some (.putfield 98, 137) := by decide +kernel
theorem f_31_137 : x_fe 31 137 = some (.aload 0, 138) := by decide +kernel
theorem f_31_138 : x_fe 31 138 = some (.aload 0, 139) := by decide +kernel
theorem f_31_139 : x_fe 31 139 = some (.getfield 99, 142) := by decide +kernel
theorem f_31_142 : x_fe 31 142 = some (.iconst (1), 143) := by decide +kernel
theorem f_31_143 : x_fe 31 143 = some (.iadd, 144) := by decide +kernel
theorem f_31_144 : x_fe 31 144 = some (.putfield 100, 147) := by decide +kernel
theorem f_31_147 : x_fe 31 147 = some (.return_, 148) := by decide +kernel
theorem f_32_0 : x_fe 32 0 = some (.iload 1, 1) := by decide +kernel
theorem f_32_1 : x_fe 32 1 = some (.ifCond .lt (Int.ofNat 30), 4) := by decide +kernel
theorem f_32_4 : x_fe 32 4 = some (.iload 1, 5) := by decide +kernel
theorem f_32_5 : x_fe 32 5 = some (.aload 0, 6) := by decide +kernel
theorem f_32_6 : x_fe 32 6 = some (.getfield 97, 9) := by decide +kernel
theorem f_32_9 : x_fe 32 9 = some (.if_icmp .ge (Int.ofNat 30), 12) := by decide +kernel
theorem f_32_12 : x_fe 32 12 = some (.iload 1, 13) := by decide +kernel
theorem f_32_13 : x_fe 32 13 = some (.aload 0, 14) := by decide +kernel
theorem f_32_14 : x_fe 32 14 = some (.getfield 96, 17) := by decide +kernel
theorem f_32_17 : x_fe 32 17 = some (.arraylength, 18) := by decide +kernel
theorem f_32_18 : x_fe 32 18 = some (.if_icmp .ge (Int.ofNat 30), 21) := by decide +kernel
theorem f_32_21 : x_fe 32 21 = some (.aload 0, 22) := by decide +kernel
theorem f_32_22 : x_fe 32 22 = some (.getfield 96, 25) := by decide +kernel
theorem f_32_25 : x_fe 32 25 = some (.iload 1, 26) := by decide +kernel
theorem f_32_26 : x_fe 32 26 = some (.iaload, 27) := by decide +kernel
theorem f_32_27 : x_fe 32 27 = some (.goto (Int.ofNat 31), 30) := by decide +kernel
theorem f_32_30 : x_fe 32 30 = some (.iconst (-1), 31) := by decide +kernel
theorem f_32_31 : x_fe 32 31 = some (.ireturn, 32) := by decide +kernel
theorem f_33_0 : x_fe 33 0 = some (.iload 0, 1) := by decide +kernel
theorem f_33_1 : x_fe 33 1 = some (.iconst (32), 3) := by decide +kernel
theorem f_33_3 : x_fe 33 3 = some (.if_icmp .eq (Int.ofNat 12), 6) := by decide +kernel
theorem f_33_6 : x_fe 33 6 = some (.iload 0, 7) := by decide +kernel
theorem f_33_7 : x_fe 33 7 = some (.iconst (10), 9) := by decide +kernel
theorem f_33_9 : x_fe 33 9 = some (.if_icmp .ne (Int.ofNat 16), 12) := by decide +kernel
theorem f_33_12 : x_fe 33 12 = some (.iconst (1), 13) := by decide +kernel
theorem f_33_13 : x_fe 33 13 = some (.goto (Int.ofNat 17), 16) := by decide +kernel
theorem f_33_16 : x_fe 33 16 = some (.iconst (0), 17) := by decide +kernel
theorem f_33_17 : x_fe 33 17 = some (.ireturn, 18) := by decide +kernel
theorem f_34_0 : x_fe 34 0 = some (.iload 0, 1) := by decide +kernel
theorem f_34_1 : x_fe 34 1 = some (.iconst (97), 3) := by decide +kernel
theorem f_34_3 : x_fe 34 3 = some (.if_icmp .lt (Int.ofNat 16), 6) := by decide +kernel
theorem f_34_6 : x_fe 34 6 = some (.iload 0, 7) := by decide +kernel
theorem f_34_7 : x_fe 34 7 = some (.iconst (122), 9) := by decide +kernel
theorem f_34_9 : x_fe 34 9 = some (.if_icmp .gt (Int.ofNat 16), 12) := by decide +kernel
theorem f_34_12 : x_fe 34 12 = some (.iconst (1), 13) := by decide +kernel
theorem f_34_13 : x_fe 34 13 = some (.goto (Int.ofNat 17), 16) := by decide +kernel
theorem f_34_16 : x_fe 34 16 = some (.iconst (0), 17) := by decide +kernel
theorem f_34_17 : x_fe 34 17 = some (.ireturn, 18) := by decide +kernel
theorem f_35_0 : x_fe 35 0 = some (.aload 0, 1) := by decide +kernel
theorem f_35_1 : x_fe 35 1 = some (.iconst (1), 2) := by decide +kernel
theorem f_35_2 : x_fe 35 2 = some (.putfield 98, 5) := by decide +kernel
theorem f_35_5 : x_fe 35 5 = some (.aload 0, 6) := by decide +kernel
theorem f_35_6 : x_fe 35 6 = some (.getfield 100, 9) := by decide +kernel
theorem f_35_9 : x_fe 35 9 = some (.aload 0, 10) := by decide +kernel
theorem f_35_10 : x_fe 35 10 = some (.getfield 97, 13) := by decide +kernel
theorem f_35_13 : x_fe 35 13 = some (.if_icmp .ge (Int.ofNat 43), 16) := by decide +kernel
theorem f_35_16 : x_fe 35 16 = some (.aload 0, 17) := by decide +kernel
theorem f_35_17 : x_fe 35 17 = some (.aload 0, 18) := by decide +kernel
theorem f_35_18 : x_fe 35 18 = some (.getfield 100, 21) := by decide +kernel
theorem f_35_21 : x_fe 35 21 = some (.invokevirtual 32, 24) := by decide +kernel
theorem f_35_24 : x_fe 35 24 = some (.invokestatic 34, 27) := by decide +kernel
theorem f_35_27 : x_fe 35 27 = some (.ifCond .eq (Int.ofNat 43), 30) := by decide +kernel
theorem f_35_30 : x_fe 35 30 = some (.aload 0, 31) := by decide +kernel
theorem f_35_31 : x_fe 35 31 = some (.dup, 32) := by decide +kernel
theorem f_35_32 : x_fe 35 32 = some (.getfield 100, 35) := by decide +kernel
theorem f_35_35 : x_fe 35 35 = some (.iconst (1), 36) := by decide +kernel
theorem f_35_36 : x_fe 35 36 = some (.iadd, 37) := by decide +kernel
theorem f_35_37 : x_fe 35 37 = some (.putfield 100, 40) := by decide +kernel
theorem f_35_40 : x_fe 35 40 = some (.goto (Int.ofNat 5), 43) := by decide +kernel
theorem f_35_43 : x_fe 35 43 = some (.return_, 44) := by decide +kernel
theorem f_36_0 : x_fe 36 0 = some (.iload 0, 1) := by decide +kernel
theorem f_36_1 : x_fe 36 1 = some (.iconst (48), 3) := by decide +kernel
theorem f_36_3 : x_fe 36 3 = some (.if_icmp .lt (Int.ofNat 16), 6) := by decide +kernel
theorem f_36_6 : x_fe 36 6 = some (.iload 0, 7) := by decide +kernel
theorem f_36_7 : x_fe 36 7 = some (.iconst (57), 9) := by decide +kernel
theorem f_36_9 : x_fe 36 9 = some (.if_icmp .gt (Int.ofNat 16), 12) := by decide +kernel
theorem f_36_12 : x_fe 36 12 = some (.iconst (1), 13) := by decide +kernel
theorem f_36_13 : x_fe 36 13 = some (.goto (Int.ofNat 17), 16) := by decide +kernel
theorem f_36_16 : x_fe 36 16 = some (.iconst (0), 17) := by decide +kernel
theorem f_36_17 : x_fe 36 17 = some (.ireturn, 18) := by decide +kernel
theorem f_37_0 : x_fe 37 0 = some (.aload 0, 1) := by decide +kernel
theorem f_37_1 : x_fe 37 1 = some (.iconst (0), 2) := by decide +kernel
theorem f_37_2 : x_fe 37 2 = some (.putfield 101, 5) := by decide +kernel
theorem f_37_5 : x_fe 37 5 = some (.aload 0, 6) := by decide +kernel
theorem f_37_6 : x_fe 37 6 = some (.getfield 100, 9) := by decide +kernel
theorem f_37_9 : x_fe 37 9 = some (.aload 0, 10) := by decide +kernel
theorem f_37_10 : x_fe 37 10 = some (.getfield 97, 13) := by decide +kernel
theorem f_37_13 : x_fe 37 13 = some (.if_icmp .ge (Int.ofNat 79), 16) := by decide +kernel
theorem f_37_16 : x_fe 37 16 = some (.aload 0, 17) := by decide +kernel
theorem f_37_17 : x_fe 37 17 = some (.aload 0, 18) := by decide +kernel
theorem f_37_18 : x_fe 37 18 = some (.getfield 100, 21) := by decide +kernel
theorem f_37_21 : x_fe 37 21 = some (.invokevirtual 32, 24) := by decide +kernel
theorem f_37_24 : x_fe 37 24 = some (.invokestatic 36, 27) := by decide +kernel
theorem f_37_27 : x_fe 37 27 = some (.ifCond .eq (Int.ofNat 79), 30) := by decide +kernel
theorem f_37_30 : x_fe 37 30 = some (.aload 0, 31) := by decide +kernel
theorem f_37_31 : x_fe 37 31 = some (.getfield 100, 34) := by decide +kernel
theorem f_37_34 : x_fe 37 34 = some (.aload 0, 35) := by decide +kernel
theorem f_37_35 : x_fe 37 35 = some (.getfield 99, 38) := by decide +kernel
theorem f_37_38 : x_fe 37 38 = some (.isub, 39) := by decide +kernel
theorem f_37_39 : x_fe 37 39 = some (.iconst (3), 40) := by decide +kernel
theorem f_37_40 : x_fe 37 40 = some (.if_icmp .ge (Int.ofNat 66), 43) := by decide +kernel
theorem f_37_43 : x_fe 37 43 = some (.aload 0, 44) := by decide +kernel
theorem f_37_44 : x_fe 37 44 = some (.iconst (10), 46) := by decide +kernel
theorem f_37_46 : x_fe 37 46 = some (.aload 0, 47) := by decide +kernel
theorem f_37_47 : x_fe 37 47 = some (.getfield 101, 50) := by decide +kernel
theorem f_37_50 : x_fe 37 50 = some (.imul, 51) := by decide +kernel
theorem f_37_51 : x_fe 37 51 = some (.aload 0, 52) := by decide +kernel
theorem f_37_52 : x_fe 37 52 = some (.aload 0, 53) := by decide +kernel
theorem f_37_53 : x_fe 37 53 = some (.getfield 100, 56) := by decide +kernel
theorem f_37_56 : x_fe 37 56 = some (.invokevirtual 32, 59) := by decide +kernel
theorem f_37_59 : x_fe 37 59 = some (.iadd, 60) := by decide +kernel
theorem f_37_60 : x_fe 37 60 = some (.iconst (48), 62) := by decide +kernel
theorem f_37_62 : x_fe 37 62 = some (.isub, 63) := by decide +kernel
theorem f_37_63 : x_fe 37 63 = some (.putfield 101, 66) := by decide +kernel
theorem f_37_66 : x_fe 37 66 = some (.aload 0, 67) := by decide +kernel
theorem f_37_67 : x_fe 37 67 = some (.dup, 68) := by decide +kernel
theorem f_37_68 : x_fe 37 68 = some (.getfield 100, 71) := by decide +kernel
theorem f_37_71 : x_fe 37 71 = some (.iconst (1), 72) := by decide +kernel
theorem f_37_72 : x_fe 37 72 = some (.iadd, 73) := by decide +kernel
theorem f_37_73 : x_fe 37 73 = some (.putfield 100, 76) := by decide +kernel
theorem f_37_76 : x_fe 37 76 = some (.goto (Int.ofNat 5), 79) := by decide +kernel
theorem f_37_79 : x_fe 37 79 = some (.aload 0, 80) := by decide +kernel
theorem f_37_80 : x_fe 37 80 = some (.aload 0, 81) := by decide +kernel
theorem f_37_81 : x_fe 37 81 = some (.getfield 100, 84) := by decide +kernel
theorem f_37_84 : x_fe 37 84 = some (.aload 0, 85) := by decide +kernel
theorem f_37_85 : x_fe 37 85 = some (.getfield 99, 88) := by decide +kernel
theorem f_37_88 : x_fe 37 88 = some (.isub, 89) := by decide +kernel
theorem f_37_89 : x_fe 37 89 = some (.iconst (3), 90) := by decide +kernel
theorem f_37_90 : x_fe 37 90 = some (.if_icmp .gt (Int.ofNat 97), 93) := by decide +kernel
theorem f_37_93 : x_fe 37 93 = some (.iconst (2), 94) := by decide +kernel
theorem f_37_94 : x_fe 37 94 = some (.goto (Int.ofNat 98), 97) := by decide +kernel
theorem f_37_97 : x_fe 37 97 = some (.iconst (4), 98) := by decide +kernel
theorem f_37_98 : x_fe 37 98 = some (.putfield 98, 101) := by decide +kernel
theorem f_37_101 : x_fe 37 101 = some (.return_, 102) := by decide +kernel
theorem f_38_0 : x_fe 38 0 = some (.aload 0, 1) := by decide +kernel
theorem f_38_1 : x_fe 38 1 = some (.getfield 98, 4) := by decide +kernel
theorem f_38_4 : x_fe 38 4 = some (.iconst (1), 5) := by decide +kernel
theorem f_38_5 : x_fe 38 5 = some (.if_icmp .ne (Int.ofNat 24), 8) := by decide +kernel
theorem f_38_8 : x_fe 38 8 = some (.aload 0, 9) := by decide +kernel
theorem f_38_9 : x_fe 38 9 = some (.getfield 100, 12) := by decide +kernel
theorem f_38_12 : x_fe 38 12 = some (.aload 0, 13) := by decide +kernel
theorem f_38_13 : x_fe 38 13 = some (.getfield 99, 16) := by decide +kernel
theorem f_38_16 : x_fe 38 16 = some (.isub, 17) := by decide +kernel
theorem f_38_17 : x_fe 38 17 = some (.aload 1, 18) := by decide +kernel
theorem f_38_18 : x_fe 38 18 = some (.invokevirtual 173, 21) := by decide +kernel
theorem f_38_21 : x_fe 38 21 = some (.if_icmp .eq (Int.ofNat 26), 24) := by decide +kernel
theorem f_38_24 : x_fe 38 24 = some (.iconst (0), 25) := by decide +kernel
theorem f_38_25 : x_fe 38 25 = some (.ireturn, 26) := by decide +kernel
theorem f_38_26 : x_fe 38 26 = some (.iconst (0), 27) := by decide +kernel
theorem f_38_27 : x_fe 38 27 = some (.istore 2, 28) := by decide +kernel
theorem f_38_28 : x_fe 38 28 = some (.iload 2, 29) := by decide +kernel
theorem f_38_29 : x_fe 38 29 = some (.aload 1, 30) := by decide +kernel
theorem f_38_30 : x_fe 38 30 = some (.invokevirtual 173, 33) := by decide +kernel
theorem f_38_33 : x_fe 38 33 = some (.if_icmp .ge (Int.ofNat 62), 36) := by decide +kernel
theorem f_38_36 : x_fe 38 36 = some (.aload 0, 37) := by decide +kernel
theorem f_38_37 : x_fe 38 37 = some (.aload 0, 38) := by decide +kernel
theorem f_38_38 : x_fe 38 38 = some (.getfield 99, 41) := by decide +kernel
theorem f_38_41 : x_fe 38 41 = some (.iload 2, 42) := by decide +kernel
theorem f_38_42 : x_fe 38 42 = some (.iadd, 43) := by decide +kernel
theorem f_38_43 : x_fe 38 43 = some (.invokevirtual 32, 46) := by decide +kernel
theorem f_38_46 : x_fe 38 46 = some (.aload 1, 47) := by decide +kernel
theorem f_38_47 : x_fe 38 47 = some (.iload 2, 48) := by decide +kernel
theorem f_38_48 : x_fe 38 48 = some (.invokevirtual 175, 51) := by decide +kernel
theorem f_38_51 : x_fe 38 51 = some (.if_icmp .eq (Int.ofNat 56), 54) := by decide +kernel
theorem f_38_54 : x_fe 38 54 = some (.iconst (0), 55) := by decide +kernel
theorem f_38_55 : x_fe 38 55 = some (.ireturn, 56) := by decide +kernel
theorem f_38_56 : x_fe 38 56 = some (.iinc 2 (1), 59) := by decide +kernel
theorem f_38_59 : x_fe 38 59 = some (.goto (Int.ofNat 28), 62) := by decide +kernel
theorem f_38_62 : x_fe 38 62 = some (.iconst (1), 63) := by decide +kernel
theorem f_38_63 : x_fe 38 63 = some (.ireturn, 64) := by decide +kernel
theorem f_39_0 : x_fe 39 0 = some (.aload 0, 1) := by decide +kernel
theorem f_39_1 : x_fe 39 1 = some (.getfield 98, 4) := by decide +kernel
theorem f_39_4 : x_fe 39 4 = some (.iconst (1), 5) := by decide +kernel
theorem f_39_5 : x_fe 39 5 = some (.if_icmp .ne (Int.ofNat 22), 8) := by decide +kernel
theorem f_39_8 : x_fe 39 8 = some (.aload 0, 9) := by decide +kernel
theorem f_39_9 : x_fe 39 9 = some (.getfield 100, 12) := by decide +kernel
theorem f_39_12 : x_fe 39 12 = some (.aload 0, 13) := by decide +kernel
theorem f_39_13 : x_fe 39 13 = some (.getfield 99, 16) := by decide +kernel
theorem f_39_16 : x_fe 39 16 = some (.isub, 17) := by decide +kernel
theorem f_39_17 : x_fe 39 17 = some (.iconst (9), 19) := by decide +kernel
theorem f_39_19 : x_fe 39 19 = some (.if_icmp .eq (Int.ofNat 25), 22) := by decide +kernel
theorem f_39_22 : x_fe 39 22 = some (.iconst (-1000000), 24) := by decide +kernel
theorem f_39_24 : x_fe 39 24 = some (.ireturn, 25) := by decide +kernel
theorem f_39_25 : x_fe 39 25 = some (.iconst (0), 26) := by decide +kernel
theorem f_39_26 : x_fe 39 26 = some (.istore 1, 27) := by decide +kernel
theorem f_39_27 : x_fe 39 27 = some (.iconst (0), 28) := by decide +kernel
theorem f_39_28 : x_fe 39 28 = some (.istore 2, 29) := by decide +kernel
theorem f_39_29 : x_fe 39 29 = some (.iload 2, 30) := by decide +kernel
theorem f_39_30 : x_fe 39 30 = some (.iconst (9), 32) := by decide +kernel
theorem f_39_32 : x_fe 39 32 = some (.if_icmp .ge (Int.ofNat 79), 35) := by decide +kernel
theorem f_39_35 : x_fe 39 35 = some (.aload 0, 36) := by decide +kernel
theorem f_39_36 : x_fe 39 36 = some (.aload 0, 37) := by decide +kernel
theorem f_39_37 : x_fe 39 37 = some (.getfield 99, 40) := by decide +kernel
theorem f_39_40 : x_fe 39 40 = some (.iload 2, 41) := by decide +kernel
theorem f_39_41 : x_fe 39 41 = some (.iadd, 42) := by decide +kernel
theorem f_39_42 : x_fe 39 42 = some (.invokevirtual 32, 45) := by decide +kernel
theorem f_39_45 : x_fe 39 45 = some (.istore 3, 46) := by decide +kernel
theorem f_39_46 : x_fe 39 46 = some (.iload 3, 47) := by decide +kernel
theorem f_39_47 : x_fe 39 47 = some (.iconst (111), 49) := by decide +kernel
theorem f_39_49 : x_fe 39 49 = some (.if_icmp .eq (Int.ofNat 61), 52) := by decide +kernel
theorem f_39_52 : x_fe 39 52 = some (.iload 3, 53) := by decide +kernel
theorem f_39_53 : x_fe 39 53 = some (.iconst (120), 55) := by decide +kernel
theorem f_39_55 : x_fe 39 55 = some (.if_icmp .eq (Int.ofNat 61), 58) := by decide +kernel
theorem f_39_58 : x_fe 39 58 = some (.iconst (-1000000), 60) := by decide +kernel
theorem f_39_60 : x_fe 39 60 = some (.ireturn, 61) := by decide +kernel
theorem f_39_61 : x_fe 39 61 = some (.iload 3, 62) := by decide +kernel
theorem f_39_62 : x_fe 39 62 = some (.iconst (111), 64) := by decide +kernel
theorem f_39_64 : x_fe 39 64 = some (.if_icmp .ne (Int.ofNat 73), 67) := by decide +kernel
theorem f_39_67 : x_fe 39 67 = some (.iload 1, 68) := by decide +kernel
theorem f_39_68 : x_fe 39 68 = some (.iconst (1), 69) := by decide +kernel
theorem f_39_69 : x_fe 39 69 = some (.iload 2, 70) := by decide +kernel
theorem f_39_70 : x_fe 39 70 = some (.ishl, 71) := by decide +kernel
theorem f_39_71 : x_fe 39 71 = some (.ior, 72) := by decide +kernel
theorem f_39_72 : x_fe 39 72 = some (.istore 1, 73) := by decide +kernel
theorem f_39_73 : x_fe 39 73 = some (.iinc 2 (1), 76) := by decide +kernel
theorem f_39_76 : x_fe 39 76 = some (.goto (Int.ofNat 29), 79) := by decide +kernel
theorem f_39_79 : x_fe 39 79 = some (.iload 1, 80) := by decide +kernel
theorem f_39_80 : x_fe 39 80 = some (.ireturn, 81) := by decide +kernel
theorem f_40_0 : x_fe 40 0 = some (.aload 0, 1) := by decide +kernel
theorem f_40_1 : x_fe 40 1 = some (.d2f, 4) := by decide +kernel
theorem f_40_4 : x_fe 40 4 = some (.aload 0, 5) := by decide +kernel
theorem f_40_5 : x_fe 40 5 = some (.iconst (16), 7) := by decide +kernel
theorem f_40_7 : x_fe 40 7 = some (.newarray .int, 9) := by decide +kernel
theorem f_40_9 : x_fe 40 9 = some (.putstatic 128, 12) := by decide +kernel
theorem f_40_12 : x_fe 40 12 = some (.return_, 13) := by decide +kernel
theorem f_41_0 : x_fe 41 0 = some (.aload 0, 1) := by decide +kernel
theorem f_41_1 : x_fe 41 1 = some (.getfield 129, 4) := by decide +kernel
theorem f_41_4 : x_fe 41 4 = some (.aload 0, 5) := by decide +kernel
theorem f_41_5 : x_fe 41 5 = some (.getfield 128, 8) := by decide +kernel
theorem f_41_8 : x_fe 41 8 = some (.arraylength, 9) := by decide +kernel
theorem f_41_9 : x_fe 41 9 = some (.if_icmp .ge (Int.ofNat 32), 12) := by decide +kernel
theorem f_41_12 : x_fe 41 12 = some (.aload 0, 13) := by decide +kernel
theorem f_41_13 : x_fe 41 13 = some (.getfield 128, 16) := by decide +kernel
theorem f_41_16 : x_fe 41 16 = some (.aload 0, 17) := by decide +kernel
theorem f_41_17 : x_fe 41 17 = some (.getfield 129, 20) := by decide +kernel
theorem f_41_20 : x_fe 41 20 = some (.iload 1, 21) := by decide +kernel
theorem f_41_21 : x_fe 41 21 = some (.iastore, 22) := by decide +kernel
theorem f_41_22 : x_fe 41 22 = some (.aload 0, 23) := by decide +kernel
theorem f_41_23 : x_fe 41 23 = some (.dup, 24) := by decide +kernel
theorem f_41_24 : x_fe 41 24 = some (.getfield 129, 27) := by decide +kernel
theorem f_41_27 : x_fe 41 27 = some (.iconst (1), 28) := by decide +kernel
theorem f_41_28 : x_fe 41 28 = some (.iadd, 29) := by decide +kernel
theorem f_41_29 : x_fe 41 29 = some (.putfield 129, 32) := by decide +kernel
theorem f_41_32 : x_fe 41 32 = some (.return_, 33) := by decide +kernel
theorem f_42_0 : x_fe 42 0 = some (.aload 0, 1) := by decide +kernel
theorem f_42_1 : x_fe 42 1 = some (.d2f, 4) := by decide +kernel
theorem f_42_4 : x_fe 42 4 = some (.aload 0, 5) := by decide +kernel
theorem f_42_5 : x_fe 42 5 = some (.iconst (8), 7) := by decide +kernel
theorem f_42_7 : x_fe 42 7 = some (.anewarray 2, 10) := by decide +kernel
theorem f_42_10 : x_fe 42 10 = some (.putstatic 160, 13) := by decide +kernel
theorem f_42_13 : x_fe 42 13 = some (.aload 0, 14) := by decide +kernel
theorem f_42_14 : x_fe 42 14 = some (.new 3, 17) := by decide +kernel
theorem f_42_17 : x_fe 42 17 = some (.dup, 18) := by decide +kernel
theorem f_42_18 : x_fe 42 18 = some (.invokespecial 28, 21) := by decide +kernel
theorem f_42_21 : x_fe 42 21 = some (.putstatic 161, 24) := by decide +kernel
theorem f_42_24 : x_fe 42 24 = some (.aload 0, 25) := by decide +kernel
theorem f_42_25 : x_fe 42 25 = some (.new 0, 28) := by decide +kernel
theorem f_42_28 : x_fe 42 28 = some (.dup, 29) := by decide +kernel
theorem f_42_29 : x_fe 42 29 = some (.invokespecial 0, 32) := by decide +kernel
theorem f_42_32 : x_fe 42 32 = some (.putstatic 162, 35) := by decide +kernel
theorem f_42_35 : x_fe 42 35 = some (.aload 0, 36) := by decide +kernel
theorem f_42_36 : x_fe 42 36 = some (.new 0, 39) := by decide +kernel
theorem f_42_39 : x_fe 42 39 = some (.dup, 40) := by decide +kernel
theorem f_42_40 : x_fe 42 40 = some (.invokespecial 0, 43) := by decide +kernel
theorem f_42_43 : x_fe 42 43 = some (.putstatic 163, 46) := by decide +kernel
theorem f_42_46 : x_fe 42 46 = some (.aload 0, 47) := by decide +kernel
theorem f_42_47 : x_fe 42 47 = some (.iconst (2), 48) := by decide +kernel
theorem f_42_48 : x_fe 42 48 = some (.anewarray 0, 51) := by decide +kernel
theorem f_42_51 : x_fe 42 51 = some (.putstatic 164, 54) := by decide +kernel
theorem f_42_54 : x_fe 42 54 = some (.aload 0, 55) := by decide +kernel
theorem f_42_55 : x_fe 42 55 = some (.new 1, 58) := by decide +kernel
theorem f_42_58 : x_fe 42 58 = some (.dup, 59) := by decide +kernel
theorem f_42_59 : x_fe 42 59 = some (.invokespecial 16, 62) := by decide +kernel
theorem f_42_62 : x_fe 42 62 = some (.putstatic 165, 65) := by decide +kernel
theorem f_42_65 : x_fe 42 65 = some (.aload 0, 66) := by decide +kernel
theorem f_42_66 : x_fe 42 66 = some (.iconst (3), 67) := by decide +kernel
theorem f_42_67 : x_fe 42 67 = some (.newarray .int, 69) := by decide +kernel
theorem f_42_69 : x_fe 42 69 = some (.putstatic 166, 72) := by decide +kernel
theorem f_42_72 : x_fe 42 72 = some (.aload 0, 73) := by decide +kernel
theorem f_42_73 : x_fe 42 73 = some (.new 4, 76) := by decide +kernel
theorem f_42_76 : x_fe 42 76 = some (.dup, 77) := by decide +kernel
theorem f_42_77 : x_fe 42 77 = some (.invokespecial 40, 80) := by decide +kernel
theorem f_42_80 : x_fe 42 80 = some (.putstatic 167, 83) := by decide +kernel
theorem f_42_83 : x_fe 42 83 = some (.iconst (0), 84) := by decide +kernel
theorem f_42_84 : x_fe 42 84 = some (.istore 1, 85) := by decide +kernel
theorem f_42_85 : x_fe 42 85 = some (.iload 1, 86) := by decide +kernel
theorem f_42_86 : x_fe 42 86 = some (.iconst (8), 88) := by decide +kernel
theorem f_42_88 : x_fe 42 88 = some (.if_icmp .ge (Int.ofNat 110), 91) := by decide +kernel
theorem f_42_91 : x_fe 42 91 = some (.aload 0, 92) := by decide +kernel
theorem f_42_92 : x_fe 42 92 = some (.getfield 160, 95) := by decide +kernel
theorem f_42_95 : x_fe 42 95 = some (.iload 1, 96) := by decide +kernel
theorem f_42_96 : x_fe 42 96 = some (.new 2, 99) := by decide +kernel
theorem f_42_99 : x_fe 42 99 = some (.dup, 100) := by decide +kernel
theorem f_42_100 : x_fe 42 100 = some (.invokespecial 23, 103) := by decide +kernel
theorem f_42_103 : x_fe 42 103 = some (.aastore, 104) := by decide +kernel
theorem f_42_104 : x_fe 42 104 = some (.iinc 1 (1), 107) := by decide +kernel
theorem f_42_107 : x_fe 42 107 = some (.goto (Int.ofNat 85), 110) := by decide +kernel
theorem f_42_110 : x_fe 42 110 = some (.iconst (0), 111) := by decide +kernel
theorem f_42_111 : x_fe 42 111 = some (.istore 1, 112) := by decide +kernel
theorem f_42_112 : x_fe 42 112 = some (.iload 1, 113) := by decide +kernel
theorem f_42_113 : x_fe 42 113 = some (.iconst (2), 114) := by decide +kernel
theorem f_42_114 : x_fe 42 114 = some (.if_icmp .ge (Int.ofNat 136), 117) := by decide +kernel
theorem f_42_117 : x_fe 42 117 = some (.aload 0, 118) := by decide +kernel
theorem f_42_118 : x_fe 42 118 = some (.getfield 164, 121) := by decide +kernel
theorem f_42_121 : x_fe 42 121 = some (.iload 1, 122) := by decide +kernel
theorem f_42_122 : x_fe 42 122 = some (.new 0, 125) := by decide +kernel
theorem f_42_125 : x_fe 42 125 = some (.dup, 126) := by decide +kernel
theorem f_42_126 : x_fe 42 126 = some (.invokespecial 0, 129) := by decide +kernel
theorem f_42_129 : x_fe 42 129 = some (.aastore, 130) := by decide +kernel
theorem f_42_130 : x_fe 42 130 = some (.iinc 1 (1), 133) := by decide +kernel
theorem f_42_133 : x_fe 42 133 = some (.goto (Int.ofNat 112), 136) := by decide +kernel
theorem f_42_136 : x_fe 42 136 = some (.return_, 137) := by decide +kernel
theorem f_43_0 : x_fe 43 0 = some (.iload 1, 1) := by decide +kernel
theorem f_43_1 : x_fe 43 1 = some (.invokestatic 44, 4) := by decide +kernel
theorem f_43_4 : x_fe 43 4 = some (.ifCond .eq (Int.ofNat 22), 7) := by decide +kernel
theorem f_43_7 : x_fe 43 7 = some (.iload 2, 8) := by decide +kernel
theorem f_43_8 : x_fe 43 8 = some (.ifCond .lt (Int.ofNat 22), 11) := by decide +kernel
theorem f_43_11 : x_fe 43 11 = some (.iload 2, 12) := by decide +kernel
theorem f_43_12 : x_fe 43 12 = some (.iconst (3), 13) := by decide +kernel
theorem f_43_13 : x_fe 43 13 = some (.if_icmp .ge (Int.ofNat 22), 16) := by decide +kernel
theorem f_43_16 : x_fe 43 16 = some (.iload 3, 17) := by decide +kernel
theorem f_43_17 : x_fe 43 17 = some (.iconst (40), 19) := by decide +kernel
theorem f_43_19 : x_fe 43 19 = some (.if_icmp .le (Int.ofNat 25), 22) := by decide +kernel
theorem f_43_22 : x_fe 43 22 = some (.iconst (-1000001), 24) := by decide +kernel
theorem f_43_24 : x_fe 43 24 = some (.ireturn, 25) := by decide +kernel
theorem f_43_25 : x_fe 43 25 = some (.iload 3, 26) := by decide +kernel
theorem f_43_26 : x_fe 43 26 = some (.ifCond .ge (Int.ofNat 35), 29) := by decide +kernel
theorem f_43_29 : x_fe 43 29 = some (.aload 0, 30) := by decide +kernel
theorem f_43_30 : x_fe 43 30 = some (.iconst (4), 31) := by decide +kernel
theorem f_43_31 : x_fe 43 31 = some (.invokevirtual 45, 34) := by decide +kernel
theorem f_43_34 : x_fe 43 34 = some (.ireturn, 35) := by decide +kernel
theorem f_43_35 : x_fe 43 35 = some (.aload 0, 36) := by decide +kernel
theorem f_43_36 : x_fe 43 36 = some (.getfield 160, 39) := by decide +kernel
theorem f_43_39 : x_fe 43 39 = some (.iload 1, 40) := by decide +kernel
theorem f_43_40 : x_fe 43 40 = some (.aaload, 41) := by decide +kernel
theorem f_43_41 : x_fe 43 41 = some (.iload 2, 42) := by decide +kernel
theorem f_43_42 : x_fe 43 42 = some (.iload 3, 43) := by decide +kernel
theorem f_43_43 : x_fe 43 43 = some (.invokevirtual 24, 46) := by decide +kernel
theorem f_43_46 : x_fe 43 46 = some (.aload 0, 47) := by decide +kernel
theorem f_43_47 : x_fe 43 47 = some (.iload 3, 48) := by decide +kernel
theorem f_43_48 : x_fe 43 48 = some (.invokevirtual 46, 51) := by decide +kernel
theorem f_43_51 : x_fe 43 51 = some (.ireturn, 52) := by decide +kernel
theorem f_44_0 : x_fe 44 0 = some (.iload 0, 1) := by decide +kernel
theorem f_44_1 : x_fe 44 1 = some (.ifCond .lt (Int.ofNat 14), 4) := by decide +kernel
theorem f_44_4 : x_fe 44 4 = some (.iload 0, 5) := by decide +kernel
theorem f_44_5 : x_fe 44 5 = some (.iconst (8), 7) := by decide +kernel
theorem f_44_7 : x_fe 44 7 = some (.if_icmp .ge (Int.ofNat 14), 10) := by decide +kernel
theorem f_44_10 : x_fe 44 10 = some (.iconst (1), 11) := by decide +kernel
theorem f_44_11 : x_fe 44 11 = some (.goto (Int.ofNat 15), 14) := by decide +kernel
theorem f_44_14 : x_fe 44 14 = some (.iconst (0), 15) := by decide +kernel
theorem f_44_15 : x_fe 44 15 = some (.ireturn, 16) := by decide +kernel
theorem f_45_0 : x_fe 45 0 = some (.aload 0, 1) := by decide +kernel
theorem f_45_1 : x_fe 45 1 = some (.iload 1, 2) := by decide +kernel
theorem f_45_2 : x_fe 45 2 = some (.putfield 169, 5) := by decide +kernel
theorem f_45_5 : x_fe 45 5 = some (.iconst (-1000010), 8) := by decide +kernel
theorem f_45_8 : x_fe 45 8 = some (.iload 1, 9) := by decide +kernel
theorem f_45_9 : x_fe 45 9 = some (.isub, 10) := by decide +kernel
theorem f_45_10 : x_fe 45 10 = some (.ireturn, 11) := by decide +kernel
theorem f_46_0 : x_fe 46 0 = some (.aload 0, 1) := by decide +kernel
theorem f_46_1 : x_fe 46 1 = some (.iconst (0), 2) := by decide +kernel
theorem f_46_2 : x_fe 46 2 = some (.putfield 169, 5) := by decide +kernel
theorem f_46_5 : x_fe 46 5 = some (.iload 1, 6) := by decide +kernel
theorem f_46_6 : x_fe 46 6 = some (.ireturn, 7) := by decide +kernel
theorem f_47_0 : x_fe 47 0 = some (.iload 1, 1) := by decide +kernel
theorem f_47_1 : x_fe 47 1 = some (.invokestatic 44, 4) := by decide +kernel
theorem f_47_4 : x_fe 47 4 = some (.ifCond .ne (Int.ofNat 10), 7) := by decide +kernel
theorem f_47_7 : x_fe 47 7 = some (.iconst (-1000001), 9) := by decide +kernel
theorem f_47_9 : x_fe 47 9 = some (.ireturn, 10) := by decide +kernel
theorem f_47_10 : x_fe 47 10 = some (.aload 0, 11) := by decide +kernel
theorem f_47_11 : x_fe 47 11 = some (.getfield 160, 14) := by decide +kernel
theorem f_47_14 : x_fe 47 14 = some (.iload 1, 15) := by decide +kernel
theorem f_47_15 : x_fe 47 15 = some (.aaload, 16) := by decide +kernel
theorem f_47_16 : x_fe 47 16 = some (.astore 4, 18) := by decide +kernel
theorem f_47_18 : x_fe 47 18 = some (.aload 4, 20) := by decide +kernel
theorem f_47_20 : x_fe 47 20 = some (.getfield 65, 23) := by decide +kernel
theorem f_47_23 : x_fe 47 23 = some (.ifCond .ne (Int.ofNat 32), 26) := by decide +kernel
theorem f_47_26 : x_fe 47 26 = some (.aload 0, 27) := by decide +kernel
theorem f_47_27 : x_fe 47 27 = some (.iconst (1), 28) := by decide +kernel
theorem f_47_28 : x_fe 47 28 = some (.invokevirtual 45, 31) := by decide +kernel
theorem f_47_31 : x_fe 47 31 = some (.ireturn, 32) := by decide +kernel
theorem f_47_32 : x_fe 47 32 = some (.aload 4, 34) := by decide +kernel
theorem f_47_34 : x_fe 47 34 = some (.iload 2, 35) := by decide +kernel
theorem f_47_35 : x_fe 47 35 = some (.iconst (1), 36) := by decide +kernel
theorem f_47_36 : x_fe 47 36 = some (.invokevirtual 25, 39) := by decide +kernel
theorem f_47_39 : x_fe 47 39 = some (.ifCond .ne (Int.ofNat 48), 42) := by decide +kernel
theorem f_47_42 : x_fe 47 42 = some (.aload 0, 43) := by decide +kernel
theorem f_47_43 : x_fe 47 43 = some (.iconst (2), 44) := by decide +kernel
theorem f_47_44 : x_fe 47 44 = some (.invokevirtual 45, 47) := by decide +kernel
theorem f_47_47 : x_fe 47 47 = some (.ireturn, 48) := by decide +kernel
theorem f_47_48 : x_fe 47 48 = some (.aload 4, 50) := by decide +kernel
theorem f_47_50 : x_fe 47 50 = some (.getfield 64, 53) := by decide +kernel
theorem f_47_53 : x_fe 47 53 = some (.iload 2, 54) := by decide +kernel
theorem f_47_54 : x_fe 47 54 = some (.aload 4, 56) := by decide +kernel
theorem f_47_56 : x_fe 47 56 = some (.iload 3, 57) := by decide +kernel
theorem f_47_57 : x_fe 47 57 = some (.invokevirtual 26, 60) := by decide +kernel
theorem f_47_60 : x_fe 47 60 = some (.iastore, 61) := by decide +kernel
theorem f_47_61 : x_fe 47 61 = some (.aload 0, 62) := by decide +kernel
theorem f_47_62 : x_fe 47 62 = some (.aload 4, 64) := by decide +kernel
theorem f_47_64 : x_fe 47 64 = some (.getfield 64, 67) := by decide +kernel
theorem f_47_67 : x_fe 47 67 = some (.iload 2, 68) := by decide +kernel
theorem f_47_68 : x_fe 47 68 = some (.iaload, 69) := by decide +kernel
theorem f_47_69 : x_fe 47 69 = some (.invokevirtual 46, 72) := by decide +kernel
theorem f_47_72 : x_fe 47 72 = some (.ireturn, 73) := by decide +kernel
theorem f_48_0 : x_fe 48 0 = some (.iload 1, 1) := by decide +kernel
theorem f_48_1 : x_fe 48 1 = some (.invokestatic 44, 4) := by decide +kernel
theorem f_48_4 : x_fe 48 4 = some (.ifCond .eq (Int.ofNat 14), 7) := by decide +kernel
theorem f_48_7 : x_fe 48 7 = some (.iload 3, 8) := by decide +kernel
theorem f_48_8 : x_fe 48 8 = some (.invokestatic 44, 11) := by decide +kernel
theorem f_48_11 : x_fe 48 11 = some (.ifCond .ne (Int.ofNat 17), 14) := by decide +kernel
theorem f_48_14 : x_fe 48 14 = some (.iconst (-1000001), 16) := by decide +kernel
theorem f_48_16 : x_fe 48 16 = some (.ireturn, 17) := by decide +kernel
theorem f_48_17 : x_fe 48 17 = some (.aload 0, 18) := by decide +kernel
theorem f_48_18 : x_fe 48 18 = some (.getfield 160, 21) := by decide +kernel
theorem f_48_21 : x_fe 48 21 = some (.iload 1, 22) := by decide +kernel
theorem f_48_22 : x_fe 48 22 = some (.aaload, 23) := by decide +kernel
theorem f_48_23 : x_fe 48 23 = some (.astore 6, 25) := by decide +kernel
theorem f_48_25 : x_fe 48 25 = some (.aload 0, 26) := by decide +kernel
theorem f_48_26 : x_fe 48 26 = some (.getfield 160, 29) := by decide +kernel
theorem f_48_29 : x_fe 48 29 = some (.iload 3, 30) := by decide +kernel
theorem f_48_30 : x_fe 48 30 = some (.aaload, 31) := by decide +kernel
theorem f_48_31 : x_fe 48 31 = some (.astore 7, 33) := by decide +kernel
theorem f_48_33 : x_fe 48 33 = some (.aload 6, 35) := by decide +kernel
theorem f_48_35 : x_fe 48 35 = some (.getfield 65, 38) := by decide +kernel
theorem f_48_38 : x_fe 48 38 = some (.ifCond .eq (Int.ofNat 49), 41) := by decide +kernel
theorem f_48_41 : x_fe 48 41 = some (.aload 7, 43) := by decide +kernel
theorem f_48_43 : x_fe 48 43 = some (.getfield 65, 46) := by decide +kernel
theorem f_48_46 : x_fe 48 46 = some (.ifCond .ne (Int.ofNat 55), 49) := by decide +kernel
theorem f_48_49 : x_fe 48 49 = some (.aload 0, 50) := by decide +kernel
theorem f_48_50 : x_fe 48 50 = some (.iconst (1), 51) := by decide +kernel
theorem f_48_51 : x_fe 48 51 = some (.invokevirtual 45, 54) := by decide +kernel
theorem f_48_54 : x_fe 48 54 = some (.ireturn, 55) := by decide +kernel
theorem f_48_55 : x_fe 48 55 = some (.aload 6, 57) := by decide +kernel
theorem f_48_57 : x_fe 48 57 = some (.getfield 66, 60) := by decide +kernel
theorem f_48_60 : x_fe 48 60 = some (.aload 7, 62) := by decide +kernel
theorem f_48_62 : x_fe 48 62 = some (.getfield 66, 65) := by decide +kernel
theorem f_48_65 : x_fe 48 65 = some (.if_icmp .eq (Int.ofNat 74), 68) := by decide +kernel
theorem f_48_68 : x_fe 48 68 = some (.aload 0, 69) := by decide +kernel
theorem f_48_69 : x_fe 48 69 = some (.iconst (5), 70) := by decide +kernel
theorem f_48_70 : x_fe 48 70 = some (.invokevirtual 45, 73) := by decide +kernel
theorem f_48_73 : x_fe 48 73 = some (.ireturn, 74) := by decide +kernel
theorem f_48_74 : x_fe 48 74 = some (.aload 6, 76) := by decide +kernel
theorem f_48_76 : x_fe 48 76 = some (.iload 2, 77) := by decide +kernel
theorem f_48_77 : x_fe 48 77 = some (.iload 5, 79) := by decide +kernel
theorem f_48_79 : x_fe 48 79 = some (.invokevirtual 25, 82) := by decide +kernel
theorem f_48_82 : x_fe 48 82 = some (.ifCond .eq (Int.ofNat 97), 85) := by decide +kernel
theorem f_48_85 : x_fe 48 85 = some (.aload 7, 87) := by decide +kernel
theorem f_48_87 : x_fe 48 87 = some (.iload 4, 89) := by decide +kernel
theorem f_48_89 : x_fe 48 89 = some (.iload 5, 91) := by decide +kernel
theorem f_48_91 : x_fe 48 91 = some (.invokevirtual 25, 94) := by decide +kernel
theorem f_48_94 : x_fe 48 94 = some (.ifCond .ne (Int.ofNat 103), 97) := by decide +kernel
theorem f_48_97 : x_fe 48 97 = some (.aload 0, 98) := by decide +kernel
theorem f_48_98 : x_fe 48 98 = some (.iconst (2), 99) := by decide +kernel
theorem f_48_99 : x_fe 48 99 = some (.invokevirtual 45, 102) := by decide +kernel
theorem f_48_102 : x_fe 48 102 = some (.ireturn, 103) := by decide +kernel
theorem f_48_103 : x_fe 48 103 = some (.aload 6, 105) := by decide +kernel
theorem f_48_105 : x_fe 48 105 = some (.getfield 64, 108) := by decide +kernel
theorem f_48_108 : x_fe 48 108 = some (.iload 2, 109) := by decide +kernel
theorem f_48_109 : x_fe 48 109 = some (.aload 7, 111) := by decide +kernel
theorem f_48_111 : x_fe 48 111 = some (.getfield 64, 114) := by decide +kernel
theorem f_48_114 : x_fe 48 114 = some (.iload 4, 116) := by decide +kernel
theorem f_48_116 : x_fe 48 116 = some (.iload 5, 118) := by decide +kernel
theorem f_48_118 : x_fe 48 118 = some (.d2i, 121) := by decide +kernel
theorem f_48_121 : x_fe 48 121 = some (.aload 0, 122) := by decide +kernel
theorem f_48_122 : x_fe 48 122 = some (.iload 5, 124) := by decide +kernel
theorem f_48_124 : x_fe 48 124 = some (.invokevirtual 46, 127) := by decide +kernel
theorem f_48_127 : x_fe 48 127 = some (.ireturn, 128) := by decide +kernel
theorem f_49_0 : x_fe 49 0 = some (.iload 1, 1) := by decide +kernel
theorem f_49_1 : x_fe 49 1 = some (.invokestatic 44, 4) := by decide +kernel
theorem f_49_4 : x_fe 49 4 = some (.ifCond .ne (Int.ofNat 10), 7) := by decide +kernel
theorem f_49_7 : x_fe 49 7 = some (.iconst (-1000001), 9) := by decide +kernel
theorem f_49_9 : x_fe 49 9 = some (.ireturn, 10) := by decide +kernel
theorem f_49_10 : x_fe 49 10 = some (.aload 0, 11) := by decide +kernel
theorem f_49_11 : x_fe 49 11 = some (.getfield 160, 14) := by decide +kernel
theorem f_49_14 : x_fe 49 14 = some (.iload 1, 15) := by decide +kernel
theorem f_49_15 : x_fe 49 15 = some (.aaload, 16) := by decide +kernel
theorem f_49_16 : x_fe 49 16 = some (.astore 2, 17) := by decide +kernel
theorem f_49_17 : x_fe 49 17 = some (.aload 2, 18) := by decide +kernel
theorem f_49_18 : x_fe 49 18 = some (.getfield 65, 21) := by decide +kernel
theorem f_49_21 : x_fe 49 21 = some (.ifCond .ne (Int.ofNat 30), 24) := by decide +kernel
theorem f_49_24 : x_fe 49 24 = some (.aload 0, 25) := by decide +kernel
theorem f_49_25 : x_fe 49 25 = some (.iconst (1), 26) := by decide +kernel
theorem f_49_26 : x_fe 49 26 = some (.invokevirtual 45, 29) := by decide +kernel
theorem f_49_29 : x_fe 49 29 = some (.ireturn, 30) := by decide +kernel
theorem f_49_30 : x_fe 49 30 = some (.aload 2, 31) := by decide +kernel
theorem f_49_31 : x_fe 49 31 = some (.iconst (0), 32) := by decide +kernel
theorem f_49_32 : x_fe 49 32 = some (.putfield 65, 35) := by decide +kernel
theorem f_49_35 : x_fe 49 35 = some (.aload 0, 36) := by decide +kernel
theorem f_49_36 : x_fe 49 36 = some (.aload 2, 37) := by decide +kernel
theorem f_49_37 : x_fe 49 37 = some (.getfield 67, 40) := by decide +kernel
theorem f_49_40 : x_fe 49 40 = some (.invokevirtual 46, 43) := by decide +kernel
theorem f_49_43 : x_fe 49 43 = some (.ireturn, 44) := by decide +kernel
theorem f_50_0 : x_fe 50 0 = some (.iload 3, 1) := by decide +kernel
theorem f_50_1 : x_fe 50 1 = some (.iconst (1), 2) := by decide +kernel
theorem f_50_2 : x_fe 50 2 = some (.if_icmp .lt (Int.ofNat 11), 5) := by decide +kernel
theorem f_50_5 : x_fe 50 5 = some (.iload 3, 6) := by decide +kernel
theorem f_50_6 : x_fe 50 6 = some (.iconst (8), 8) := by decide +kernel
theorem f_50_8 : x_fe 50 8 = some (.if_icmp .le (Int.ofNat 14), 11) := by decide +kernel
theorem f_50_11 : x_fe 50 11 = some (.iconst (-1000001), 13) := by decide +kernel
theorem f_50_13 : x_fe 50 13 = some (.ireturn, 14) := by decide +kernel
theorem f_50_14 : x_fe 50 14 = some (.aload 0, 15) := by decide +kernel
theorem f_50_15 : x_fe 50 15 = some (.getfield 161, 18) := by decide +kernel
theorem f_50_18 : x_fe 50 18 = some (.getfield 97, 21) := by decide +kernel
theorem f_50_21 : x_fe 50 21 = some (.iconst (400), 24) := by decide +kernel
theorem f_50_24 : x_fe 50 24 = some (.iload 3, 25) := by decide +kernel
theorem f_50_25 : x_fe 50 25 = some (.isub, 26) := by decide +kernel
theorem f_50_26 : x_fe 50 26 = some (.if_icmp .le (Int.ofNat 32), 29) := by decide +kernel
theorem f_50_29 : x_fe 50 29 = some (.iconst (-1000003), 31) := by decide +kernel
theorem f_50_31 : x_fe 50 31 = some (.ireturn, 32) := by decide +kernel
theorem f_50_32 : x_fe 50 32 = some (.iload 3, 33) := by decide +kernel
theorem f_50_33 : x_fe 50 33 = some (.iconst (1), 34) := by decide +kernel
theorem f_50_34 : x_fe 50 34 = some (.isub, 35) := by decide +kernel
theorem f_50_35 : x_fe 50 35 = some (.istore 4, 37) := by decide +kernel
theorem f_50_37 : x_fe 50 37 = some (.iload 4, 39) := by decide +kernel
theorem f_50_39 : x_fe 50 39 = some (.ifCond .lt (Int.ofNat 67), 42) := by decide +kernel
theorem f_50_42 : x_fe 50 42 = some (.aload 0, 43) := by decide +kernel
theorem f_50_43 : x_fe 50 43 = some (.getfield 161, 46) := by decide +kernel
theorem f_50_46 : x_fe 50 46 = some (.lload 1, 47) := by decide +kernel
theorem f_50_47 : x_fe 50 47 = some (.iconst (8), 49) := by decide +kernel
theorem f_50_49 : x_fe 50 49 = some (.iload 4, 51) := by decide +kernel
theorem f_50_51 : x_fe 50 51 = some (.imul, 52) := by decide +kernel
theorem f_50_52 : x_fe 50 52 = some (.lshr, 53) := by decide +kernel
theorem f_50_53 : x_fe 50 53 = some (.l2i, 54) := by decide +kernel
theorem f_50_54 : x_fe 50 54 = some (.iconst (255), 57) := by decide +kernel
theorem f_50_57 : x_fe 50 57 = some (.iand, 58) := by decide +kernel
theorem f_50_58 : x_fe 50 58 = some (.invokevirtual 29, 61) := by decide +kernel
theorem f_50_61 : x_fe 50 61 = some (.iinc 4 (-1), 64) := by decide +kernel
theorem f_50_64 : x_fe 50 64 = some (.goto (Int.ofNat 37), 67) := by decide +kernel
theorem f_50_67 : x_fe 50 67 = some (.aload 0, 68) := by decide +kernel
theorem f_50_68 : x_fe 50 68 = some (.getfield 161, 71) := by decide +kernel
theorem f_50_71 : x_fe 50 71 = some (.getfield 97, 74) := by decide +kernel
theorem f_50_74 : x_fe 50 74 = some (.ireturn, 75) := by decide +kernel
theorem f_51_0 : x_fe 51 0 = some (.aload 0, 1) := by decide +kernel
theorem f_51_1 : x_fe 51 1 = some (.getfield 161, 4) := by decide +kernel
theorem f_51_4 : x_fe 51 4 = some (.aload 0, 5) := by decide +kernel
theorem f_51_5 : x_fe 51 5 = some (.getfield 163, 8) := by decide +kernel
theorem f_51_8 : x_fe 51 8 = some (.invokestatic 52, 11) := by decide +kernel
theorem f_51_11 : x_fe 51 11 = some (.istore 1, 12) := by decide +kernel
theorem f_51_12 : x_fe 51 12 = some (.aload 0, 13) := by decide +kernel
theorem f_51_13 : x_fe 51 13 = some (.getfield 161, 16) := by decide +kernel
theorem f_51_16 : x_fe 51 16 = some (.getfield 99, 19) := by decide +kernel
theorem f_51_19 : x_fe 51 19 = some (.istore 2, 20) := by decide +kernel
theorem f_51_20 : x_fe 51 20 = some (.aload 0, 21) := by decide +kernel
theorem f_51_21 : x_fe 51 21 = some (.getfield 161, 24) := by decide +kernel
theorem f_51_24 : x_fe 51 24 = some (.iconst (0), 25) := by decide +kernel
theorem f_51_25 : x_fe 51 25 = some (.putfield 97, 28) := by decide +kernel
theorem f_51_28 : x_fe 51 28 = some (.iload 1, 29) := by decide +kernel
theorem f_51_29 : x_fe 51 29 = some (.ifCond .eq (Int.ofNat 42), 32) := by decide +kernel
theorem f_51_32 : x_fe 51 32 = some (.aload 0, 33) := by decide +kernel
theorem f_51_33 : x_fe 51 33 = some (.iload 1, 34) := by decide +kernel
theorem f_51_34 : x_fe 51 34 = some (.putfield 168, 37) := by decide +kernel
theorem f_51_37 : x_fe 51 37 = some (.iconst (-1000100), 39) := by decide +kernel
theorem f_51_39 : x_fe 51 39 = some (.iload 2, 40) := by decide +kernel
theorem f_51_40 : x_fe 51 40 = some (.isub, 41) := by decide +kernel
theorem f_51_41 : x_fe 51 41 = some (.ireturn, 42) := by decide +kernel
theorem f_51_42 : x_fe 51 42 = some (.aload 0, 43) := by decide +kernel
theorem f_51_43 : x_fe 51 43 = some (.getfield 163, 46) := by decide +kernel
theorem f_51_46 : x_fe 51 46 = some (.invokevirtual 5, 49) := by decide +kernel
theorem f_51_49 : x_fe 51 49 = some (.aload 0, 50) := by decide +kernel
theorem f_51_50 : x_fe 51 50 = some (.getfield 162, 53) := by decide +kernel
theorem f_51_53 : x_fe 51 53 = some (.aload 0, 54) := by decide +kernel
theorem f_51_54 : x_fe 51 54 = some (.getfield 163, 57) := by decide +kernel
theorem f_51_57 : x_fe 51 57 = some (.invokevirtual 7, 60) := by decide +kernel
theorem f_51_60 : x_fe 51 60 = some (.aload 0, 61) := by decide +kernel
theorem f_51_61 : x_fe 51 61 = some (.getfield 162, 64) := by decide +kernel
theorem f_51_64 : x_fe 51 64 = some (.getfield 5, 67) := by decide +kernel
theorem f_51_67 : x_fe 51 67 = some (.ireturn, 68) := by decide +kernel
theorem f_52_0 : x_fe 52 0 = some (.aload 1, 1) := by decide +kernel
theorem f_52_1 : x_fe 52 1 = some (.invokevirtual 1, 4) := by decide +kernel
theorem f_52_4 : x_fe 52 4 = some (.aload 0, 5) := by decide +kernel
theorem f_52_5 : x_fe 52 5 = some (.invokevirtual 30, 8) := by decide +kernel
theorem f_52_8 : x_fe 52 8 = some (.aload 0, 9) := by decide +kernel
theorem f_52_9 : x_fe 52 9 = some (.aload 1, 10) := by decide +kernel
