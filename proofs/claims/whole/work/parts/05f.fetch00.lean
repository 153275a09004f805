theorem f_0_0 : x_fe 0 0 = some (.aload 0, 1) := by decide +kernel
theorem f_0_1 : x_fe 0 1 = some (.d2f, 4) := by decide +kernel
theorem f_0_4 : x_fe 0 4 = some (.aload 0, 5) := by decide +kernel
theorem f_0_5 : x_fe 0 5 = some (.iconst (9), 7) := by decide +kernel
theorem f_0_7 : x_fe 0 7 = some (.newarray .int, 9) := by decide +kernel
theorem f_0_9 : x_fe 0 9 = some (.putstatic 0, 12) := by decide +kernel
theorem f_0_12 : x_fe 0 12 = some (.aload 0, 13) := by decide +kernel
theorem f_0_13 : x_fe 0 13 = some (.iconst (112), 15) := by decide +kernel
theorem f_0_15 : x_fe 0 15 = some (.newarray .int, 17) := by decide +kernel
theorem f_0_17 : x_fe 0 17 = some (.putstatic 1, 20) := by decide +kernel
theorem f_0_20 : x_fe 0 20 = some (.aload 0, 21) := by decide +kernel
theorem f_0_21 : x_fe 0 21 = some (.iconst (2), 22) := by decide +kernel
theorem f_0_22 : x_fe 0 22 = some (.newarray .int, 24) := by decide +kernel
theorem f_0_24 : x_fe 0 24 = some (.putstatic 2, 27) := by decide +kernel
theorem f_0_27 : x_fe 0 27 = some (.aload 0, 28) := by decide +kernel
theorem f_0_28 : x_fe 0 28 = some (.iconst (2), 29) := by decide +kernel
theorem f_0_29 : x_fe 0 29 = some (.newarray .int, 31) := by decide +kernel
theorem f_0_31 : x_fe 0 31 = some (.putstatic 3, 34) := by decide +kernel
theorem f_0_34 : x_fe 0 34 = some (.return_, 35) := by decide +kernel
theorem f_1_0 : x_fe 1 0 = some (.aload 0, 1) := by decide +kernel
theorem f_1_1 : x_fe 1 1 = some (.iconst (0), 2) := by decide +kernel
theorem f_1_2 : x_fe 1 2 = some (.putfield 5, 5) := by decide +kernel
theorem f_1_5 : x_fe 1 5 = some (.aload 0, 6) := by decide +kernel
theorem f_1_6 : x_fe 1 6 = some (.getfield 2, 9) := by decide +kernel
theorem f_1_9 : x_fe 1 9 = some (.iconst (0), 10) := by decide +kernel
theorem f_1_10 : x_fe 1 10 = some (.iconst (0), 11) := by decide +kernel
theorem f_1_11 : x_fe 1 11 = some (.iastore, 12) := by decide +kernel
theorem f_1_12 : x_fe 1 12 = some (.aload 0, 13) := by decide +kernel
theorem f_1_13 : x_fe 1 13 = some (.getfield 2, 16) := by decide +kernel
theorem f_1_16 : x_fe 1 16 = some (.iconst (1), 17) := by decide +kernel
theorem f_1_17 : x_fe 1 17 = some (.iconst (0), 18) := by decide +kernel
theorem f_1_18 : x_fe 1 18 = some (.iastore, 19) := by decide +kernel
theorem f_1_19 : x_fe 1 19 = some (.return_, 20) := by decide +kernel
theorem f_2_0 : x_fe 2 0 = some (.aload 0, 1) := by decide +kernel
theorem f_2_1 : x_fe 2 1 = some (.getfield 5, 4) := by decide +kernel
theorem f_2_4 : x_fe 2 4 = some (.iconst (14), 6) := by decide +kernel
theorem f_2_6 : x_fe 2 6 = some (.if_icmp .ge (Int.ofNat 18), 9) := by decide +kernel
theorem f_2_9 : x_fe 2 9 = some (.iload 2, 10) := by decide +kernel
theorem f_2_10 : x_fe 2 10 = some (.ifCond .lt (Int.ofNat 18), 13) := by decide +kernel
theorem f_2_13 : x_fe 2 13 = some (.iload 2, 14) := by decide +kernel
theorem f_2_14 : x_fe 2 14 = some (.iconst (1), 15) := by decide +kernel
theorem f_2_15 : x_fe 2 15 = some (.if_icmp .le (Int.ofNat 19), 18) := by decide +kernel
theorem f_2_18 : x_fe 2 18 = some (.return_, 19) := by decide +kernel
theorem f_2_19 : x_fe 2 19 = some (.iload 1, 20) := by decide +kernel
theorem f_2_20 : x_fe 2 20 = some (.istore 3, 21) := by decide +kernel
theorem f_2_21 : x_fe 2 21 = some (.iconst (0), 22) := by decide +kernel
theorem f_2_22 : x_fe 2 22 = some (.istore 4, 24) := by decide +kernel
theorem f_2_24 : x_fe 2 24 = some (.iload 4, 26) := by decide +kernel
theorem f_2_26 : x_fe 2 26 = some (.iconst (8), 28) := by decide +kernel
theorem f_2_28 : x_fe 2 28 = some (.if_icmp .ge (Int.ofNat 69), 31) := by decide +kernel
theorem f_2_31 : x_fe 2 31 = some (.iload 4, 33) := by decide +kernel
theorem f_2_33 : x_fe 2 33 = some (.iconst (4), 34) := by decide +kernel
theorem f_2_34 : x_fe 2 34 = some (.if_icmp .ne (Int.ofNat 42), 37) := by decide +kernel
theorem f_2_37 : x_fe 2 37 = some (.iload 1, 38) := by decide +kernel
theorem f_2_38 : x_fe 2 38 = some (.invokestatic 3, 41) := by decide +kernel
theorem f_2_41 : x_fe 2 41 = some (.istore 3, 42) := by decide +kernel
theorem f_2_42 : x_fe 2 42 = some (.aload 0, 43) := by decide +kernel
theorem f_2_43 : x_fe 2 43 = some (.getfield 1, 46) := by decide +kernel
theorem f_2_46 : x_fe 2 46 = some (.iconst (8), 48) := by decide +kernel
theorem f_2_48 : x_fe 2 48 = some (.aload 0, 49) := by decide +kernel
theorem f_2_49 : x_fe 2 49 = some (.getfield 5, 52) := by decide +kernel
theorem f_2_52 : x_fe 2 52 = some (.imul, 53) := by decide +kernel
theorem f_2_53 : x_fe 2 53 = some (.iload 4, 55) := by decide +kernel
theorem f_2_55 : x_fe 2 55 = some (.iadd, 56) := by decide +kernel
theorem f_2_56 : x_fe 2 56 = some (.iload 3, 57) := by decide +kernel
theorem f_2_57 : x_fe 2 57 = some (.iastore, 58) := by decide +kernel
theorem f_2_58 : x_fe 2 58 = some (.iload 3, 59) := by decide +kernel
theorem f_2_59 : x_fe 2 59 = some (.invokestatic 4, 62) := by decide +kernel
theorem f_2_62 : x_fe 2 62 = some (.istore 3, 63) := by decide +kernel
theorem f_2_63 : x_fe 2 63 = some (.iinc 4 (1), 66) := by decide +kernel
theorem f_2_66 : x_fe 2 66 = some (.goto (Int.ofNat 24), 69) := by decide +kernel
theorem f_2_69 : x_fe 2 69 = some (.aload 0, 70) := by decide +kernel
theorem f_2_70 : x_fe 2 70 = some (.getfield 2, 73) := by decide +kernel
theorem f_2_73 : x_fe 2 73 = some (.iload 2, 74) := by decide +kernel
theorem f_2_74 : x_fe 2 74 = some (.dup2, 75) := by decide +kernel
theorem f_2_75 : x_fe 2 75 = some (.iaload, 76) := by decide +kernel
theorem f_2_76 : x_fe 2 76 = some (.iconst (1), 77) := by decide +kernel
theorem f_2_77 : x_fe 2 77 = some (.aload 0, 78) := by decide +kernel
theorem f_2_78 : x_fe 2 78 = some (.getfield 5, 81) := by decide +kernel
theorem f_2_81 : x_fe 2 81 = some (.ishl, 82) := by decide +kernel
theorem f_2_82 : x_fe 2 82 = some (.ior, 83) := by decide +kernel
theorem f_2_83 : x_fe 2 83 = some (.iastore, 84) := by decide +kernel
theorem f_2_84 : x_fe 2 84 = some (.aload 0, 85) := by decide +kernel
theorem f_2_85 : x_fe 2 85 = some (.dup, 86) := by decide +kernel
theorem f_2_86 : x_fe 2 86 = some (.getfield 5, 89) := by decide +kernel
theorem f_2_89 : x_fe 2 89 = some (.iconst (1), 90) := by decide +kernel
theorem f_2_90 : x_fe 2 90 = some (.iadd, 91) := by decide +kernel
theorem f_2_91 : x_fe 2 91 = some (.putfield 5, 94) := by decide +kernel
theorem f_2_94 : x_fe 2 94 = some (.return_, 95) := by decide +kernel
theorem f_3_0 : x_fe 3 0 = some (.iconst (0), 1) := by decide +kernel
theorem f_3_1 : x_fe 3 1 = some (.istore 1, 2) := by decide +kernel
theorem f_3_2 : x_fe 3 2 = some (.iconst (0), 3) := by decide +kernel
theorem f_3_3 : x_fe 3 3 = some (.istore 2, 4) := by decide +kernel
theorem f_3_4 : x_fe 3 4 = some (.iload 2, 5) := by decide +kernel
theorem f_3_5 : x_fe 3 5 = some (.iconst (3), 6) := by decide +kernel
theorem f_3_6 : x_fe 3 6 = some (.if_icmp .ge (Int.ofNat 56), 9) := by decide +kernel
theorem f_3_9 : x_fe 3 9 = some (.iconst (0), 10) := by decide +kernel
theorem f_3_10 : x_fe 3 10 = some (.istore 3, 11) := by decide +kernel
theorem f_3_11 : x_fe 3 11 = some (.iload 3, 12) := by decide +kernel
theorem f_3_12 : x_fe 3 12 = some (.iconst (3), 13) := by decide +kernel
theorem f_3_13 : x_fe 3 13 = some (.if_icmp .ge (Int.ofNat 50), 16) := by decide +kernel
theorem f_3_16 : x_fe 3 16 = some (.iload 3, 17) := by decide +kernel
theorem f_3_17 : x_fe 3 17 = some (.iconst (3), 18) := by decide +kernel
theorem f_3_18 : x_fe 3 18 = some (.iload 2, 19) := by decide +kernel
theorem f_3_19 : x_fe 3 19 = some (.imul, 20) := by decide +kernel
theorem f_3_20 : x_fe 3 20 = some (.iadd, 21) := by decide +kernel
theorem f_3_21 : x_fe 3 21 = some (.istore 4, 23) := by decide +kernel
theorem f_3_23 : x_fe 3 23 = some (.iconst (2), 24) := by decide +kernel
theorem f_3_24 : x_fe 3 24 = some (.iload 3, 25) := by decide +kernel
theorem f_3_25 : x_fe 3 25 = some (.isub, 26) := by decide +kernel
theorem f_3_26 : x_fe 3 26 = some (.iconst (3), 27) := by decide +kernel
theorem f_3_27 : x_fe 3 27 = some (.iload 2, 28) := by decide +kernel
theorem f_3_28 : x_fe 3 28 = some (.imul, 29) := by decide +kernel
theorem f_3_29 : x_fe 3 29 = some (.iadd, 30) := by decide +kernel
theorem f_3_30 : x_fe 3 30 = some (.istore 5, 32) := by decide +kernel
theorem f_3_32 : x_fe 3 32 = some (.iload 1, 33) := by decide +kernel
theorem f_3_33 : x_fe 3 33 = some (.iload 0, 34) := by decide +kernel
theorem f_3_34 : x_fe 3 34 = some (.iload 4, 36) := by decide +kernel
theorem f_3_36 : x_fe 3 36 = some (.ishr, 37) := by decide +kernel
theorem f_3_37 : x_fe 3 37 = some (.iconst (1), 38) := by decide +kernel
theorem f_3_38 : x_fe 3 38 = some (.iand, 39) := by decide +kernel
theorem f_3_39 : x_fe 3 39 = some (.iload 5, 41) := by decide +kernel
theorem f_3_41 : x_fe 3 41 = some (.ishl, 42) := by decide +kernel
theorem f_3_42 : x_fe 3 42 = some (.ior, 43) := by decide +kernel
theorem f_3_43 : x_fe 3 43 = some (.istore 1, 44) := by decide +kernel
theorem f_3_44 : x_fe 3 44 = some (.iinc 3 (1), 47) := by decide +kernel
theorem f_3_47 : x_fe 3 47 = some (.goto (Int.ofNat 11), 50) := by decide +kernel
theorem f_3_50 : x_fe 3 50 = some (.iinc 2 (1), 53) := by decide +kernel
theorem f_3_53 : x_fe 3 53 = some (.goto (Int.ofNat 4), 56) := by decide +kernel
theorem f_3_56 : x_fe 3 56 = some (.iload 1, 57) := by decide +kernel
theorem f_3_57 : x_fe 3 57 = some (.ireturn, 58) := by decide +kernel
theorem f_4_0 : x_fe 4 0 = some (.iconst (0), 1) := by decide +kernel
theorem f_4_1 : x_fe 4 1 = some (.istore 1, 2) := by decide +kernel
theorem f_4_2 : x_fe 4 2 = some (.iconst (0), 3) := by decide +kernel
theorem f_4_3 : x_fe 4 3 = some (.istore 2, 4) := by decide +kernel
theorem f_4_4 : x_fe 4 4 = some (.iload 2, 5) := by decide +kernel
theorem f_4_5 : x_fe 4 5 = some (.iconst (3), 6) := by decide +kernel
theorem f_4_6 : x_fe 4 6 = some (.if_icmp .ge (Int.ofNat 56), 9) := by decide +kernel
theorem f_4_9 : x_fe 4 9 = some (.iconst (0), 10) := by decide +kernel
theorem f_4_10 : x_fe 4 10 = some (.istore 3, 11) := by decide +kernel
theorem f_4_11 : x_fe 4 11 = some (.iload 3, 12) := by decide +kernel
theorem f_4_12 : x_fe 4 12 = some (.iconst (3), 13) := by decide +kernel
theorem f_4_13 : x_fe 4 13 = some (.if_icmp .ge (Int.ofNat 50), 16) := by decide +kernel
theorem f_4_16 : x_fe 4 16 = some (.iload 3, 17) := by decide +kernel
theorem f_4_17 : x_fe 4 17 = some (.iconst (3), 18) := by decide +kernel
theorem f_4_18 : x_fe 4 18 = some (.iload 2, 19) := by decide +kernel
theorem f_4_19 : x_fe 4 19 = some (.imul, 20) := by decide +kernel
theorem f_4_20 : x_fe 4 20 = some (.iadd, 21) := by decide +kernel
theorem f_4_21 : x_fe 4 21 = some (.istore 4, 23) := by decide +kernel
theorem f_4_23 : x_fe 4 23 = some (.iconst (2), 24) := by decide +kernel
theorem f_4_24 : x_fe 4 24 = some (.iload 2, 25) := by decide +kernel
theorem f_4_25 : x_fe 4 25 = some (.isub, 26) := by decide +kernel
theorem f_4_26 : x_fe 4 26 = some (.iconst (3), 27) := by decide +kernel
theorem f_4_27 : x_fe 4 27 = some (.iload 3, 28) := by decide +kernel
theorem f_4_28 : x_fe 4 28 = some (.imul, 29) := by decide +kernel
theorem f_4_29 : x_fe 4 29 = some (.iadd, 30) := by decide +kernel
theorem f_4_30 : x_fe 4 30 = some (.istore 5, 32) := by decide +kernel
theorem f_4_32 : x_fe 4 32 = some (.iload 1, 33) := by decide +kernel
theorem f_4_33 : x_fe 4 33 = some (.iload 0, 34) := by decide +kernel
theorem f_4_34 : x_fe 4 34 = some (.iload 4, 36) := by decide +kernel
theorem f_4_36 : x_fe 4 36 = some (.ishr, 37) := by decide +kernel
theorem f_4_37 : x_fe 4 37 = some (.iconst (1), 38) := by decide +kernel
theorem f_4_38 : x_fe 4 38 = some (.iand, 39) := by decide +kernel
theorem f_4_39 : x_fe 4 39 = some (.iload 5, 41) := by decide +kernel
theorem f_4_41 : x_fe 4 41 = some (.ishl, 42) := by decide +kernel
theorem f_4_42 : x_fe 4 42 = some (.ior, 43) := by decide +kernel
theorem f_4_43 : x_fe 4 43 = some (.istore 1, 44) := by decide +kernel
theorem f_4_44 : x_fe 4 44 = some (.iinc 3 (1), 47) := by decide +kernel
theorem f_4_47 : x_fe 4 47 = some (.goto (Int.ofNat 11), 50) := by decide +kernel
theorem f_4_50 : x_fe 4 50 = some (.iinc 2 (1), 53) := by decide +kernel
theorem f_4_53 : x_fe 4 53 = some (.goto (Int.ofNat 4), 56) := by decide +kernel
theorem f_4_56 : x_fe 4 56 = some (.iload 1, 57) := by decide +kernel
theorem f_4_57 : x_fe 4 57 = some (.ireturn, 58) := by decide +kernel
theorem f_5_0 : x_fe 5 0 = some (.aload 0, 1) := by decide +kernel
theorem f_5_1 : x_fe 5 1 = some (.iconst (1), 2) := by decide +kernel
theorem f_5_2 : x_fe 5 2 = some (.putfield 4, 5) := by decide +kernel
theorem f_5_5 : x_fe 5 5 = some (.aload 0, 6) := by decide +kernel
theorem f_5_6 : x_fe 5 6 = some (.getfield 3, 9) := by decide +kernel
theorem f_5_9 : x_fe 5 9 = some (.iconst (0), 10) := by decide +kernel
theorem f_5_10 : x_fe 5 10 = some (.iconst (0), 11) := by decide +kernel
theorem f_5_11 : x_fe 5 11 = some (.iastore, 12) := by decide +kernel
theorem f_5_12 : x_fe 5 12 = some (.aload 0, 13) := by decide +kernel
theorem f_5_13 : x_fe 5 13 = some (.getfield 3, 16) := by decide +kernel
theorem f_5_16 : x_fe 5 16 = some (.iconst (1), 17) := by decide +kernel
theorem f_5_17 : x_fe 5 17 = some (.iconst (0), 18) := by decide +kernel
theorem f_5_18 : x_fe 5 18 = some (.iastore, 19) := by decide +kernel
theorem f_5_19 : x_fe 5 19 = some (.aload 0, 20) := by decide +kernel
theorem f_5_20 : x_fe 5 20 = some (.iconst (511), 23) := by decide +kernel
theorem f_5_23 : x_fe 5 23 = some (.putfield 6, 26) := by decide +kernel
theorem f_5_26 : x_fe 5 26 = some (.aload 0, 27) := by decide +kernel
theorem f_5_27 : x_fe 5 27 = some (.iconst (0), 28) := by decide +kernel
theorem f_5_28 : x_fe 5 28 = some (.putfield 7, 31) := by decide +kernel
theorem f_5_31 : x_fe 5 31 = some (.aload 0, 32) := by decide +kernel
theorem f_5_32 : x_fe 5 32 = some (.iconst (0), 33) := by decide +kernel
theorem f_5_33 : x_fe 5 33 = some (.putfield 9, 36) := by decide +kernel
theorem f_5_36 : x_fe 5 36 = some (.aload 0, 37) := by decide +kernel
theorem f_5_37 : x_fe 5 37 = some (.aload 0, 38) := by decide +kernel
theorem f_5_38 : x_fe 5 38 = some (.iconst (1), 39) := by decide +kernel
theorem f_5_39 : x_fe 5 39 = some (.invokevirtual 6, 42) := by decide +kernel
theorem f_5_42 : x_fe 5 42 = some (.putfield 8, 45) := by decide +kernel
theorem f_5_45 : x_fe 5 45 = some (.return_, 46) := by decide +kernel
theorem f_6_0 : x_fe 6 0 = some (.iload 1, 1) := by decide +kernel
theorem f_6_1 : x_fe 6 1 = some (.ifCond .lt (Int.ofNat 9), 4) := by decide +kernel
theorem f_6_4 : x_fe 6 4 = some (.iload 1, 5) := by decide +kernel
theorem f_6_5 : x_fe 6 5 = some (.iconst (1), 6) := by decide +kernel
theorem f_6_6 : x_fe 6 6 = some (.if_icmp .le (Int.ofNat 12), 9) := by decide +kernel
theorem f_6_9 : x_fe 6 9 = some (.iconst (-1000000), 11) := by decide +kernel
theorem f_6_11 : x_fe 6 11 = some (.ireturn, 12) := by decide +kernel
theorem f_6_12 : x_fe 6 12 = some (.aload 0, 13) := by decide +kernel
theorem f_6_13 : x_fe 6 13 = some (.getfield 2, 16) := by decide +kernel
theorem f_6_16 : x_fe 6 16 = some (.iconst (1), 17) := by decide +kernel
theorem f_6_17 : x_fe 6 17 = some (.iload 1, 18) := by decide +kernel
theorem f_6_18 : x_fe 6 18 = some (.isub, 19) := by decide +kernel
theorem f_6_19 : x_fe 6 19 = some (.iaload, 20) := by decide +kernel
theorem f_6_20 : x_fe 6 20 = some (.ifCond .eq (Int.ofNat 27), 23) := by decide +kernel
theorem f_6_23 : x_fe 6 23 = some (.iconst (1), 24) := by decide +kernel
theorem f_6_24 : x_fe 6 24 = some (.iload 1, 25) := by decide +kernel
theorem f_6_25 : x_fe 6 25 = some (.isub, 26) := by decide +kernel
theorem f_6_26 : x_fe 6 26 = some (.ireturn, 27) := by decide +kernel
theorem f_6_27 : x_fe 6 27 = some (.aload 0, 28) := by decide +kernel
theorem f_6_28 : x_fe 6 28 = some (.getfield 2, 31) := by decide +kernel
theorem f_6_31 : x_fe 6 31 = some (.iload 1, 32) := by decide +kernel
theorem f_6_32 : x_fe 6 32 = some (.iaload, 33) := by decide +kernel
theorem f_6_33 : x_fe 6 33 = some (.ifCond .eq (Int.ofNat 40), 36) := by decide +kernel
theorem f_6_36 : x_fe 6 36 = some (.iload 1, 37) := by decide +kernel
theorem f_6_37 : x_fe 6 37 = some (.goto (Int.ofNat 42), 40) := by decide +kernel
theorem f_6_40 : x_fe 6 40 = some (.iconst (-1000000), 42) := by decide +kernel
theorem f_6_42 : x_fe 6 42 = some (.ireturn, 43) := by decide +kernel
theorem f_7_0 : x_fe 7 0 = some (.aload 1, 1) := by decide +kernel
theorem f_7_1 : x_fe 7 1 = some (.getfield 0, 4) := by decide +kernel
theorem f_7_4 : x_fe 7 4 = some (.iconst (0), 5) := by decide +kernel
theorem f_7_5 : x_fe 7 5 = some (.aload 0, 6) := by decide +kernel
theorem f_7_6 : x_fe 7 6 = some (.getfield 0, 9) := by decide +kernel
theorem f_7_9 : x_fe 7 9 = some (.iconst (0), 10) := by decide +kernel
theorem f_7_10 : x_fe 7 10 = some (.iconst (9), 12) := by decide +kernel
theorem f_7_12 : x_fe 7 12 = some (.d2i, 15) := by decide +kernel
theorem f_7_15 : x_fe 7 15 = some (.aload 1, 16) := by decide +kernel
theorem f_7_16 : x_fe 7 16 = some (.getfield 1, 19) := by decide +kernel
theorem f_7_19 : x_fe 7 19 = some (.iconst (0), 20) := by decide +kernel
theorem f_7_20 : x_fe 7 20 = some (.aload 0, 21) := by decide +kernel
theorem f_7_21 : x_fe 7 21 = some (.getfield 1, 24) := by decide +kernel
theorem f_7_24 : x_fe 7 24 = some (.iconst (0), 25) := by decide +kernel
theorem f_7_25 : x_fe 7 25 = some (.iconst (112), 27) := by decide +kernel
theorem f_7_27 : x_fe 7 27 = some (.d2i, 30) := by decide +kernel
theorem f_7_30 : x_fe 7 30 = some (.aload 1, 31) := by decide +kernel
theorem f_7_31 : x_fe 7 31 = some (.getfield 2, 34) := by decide +kernel
theorem f_7_34 : x_fe 7 34 = some (.iconst (0), 35) := by decide +kernel
theorem f_7_35 : x_fe 7 35 = some (.aload 0, 36) := by decide +kernel
theorem f_7_36 : x_fe 7 36 = some (.getfield 2, 39) := by decide +kernel
theorem f_7_39 : x_fe 7 39 = some (.iconst (0), 40) := by decide +kernel
theorem f_7_40 : x_fe 7 40 = some (.iconst (2), 41) := by decide +kernel
theorem f_7_41 : x_fe 7 41 = some (.d2i, 44) := by decide +kernel
theorem f_7_44 : x_fe 7 44 = some (.aload 1, 45) := by decide +kernel
theorem f_7_45 : x_fe 7 45 = some (.getfield 3, 48) := by decide +kernel
theorem f_7_48 : x_fe 7 48 = some (.iconst (0), 49) := by decide +kernel
theorem f_7_49 : x_fe 7 49 = some (.aload 0, 50) := by decide +kernel
theorem f_7_50 : x_fe 7 50 = some (.getfield 3, 53) := by decide +kernel
theorem f_7_53 : x_fe 7 53 = some (.iconst (0), 54) := by decide +kernel
theorem f_7_54 : x_fe 7 54 = some (.iconst (2), 55) := by decide +kernel
theorem f_7_55 : x_fe 7 55 = some (.d2i, 58) := by decide +kernel
theorem f_7_58 : x_fe 7 58 = some (.aload 0, 59) := by decide +kernel
theorem f_7_59 : x_fe 7 59 = some (.aload 1, 60) := by decide +kernel
theorem f_7_60 : x_fe 7 60 = some (.getfield 4, 63) := by decide +kernel
theorem f_7_63 : x_fe 7 63 = some (.putfield 4, 66) := by decide +kernel
theorem f_7_66 : x_fe 7 66 = some (.aload 0, 67) := by decide +kernel
theorem f_7_67 : x_fe 7 67 = some (.aload 1, 68) := by decide +kernel
theorem f_7_68 : x_fe 7 68 = some (.getfield 5, 71) := by decide +kernel
theorem f_7_71 : x_fe 7 71 = some (.putfield 5, 74) := by decide +kernel
theorem f_7_74 : x_fe 7 74 = some (.aload 0, 75) := by decide +kernel
theorem f_7_75 : x_fe 7 75 = some (.aload 1, 76) := by decide +kernel
theorem f_7_76 : x_fe 7 76 = some (.getfield 6, 79) := by decide +kernel
theorem f_7_79 : x_fe 7 79 = some (.putfield 6, 82) := by decide +kernel
theorem f_7_82 : x_fe 7 82 = some (.aload 0, 83) := by decide +kernel
theorem f_7_83 : x_fe 7 83 = some (.aload 1, 84) := by decide +kernel
theorem f_7_84 : x_fe 7 84 = some (.getfield 7, 87) := by decide +kernel
theorem f_7_87 : x_fe 7 87 = some (.putfield 7, 90) := by decide +kernel
theorem f_7_90 : x_fe 7 90 = some (.aload 0, 91) := by decide +kernel
theorem f_7_91 : x_fe 7 91 = some (.aload 1, 92) := by decide +kernel
theorem f_7_92 : x_fe 7 92 = some (.getfield 8, 95) := by decide +kernel
theorem f_7_95 : x_fe 7 95 = some (.putfield 8, 98) := by decide +kernel
theorem f_7_98 : x_fe 7 98 = some (.aload 0, 99) := by decide +kernel
theorem f_7_99 : x_fe 7 99 = some (.aload 1, 100) := by decide +kernel
theorem f_7_100 : x_fe 7 100 = some (.getfield 9, 103) := by decide +kernel
theorem f_7_103 : x_fe 7 103 = some (.putfield 9, 106) := by decide +kernel
theorem f_7_106 : x_fe 7 106 = some (.return_, 107) := by decide +kernel
theorem f_8_0 : x_fe 8 0 = some (.iconst (8), 2) := by decide +kernel
theorem f_8_2 : x_fe 8 2 = some (.iload 1, 3) := by decide +kernel
theorem f_8_3 : x_fe 8 3 = some (.imul, 4) := by decide +kernel
theorem f_8_4 : x_fe 8 4 = some (.iload 2, 5) := by decide +kernel
theorem f_8_5 : x_fe 8 5 = some (.iadd, 6) := by decide +kernel
theorem f_8_6 : x_fe 8 6 = some (.istore 3, 7) := by decide +kernel
theorem f_8_7 : x_fe 8 7 = some (.iload 3, 8) := by decide +kernel
theorem f_8_8 : x_fe 8 8 = some (.ifCond .lt (Int.ofNat 29), 11) := by decide +kernel
theorem f_8_11 : x_fe 8 11 = some (.iload 3, 12) := by decide +kernel
theorem f_8_12 : x_fe 8 12 = some (.aload 0, 13) := by decide +kernel
theorem f_8_13 : x_fe 8 13 = some (.getfield 1, 16) := by decide +kernel
theorem f_8_16 : x_fe 8 16 = some (.arraylength, 17) := by decide +kernel
theorem f_8_17 : x_fe 8 17 = some (.if_icmp .ge (Int.ofNat 29), 20) := by decide +kernel
theorem f_8_20 : x_fe 8 20 = some (.aload 0, 21) := by decide +kernel
theorem f_8_21 : x_fe 8 21 = some (.getfield 1, 24) := by decide +kernel
theorem f_8_24 : x_fe 8 24 = some (.iload 3, 25) := by decide +kernel
theorem f_8_25 : x_fe 8 25 = some (.iaload, 26) := by decide +kernel
theorem f_8_26 : x_fe 8 26 = some (.goto (Int.ofNat 30), 29) := by decide +kernel
theorem f_8_29 : x_fe 8 29 = some (.iconst (0), 30) := by decide +kernel
theorem f_8_30 : x_fe 8 30 = some (.ireturn, 31) := by decide +kernel
theorem f_9_0 : x_fe 9 0 = some (.iconst (0), 1) := by decide +kernel
theorem f_9_1 : x_fe 9 1 = some (.istore 2, 2) := by decide +kernel
theorem f_9_2 : x_fe 9 2 = some (.iconst (0), 3) := by decide +kernel
theorem f_9_3 : x_fe 9 3 = some (.istore 3, 4) := by decide +kernel
theorem f_9_4 : x_fe 9 4 = some (.iload 3, 5) := by decide +kernel
theorem f_9_5 : x_fe 9 5 = some (.iconst (9), 7) := by decide +kernel
theorem f_9_7 : x_fe 9 7 = some (.if_icmp .ge (Int.ofNat 34), 10) := by decide +kernel
theorem f_9_10 : x_fe 9 10 = some (.iload 1, 11) := by decide +kernel
theorem f_9_11 : x_fe 9 11 = some (.iload 3, 12) := by decide +kernel
theorem f_9_12 : x_fe 9 12 = some (.ishr, 13) := by decide +kernel
theorem f_9_13 : x_fe 9 13 = some (.iconst (1), 14) := by decide +kernel
theorem f_9_14 : x_fe 9 14 = some (.iand, 15) := by decide +kernel
theorem f_9_15 : x_fe 9 15 = some (.iconst (1), 16) := by decide +kernel
theorem f_9_16 : x_fe 9 16 = some (.if_icmp .ne (Int.ofNat 28), 19) := by decide +kernel
theorem f_9_19 : x_fe 9 19 = some (.iload 2, 20) := by decide +kernel
theorem f_9_20 : x_fe 9 20 = some (.aload 0, 21) := by decide +kernel
theorem f_9_21 : x_fe 9 21 = some (.getfield 0, 24) := by decide +kernel
theorem f_9_24 : x_fe 9 24 = some (.iload 3, 25) := by decide +kernel
theorem f_9_25 : x_fe 9 25 = some (.iaload, 26) := by decide +kernel
theorem f_9_26 : x_fe 9 26 = some (.iadd, 27) := by decide +kernel
theorem f_9_27 : x_fe 9 27 = some (.istore 2, 28) := by decide +kernel
theorem f_9_28 : x_fe 9 28 = some (.iinc 3 (1), 31) := by decide +kernel
theorem f_9_31 : x_fe 9 31 = some (.goto (Int.ofNat 4), 34) := by decide +kernel
theorem f_9_34 : x_fe 9 34 = some (.iload 2, 35) := by decide +kernel
theorem f_9_35 : x_fe 9 35 = some (.ireturn, 36) := by decide +kernel
theorem f_10_0 : x_fe 10 0 = some (.iload 1, 1) := by decide +kernel
theorem f_10_1 : x_fe 10 1 = some (.ifCond .lt (Int.ofNat 28), 4) := by decide +kernel
theorem f_10_4 : x_fe 10 4 = some (.iload 1, 5) := by decide +kernel
theorem f_10_5 : x_fe 10 5 = some (.aload 0, 6) := by decide +kernel
theorem f_10_6 : x_fe 10 6 = some (.getfield 5, 9) := by decide +kernel
theorem f_10_9 : x_fe 10 9 = some (.if_icmp .ge (Int.ofNat 28), 12) := by decide +kernel
theorem f_10_12 : x_fe 10 12 = some (.aload 0, 13) := by decide +kernel
theorem f_10_13 : x_fe 10 13 = some (.invokevirtual 11, 16) := by decide +kernel
theorem f_10_16 : x_fe 10 16 = some (.iload 1, 17) := by decide +kernel
theorem f_10_17 : x_fe 10 17 = some (.ishr, 18) := by decide +kernel
theorem f_10_18 : x_fe 10 18 = some (.iconst (1), 19) := by decide +kernel
theorem f_10_19 : x_fe 10 19 = some (.iand, 20) := by decide +kernel
theorem f_10_20 : x_fe 10 20 = some (.iconst (1), 21) := by decide +kernel
theorem f_10_21 : x_fe 10 21 = some (.if_icmp .ne (Int.ofNat 28), 24) := by decide +kernel
theorem f_10_24 : x_fe 10 24 = some (.iconst (1), 25) := by decide +kernel
theorem f_10_25 : x_fe 10 25 = some (.goto (Int.ofNat 29), 28) := by decide +kernel
theorem f_10_28 : x_fe 10 28 = some (.iconst (0), 29) := by decide +kernel
theorem f_10_29 : x_fe 10 29 = some (.ireturn, 30) := by decide +kernel
theorem f_11_0 : x_fe 11 0 = some (.aload 0, 1) := by decide +kernel
theorem f_11_1 : x_fe 11 1 = some (.getfield 8, 4) := by decide +kernel
theorem f_11_4 : x_fe 11 4 = some (.ifCond .eq (Int.ofNat 15), 7) := by decide +kernel
theorem f_11_7 : x_fe 11 7 = some (.aload 0, 8) := by decide +kernel
theorem f_11_8 : x_fe 11 8 = some (.getfield 8, 11) := by decide +kernel
theorem f_11_11 : x_fe 11 11 = some (.iconst (1), 12) := by decide +kernel
theorem f_11_12 : x_fe 11 12 = some (.if_icmp .ne (Int.ofNat 27), 15) := by decide +kernel
theorem f_11_15 : x_fe 11 15 = some (.aload 0, 16) := by decide +kernel
theorem f_11_16 : x_fe 11 16 = some (.getfield 2, 19) := by decide +kernel
theorem f_11_19 : x_fe 11 19 = some (.aload 0, 20) := by decide +kernel
theorem f_11_20 : x_fe 11 20 = some (.getfield 8, 23) := by decide +kernel
theorem f_11_23 : x_fe 11 23 = some (.iaload, 24) := by decide +kernel
theorem f_11_24 : x_fe 11 24 = some (.goto (Int.ofNat 28), 27) := by decide +kernel
theorem f_11_27 : x_fe 11 27 = some (.iconst (0), 28) := by decide +kernel
theorem f_11_28 : x_fe 11 28 = some (.ireturn, 29) := by decide +kernel
theorem f_12_0 : x_fe 12 0 = some (.aload 0, 1) := by decide +kernel
theorem f_12_1 : x_fe 12 1 = some (.iload 1, 2) := by decide +kernel
theorem f_12_2 : x_fe 12 2 = some (.invokevirtual 10, 5) := by decide +kernel
theorem f_12_5 : x_fe 12 5 = some (.ifCond .ne (Int.ofNat 10), 8) := by decide +kernel
theorem f_12_8 : x_fe 12 8 = some (.iconst (0), 9) := by decide +kernel
theorem f_12_9 : x_fe 12 9 = some (.ireturn, 10) := by decide +kernel
theorem f_12_10 : x_fe 12 10 = some (.aload 0, 11) := by decide +kernel
theorem f_12_11 : x_fe 12 11 = some (.dup, 12) := by decide +kernel
theorem f_12_12 : x_fe 12 12 = some (.getfield 6, 15) := by decide +kernel
theorem f_12_15 : x_fe 12 15 = some (.aload 0, 16) := by decide +kernel
theorem f_12_16 : x_fe 12 16 = some (.iload 1, 17) := by decide +kernel
theorem f_12_17 : x_fe 12 17 = some (.iload 2, 18) := by decide +kernel
theorem f_12_18 : x_fe 12 18 = some (.invokevirtual 8, 21) := by decide +kernel
theorem f_12_21 : x_fe 12 21 = some (.iand, 22) := by decide +kernel
theorem f_12_22 : x_fe 12 22 = some (.putfield 6, 25) := by decide +kernel
theorem f_12_25 : x_fe 12 25 = some (.aload 0, 26) := by decide +kernel
theorem f_12_26 : x_fe 12 26 = some (.dup, 27) := by decide +kernel
theorem f_12_27 : x_fe 12 27 = some (.getfield 7, 30) := by decide +kernel
theorem f_12_30 : x_fe 12 30 = some (.iconst (1), 31) := by decide +kernel
theorem f_12_31 : x_fe 12 31 = some (.iadd, 32) := by decide +kernel
theorem f_12_32 : x_fe 12 32 = some (.putfield 7, 35) := by decide +kernel
theorem f_12_35 : x_fe 12 35 = some (.aload 0, 36) := by decide +kernel
theorem f_12_36 : x_fe 12 36 = some (.getfield 2, 39) := by decide +kernel
theorem f_12_39 : x_fe 12 39 = some (.aload 0, 40) := by decide +kernel
theorem f_12_40 : x_fe 12 40 = some (.getfield 8, 43) := by decide +kernel
theorem f_12_43 : x_fe 12 43 = some (.dup2, 44) := by decide +kernel
theorem f_12_44 : x_fe 12 44 = some (.iaload, 45) := by decide +kernel
theorem f_12_45 : x_fe 12 45 = some (.iconst (1), 46) := by decide +kernel
theorem f_12_46 : x_fe 12 46 = some (.iload 1, 47) := by decide +kernel
theorem f_12_47 : x_fe 12 47 = some (.ishl, 48) := by decide +kernel
theorem f_12_48 : x_fe 12 48 = some (.iconst (-1), 49) := by decide +kernel
theorem f_12_49 : x_fe 12 49 = some (.ixor, 50) := by decide +kernel
theorem f_12_50 : x_fe 12 50 = some (.iand, 51) := by decide +kernel
theorem f_12_51 : x_fe 12 51 = some (.iastore, 52) := by decide +kernel
theorem f_12_52 : x_fe 12 52 = some (.aload 0, 53) := by decide +kernel
theorem f_12_53 : x_fe 12 53 = some (.aload 0, 54) := by decide +kernel
theorem f_12_54 : x_fe 12 54 = some (.getfield 6, 57) := by decide +kernel
theorem f_12_57 : x_fe 12 57 = some (.invokevirtual 9, 60) := by decide +kernel
theorem f_12_60 : x_fe 12 60 = some (.istore 3, 61) := by decide +kernel
theorem f_12_61 : x_fe 12 61 = some (.aload 0, 62) := by decide +kernel
theorem f_12_62 : x_fe 12 62 = some (.getfield 3, 65) := by decide +kernel
theorem f_12_65 : x_fe 12 65 = some (.aload 0, 66) := by decide +kernel
theorem f_12_66 : x_fe 12 66 = some (.getfield 8, 69) := by decide +kernel
theorem f_12_69 : x_fe 12 69 = some (.dup2, 70) := by decide +kernel
theorem f_12_70 : x_fe 12 70 = some (.iaload, 71) := by decide +kernel
theorem f_12_71 : x_fe 12 71 = some (.iload 3, 72) := by decide +kernel
theorem f_12_72 : x_fe 12 72 = some (.iadd, 73) := by decide +kernel
theorem f_12_73 : x_fe 12 73 = some (.iastore, 74) := by decide +kernel
theorem f_12_74 : x_fe 12 74 = some (.aload 0, 75) := by decide +kernel
theorem f_12_75 : x_fe 12 75 = some (.getfield 6, 78) := by decide +kernel
theorem f_12_78 : x_fe 12 78 = some (.ifCond .ne (Int.ofNat 103), 81) := by decide +kernel
theorem f_12_81 : x_fe 12 81 = some (.aload 0, 82) := by decide +kernel
theorem f_12_82 : x_fe 12 82 = some (.iconst (511), 85) := by decide +kernel
theorem f_12_85 : x_fe 12 85 = some (.putfield 6, 88) := by decide +kernel
theorem f_12_88 : x_fe 12 88 = some (.aload 0, 89) := by decide +kernel
theorem f_12_89 : x_fe 12 89 = some (.iconst (0), 90) := by decide +kernel
theorem f_12_90 : x_fe 12 90 = some (.putfield 7, 93) := by decide +kernel
theorem f_12_93 : x_fe 12 93 = some (.aload 0, 94) := by decide +kernel
theorem f_12_94 : x_fe 12 94 = some (.dup, 95) := by decide +kernel
theorem f_12_95 : x_fe 12 95 = some (.getfield 9, 98) := by decide +kernel
theorem f_12_98 : x_fe 12 98 = some (.iconst (1), 99) := by decide +kernel
theorem f_12_99 : x_fe 12 99 = some (.iadd, 100) := by decide +kernel
theorem f_12_100 : x_fe 12 100 = some (.putfield 9, 103) := by decide +kernel
theorem f_12_103 : x_fe 12 103 = some (.aload 0, 104) := by decide +kernel
theorem f_12_104 : x_fe 12 104 = some (.aload 0, 105) := by decide +kernel
theorem f_12_105 : x_fe 12 105 = some (.aload 0, 106) := by decide +kernel
theorem f_12_106 : x_fe 12 106 = some (.getfield 8, 109) := by decide +kernel
theorem f_12_109 : x_fe 12 109 = some (.invokevirtual 6, 112) := by decide +kernel
theorem f_12_112 : x_fe 12 112 = some (.putfield 8, 115) := by decide +kernel
theorem f_12_115 : x_fe 12 115 = some (.iload 3, 116) := by decide +kernel
theorem f_12_116 : x_fe 12 116 = some (.ireturn, 117) := by decide +kernel
theorem f_13_0 : x_fe 13 0 = some (.aload 0, 1) := by decide +kernel
theorem f_13_1 : x_fe 13 1 = some (.getfield 2, 4) := by decide +kernel
theorem f_13_4 : x_fe 13 4 = some (.iconst (0), 5) := by decide +kernel
theorem f_13_5 : x_fe 13 5 = some (.iaload, 6) := by decide +kernel
theorem f_13_6 : x_fe 13 6 = some (.invokestatic 179, 9) := by decide +kernel
theorem f_13_9 : x_fe 13 9 = some (.aload 0, 10) := by decide +kernel
theorem f_13_10 : x_fe 13 10 = some (.getfield 2, 13) := by decide +kernel
theorem f_13_13 : x_fe 13 13 = some (.iconst (1), 14) := by decide +kernel
theorem f_13_14 : x_fe 13 14 = some (.iaload, 15) := by decide +kernel
theorem f_13_15 : x_fe 13 15 = some (.invokestatic 179, 18) := by decide +kernel
theorem f_13_18 : x_fe 13 18 = some (.iadd, 19) := by decide +kernel
theorem f_13_19 : x_fe 13 19 = some (.ireturn, 20) := by decide +kernel
theorem f_14_0 : x_fe 14 0 = some (.aload 0, 1) := by decide +kernel
theorem f_14_1 : x_fe 14 1 = some (.getfield 8, 4) := by decide +kernel
theorem f_14_4 : x_fe 14 4 = some (.ifCond .eq (Int.ofNat 15), 7) := by decide +kernel
theorem f_14_7 : x_fe 14 7 = some (.aload 0, 8) := by decide +kernel
theorem f_14_8 : x_fe 14 8 = some (.getfield 8, 11) := by decide +kernel
theorem f_14_11 : x_fe 14 11 = some (.iconst (1), 12) := by decide +kernel
theorem f_14_12 : x_fe 14 12 = some (.if_icmp .ne (Int.ofNat 29), 15) := by decide +kernel
theorem f_14_15 : x_fe 14 15 = some (.aload 0, 16) := by decide +kernel
theorem f_14_16 : x_fe 14 16 = some (.getfield 2, 19) := by decide +kernel
theorem f_14_19 : x_fe 14 19 = some (.iconst (1), 20) := by decide +kernel
theorem f_14_20 : x_fe 14 20 = some (.aload 0, 21) := by decide +kernel
theorem f_14_21 : x_fe 14 21 = some (.getfield 8, 24) := by decide +kernel
theorem f_14_24 : x_fe 14 24 = some (.isub, 25) := by decide +kernel
theorem f_14_25 : x_fe 14 25 = some (.iaload, 26) := by decide +kernel
theorem f_14_26 : x_fe 14 26 = some (.goto (Int.ofNat 30), 29) := by decide +kernel
theorem f_14_29 : x_fe 14 29 = some (.iconst (0), 30) := by decide +kernel
theorem f_14_30 : x_fe 14 30 = some (.ireturn, 31) := by decide +kernel
theorem f_15_0 : x_fe 15 0 = some (.iconst (0), 1) := by decide +kernel
theorem f_15_1 : x_fe 15 1 = some (.istore 2, 2) := by decide +kernel
theorem f_15_2 : x_fe 15 2 = some (.iconst (0), 3) := by decide +kernel
theorem f_15_3 : x_fe 15 3 = some (.istore 3, 4) := by decide +kernel
theorem f_15_4 : x_fe 15 4 = some (.iload 3, 5) := by decide +kernel
theorem f_15_5 : x_fe 15 5 = some (.iconst (8), 7) := by decide +kernel
theorem f_15_7 : x_fe 15 7 = some (.if_icmp .ge (Int.ofNat 56), 10) := by decide +kernel
theorem f_15_10 : x_fe 15 10 = some (.iconst (0), 11) := by decide +kernel
theorem f_15_11 : x_fe 15 11 = some (.istore 4, 13) := by decide +kernel
theorem f_15_13 : x_fe 15 13 = some (.iload 4, 15) := by decide +kernel
theorem f_15_15 : x_fe 15 15 = some (.iload 3, 16) := by decide +kernel
theorem f_15_16 : x_fe 15 16 = some (.if_icmp .ge (Int.ofNat 41), 19) := by decide +kernel
theorem f_15_19 : x_fe 15 19 = some (.aload 0, 20) := by decide +kernel
theorem f_15_20 : x_fe 15 20 = some (.iload 1, 21) := by decide +kernel
theorem f_15_21 : x_fe 15 21 = some (.iload 4, 23) := by decide +kernel
theorem f_15_23 : x_fe 15 23 = some (.invokevirtual 8, 26) := by decide +kernel
theorem f_15_26 : x_fe 15 26 = some (.aload 0, 27) := by decide +kernel
theorem f_15_27 : x_fe 15 27 = some (.iload 1, 28) := by decide +kernel
theorem f_15_28 : x_fe 15 28 = some (.iload 3, 29) := by decide +kernel
theorem f_15_29 : x_fe 15 29 = some (.invokevirtual 8, 32) := by decide +kernel
theorem f_15_32 : x_fe 15 32 = some (.if_icmp .eq (Int.ofNat 41), 35) := by decide +kernel
theorem f_15_35 : x_fe 15 35 = some (.iinc 4 (1), 38) := by decide +kernel
theorem f_15_38 : x_fe 15 38 = some (.goto (Int.ofNat 13), 41) := by decide +kernel
theorem f_15_41 : x_fe 15 41 = some (.iload 4, 43) := by decide +kernel
theorem f_15_43 : x_fe 15 43 = some (.iload 3, 44) := by decide +kernel
theorem f_15_44 : x_fe 15 44 = some (.if_icmp .ne (Int.ofNat 50), 47) := by decide +kernel
theorem f_15_47 : x_fe 15 47 = some (.iinc 2 (1), 50) := by decide +kernel
theorem f_15_50 : x_fe 15 50 = some (.iinc 3 (1), 53) := by decide +kernel
theorem f_15_53 : x_fe 15 53 = some (.goto (Int.ofNat 4), 56) := by decide +kernel
theorem f_15_56 : x_fe 15 56 = some (.iload 2, 57) := by decide +kernel
theorem f_15_57 : x_fe 15 57 = some (.ireturn, 58) := by decide +kernel
theorem f_16_0 : x_fe 16 0 = some (.aload 0, 1) := by decide +kernel
theorem f_16_1 : x_fe 16 1 = some (.d2f, 4) := by decide +kernel
theorem f_16_4 : x_fe 16 4 = some (.aload 0, 5) := by decide +kernel
theorem f_16_5 : x_fe 16 5 = some (.iconst (4), 6) := by decide +kernel
theorem f_16_6 : x_fe 16 6 = some (.newarray .int, 8) := by decide +kernel
theorem f_16_8 : x_fe 16 8 = some (.putstatic 32, 11) := by decide +kernel
theorem f_16_11 : x_fe 16 11 = some (.aload 0, 12) := by decide +kernel
theorem f_16_12 : x_fe 16 12 = some (.iconst (2), 13) := by decide +kernel
theorem f_16_13 : x_fe 16 13 = some (.newarray .int, 15) := by decide +kernel
theorem f_16_15 : x_fe 16 15 = some (.putstatic 33, 18) := by decide +kernel
theorem f_16_18 : x_fe 16 18 = some (.aload 0, 19) := by decide +kernel
theorem f_16_19 : x_fe 16 19 = some (.iconst (16384), 22) := by decide +kernel
theorem f_16_22 : x_fe 16 22 = some (.newarray .int, 24) := by decide +kernel
theorem f_16_24 : x_fe 16 24 = some (.putstatic 34, 27) := by decide +kernel
theorem f_16_27 : x_fe 16 27 = some (.return_, 28) := by decide +kernel
theorem f_17_0 : x_fe 17 0 = some (.aload 0, 1) := by decide +kernel
theorem f_17_1 : x_fe 17 1 = some (.iconst (0), 2) := by decide +kernel
theorem f_17_2 : x_fe 17 2 = some (.putfield 35, 5) := by decide +kernel
theorem f_17_5 : x_fe 17 5 = some (.aload 0, 6) := by decide +kernel
theorem f_17_6 : x_fe 17 6 = some (.getfield 33, 9) := by decide +kernel
theorem f_17_9 : x_fe 17 9 = some (.iconst (0), 10) := by decide +kernel
theorem f_17_10 : x_fe 17 10 = some (.iconst (0), 11) := by decide +kernel
theorem f_17_11 : x_fe 17 11 = some (.iastore, 12) := by decide +kernel
theorem f_17_12 : x_fe 17 12 = some (.aload 0, 13) := by decide +kernel
theorem f_17_13 : x_fe 17 13 = some (.getfield 33, 16) := by decide +kernel
theorem f_17_16 : x_fe 17 16 = some (.iconst (1), 17) := by decide +kernel
theorem f_17_17 : x_fe 17 17 = some (.iconst (0), 18) := by decide +kernel
theorem f_17_18 : x_fe 17 18 = some (.iastore, 19) := by decide +kernel
theorem f_17_19 : x_fe 17 19 = some (.iconst (0), 20) := by decide +kernel
theorem f_17_20 : x_fe 17 20 = some (.istore 2, 21) := by decide +kernel
theorem f_17_21 : x_fe 17 21 = some (.iload 2, 22) := by decide +kernel
theorem f_17_22 : x_fe 17 22 = some (.aload 1, 23) := by decide +kernel
theorem f_17_23 : x_fe 17 23 = some (.getfield 5, 26) := by decide +kernel
theorem f_17_26 : x_fe 17 26 = some (.if_icmp .ge (Int.ofNat 113), 29) := by decide +kernel
theorem f_17_29 : x_fe 17 29 = some (.aload 0, 30) := by decide +kernel
theorem f_17_30 : x_fe 17 30 = some (.getfield 35, 33) := by decide +kernel
theorem f_17_33 : x_fe 17 33 = some (.iconst (4), 34) := by decide +kernel
theorem f_17_34 : x_fe 17 34 = some (.if_icmp .ge (Int.ofNat 113), 37) := by decide +kernel
theorem f_17_37 : x_fe 17 37 = some (.iconst (0), 38) := by decide +kernel
theorem f_17_38 : x_fe 17 38 = some (.istore 3, 39) := by decide +kernel
theorem f_17_39 : x_fe 17 39 = some (.iload 3, 40) := by decide +kernel
theorem f_17_40 : x_fe 17 40 = some (.iconst (2), 41) := by decide +kernel
theorem f_17_41 : x_fe 17 41 = some (.if_icmp .ge (Int.ofNat 107), 44) := by decide +kernel
theorem f_17_44 : x_fe 17 44 = some (.aload 0, 45) := by decide +kernel
theorem f_17_45 : x_fe 17 45 = some (.getfield 35, 48) := by decide +kernel
theorem f_17_48 : x_fe 17 48 = some (.iconst (4), 49) := by decide +kernel
theorem f_17_49 : x_fe 17 49 = some (.if_icmp .ge (Int.ofNat 107), 52) := by decide +kernel
theorem f_17_52 : x_fe 17 52 = some (.aload 1, 53) := by decide +kernel
theorem f_17_53 : x_fe 17 53 = some (.getfield 2, 56) := by decide +kernel
theorem f_17_56 : x_fe 17 56 = some (.iload 3, 57) := by decide +kernel
theorem f_17_57 : x_fe 17 57 = some (.iaload, 58) := by decide +kernel
theorem f_17_58 : x_fe 17 58 = some (.iload 2, 59) := by decide +kernel
theorem f_17_59 : x_fe 17 59 = some (.ishr, 60) := by decide +kernel
theorem f_17_60 : x_fe 17 60 = some (.iconst (1), 61) := by decide +kernel
theorem f_17_61 : x_fe 17 61 = some (.iand, 62) := by decide +kernel
theorem f_17_62 : x_fe 17 62 = some (.iconst (1), 63) := by decide +kernel
theorem f_17_63 : x_fe 17 63 = some (.if_icmp .ne (Int.ofNat 101), 66) := by decide +kernel
theorem f_17_66 : x_fe 17 66 = some (.aload 0, 67) := by decide +kernel
theorem f_17_67 : x_fe 17 67 = some (.getfield 33, 70) := by decide +kernel
theorem f_17_70 : x_fe 17 70 = some (.iload 3, 71) := by decide +kernel
theorem f_17_71 : x_fe 17 71 = some (.dup2, 72) := by decide +kernel
theorem f_17_72 : x_fe 17 72 = some (.iaload, 73) := by decide +kernel
theorem f_17_73 : x_fe 17 73 = some (.iconst (1), 74) := by decide +kernel
theorem f_17_74 : x_fe 17 74 = some (.aload 0, 75) := by decide +kernel
theorem f_17_75 : x_fe 17 75 = some (.getfield 35, 78) := by decide +kernel
theorem f_17_78 : x_fe 17 78 = some (.ishl, 79) := by decide +kernel
theorem f_17_79 : x_fe 17 79 = some (.ior, 80) := by decide +kernel
theorem f_17_80 : x_fe 17 80 = some (.iastore, 81) := by decide +kernel
theorem f_17_81 : x_fe 17 81 = some (.aload 0, 82) := by decide +kernel
theorem f_17_82 : x_fe 17 82 = some (.getfield 32, 85) := by decide +kernel
theorem f_17_85 : x_fe 17 85 = some (.aload 0, 86) := by decide +kernel
theorem f_17_86 : x_fe 17 86 = some (.getfield 35, 89) := by decide +kernel
theorem f_17_89 : x_fe 17 89 = some (.iload 2, 90) := by decide +kernel
theorem f_17_90 : x_fe 17 90 = some (.iastore, 91) := by decide +kernel
theorem f_17_91 : x_fe 17 91 = some (.aload 0, 92) := by decide +kernel
theorem f_17_92 : x_fe 17 92 = some (.dup, 93) := by decide +kernel
theorem f_17_93 : x_fe 17 93 = some (.getfield 35, 96) := by decide +kernel
theorem f_17_96 : x_fe 17 96 = some (.iconst (1), 97) := by decide +kernel
theorem f_17_97 : x_fe 17 97 = some (.iadd, 98) := by decide +kernel
theorem f_17_98 : x_fe 17 98 = some (.putfield 35, 101) := by decide +kernel
theorem f_17_101 : x_fe 17 101 = some (.iinc 3 (1), 104) := by decide +kernel
theorem f_17_104 : x_fe 17 104 = some (.goto (Int.ofNat 39), 107) := by decide +kernel
theorem f_17_107 : x_fe 17 107 = some (.iinc 2 (1), 110) := by decide +kernel
theorem f_17_110 : x_fe 17 110 = some (.goto (Int.ofNat 21), 113) := by decide +kernel
theorem f_17_113 : x_fe 17 113 = some (.aload 0, 114) := by decide +kernel
theorem f_17_114 : x_fe 17 114 = some (.getfield 34, 117) := by decide +kernel
theorem f_17_117 : x_fe 17 117 = some (.iconst (-1000000000), 119) := by decide +kernel
theorem f_17_119 : x_fe 17 119 = some (.invokestatic 182, 122) := by decide +kernel
theorem f_17_122 : x_fe 17 122 = some (.return_, 123) := by decide +kernel
theorem f_18_0 : x_fe 18 0 = some (.iconst (1), 1) := by decide +kernel
theorem f_18_1 : x_fe 18 1 = some (.aload 0, 2) := by decide +kernel
theorem f_18_2 : x_fe 18 2 = some (.getfield 35, 5) := by decide +kernel
theorem f_18_5 : x_fe 18 5 = some (.ishl, 6) := by decide +kernel
theorem f_18_6 : x_fe 18 6 = some (.iconst (1), 7) := by decide +kernel
theorem f_18_7 : x_fe 18 7 = some (.isub, 8) := by decide +kernel
theorem f_18_8 : x_fe 18 8 = some (.aload 1, 9) := by decide +kernel
theorem f_18_9 : x_fe 18 9 = some (.getfield 8, 12) := by decide +kernel
theorem f_18_12 : x_fe 18 12 = some (.iconst (1), 13) := by decide +kernel
theorem f_18_13 : x_fe 18 13 = some (.if_icmp .ne (Int.ofNat 20), 16) := by decide +kernel
theorem f_18_16 : x_fe 18 16 = some (.iconst (1), 17) := by decide +kernel
theorem f_18_17 : x_fe 18 17 = some (.goto (Int.ofNat 21), 20) := by decide +kernel
theorem f_18_20 : x_fe 18 20 = some (.iconst (0), 21) := by decide +kernel
theorem f_18_21 : x_fe 18 21 = some (.aload 1, 22) := by decide +kernel
theorem f_18_22 : x_fe 18 22 = some (.getfield 6, 25) := by decide +kernel
theorem f_18_25 : x_fe 18 25 = some (.invokestatic 19, 28) := by decide +kernel
theorem f_18_28 : x_fe 18 28 = some (.ireturn, 29) := by decide +kernel
theorem f_19_0 : x_fe 19 0 = some (.iload 0, 1) := by decide +kernel
theorem f_19_1 : x_fe 19 1 = some (.iconst (10), 3) := by decide +kernel
theorem f_19_3 : x_fe 19 3 = some (.ishl, 4) := by decide +kernel
theorem f_19_4 : x_fe 19 4 = some (.iload 1, 5) := by decide +kernel
theorem f_19_5 : x_fe 19 5 = some (.iconst (9), 7) := by decide +kernel
theorem f_19_7 : x_fe 19 7 = some (.ishl, 8) := by decide +kernel
theorem f_19_8 : x_fe 19 8 = some (.ior, 9) := by decide +kernel
theorem f_19_9 : x_fe 19 9 = some (.iload 2, 10) := by decide +kernel
theorem f_19_10 : x_fe 19 10 = some (.ior, 11) := by decide +kernel
theorem f_19_11 : x_fe 19 11 = some (.ireturn, 12) := by decide +kernel
theorem f_20_0 : x_fe 20 0 = some (.iload 1, 1) := by decide +kernel
theorem f_20_1 : x_fe 20 1 = some (.iconst (9), 3) := by decide +kernel
theorem f_20_3 : x_fe 20 3 = some (.ishr, 4) := by decide +kernel
theorem f_20_4 : x_fe 20 4 = some (.iconst (1), 5) := by decide +kernel
theorem f_20_5 : x_fe 20 5 = some (.iand, 6) := by decide +kernel
theorem f_20_6 : x_fe 20 6 = some (.ireturn, 7) := by decide +kernel
theorem f_21_0 : x_fe 21 0 = some (.iload 1, 1) := by decide +kernel
theorem f_21_1 : x_fe 21 1 = some (.iconst (10), 3) := by decide +kernel
theorem f_21_3 : x_fe 21 3 = some (.ishr, 4) := by decide +kernel
theorem f_21_4 : x_fe 21 4 = some (.aload 0, 5) := by decide +kernel
theorem f_21_5 : x_fe 21 5 = some (.getfield 33, 8) := by decide +kernel
theorem f_21_8 : x_fe 21 8 = some (.iload 2, 9) := by decide +kernel
theorem f_21_9 : x_fe 21 9 = some (.iaload, 10) := by decide +kernel
theorem f_21_10 : x_fe 21 10 = some (.iand, 11) := by decide +kernel
theorem f_21_11 : x_fe 21 11 = some (.iconst (1), 12) := by decide +kernel
theorem f_21_12 : x_fe 21 12 = some (.iload 3, 13) := by decide +kernel
theorem f_21_13 : x_fe 21 13 = some (.ishl, 14) := by decide +kernel
theorem f_21_14 : x_fe 21 14 = some (.iand, 15) := by decide +kernel
theorem f_21_15 : x_fe 21 15 = some (.ifCond .eq (Int.ofNat 22), 18) := by decide +kernel
theorem f_21_18 : x_fe 21 18 = some (.iconst (1), 19) := by decide +kernel
theorem f_21_19 : x_fe 21 19 = some (.goto (Int.ofNat 23), 22) := by decide +kernel
theorem f_21_22 : x_fe 21 22 = some (.iconst (0), 23) := by decide +kernel
theorem f_21_23 : x_fe 21 23 = some (.ireturn, 24) := by decide +kernel
theorem f_22_0 : x_fe 22 0 = some (.iload 1, 1) := by decide +kernel
theorem f_22_1 : x_fe 22 1 = some (.iconst (10), 3) := by decide +kernel
theorem f_22_3 : x_fe 22 3 = some (.ishr, 4) := by decide +kernel
theorem f_22_4 : x_fe 22 4 = some (.iconst (1), 5) := by decide +kernel
theorem f_22_5 : x_fe 22 5 = some (.iload 2, 6) := by decide +kernel
theorem f_22_6 : x_fe 22 6 = some (.ishl, 7) := by decide +kernel
theorem f_22_7 : x_fe 22 7 = some (.iconst (-1), 8) := by decide +kernel
theorem f_22_8 : x_fe 22 8 = some (.ixor, 9) := by decide +kernel
theorem f_22_9 : x_fe 22 9 = some (.iand, 10) := by decide +kernel
theorem f_22_10 : x_fe 22 10 = some (.istore 4, 12) := by decide +kernel
theorem f_22_12 : x_fe 22 12 = some (.aload 0, 13) := by decide +kernel
theorem f_22_13 : x_fe 22 13 = some (.iload 1, 14) := by decide +kernel
theorem f_22_14 : x_fe 22 14 = some (.invokevirtual 20, 17) := by decide +kernel
theorem f_22_17 : x_fe 22 17 = some (.istore 5, 19) := by decide +kernel
theorem f_22_19 : x_fe 22 19 = some (.iload 4, 21) := by decide +kernel
theorem f_22_21 : x_fe 22 21 = some (.aload 0, 22) := by decide +kernel
theorem f_22_22 : x_fe 22 22 = some (.getfield 33, 25) := by decide +kernel
theorem f_22_25 : x_fe 22 25 = some (.iconst (1), 26) := by decide +kernel
theorem f_22_26 : x_fe 22 26 = some (.iload 5, 28) := by decide +kernel
theorem f_22_28 : x_fe 22 28 = some (.isub, 29) := by decide +kernel
theorem f_22_29 : x_fe 22 29 = some (.iaload, 30) := by decide +kernel
theorem f_22_30 : x_fe 22 30 = some (.iand, 31) := by decide +kernel
theorem f_22_31 : x_fe 22 31 = some (.ifCond .eq (Int.ofNat 41), 34) := by decide +kernel
theorem f_22_34 : x_fe 22 34 = some (.iconst (1), 35) := by decide +kernel
theorem f_22_35 : x_fe 22 35 = some (.iload 5, 37) := by decide +kernel
theorem f_22_37 : x_fe 22 37 = some (.isub, 38) := by decide +kernel
theorem f_22_38 : x_fe 22 38 = some (.goto (Int.ofNat 43), 41) := by decide +kernel
theorem f_22_41 : x_fe 22 41 = some (.iload 5, 43) := by decide +kernel
theorem f_22_43 : x_fe 22 43 = some (.istore 6, 45) := by decide +kernel
theorem f_22_45 : x_fe 22 45 = some (.iload 4, 47) := by decide +kernel
theorem f_22_47 : x_fe 22 47 = some (.iload 6, 49) := by decide +kernel
theorem f_22_49 : x_fe 22 49 = some (.iload 3, 50) := by decide +kernel
theorem f_22_50 : x_fe 22 50 = some (.ifCond .ne (Int.ofNat 59), 53) := by decide +kernel
theorem f_22_53 : x_fe 22 53 = some (.iconst (511), 56) := by decide +kernel
theorem f_22_56 : x_fe 22 56 = some (.goto (Int.ofNat 60), 59) := by decide +kernel
theorem f_22_59 : x_fe 22 59 = some (.iload 3, 60) := by decide +kernel
theorem f_22_60 : x_fe 22 60 = some (.invokestatic 19, 63) := by decide +kernel
theorem f_22_63 : x_fe 22 63 = some (.ireturn, 64) := by decide +kernel
theorem f_23_0 : x_fe 23 0 = some (.aload 0, 1) := by decide +kernel
theorem f_23_1 : x_fe 23 1 = some (.d2f, 4) := by decide +kernel
theorem f_23_4 : x_fe 23 4 = some (.aload 0, 5) := by decide +kernel
theorem f_23_5 : x_fe 23 5 = some (.iconst (40), 7) := by decide +kernel
theorem f_23_7 : x_fe 23 7 = some (.newarray .int, 9) := by decide +kernel
theorem f_23_9 : x_fe 23 9 = some (.putstatic 64, 12) := by decide +kernel
theorem f_23_12 : x_fe 23 12 = some (.return_, 13) := by decide +kernel
theorem f_24_0 : x_fe 24 0 = some (.aload 0, 1) := by decide +kernel
theorem f_24_1 : x_fe 24 1 = some (.iconst (1), 2) := by decide +kernel
theorem f_24_2 : x_fe 24 2 = some (.putfield 65, 5) := by decide +kernel
theorem f_24_5 : x_fe 24 5 = some (.aload 0, 6) := by decide +kernel
theorem f_24_6 : x_fe 24 6 = some (.iload 1, 7) := by decide +kernel
theorem f_24_7 : x_fe 24 7 = some (.putfield 66, 10) := by decide +kernel
theorem f_24_10 : x_fe 24 10 = some (.aload 0, 11) := by decide +kernel
theorem f_24_11 : x_fe 24 11 = some (.iload 2, 12) := by decide +kernel
theorem f_24_12 : x_fe 24 12 = some (.putfield 67, 15) := by decide +kernel
theorem f_24_15 : x_fe 24 15 = some (.aload 0, 16) := by decide +kernel
theorem f_24_16 : x_fe 24 16 = some (.getfield 64, 19) := by decide +kernel
theorem f_24_19 : x_fe 24 19 = some (.iconst (0), 20) := by decide +kernel
theorem f_24_20 : x_fe 24 20 = some (.invokestatic 182, 23) := by decide +kernel
theorem f_24_23 : x_fe 24 23 = some (.return_, 24) := by decide +kernel
theorem f_25_0 : x_fe 25 0 = some (.iload 1, 1) := by decide +kernel
theorem f_25_1 : x_fe 25 1 = some (.ifCond .lt (Int.ofNat 22), 4) := by decide +kernel
theorem f_25_4 : x_fe 25 4 = some (.iload 2, 5) := by decide +kernel
theorem f_25_5 : x_fe 25 5 = some (.ifCond .lt (Int.ofNat 22), 8) := by decide +kernel
theorem f_25_8 : x_fe 25 8 = some (.iload 1, 9) := by decide +kernel
theorem f_25_9 : x_fe 25 9 = some (.aload 0, 10) := by decide +kernel
theorem f_25_10 : x_fe 25 10 = some (.getfield 67, 13) := by decide +kernel
theorem f_25_13 : x_fe 25 13 = some (.iload 2, 14) := by decide +kernel
