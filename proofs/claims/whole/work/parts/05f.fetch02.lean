theorem f_52_10 : x_fe 52 10 = some (.invokestatic 53, 13) := by decide +kernel
theorem f_52_13 : x_fe 52 13 = some (.istore 2, 14) := by decide +kernel
theorem f_52_14 : x_fe 52 14 = some (.iconst (0), 15) := by decide +kernel
theorem f_52_15 : x_fe 52 15 = some (.istore 3, 16) := by decide +kernel
theorem f_52_16 : x_fe 52 16 = some (.iload 2, 17) := by decide +kernel
theorem f_52_17 : x_fe 52 17 = some (.ifCond .ne (Int.ofNat 51), 20) := by decide +kernel
theorem f_52_20 : x_fe 52 20 = some (.iload 3, 21) := by decide +kernel
theorem f_52_21 : x_fe 52 21 = some (.iconst (14), 23) := by decide +kernel
theorem f_52_23 : x_fe 52 23 = some (.if_icmp .gt (Int.ofNat 51), 26) := by decide +kernel
theorem f_52_26 : x_fe 52 26 = some (.iload 3, 27) := by decide +kernel
theorem f_52_27 : x_fe 52 27 = some (.ifCond .le (Int.ofNat 39), 30) := by decide +kernel
theorem f_52_30 : x_fe 52 30 = some (.aload 0, 31) := by decide +kernel
theorem f_52_31 : x_fe 52 31 = some (.getfield 98, 34) := by decide +kernel
theorem f_52_34 : x_fe 52 34 = some (.ifCond .ne (Int.ofNat 39), 37) := by decide +kernel
theorem f_52_37 : x_fe 52 37 = some (.iconst (0), 38) := by decide +kernel
theorem f_52_38 : x_fe 52 38 = some (.ireturn, 39) := by decide +kernel
theorem f_52_39 : x_fe 52 39 = some (.aload 0, 40) := by decide +kernel
theorem f_52_40 : x_fe 52 40 = some (.aload 1, 41) := by decide +kernel
theorem f_52_41 : x_fe 52 41 = some (.invokestatic 56, 44) := by decide +kernel
theorem f_52_44 : x_fe 52 44 = some (.istore 2, 45) := by decide +kernel
theorem f_52_45 : x_fe 52 45 = some (.iinc 3 (1), 48) := by decide +kernel
theorem f_52_48 : x_fe 52 48 = some (.goto (Int.ofNat 16), 51) := by decide +kernel
theorem f_52_51 : x_fe 52 51 = some (.iload 2, 52) := by decide +kernel
theorem f_52_52 : x_fe 52 52 = some (.ireturn, 53) := by decide +kernel
theorem f_53_0 : x_fe 53 0 = some (.aload 0, 1) := by decide +kernel
theorem f_53_1 : x_fe 53 1 = some (.ldc 3, 4) := by decide +kernel
theorem f_53_4 : x_fe 53 4 = some (.invokevirtual 38, 7) := by decide +kernel
theorem f_53_7 : x_fe 53 7 = some (.ifCond .ne (Int.ofNat 12), 10) := by decide +kernel
theorem f_53_10 : x_fe 53 10 = some (.iconst (1), 11) := by decide +kernel
theorem f_53_11 : x_fe 53 11 = some (.ireturn, 12) := by decide +kernel
theorem f_53_12 : x_fe 53 12 = some (.aload 0, 13) := by decide +kernel
theorem f_53_13 : x_fe 53 13 = some (.invokevirtual 31, 16) := by decide +kernel
theorem f_53_16 : x_fe 53 16 = some (.iconst (0), 17) := by decide +kernel
theorem f_53_17 : x_fe 53 17 = some (.istore 2, 18) := by decide +kernel
theorem f_53_18 : x_fe 53 18 = some (.iload 2, 19) := by decide +kernel
theorem f_53_19 : x_fe 53 19 = some (.iconst (9), 21) := by decide +kernel
theorem f_53_21 : x_fe 53 21 = some (.if_icmp .ge (Int.ofNat 57), 24) := by decide +kernel
theorem f_53_24 : x_fe 53 24 = some (.aload 0, 25) := by decide +kernel
theorem f_53_25 : x_fe 53 25 = some (.iconst (99), 27) := by decide +kernel
theorem f_53_27 : x_fe 53 27 = some (.invokestatic 54, 30) := by decide +kernel
theorem f_53_30 : x_fe 53 30 = some (.istore 3, 31) := by decide +kernel
theorem f_53_31 : x_fe 53 31 = some (.iload 3, 32) := by decide +kernel
theorem f_53_32 : x_fe 53 32 = some (.ifCond .eq (Int.ofNat 37), 35) := by decide +kernel
theorem f_53_35 : x_fe 53 35 = some (.iload 3, 36) := by decide +kernel
theorem f_53_36 : x_fe 53 36 = some (.ireturn, 37) := by decide +kernel
theorem f_53_37 : x_fe 53 37 = some (.aload 1, 38) := by decide +kernel
theorem f_53_38 : x_fe 53 38 = some (.getfield 0, 41) := by decide +kernel
theorem f_53_41 : x_fe 53 41 = some (.iload 2, 42) := by decide +kernel
theorem f_53_42 : x_fe 53 42 = some (.aload 0, 43) := by decide +kernel
theorem f_53_43 : x_fe 53 43 = some (.getfield 101, 46) := by decide +kernel
theorem f_53_46 : x_fe 53 46 = some (.iastore, 47) := by decide +kernel
theorem f_53_47 : x_fe 53 47 = some (.aload 0, 48) := by decide +kernel
theorem f_53_48 : x_fe 53 48 = some (.invokevirtual 31, 51) := by decide +kernel
theorem f_53_51 : x_fe 53 51 = some (.iinc 2 (1), 54) := by decide +kernel
theorem f_53_54 : x_fe 53 54 = some (.goto (Int.ofNat 18), 57) := by decide +kernel
theorem f_53_57 : x_fe 53 57 = some (.aload 0, 58) := by decide +kernel
theorem f_53_58 : x_fe 53 58 = some (.invokestatic 55, 61) := by decide +kernel
theorem f_53_61 : x_fe 53 61 = some (.ireturn, 62) := by decide +kernel
theorem f_54_0 : x_fe 54 0 = some (.aload 0, 1) := by decide +kernel
theorem f_54_1 : x_fe 54 1 = some (.getfield 98, 4) := by decide +kernel
theorem f_54_4 : x_fe 54 4 = some (.iconst (2), 5) := by decide +kernel
theorem f_54_5 : x_fe 54 5 = some (.if_icmp .eq (Int.ofNat 10), 8) := by decide +kernel
theorem f_54_8 : x_fe 54 8 = some (.iconst (1), 9) := by decide +kernel
theorem f_54_9 : x_fe 54 9 = some (.ireturn, 10) := by decide +kernel
theorem f_54_10 : x_fe 54 10 = some (.aload 0, 11) := by decide +kernel
theorem f_54_11 : x_fe 54 11 = some (.getfield 101, 14) := by decide +kernel
theorem f_54_14 : x_fe 54 14 = some (.iload 1, 15) := by decide +kernel
theorem f_54_15 : x_fe 54 15 = some (.if_icmp .le (Int.ofNat 22), 18) := by decide +kernel
theorem f_54_18 : x_fe 54 18 = some (.iconst (2), 19) := by decide +kernel
theorem f_54_19 : x_fe 54 19 = some (.goto (Int.ofNat 23), 22) := by decide +kernel
theorem f_54_22 : x_fe 54 22 = some (.iconst (0), 23) := by decide +kernel
theorem f_54_23 : x_fe 54 23 = some (.ireturn, 24) := by decide +kernel
theorem f_55_0 : x_fe 55 0 = some (.aload 0, 1) := by decide +kernel
theorem f_55_1 : x_fe 55 1 = some (.getfield 98, 4) := by decide +kernel
theorem f_55_4 : x_fe 55 4 = some (.iconst (3), 5) := by decide +kernel
theorem f_55_5 : x_fe 55 5 = some (.if_icmp .eq (Int.ofNat 10), 8) := by decide +kernel
theorem f_55_8 : x_fe 55 8 = some (.iconst (1), 9) := by decide +kernel
theorem f_55_9 : x_fe 55 9 = some (.ireturn, 10) := by decide +kernel
theorem f_55_10 : x_fe 55 10 = some (.aload 0, 11) := by decide +kernel
theorem f_55_11 : x_fe 55 11 = some (.invokevirtual 31, 14) := by decide +kernel
theorem f_55_14 : x_fe 55 14 = some (.iconst (0), 15) := by decide +kernel
theorem f_55_15 : x_fe 55 15 = some (.ireturn, 16) := by decide +kernel
theorem f_56_0 : x_fe 56 0 = some (.aload 0, 1) := by decide +kernel
theorem f_56_1 : x_fe 56 1 = some (.ldc 4, 4) := by decide +kernel
theorem f_56_4 : x_fe 56 4 = some (.invokevirtual 38, 7) := by decide +kernel
theorem f_56_7 : x_fe 56 7 = some (.ifCond .ne (Int.ofNat 12), 10) := by decide +kernel
theorem f_56_10 : x_fe 56 10 = some (.iconst (1), 11) := by decide +kernel
theorem f_56_11 : x_fe 56 11 = some (.ireturn, 12) := by decide +kernel
theorem f_56_12 : x_fe 56 12 = some (.aload 1, 13) := by decide +kernel
theorem f_56_13 : x_fe 56 13 = some (.getfield 5, 16) := by decide +kernel
theorem f_56_16 : x_fe 56 16 = some (.iconst (14), 18) := by decide +kernel
theorem f_56_18 : x_fe 56 18 = some (.if_icmp .lt (Int.ofNat 23), 21) := by decide +kernel
theorem f_56_21 : x_fe 56 21 = some (.iconst (3), 22) := by decide +kernel
theorem f_56_22 : x_fe 56 22 = some (.ireturn, 23) := by decide +kernel
theorem f_56_23 : x_fe 56 23 = some (.aload 0, 24) := by decide +kernel
theorem f_56_24 : x_fe 56 24 = some (.invokevirtual 31, 27) := by decide +kernel
theorem f_56_27 : x_fe 56 27 = some (.aload 0, 28) := by decide +kernel
theorem f_56_28 : x_fe 56 28 = some (.invokevirtual 39, 31) := by decide +kernel
theorem f_56_31 : x_fe 56 31 = some (.istore 2, 32) := by decide +kernel
theorem f_56_32 : x_fe 56 32 = some (.iload 2, 33) := by decide +kernel
theorem f_56_33 : x_fe 56 33 = some (.iconst (-1000000), 35) := by decide +kernel
theorem f_56_35 : x_fe 56 35 = some (.if_icmp .ne (Int.ofNat 40), 38) := by decide +kernel
theorem f_56_38 : x_fe 56 38 = some (.iconst (1), 39) := by decide +kernel
theorem f_56_39 : x_fe 56 39 = some (.ireturn, 40) := by decide +kernel
theorem f_56_40 : x_fe 56 40 = some (.aload 0, 41) := by decide +kernel
theorem f_56_41 : x_fe 56 41 = some (.invokevirtual 31, 44) := by decide +kernel
theorem f_56_44 : x_fe 56 44 = some (.aload 0, 45) := by decide +kernel
theorem f_56_45 : x_fe 56 45 = some (.iconst (1), 46) := by decide +kernel
theorem f_56_46 : x_fe 56 46 = some (.invokestatic 54, 49) := by decide +kernel
theorem f_56_49 : x_fe 56 49 = some (.istore 3, 50) := by decide +kernel
theorem f_56_50 : x_fe 56 50 = some (.iload 3, 51) := by decide +kernel
theorem f_56_51 : x_fe 56 51 = some (.ifCond .eq (Int.ofNat 56), 54) := by decide +kernel
theorem f_56_54 : x_fe 56 54 = some (.iload 3, 55) := by decide +kernel
theorem f_56_55 : x_fe 56 55 = some (.ireturn, 56) := by decide +kernel
theorem f_56_56 : x_fe 56 56 = some (.aload 1, 57) := by decide +kernel
theorem f_56_57 : x_fe 56 57 = some (.iload 2, 58) := by decide +kernel
theorem f_56_58 : x_fe 56 58 = some (.aload 0, 59) := by decide +kernel
theorem f_56_59 : x_fe 56 59 = some (.getfield 101, 62) := by decide +kernel
theorem f_56_62 : x_fe 56 62 = some (.invokevirtual 2, 65) := by decide +kernel
theorem f_56_65 : x_fe 56 65 = some (.aload 0, 66) := by decide +kernel
theorem f_56_66 : x_fe 56 66 = some (.invokevirtual 31, 69) := by decide +kernel
theorem f_56_69 : x_fe 56 69 = some (.aload 0, 70) := by decide +kernel
theorem f_56_70 : x_fe 56 70 = some (.invokestatic 55, 73) := by decide +kernel
theorem f_56_73 : x_fe 56 73 = some (.ireturn, 74) := by decide +kernel
theorem f_57_0 : x_fe 57 0 = some (.aload 0, 1) := by decide +kernel
theorem f_57_1 : x_fe 57 1 = some (.getfield 168, 4) := by decide +kernel
theorem f_57_4 : x_fe 57 4 = some (.ireturn, 5) := by decide +kernel
theorem f_58_0 : x_fe 58 0 = some (.aload 0, 1) := by decide +kernel
theorem f_58_1 : x_fe 58 1 = some (.iload 1, 2) := by decide +kernel
theorem f_58_2 : x_fe 58 2 = some (.iload 2, 3) := by decide +kernel
theorem f_58_3 : x_fe 58 3 = some (.invokevirtual 59, 6) := by decide +kernel
theorem f_58_6 : x_fe 58 6 = some (.ifCond .eq (Int.ofNat 21), 9) := by decide +kernel
theorem f_58_9 : x_fe 58 9 = some (.aload 0, 10) := by decide +kernel
theorem f_58_10 : x_fe 58 10 = some (.getfield 162, 13) := by decide +kernel
theorem f_58_13 : x_fe 58 13 = some (.iload 1, 14) := by decide +kernel
theorem f_58_14 : x_fe 58 14 = some (.iload 2, 15) := by decide +kernel
theorem f_58_15 : x_fe 58 15 = some (.invokevirtual 8, 18) := by decide +kernel
theorem f_58_18 : x_fe 58 18 = some (.goto (Int.ofNat 23), 21) := by decide +kernel
theorem f_58_21 : x_fe 58 21 = some (.iconst (-1000001), 23) := by decide +kernel
theorem f_58_23 : x_fe 58 23 = some (.ireturn, 24) := by decide +kernel
theorem f_59_0 : x_fe 59 0 = some (.aload 0, 1) := by decide +kernel
theorem f_59_1 : x_fe 59 1 = some (.iload 1, 2) := by decide +kernel
theorem f_59_2 : x_fe 59 2 = some (.invokevirtual 60, 5) := by decide +kernel
theorem f_59_5 : x_fe 59 5 = some (.ifCond .eq (Int.ofNat 22), 8) := by decide +kernel
theorem f_59_8 : x_fe 59 8 = some (.iload 2, 9) := by decide +kernel
theorem f_59_9 : x_fe 59 9 = some (.ifCond .lt (Int.ofNat 22), 12) := by decide +kernel
theorem f_59_12 : x_fe 59 12 = some (.iload 2, 13) := by decide +kernel
theorem f_59_13 : x_fe 59 13 = some (.iconst (8), 15) := by decide +kernel
theorem f_59_15 : x_fe 59 15 = some (.if_icmp .ge (Int.ofNat 22), 18) := by decide +kernel
theorem f_59_18 : x_fe 59 18 = some (.iconst (1), 19) := by decide +kernel
theorem f_59_19 : x_fe 59 19 = some (.goto (Int.ofNat 23), 22) := by decide +kernel
theorem f_59_22 : x_fe 59 22 = some (.iconst (0), 23) := by decide +kernel
theorem f_59_23 : x_fe 59 23 = some (.ireturn, 24) := by decide +kernel
theorem f_60_0 : x_fe 60 0 = some (.iload 1, 1) := by decide +kernel
theorem f_60_1 : x_fe 60 1 = some (.ifCond .lt (Int.ofNat 19), 4) := by decide +kernel
theorem f_60_4 : x_fe 60 4 = some (.iload 1, 5) := by decide +kernel
theorem f_60_5 : x_fe 60 5 = some (.aload 0, 6) := by decide +kernel
theorem f_60_6 : x_fe 60 6 = some (.getfield 162, 9) := by decide +kernel
theorem f_60_9 : x_fe 60 9 = some (.getfield 5, 12) := by decide +kernel
theorem f_60_12 : x_fe 60 12 = some (.if_icmp .ge (Int.ofNat 19), 15) := by decide +kernel
theorem f_60_15 : x_fe 60 15 = some (.iconst (1), 16) := by decide +kernel
theorem f_60_16 : x_fe 60 16 = some (.goto (Int.ofNat 20), 19) := by decide +kernel
theorem f_60_19 : x_fe 60 19 = some (.iconst (0), 20) := by decide +kernel
theorem f_60_20 : x_fe 60 20 = some (.ireturn, 21) := by decide +kernel
theorem f_61_0 : x_fe 61 0 = some (.aload 0, 1) := by decide +kernel
theorem f_61_1 : x_fe 61 1 = some (.getfield 162, 4) := by decide +kernel
theorem f_61_4 : x_fe 61 4 = some (.getfield 4, 7) := by decide +kernel
theorem f_61_7 : x_fe 61 7 = some (.ifCond .ne (Int.ofNat 13), 10) := by decide +kernel
theorem f_61_10 : x_fe 61 10 = some (.iconst (-1000002), 12) := by decide +kernel
theorem f_61_12 : x_fe 61 12 = some (.ireturn, 13) := by decide +kernel
theorem f_61_13 : x_fe 61 13 = some (.iload 1, 14) := by decide +kernel
theorem f_61_14 : x_fe 61 14 = some (.invokestatic 62, 17) := by decide +kernel
theorem f_61_17 : x_fe 61 17 = some (.ifCond .eq (Int.ofNat 31), 20) := by decide +kernel
theorem f_61_20 : x_fe 61 20 = some (.aload 0, 21) := by decide +kernel
theorem f_61_21 : x_fe 61 21 = some (.getfield 162, 24) := by decide +kernel
theorem f_61_24 : x_fe 61 24 = some (.iload 1, 25) := by decide +kernel
theorem f_61_25 : x_fe 61 25 = some (.invokevirtual 9, 28) := by decide +kernel
theorem f_61_28 : x_fe 61 28 = some (.goto (Int.ofNat 33), 31) := by decide +kernel
theorem f_61_31 : x_fe 61 31 = some (.iconst (-1000001), 33) := by decide +kernel
theorem f_61_33 : x_fe 61 33 = some (.ireturn, 34) := by decide +kernel
theorem f_62_0 : x_fe 62 0 = some (.iload 0, 1) := by decide +kernel
theorem f_62_1 : x_fe 62 1 = some (.ifCond .lt (Int.ofNat 15), 4) := by decide +kernel
theorem f_62_4 : x_fe 62 4 = some (.iload 0, 5) := by decide +kernel
theorem f_62_5 : x_fe 62 5 = some (.iconst (511), 8) := by decide +kernel
theorem f_62_8 : x_fe 62 8 = some (.if_icmp .gt (Int.ofNat 15), 11) := by decide +kernel
theorem f_62_11 : x_fe 62 11 = some (.iconst (1), 12) := by decide +kernel
theorem f_62_12 : x_fe 62 12 = some (.goto (Int.ofNat 16), 15) := by decide +kernel
theorem f_62_15 : x_fe 62 15 = some (.iconst (0), 16) := by decide +kernel
theorem f_62_16 : x_fe 62 16 = some (.ireturn, 17) := by decide +kernel
theorem f_63_0 : x_fe 63 0 = some (.aload 0, 1) := by decide +kernel
theorem f_63_1 : x_fe 63 1 = some (.iload 1, 2) := by decide +kernel
theorem f_63_2 : x_fe 63 2 = some (.iload 2, 3) := by decide +kernel
theorem f_63_3 : x_fe 63 3 = some (.invokevirtual 59, 6) := by decide +kernel
theorem f_63_6 : x_fe 63 6 = some (.ifCond .ne (Int.ofNat 12), 9) := by decide +kernel
theorem f_63_9 : x_fe 63 9 = some (.iconst (-1000001), 11) := by decide +kernel
theorem f_63_11 : x_fe 63 11 = some (.ireturn, 12) := by decide +kernel
theorem f_63_12 : x_fe 63 12 = some (.aload 0, 13) := by decide +kernel
theorem f_63_13 : x_fe 63 13 = some (.getfield 162, 16) := by decide +kernel
theorem f_63_16 : x_fe 63 16 = some (.iload 1, 17) := by decide +kernel
theorem f_63_17 : x_fe 63 17 = some (.invokevirtual 10, 20) := by decide +kernel
theorem f_63_20 : x_fe 63 20 = some (.ifCond .eq (Int.ofNat 35), 23) := by decide +kernel
theorem f_63_23 : x_fe 63 23 = some (.aload 0, 24) := by decide +kernel
theorem f_63_24 : x_fe 63 24 = some (.getfield 162, 27) := by decide +kernel
theorem f_63_27 : x_fe 63 27 = some (.iload 1, 28) := by decide +kernel
theorem f_63_28 : x_fe 63 28 = some (.iload 2, 29) := by decide +kernel
theorem f_63_29 : x_fe 63 29 = some (.invokevirtual 12, 32) := by decide +kernel
theorem f_63_32 : x_fe 63 32 = some (.goto (Int.ofNat 37), 35) := by decide +kernel
theorem f_63_35 : x_fe 63 35 = some (.iconst (-1000002), 37) := by decide +kernel
theorem f_63_37 : x_fe 63 37 = some (.ireturn, 38) := by decide +kernel
theorem f_64_0 : x_fe 64 0 = some (.aload 0, 1) := by decide +kernel
theorem f_64_1 : x_fe 64 1 = some (.getfield 162, 4) := by decide +kernel
theorem f_64_4 : x_fe 64 4 = some (.getfield 4, 7) := by decide +kernel
theorem f_64_7 : x_fe 64 7 = some (.ifCond .ne (Int.ofNat 13), 10) := by decide +kernel
theorem f_64_10 : x_fe 64 10 = some (.iconst (-1000002), 12) := by decide +kernel
theorem f_64_12 : x_fe 64 12 = some (.ireturn, 13) := by decide +kernel
theorem f_64_13 : x_fe 64 13 = some (.iload 1, 14) := by decide +kernel
theorem f_64_14 : x_fe 64 14 = some (.invokestatic 44, 17) := by decide +kernel
theorem f_64_17 : x_fe 64 17 = some (.ifCond .eq (Int.ofNat 31), 20) := by decide +kernel
theorem f_64_20 : x_fe 64 20 = some (.iload 3, 21) := by decide +kernel
theorem f_64_21 : x_fe 64 21 = some (.iconst (1), 22) := by decide +kernel
theorem f_64_22 : x_fe 64 22 = some (.if_icmp .lt (Int.ofNat 31), 25) := by decide +kernel
theorem f_64_25 : x_fe 64 25 = some (.iload 3, 26) := by decide +kernel
theorem f_64_26 : x_fe 64 26 = some (.iconst (14), 28) := by decide +kernel
theorem f_64_28 : x_fe 64 28 = some (.if_icmp .le (Int.ofNat 34), 31) := by decide +kernel
theorem f_64_31 : x_fe 64 31 = some (.iconst (-1000001), 33) := by decide +kernel
theorem f_64_33 : x_fe 64 33 = some (.ireturn, 34) := by decide +kernel
theorem f_64_34 : x_fe 64 34 = some (.aload 0, 35) := by decide +kernel
theorem f_64_35 : x_fe 64 35 = some (.getfield 160, 38) := by decide +kernel
theorem f_64_38 : x_fe 64 38 = some (.iload 1, 39) := by decide +kernel
theorem f_64_39 : x_fe 64 39 = some (.aaload, 40) := by decide +kernel
theorem f_64_40 : x_fe 64 40 = some (.astore 4, 42) := by decide +kernel
theorem f_64_42 : x_fe 64 42 = some (.aload 4, 44) := by decide +kernel
theorem f_64_44 : x_fe 64 44 = some (.getfield 65, 47) := by decide +kernel
theorem f_64_47 : x_fe 64 47 = some (.ifCond .ne (Int.ofNat 56), 50) := by decide +kernel
theorem f_64_50 : x_fe 64 50 = some (.aload 0, 51) := by decide +kernel
theorem f_64_51 : x_fe 64 51 = some (.iconst (1), 52) := by decide +kernel
theorem f_64_52 : x_fe 64 52 = some (.invokevirtual 45, 55) := by decide +kernel
theorem f_64_55 : x_fe 64 55 = some (.ireturn, 56) := by decide +kernel
theorem f_64_56 : x_fe 64 56 = some (.aload 4, 58) := by decide +kernel
theorem f_64_58 : x_fe 64 58 = some (.iload 2, 59) := by decide +kernel
theorem f_64_59 : x_fe 64 59 = some (.iload 3, 60) := by decide +kernel
theorem f_64_60 : x_fe 64 60 = some (.invokevirtual 25, 63) := by decide +kernel
theorem f_64_63 : x_fe 64 63 = some (.ifCond .ne (Int.ofNat 72), 66) := by decide +kernel
theorem f_64_66 : x_fe 64 66 = some (.aload 0, 67) := by decide +kernel
theorem f_64_67 : x_fe 64 67 = some (.iconst (2), 68) := by decide +kernel
theorem f_64_68 : x_fe 64 68 = some (.invokevirtual 45, 71) := by decide +kernel
theorem f_64_71 : x_fe 64 71 = some (.ireturn, 72) := by decide +kernel
theorem f_64_72 : x_fe 64 72 = some (.aload 0, 73) := by decide +kernel
theorem f_64_73 : x_fe 64 73 = some (.aload 4, 75) := by decide +kernel
theorem f_64_75 : x_fe 64 75 = some (.iload 2, 76) := by decide +kernel
theorem f_64_76 : x_fe 64 76 = some (.iload 3, 77) := by decide +kernel
theorem f_64_77 : x_fe 64 77 = some (.invokevirtual 65, 80) := by decide +kernel
theorem f_64_80 : x_fe 64 80 = some (.ifCond .ne (Int.ofNat 86), 83) := by decide +kernel
theorem f_64_83 : x_fe 64 83 = some (.iconst (-1000001), 85) := by decide +kernel
theorem f_64_85 : x_fe 64 85 = some (.ireturn, 86) := by decide +kernel
theorem f_64_86 : x_fe 64 86 = some (.aload 0, 87) := by decide +kernel
theorem f_64_87 : x_fe 64 87 = some (.getfield 163, 90) := by decide +kernel
theorem f_64_90 : x_fe 64 90 = some (.aload 0, 91) := by decide +kernel
theorem f_64_91 : x_fe 64 91 = some (.getfield 162, 94) := by decide +kernel
theorem f_64_94 : x_fe 64 94 = some (.invokevirtual 7, 97) := by decide +kernel
theorem f_64_97 : x_fe 64 97 = some (.aload 0, 98) := by decide +kernel
theorem f_64_98 : x_fe 64 98 = some (.getfield 163, 101) := by decide +kernel
theorem f_64_101 : x_fe 64 101 = some (.aload 4, 103) := by decide +kernel
theorem f_64_103 : x_fe 64 103 = some (.iload 2, 104) := by decide +kernel
theorem f_64_104 : x_fe 64 104 = some (.iload 3, 105) := by decide +kernel
theorem f_64_105 : x_fe 64 105 = some (.invokestatic 66, 108) := by decide +kernel
theorem f_64_108 : x_fe 64 108 = some (.ifCond .ne (Int.ofNat 114), 111) := by decide +kernel
theorem f_64_111 : x_fe 64 111 = some (.iconst (-1000002), 113) := by decide +kernel
theorem f_64_113 : x_fe 64 113 = some (.ireturn, 114) := by decide +kernel
theorem f_64_114 : x_fe 64 114 = some (.aload 0, 115) := by decide +kernel
theorem f_64_115 : x_fe 64 115 = some (.getfield 162, 118) := by decide +kernel
theorem f_64_118 : x_fe 64 118 = some (.getfield 3, 121) := by decide +kernel
theorem f_64_121 : x_fe 64 121 = some (.iconst (0), 122) := by decide +kernel
theorem f_64_122 : x_fe 64 122 = some (.iaload, 123) := by decide +kernel
theorem f_64_123 : x_fe 64 123 = some (.aload 0, 124) := by decide +kernel
theorem f_64_124 : x_fe 64 124 = some (.getfield 162, 127) := by decide +kernel
theorem f_64_127 : x_fe 64 127 = some (.getfield 3, 130) := by decide +kernel
theorem f_64_130 : x_fe 64 130 = some (.iconst (1), 131) := by decide +kernel
theorem f_64_131 : x_fe 64 131 = some (.iaload, 132) := by decide +kernel
theorem f_64_132 : x_fe 64 132 = some (.isub, 133) := by decide +kernel
theorem f_64_133 : x_fe 64 133 = some (.istore 5, 135) := by decide +kernel
theorem f_64_135 : x_fe 64 135 = some (.aload 0, 136) := by decide +kernel
theorem f_64_136 : x_fe 64 136 = some (.getfield 162, 139) := by decide +kernel
theorem f_64_139 : x_fe 64 139 = some (.aload 0, 140) := by decide +kernel
theorem f_64_140 : x_fe 64 140 = some (.getfield 163, 143) := by decide +kernel
theorem f_64_143 : x_fe 64 143 = some (.invokevirtual 7, 146) := by decide +kernel
theorem f_64_146 : x_fe 64 146 = some (.aload 0, 147) := by decide +kernel
theorem f_64_147 : x_fe 64 147 = some (.aload 0, 148) := by decide +kernel
theorem f_64_148 : x_fe 64 148 = some (.getfield 162, 151) := by decide +kernel
theorem f_64_151 : x_fe 64 151 = some (.getfield 3, 154) := by decide +kernel
theorem f_64_154 : x_fe 64 154 = some (.iconst (0), 155) := by decide +kernel
theorem f_64_155 : x_fe 64 155 = some (.iaload, 156) := by decide +kernel
theorem f_64_156 : x_fe 64 156 = some (.aload 0, 157) := by decide +kernel
theorem f_64_157 : x_fe 64 157 = some (.getfield 162, 160) := by decide +kernel
theorem f_64_160 : x_fe 64 160 = some (.getfield 3, 163) := by decide +kernel
theorem f_64_163 : x_fe 64 163 = some (.iconst (1), 164) := by decide +kernel
theorem f_64_164 : x_fe 64 164 = some (.iaload, 165) := by decide +kernel
theorem f_64_165 : x_fe 64 165 = some (.isub, 166) := by decide +kernel
theorem f_64_166 : x_fe 64 166 = some (.iload 5, 168) := by decide +kernel
theorem f_64_168 : x_fe 64 168 = some (.isub, 169) := by decide +kernel
theorem f_64_169 : x_fe 64 169 = some (.invokevirtual 46, 172) := by decide +kernel
theorem f_64_172 : x_fe 64 172 = some (.ireturn, 173) := by decide +kernel
theorem f_65_0 : x_fe 65 0 = some (.iconst (0), 1) := by decide +kernel
theorem f_65_1 : x_fe 65 1 = some (.istore 4, 3) := by decide +kernel
theorem f_65_3 : x_fe 65 3 = some (.iload 4, 5) := by decide +kernel
theorem f_65_5 : x_fe 65 5 = some (.iload 3, 6) := by decide +kernel
theorem f_65_6 : x_fe 65 6 = some (.if_icmp .ge (Int.ofNat 47), 9) := by decide +kernel
theorem f_65_9 : x_fe 65 9 = some (.aload 1, 10) := by decide +kernel
theorem f_65_10 : x_fe 65 10 = some (.iload 2, 11) := by decide +kernel
theorem f_65_11 : x_fe 65 11 = some (.iload 4, 13) := by decide +kernel
theorem f_65_13 : x_fe 65 13 = some (.iadd, 14) := by decide +kernel
theorem f_65_14 : x_fe 65 14 = some (.invokevirtual 27, 17) := by decide +kernel
theorem f_65_17 : x_fe 65 17 = some (.istore 5, 19) := by decide +kernel
theorem f_65_19 : x_fe 65 19 = some (.iload 5, 21) := by decide +kernel
theorem f_65_21 : x_fe 65 21 = some (.ifCond .lt (Int.ofNat 39), 24) := by decide +kernel
theorem f_65_24 : x_fe 65 24 = some (.iload 5, 26) := by decide +kernel
theorem f_65_26 : x_fe 65 26 = some (.iconst (8), 28) := by decide +kernel
theorem f_65_28 : x_fe 65 28 = some (.aload 0, 29) := by decide +kernel
theorem f_65_29 : x_fe 65 29 = some (.getfield 162, 32) := by decide +kernel
theorem f_65_32 : x_fe 65 32 = some (.getfield 5, 35) := by decide +kernel
theorem f_65_35 : x_fe 65 35 = some (.imul, 36) := by decide +kernel
theorem f_65_36 : x_fe 65 36 = some (.if_icmp .lt (Int.ofNat 41), 39) := by decide +kernel
theorem f_65_39 : x_fe 65 39 = some (.iconst (0), 40) := by decide +kernel
theorem f_65_40 : x_fe 65 40 = some (.ireturn, 41) := by decide +kernel
theorem f_65_41 : x_fe 65 41 = some (.iinc 4 (1), 44) := by decide +kernel
theorem f_65_44 : x_fe 65 44 = some (.goto (Int.ofNat 3), 47) := by decide +kernel
theorem f_65_47 : x_fe 65 47 = some (.iconst (1), 48) := by decide +kernel
theorem f_65_48 : x_fe 65 48 = some (.ireturn, 49) := by decide +kernel
theorem f_66_0 : x_fe 66 0 = some (.iconst (0), 1) := by decide +kernel
theorem f_66_1 : x_fe 66 1 = some (.istore 4, 3) := by decide +kernel
theorem f_66_3 : x_fe 66 3 = some (.iload 4, 5) := by decide +kernel
theorem f_66_5 : x_fe 66 5 = some (.iload 3, 6) := by decide +kernel
theorem f_66_6 : x_fe 66 6 = some (.if_icmp .ge (Int.ofNat 54), 9) := by decide +kernel
theorem f_66_9 : x_fe 66 9 = some (.aload 1, 10) := by decide +kernel
theorem f_66_10 : x_fe 66 10 = some (.iload 2, 11) := by decide +kernel
theorem f_66_11 : x_fe 66 11 = some (.iload 4, 13) := by decide +kernel
theorem f_66_13 : x_fe 66 13 = some (.iadd, 14) := by decide +kernel
theorem f_66_14 : x_fe 66 14 = some (.invokevirtual 27, 17) := by decide +kernel
theorem f_66_17 : x_fe 66 17 = some (.istore 5, 19) := by decide +kernel
theorem f_66_19 : x_fe 66 19 = some (.aload 0, 20) := by decide +kernel
theorem f_66_20 : x_fe 66 20 = some (.iload 5, 22) := by decide +kernel
theorem f_66_22 : x_fe 66 22 = some (.iconst (8), 24) := by decide +kernel
theorem f_66_24 : x_fe 66 24 = some (.idiv, 25) := by decide +kernel
theorem f_66_25 : x_fe 66 25 = some (.invokevirtual 10, 28) := by decide +kernel
theorem f_66_28 : x_fe 66 28 = some (.ifCond .ne (Int.ofNat 33), 31) := by decide +kernel
theorem f_66_31 : x_fe 66 31 = some (.iconst (0), 32) := by decide +kernel
theorem f_66_32 : x_fe 66 32 = some (.ireturn, 33) := by decide +kernel
theorem f_66_33 : x_fe 66 33 = some (.aload 0, 34) := by decide +kernel
theorem f_66_34 : x_fe 66 34 = some (.iload 5, 36) := by decide +kernel
theorem f_66_36 : x_fe 66 36 = some (.iconst (8), 38) := by decide +kernel
theorem f_66_38 : x_fe 66 38 = some (.idiv, 39) := by decide +kernel
theorem f_66_39 : x_fe 66 39 = some (.iload 5, 41) := by decide +kernel
theorem f_66_41 : x_fe 66 41 = some (.iconst (8), 43) := by decide +kernel
theorem f_66_43 : x_fe 66 43 = some (.irem, 44) := by decide +kernel
theorem f_66_44 : x_fe 66 44 = some (.invokevirtual 12, 47) := by decide +kernel
theorem f_66_47 : x_fe 66 47 = some (.pop, 48) := by decide +kernel
theorem f_66_48 : x_fe 66 48 = some (.iinc 4 (1), 51) := by decide +kernel
theorem f_66_51 : x_fe 66 51 = some (.goto (Int.ofNat 3), 54) := by decide +kernel
theorem f_66_54 : x_fe 66 54 = some (.iconst (1), 55) := by decide +kernel
theorem f_66_55 : x_fe 66 55 = some (.ireturn, 56) := by decide +kernel
theorem f_67_0 : x_fe 67 0 = some (.aload 0, 1) := by decide +kernel
theorem f_67_1 : x_fe 67 1 = some (.getfield 162, 4) := by decide +kernel
theorem f_67_4 : x_fe 67 4 = some (.getfield 4, 7) := by decide +kernel
theorem f_67_7 : x_fe 67 7 = some (.ifCond .ne (Int.ofNat 13), 10) := by decide +kernel
theorem f_67_10 : x_fe 67 10 = some (.iconst (-1000002), 12) := by decide +kernel
theorem f_67_12 : x_fe 67 12 = some (.ireturn, 13) := by decide +kernel
theorem f_67_13 : x_fe 67 13 = some (.iload 1, 14) := by decide +kernel
theorem f_67_14 : x_fe 67 14 = some (.iconst (1), 15) := by decide +kernel
theorem f_67_15 : x_fe 67 15 = some (.if_icmp .lt (Int.ofNat 35), 18) := by decide +kernel
theorem f_67_18 : x_fe 67 18 = some (.iload 1, 19) := by decide +kernel
theorem f_67_19 : x_fe 67 19 = some (.iconst (14), 21) := by decide +kernel
theorem f_67_21 : x_fe 67 21 = some (.if_icmp .gt (Int.ofNat 35), 24) := by decide +kernel
theorem f_67_24 : x_fe 67 24 = some (.iload 2, 25) := by decide +kernel
theorem f_67_25 : x_fe 67 25 = some (.iconst (1), 26) := by decide +kernel
theorem f_67_26 : x_fe 67 26 = some (.if_icmp .lt (Int.ofNat 35), 29) := by decide +kernel
theorem f_67_29 : x_fe 67 29 = some (.iload 2, 30) := by decide +kernel
theorem f_67_30 : x_fe 67 30 = some (.iconst (999999), 32) := by decide +kernel
theorem f_67_32 : x_fe 67 32 = some (.if_icmp .le (Int.ofNat 38), 35) := by decide +kernel
theorem f_67_35 : x_fe 67 35 = some (.iconst (-1000001), 37) := by decide +kernel
theorem f_67_37 : x_fe 67 37 = some (.ireturn, 38) := by decide +kernel
theorem f_67_38 : x_fe 67 38 = some (.iload 2, 39) := by decide +kernel
theorem f_67_39 : x_fe 67 39 = some (.i2l, 40) := by decide +kernel
theorem f_67_40 : x_fe 67 40 = some (.lstore 3, 41) := by decide +kernel
theorem f_67_41 : x_fe 67 41 = some (.iconst (0), 42) := by decide +kernel
theorem f_67_42 : x_fe 67 42 = some (.istore 5, 44) := by decide +kernel
theorem f_67_44 : x_fe 67 44 = some (.iload 5, 46) := by decide +kernel
theorem f_67_46 : x_fe 67 46 = some (.iload 1, 47) := by decide +kernel
theorem f_67_47 : x_fe 67 47 = some (.if_icmp .ge (Int.ofNat 84), 50) := by decide +kernel
theorem f_67_50 : x_fe 67 50 = some (.aload 0, 51) := by decide +kernel
theorem f_67_51 : x_fe 67 51 = some (.getfield 162, 54) := by decide +kernel
theorem f_67_54 : x_fe 67 54 = some (.invokevirtual 11, 57) := by decide +kernel
theorem f_67_57 : x_fe 67 57 = some (.ifCond .eq (Int.ofNat 84), 60) := by decide +kernel
theorem f_67_60 : x_fe 67 60 = some (.lload 3, 61) := by decide +kernel
theorem f_67_61 : x_fe 67 61 = some (.ldc2_w 16807, 64) := by decide +kernel
theorem f_67_64 : x_fe 67 64 = some (.lmul, 65) := by decide +kernel
theorem f_67_65 : x_fe 67 65 = some (.ldc2_w 2147483647, 68) := by decide +kernel
theorem f_67_68 : x_fe 67 68 = some (.lrem, 69) := by decide +kernel
theorem f_67_69 : x_fe 67 69 = some (.lstore 3, 70) := by decide +kernel
theorem f_67_70 : x_fe 67 70 = some (.aload 0, 71) := by decide +kernel
theorem f_67_71 : x_fe 67 71 = some (.getfield 162, 74) := by decide +kernel
theorem f_67_74 : x_fe 67 74 = some (.lload 3, 75) := by decide +kernel
theorem f_67_75 : x_fe 67 75 = some (.invokestatic 68, 78) := by decide +kernel
theorem f_67_78 : x_fe 67 78 = some (.iinc 5 (1), 81) := by decide +kernel
theorem f_67_81 : x_fe 67 81 = some (.goto (Int.ofNat 44), 84) := by decide +kernel
theorem f_67_84 : x_fe 67 84 = some (.iload 5, 86) := by decide +kernel
theorem f_67_86 : x_fe 67 86 = some (.ireturn, 87) := by decide +kernel
theorem f_68_0 : x_fe 68 0 = some (.aload 0, 1) := by decide +kernel
theorem f_68_1 : x_fe 68 1 = some (.invokevirtual 11, 4) := by decide +kernel
theorem f_68_4 : x_fe 68 4 = some (.invokestatic 179, 7) := by decide +kernel
theorem f_68_7 : x_fe 68 7 = some (.istore 3, 8) := by decide +kernel
theorem f_68_8 : x_fe 68 8 = some (.iload 3, 9) := by decide +kernel
theorem f_68_9 : x_fe 68 9 = some (.ifCond .ne (Int.ofNat 13), 12) := by decide +kernel
theorem f_68_12 : x_fe 68 12 = some (.return_, 13) := by decide +kernel
theorem f_68_13 : x_fe 68 13 = some (.lload 1, 14) := by decide +kernel
theorem f_68_14 : x_fe 68 14 = some (.iconst (8), 16) := by decide +kernel
theorem f_68_16 : x_fe 68 16 = some (.iload 3, 17) := by decide +kernel
theorem f_68_17 : x_fe 68 17 = some (.imul, 18) := by decide +kernel
theorem f_68_18 : x_fe 68 18 = some (.i2l, 19) := by decide +kernel
theorem f_68_19 : x_fe 68 19 = some (.lrem, 20) := by decide +kernel
theorem f_68_20 : x_fe 68 20 = some (.l2i, 21) := by decide +kernel
theorem f_68_21 : x_fe 68 21 = some (.istore 4, 23) := by decide +kernel
theorem f_68_23 : x_fe 68 23 = some (.aload 0, 24) := by decide +kernel
theorem f_68_24 : x_fe 68 24 = some (.aload 0, 25) := by decide +kernel
theorem f_68_25 : x_fe 68 25 = some (.invokevirtual 11, 28) := by decide +kernel
theorem f_68_28 : x_fe 68 28 = some (.iload 4, 30) := by decide +kernel
theorem f_68_30 : x_fe 68 30 = some (.iconst (8), 32) := by decide +kernel
theorem f_68_32 : x_fe 68 32 = some (.idiv, 33) := by decide +kernel
theorem f_68_33 : x_fe 68 33 = some (.invokestatic 69, 36) := by decide +kernel
theorem f_68_36 : x_fe 68 36 = some (.iload 4, 38) := by decide +kernel
theorem f_68_38 : x_fe 68 38 = some (.iconst (8), 40) := by decide +kernel
theorem f_68_40 : x_fe 68 40 = some (.irem, 41) := by decide +kernel
theorem f_68_41 : x_fe 68 41 = some (.invokevirtual 12, 44) := by decide +kernel
theorem f_68_44 : x_fe 68 44 = some (.pop, 45) := by decide +kernel
theorem f_68_45 : x_fe 68 45 = some (.return_, 46) := by decide +kernel
theorem f_69_0 : x_fe 69 0 = some (.iconst (0), 1) := by decide +kernel
theorem f_69_1 : x_fe 69 1 = some (.istore 2, 2) := by decide +kernel
theorem f_69_2 : x_fe 69 2 = some (.iconst (0), 3) := by decide +kernel
theorem f_69_3 : x_fe 69 3 = some (.istore 3, 4) := by decide +kernel
theorem f_69_4 : x_fe 69 4 = some (.iload 3, 5) := by decide +kernel
theorem f_69_5 : x_fe 69 5 = some (.iconst (14), 7) := by decide +kernel
theorem f_69_7 : x_fe 69 7 = some (.if_icmp .ge (Int.ofNat 37), 10) := by decide +kernel
theorem f_69_10 : x_fe 69 10 = some (.iload 0, 11) := by decide +kernel
theorem f_69_11 : x_fe 69 11 = some (.iload 3, 12) := by decide +kernel
theorem f_69_12 : x_fe 69 12 = some (.ishr, 13) := by decide +kernel
theorem f_69_13 : x_fe 69 13 = some (.iconst (1), 14) := by decide +kernel
theorem f_69_14 : x_fe 69 14 = some (.iand, 15) := by decide +kernel
theorem f_69_15 : x_fe 69 15 = some (.ifCond .ne (Int.ofNat 21), 18) := by decide +kernel
theorem f_69_18 : x_fe 69 18 = some (.goto (Int.ofNat 31), 21) := by decide +kernel
theorem f_69_21 : x_fe 69 21 = some (.iload 2, 22) := by decide +kernel
theorem f_69_22 : x_fe 69 22 = some (.iload 1, 23) := by decide +kernel
theorem f_69_23 : x_fe 69 23 = some (.if_icmp .ne (Int.ofNat 28), 26) := by decide +kernel
theorem f_69_26 : x_fe 69 26 = some (.iload 3, 27) := by decide +kernel
theorem f_69_27 : x_fe 69 27 = some (.ireturn, 28) := by decide +kernel
theorem f_69_28 : x_fe 69 28 = some (.iinc 2 (1), 31) := by decide +kernel
theorem f_69_31 : x_fe 69 31 = some (.iinc 3 (1), 34) := by decide +kernel
theorem f_69_34 : x_fe 69 34 = some (.goto (Int.ofNat 4), 37) := by decide +kernel
theorem f_69_37 : x_fe 69 37 = some (.iconst (-1), 38) := by decide +kernel
theorem f_69_38 : x_fe 69 38 = some (.ireturn, 39) := by decide +kernel
theorem f_70_0 : x_fe 70 0 = some (.aload 0, 1) := by decide +kernel
theorem f_70_1 : x_fe 70 1 = some (.getfield 162, 4) := by decide +kernel
theorem f_70_4 : x_fe 70 4 = some (.getfield 4, 7) := by decide +kernel
theorem f_70_7 : x_fe 70 7 = some (.ifCond .ne (Int.ofNat 13), 10) := by decide +kernel
theorem f_70_10 : x_fe 70 10 = some (.iconst (-1000002), 12) := by decide +kernel
theorem f_70_12 : x_fe 70 12 = some (.ireturn, 13) := by decide +kernel
theorem f_70_13 : x_fe 70 13 = some (.iload 1, 14) := by decide +kernel
theorem f_70_14 : x_fe 70 14 = some (.tableswitch (118) (0) (7) #[46, 54, 62, 70, 80, 90, 100, 110], 60) := by decide +kernel
theorem f_70_60 : x_fe 70 60 = some (.aload 0, 61) := by decide +kernel
theorem f_70_61 : x_fe 70 61 = some (.getfield 162, 64) := by decide +kernel
theorem f_70_64 : x_fe 70 64 = some (.getfield 6, 67) := by decide +kernel
theorem f_70_67 : x_fe 70 67 = some (.ireturn, 68) := by decide +kernel
theorem f_70_68 : x_fe 70 68 = some (.aload 0, 69) := by decide +kernel
theorem f_70_69 : x_fe 70 69 = some (.getfield 162, 72) := by decide +kernel
theorem f_70_72 : x_fe 70 72 = some (.getfield 7, 75) := by decide +kernel
theorem f_70_75 : x_fe 70 75 = some (.ireturn, 76) := by decide +kernel
theorem f_70_76 : x_fe 70 76 = some (.aload 0, 77) := by decide +kernel
theorem f_70_77 : x_fe 70 77 = some (.getfield 162, 80) := by decide +kernel
theorem f_70_80 : x_fe 70 80 = some (.getfield 8, 83) := by decide +kernel
theorem f_70_83 : x_fe 70 83 = some (.ireturn, 84) := by decide +kernel
theorem f_70_84 : x_fe 70 84 = some (.aload 0, 85) := by decide +kernel
theorem f_70_85 : x_fe 70 85 = some (.getfield 162, 88) := by decide +kernel
theorem f_70_88 : x_fe 70 88 = some (.getfield 3, 91) := by decide +kernel
theorem f_70_91 : x_fe 70 91 = some (.iconst (0), 92) := by decide +kernel
theorem f_70_92 : x_fe 70 92 = some (.iaload, 93) := by decide +kernel
theorem f_70_93 : x_fe 70 93 = some (.ireturn, 94) := by decide +kernel
theorem f_70_94 : x_fe 70 94 = some (.aload 0, 95) := by decide +kernel
theorem f_70_95 : x_fe 70 95 = some (.getfield 162, 98) := by decide +kernel
theorem f_70_98 : x_fe 70 98 = some (.getfield 3, 101) := by decide +kernel
theorem f_70_101 : x_fe 70 101 = some (.iconst (1), 102) := by decide +kernel
theorem f_70_102 : x_fe 70 102 = some (.iaload, 103) := by decide +kernel
theorem f_70_103 : x_fe 70 103 = some (.ireturn, 104) := by decide +kernel
theorem f_70_104 : x_fe 70 104 = some (.aload 0, 105) := by decide +kernel
theorem f_70_105 : x_fe 70 105 = some (.getfield 162, 108) := by decide +kernel
theorem f_70_108 : x_fe 70 108 = some (.getfield 2, 111) := by decide +kernel
theorem f_70_111 : x_fe 70 111 = some (.iconst (0), 112) := by decide +kernel
theorem f_70_112 : x_fe 70 112 = some (.iaload, 113) := by decide +kernel
theorem f_70_113 : x_fe 70 113 = some (.ireturn, 114) := by decide +kernel
theorem f_70_114 : x_fe 70 114 = some (.aload 0, 115) := by decide +kernel
theorem f_70_115 : x_fe 70 115 = some (.getfield 162, 118) := by decide +kernel
theorem f_70_118 : x_fe 70 118 = some (.getfield 2, 121) := by decide +kernel
theorem f_70_121 : x_fe 70 121 = some (.iconst (1), 122) := by decide +kernel
theorem f_70_122 : x_fe 70 122 = some (.iaload, 123) := by decide +kernel
theorem f_70_123 : x_fe 70 123 = some (.ireturn, 124) := by decide +kernel
theorem f_70_124 : x_fe 70 124 = some (.aload 0, 125) := by decide +kernel
theorem f_70_125 : x_fe 70 125 = some (.getfield 162, 128) := by decide +kernel
theorem f_70_128 : x_fe 70 128 = some (.getfield 9, 131) := by decide +kernel
theorem f_70_131 : x_fe 70 131 = some (.ireturn, 132) := by decide +kernel
theorem f_70_132 : x_fe 70 132 = some (.iconst (-1000001), 134) := by decide +kernel
theorem f_70_134 : x_fe 70 134 = some (.ireturn, 135) := by decide +kernel
theorem f_71_0 : x_fe 71 0 = some (.aload 0, 1) := by decide +kernel
theorem f_71_1 : x_fe 71 1 = some (.getfield 162, 4) := by decide +kernel
theorem f_71_4 : x_fe 71 4 = some (.getfield 4, 7) := by decide +kernel
theorem f_71_7 : x_fe 71 7 = some (.ifCond .ne (Int.ofNat 13), 10) := by decide +kernel
theorem f_71_10 : x_fe 71 10 = some (.iconst (-1000002), 12) := by decide +kernel
theorem f_71_12 : x_fe 71 12 = some (.ireturn, 13) := by decide +kernel
theorem f_71_13 : x_fe 71 13 = some (.iload 1, 14) := by decide +kernel
theorem f_71_14 : x_fe 71 14 = some (.ifCond .lt (Int.ofNat 22), 17) := by decide +kernel
theorem f_71_17 : x_fe 71 17 = some (.iload 1, 18) := by decide +kernel
theorem f_71_18 : x_fe 71 18 = some (.iconst (1), 19) := by decide +kernel
theorem f_71_19 : x_fe 71 19 = some (.if_icmp .le (Int.ofNat 25), 22) := by decide +kernel
theorem f_71_22 : x_fe 71 22 = some (.iconst (-1000001), 24) := by decide +kernel
theorem f_71_24 : x_fe 71 24 = some (.ireturn, 25) := by decide +kernel
theorem f_71_25 : x_fe 71 25 = some (.aload 0, 26) := by decide +kernel
theorem f_71_26 : x_fe 71 26 = some (.getfield 162, 29) := by decide +kernel
theorem f_71_29 : x_fe 71 29 = some (.invokevirtual 13, 32) := by decide +kernel
theorem f_71_32 : x_fe 71 32 = some (.istore 2, 33) := by decide +kernel
theorem f_71_33 : x_fe 71 33 = some (.iload 2, 34) := by decide +kernel
theorem f_71_34 : x_fe 71 34 = some (.ifCond .eq (Int.ofNat 42), 37) := by decide +kernel
theorem f_71_37 : x_fe 71 37 = some (.iload 2, 38) := by decide +kernel
theorem f_71_38 : x_fe 71 38 = some (.iconst (4), 39) := by decide +kernel
theorem f_71_39 : x_fe 71 39 = some (.if_icmp .le (Int.ofNat 45), 42) := by decide +kernel
theorem f_71_42 : x_fe 71 42 = some (.iconst (-1000000), 44) := by decide +kernel
theorem f_71_44 : x_fe 71 44 = some (.ireturn, 45) := by decide +kernel
theorem f_71_45 : x_fe 71 45 = some (.aload 0, 46) := by decide +kernel
theorem f_71_46 : x_fe 71 46 = some (.getfield 165, 49) := by decide +kernel
theorem f_71_49 : x_fe 71 49 = some (.aload 0, 50) := by decide +kernel
theorem f_71_50 : x_fe 71 50 = some (.getfield 162, 53) := by decide +kernel
theorem f_71_53 : x_fe 71 53 = some (.invokevirtual 17, 56) := by decide +kernel
theorem f_71_56 : x_fe 71 56 = some (.aload 0, 57) := by decide +kernel
theorem f_71_57 : x_fe 71 57 = some (.getfield 162, 60) := by decide +kernel
theorem f_71_60 : x_fe 71 60 = some (.aload 0, 61) := by decide +kernel
theorem f_71_61 : x_fe 71 61 = some (.getfield 165, 64) := by decide +kernel
theorem f_71_64 : x_fe 71 64 = some (.aload 0, 65) := by decide +kernel
theorem f_71_65 : x_fe 71 65 = some (.getfield 165, 68) := by decide +kernel
theorem f_71_68 : x_fe 71 68 = some (.aload 0, 69) := by decide +kernel
theorem f_71_69 : x_fe 71 69 = some (.getfield 162, 72) := by decide +kernel
theorem f_71_72 : x_fe 71 72 = some (.invokevirtual 18, 75) := by decide +kernel
theorem f_71_75 : x_fe 71 75 = some (.iload 2, 76) := by decide +kernel
theorem f_71_76 : x_fe 71 76 = some (.invokestatic 72, 79) := by decide +kernel
theorem f_71_79 : x_fe 71 79 = some (.istore 3, 80) := by decide +kernel
theorem f_71_80 : x_fe 71 80 = some (.iload 1, 81) := by decide +kernel
theorem f_71_81 : x_fe 71 81 = some (.ifCond .ne (Int.ofNat 88), 84) := by decide +kernel
theorem f_71_84 : x_fe 71 84 = some (.iload 3, 85) := by decide +kernel
theorem f_71_85 : x_fe 71 85 = some (.goto (Int.ofNat 95), 88) := by decide +kernel
theorem f_71_88 : x_fe 71 88 = some (.aload 0, 89) := by decide +kernel
theorem f_71_89 : x_fe 71 89 = some (.getfield 165, 92) := by decide +kernel
theorem f_71_92 : x_fe 71 92 = some (.getfield 36, 95) := by decide +kernel
theorem f_71_95 : x_fe 71 95 = some (.ireturn, 96) := by decide +kernel
theorem f_72_0 : x_fe 72 0 = some (.iload 3, 1) := by decide +kernel
theorem f_72_1 : x_fe 72 1 = some (.ifCond .le (Int.ofNat 17), 4) := by decide +kernel
theorem f_72_4 : x_fe 72 4 = some (.iload 2, 5) := by decide +kernel
theorem f_72_5 : x_fe 72 5 = some (.ifCond .lt (Int.ofNat 17), 8) := by decide +kernel
theorem f_72_8 : x_fe 72 8 = some (.iload 2, 9) := by decide +kernel
theorem f_72_9 : x_fe 72 9 = some (.aload 1, 10) := by decide +kernel
theorem f_72_10 : x_fe 72 10 = some (.getfield 34, 13) := by decide +kernel
theorem f_72_13 : x_fe 72 13 = some (.arraylength, 14) := by decide +kernel
theorem f_72_14 : x_fe 72 14 = some (.if_icmp .lt (Int.ofNat 19), 17) := by decide +kernel
theorem f_72_17 : x_fe 72 17 = some (.iconst (0), 18) := by decide +kernel
theorem f_72_18 : x_fe 72 18 = some (.ireturn, 19) := by decide +kernel
theorem f_72_19 : x_fe 72 19 = some (.aload 1, 20) := by decide +kernel
theorem f_72_20 : x_fe 72 20 = some (.getfield 34, 23) := by decide +kernel
theorem f_72_23 : x_fe 72 23 = some (.iload 2, 24) := by decide +kernel
theorem f_72_24 : x_fe 72 24 = some (.iaload, 25) := by decide +kernel
theorem f_72_25 : x_fe 72 25 = some (.iconst (-1000000000), 28) := by decide +kernel
theorem f_72_28 : x_fe 72 28 = some (.if_icmp .eq (Int.ofNat 38), 31) := by decide +kernel
theorem f_72_31 : x_fe 72 31 = some (.aload 1, 32) := by decide +kernel
theorem f_72_32 : x_fe 72 32 = some (.getfield 34, 35) := by decide +kernel
theorem f_72_35 : x_fe 72 35 = some (.iload 2, 36) := by decide +kernel
theorem f_72_36 : x_fe 72 36 = some (.iaload, 37) := by decide +kernel
theorem f_72_37 : x_fe 72 37 = some (.ireturn, 38) := by decide +kernel
theorem f_72_38 : x_fe 72 38 = some (.iconst (-1000000000), 41) := by decide +kernel
theorem f_72_41 : x_fe 72 41 = some (.istore 4, 43) := by decide +kernel
theorem f_72_43 : x_fe 72 43 = some (.iconst (0), 44) := by decide +kernel
theorem f_72_44 : x_fe 72 44 = some (.istore 5, 46) := by decide +kernel
theorem f_72_46 : x_fe 72 46 = some (.aload 1, 47) := by decide +kernel
theorem f_72_47 : x_fe 72 47 = some (.iload 2, 48) := by decide +kernel
theorem f_72_48 : x_fe 72 48 = some (.invokevirtual 20, 51) := by decide +kernel
theorem f_72_51 : x_fe 72 51 = some (.istore 6, 53) := by decide +kernel
theorem f_72_53 : x_fe 72 53 = some (.iconst (0), 54) := by decide +kernel
theorem f_72_54 : x_fe 72 54 = some (.istore 7, 56) := by decide +kernel
theorem f_72_56 : x_fe 72 56 = some (.iload 7, 58) := by decide +kernel
theorem f_72_58 : x_fe 72 58 = some (.aload 1, 59) := by decide +kernel
theorem f_72_59 : x_fe 72 59 = some (.getfield 35, 62) := by decide +kernel
theorem f_72_62 : x_fe 72 62 = some (.if_icmp .ge (Int.ofNat 200), 65) := by decide +kernel
theorem f_72_65 : x_fe 72 65 = some (.aload 1, 66) := by decide +kernel
theorem f_72_66 : x_fe 72 66 = some (.iload 2, 67) := by decide +kernel
theorem f_72_67 : x_fe 72 67 = some (.iload 6, 69) := by decide +kernel
theorem f_72_69 : x_fe 72 69 = some (.iload 7, 71) := by decide +kernel
theorem f_72_71 : x_fe 72 71 = some (.invokevirtual 21, 74) := by decide +kernel
theorem f_72_74 : x_fe 72 74 = some (.ifCond .ne (Int.ofNat 80), 77) := by decide +kernel
theorem f_72_77 : x_fe 72 77 = some (.goto (Int.ofNat 194), 80) := by decide +kernel
theorem f_72_80 : x_fe 72 80 = some (.iconst (0), 81) := by decide +kernel
theorem f_72_81 : x_fe 72 81 = some (.istore 8, 83) := by decide +kernel
theorem f_72_83 : x_fe 72 83 = some (.iload 8, 85) := by decide +kernel
theorem f_72_85 : x_fe 72 85 = some (.iconst (8), 87) := by decide +kernel
theorem f_72_87 : x_fe 72 87 = some (.if_icmp .ge (Int.ofNat 194), 90) := by decide +kernel
theorem f_72_90 : x_fe 72 90 = some (.iload 2, 91) := by decide +kernel
theorem f_72_91 : x_fe 72 91 = some (.iconst (511), 94) := by decide +kernel
theorem f_72_94 : x_fe 72 94 = some (.iand, 95) := by decide +kernel
theorem f_72_95 : x_fe 72 95 = some (.aload 0, 96) := by decide +kernel
theorem f_72_96 : x_fe 72 96 = some (.aload 1, 97) := by decide +kernel
theorem f_72_97 : x_fe 72 97 = some (.getfield 32, 100) := by decide +kernel
theorem f_72_100 : x_fe 72 100 = some (.iload 7, 102) := by decide +kernel
theorem f_72_102 : x_fe 72 102 = some (.iaload, 103) := by decide +kernel
theorem f_72_103 : x_fe 72 103 = some (.iload 8, 105) := by decide +kernel
theorem f_72_105 : x_fe 72 105 = some (.invokevirtual 8, 108) := by decide +kernel
theorem f_72_108 : x_fe 72 108 = some (.iand, 109) := by decide +kernel
theorem f_72_109 : x_fe 72 109 = some (.istore 9, 111) := by decide +kernel
theorem f_72_111 : x_fe 72 111 = some (.aload 1, 112) := by decide +kernel
theorem f_72_112 : x_fe 72 112 = some (.iload 2, 113) := by decide +kernel
theorem f_72_113 : x_fe 72 113 = some (.iload 7, 115) := by decide +kernel
theorem f_72_115 : x_fe 72 115 = some (.iload 9, 117) := by decide +kernel
theorem f_72_117 : x_fe 72 117 = some (.invokevirtual 22, 120) := by decide +kernel
theorem f_72_120 : x_fe 72 120 = some (.istore 10, 122) := by decide +kernel
theorem f_72_122 : x_fe 72 122 = some (.aload 0, 123) := by decide +kernel
theorem f_72_123 : x_fe 72 123 = some (.aload 1, 124) := by decide +kernel
theorem f_72_124 : x_fe 72 124 = some (.iload 10, 126) := by decide +kernel
theorem f_72_126 : x_fe 72 126 = some (.iload 3, 127) := by decide +kernel
theorem f_72_127 : x_fe 72 127 = some (.iconst (1), 128) := by decide +kernel
theorem f_72_128 : x_fe 72 128 = some (.isub, 129) := by decide +kernel
theorem f_72_129 : x_fe 72 129 = some (.invokestatic 72, 132) := by decide +kernel
theorem f_72_132 : x_fe 72 132 = some (.istore 11, 134) := by decide +kernel
theorem f_72_134 : x_fe 72 134 = some (.aload 0, 135) := by decide +kernel
theorem f_72_135 : x_fe 72 135 = some (.iload 9, 137) := by decide +kernel
theorem f_72_137 : x_fe 72 137 = some (.invokevirtual 9, 140) := by decide +kernel
theorem f_72_140 : x_fe 72 140 = some (.aload 1, 141) := by decide +kernel
theorem f_72_141 : x_fe 72 141 = some (.iload 10, 143) := by decide +kernel
theorem f_72_143 : x_fe 72 143 = some (.invokevirtual 20, 146) := by decide +kernel
theorem f_72_146 : x_fe 72 146 = some (.iload 6, 148) := by decide +kernel
theorem f_72_148 : x_fe 72 148 = some (.if_icmp .ne (Int.ofNat 156), 151) := by decide +kernel
theorem f_72_151 : x_fe 72 151 = some (.iload 11, 153) := by decide +kernel
theorem f_72_153 : x_fe 72 153 = some (.goto (Int.ofNat 159), 156) := by decide +kernel
theorem f_72_156 : x_fe 72 156 = some (.iload 11, 158) := by decide +kernel
theorem f_72_158 : x_fe 72 158 = some (.ineg, 159) := by decide +kernel
theorem f_72_159 : x_fe 72 159 = some (.iadd, 160) := by decide +kernel
theorem f_72_160 : x_fe 72 160 = some (.istore 12, 162) := by decide +kernel
theorem f_72_162 : x_fe 72 162 = some (.iload 12, 164) := by decide +kernel
theorem f_72_164 : x_fe 72 164 = some (.iload 4, 166) := by decide +kernel
theorem f_72_166 : x_fe 72 166 = some (.if_icmp .le (Int.ofNat 188), 169) := by decide +kernel
theorem f_72_169 : x_fe 72 169 = some (.iload 12, 171) := by decide +kernel
theorem f_72_171 : x_fe 72 171 = some (.istore 4, 173) := by decide +kernel
theorem f_72_173 : x_fe 72 173 = some (.iconst (8), 175) := by decide +kernel
theorem f_72_175 : x_fe 72 175 = some (.aload 1, 176) := by decide +kernel
theorem f_72_176 : x_fe 72 176 = some (.getfield 32, 179) := by decide +kernel
theorem f_72_179 : x_fe 72 179 = some (.iload 7, 181) := by decide +kernel
theorem f_72_181 : x_fe 72 181 = some (.iaload, 182) := by decide +kernel
theorem f_72_182 : x_fe 72 182 = some (.imul, 183) := by decide +kernel
theorem f_72_183 : x_fe 72 183 = some (.iload 8, 185) := by decide +kernel
theorem f_72_185 : x_fe 72 185 = some (.iadd, 186) := by decide +kernel
theorem f_72_186 : x_fe 72 186 = some (.istore 5, 188) := by decide +kernel
theorem f_72_188 : x_fe 72 188 = some (.iinc 8 (1), 191) := by decide +kernel
theorem f_72_191 : x_fe 72 191 = some (.goto (Int.ofNat 83), 194) := by decide +kernel
theorem f_72_194 : x_fe 72 194 = some (.iinc 7 (1), 197) := by decide +kernel
theorem f_72_197 : x_fe 72 197 = some (.goto (Int.ofNat 56), 200) := by decide +kernel
theorem f_72_200 : x_fe 72 200 = some (.iload 4, 202) := by decide +kernel
theorem f_72_202 : x_fe 72 202 = some (.iconst (-1000000000), 205) := by decide +kernel
theorem f_72_205 : x_fe 72 205 = some (.if_icmp .ne (Int.ofNat 212), 208) := by decide +kernel
theorem f_72_208 : x_fe 72 208 = some (.iconst (0), 209) := by decide +kernel
theorem f_72_209 : x_fe 72 209 = some (.goto (Int.ofNat 214), 212) := by decide +kernel
theorem f_72_212 : x_fe 72 212 = some (.iload 4, 214) := by decide +kernel
theorem f_72_214 : x_fe 72 214 = some (.istore 4, 216) := by decide +kernel
theorem f_72_216 : x_fe 72 216 = some (.aload 1, 217) := by decide +kernel
theorem f_72_217 : x_fe 72 217 = some (.getfield 34, 220) := by decide +kernel
theorem f_72_220 : x_fe 72 220 = some (.iload 2, 221) := by decide +kernel
theorem f_72_221 : x_fe 72 221 = some (.iload 4, 223) := by decide +kernel
theorem f_72_223 : x_fe 72 223 = some (.iastore, 224) := by decide +kernel
theorem f_72_224 : x_fe 72 224 = some (.aload 1, 225) := by decide +kernel
theorem f_72_225 : x_fe 72 225 = some (.iload 5, 227) := by decide +kernel
theorem f_72_227 : x_fe 72 227 = some (.putfield 36, 230) := by decide +kernel
theorem f_72_230 : x_fe 72 230 = some (.iload 4, 232) := by decide +kernel
theorem f_72_232 : x_fe 72 232 = some (.ireturn, 233) := by decide +kernel
theorem f_73_0 : x_fe 73 0 = some (.aload 0, 1) := by decide +kernel
theorem f_73_1 : x_fe 73 1 = some (.iload 1, 2) := by decide +kernel
theorem f_73_2 : x_fe 73 2 = some (.iload 2, 3) := by decide +kernel
theorem f_73_3 : x_fe 73 3 = some (.invokevirtual 59, 6) := by decide +kernel
theorem f_73_6 : x_fe 73 6 = some (.ifCond .eq (Int.ofNat 18), 9) := by decide +kernel
theorem f_73_9 : x_fe 73 9 = some (.iload 3, 10) := by decide +kernel
theorem f_73_10 : x_fe 73 10 = some (.ifCond .lt (Int.ofNat 18), 13) := by decide +kernel
theorem f_73_13 : x_fe 73 13 = some (.iload 3, 14) := by decide +kernel
theorem f_73_14 : x_fe 73 14 = some (.iconst (1), 15) := by decide +kernel
theorem f_73_15 : x_fe 73 15 = some (.if_icmp .le (Int.ofNat 21), 18) := by decide +kernel
theorem f_73_18 : x_fe 73 18 = some (.iconst (-1000001), 20) := by decide +kernel
theorem f_73_20 : x_fe 73 20 = some (.ireturn, 21) := by decide +kernel
theorem f_73_21 : x_fe 73 21 = some (.aload 0, 22) := by decide +kernel
theorem f_73_22 : x_fe 73 22 = some (.getfield 162, 25) := by decide +kernel
theorem f_73_25 : x_fe 73 25 = some (.iload 1, 26) := by decide +kernel
theorem f_73_26 : x_fe 73 26 = some (.invokevirtual 10, 29) := by decide +kernel
theorem f_73_29 : x_fe 73 29 = some (.ifCond .ne (Int.ofNat 35), 32) := by decide +kernel
theorem f_73_32 : x_fe 73 32 = some (.iconst (-1000002), 34) := by decide +kernel
theorem f_73_34 : x_fe 73 34 = some (.ireturn, 35) := by decide +kernel
theorem f_73_35 : x_fe 73 35 = some (.aload 0, 36) := by decide +kernel
