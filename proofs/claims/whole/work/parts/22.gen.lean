theorem na_0 : x_na 0 = 1 := by decide +kernel
theorem ml_0 : x_ml 0 = 1 := by decide +kernel
theorem cy_0 : x_cy 0 = 0 := by decide +kernel
theorem rt_0 : x_rt 0 = none := by decide +kernel
theorem na_1 : x_na 1 = 1 := by decide +kernel
theorem ml_1 : x_ml 1 = 1 := by decide +kernel
theorem cy_1 : x_cy 1 = 0 := by decide +kernel
theorem rt_1 : x_rt 1 = none := by decide +kernel
theorem na_2 : x_na 2 = 3 := by decide +kernel
theorem ml_2 : x_ml 2 = 5 := by decide +kernel
theorem cy_2 : x_cy 2 = 0 := by decide +kernel
theorem rt_2 : x_rt 2 = none := by decide +kernel
theorem na_3 : x_na 3 = 1 := by decide +kernel
theorem ml_3 : x_ml 3 = 6 := by decide +kernel
theorem cy_3 : x_cy 3 = 0 := by decide +kernel
theorem rt_3 : x_rt 3 = some .int := by decide +kernel
theorem na_4 : x_na 4 = 1 := by decide +kernel
theorem ml_4 : x_ml 4 = 6 := by decide +kernel
theorem cy_4 : x_cy 4 = 0 := by decide +kernel
theorem rt_4 : x_rt 4 = some .int := by decide +kernel
theorem na_5 : x_na 5 = 1 := by decide +kernel
theorem ml_5 : x_ml 5 = 1 := by decide +kernel
theorem cy_5 : x_cy 5 = 0 := by decide +kernel
theorem rt_5 : x_rt 5 = none := by decide +kernel
theorem na_6 : x_na 6 = 2 := by decide +kernel
theorem ml_6 : x_ml 6 = 2 := by decide +kernel
theorem cy_6 : x_cy 6 = 0 := by decide +kernel
theorem rt_6 : x_rt 6 = some .int := by decide +kernel
theorem na_7 : x_na 7 = 2 := by decide +kernel
theorem ml_7 : x_ml 7 = 2 := by decide +kernel
theorem cy_7 : x_cy 7 = 0 := by decide +kernel
theorem rt_7 : x_rt 7 = none := by decide +kernel
theorem na_8 : x_na 8 = 3 := by decide +kernel
theorem ml_8 : x_ml 8 = 4 := by decide +kernel
theorem cy_8 : x_cy 8 = 0 := by decide +kernel
theorem rt_8 : x_rt 8 = some .int := by decide +kernel
theorem na_9 : x_na 9 = 2 := by decide +kernel
theorem ml_9 : x_ml 9 = 4 := by decide +kernel
theorem cy_9 : x_cy 9 = 0 := by decide +kernel
theorem rt_9 : x_rt 9 = some .int := by decide +kernel
theorem na_10 : x_na 10 = 2 := by decide +kernel
theorem ml_10 : x_ml 10 = 2 := by decide +kernel
theorem cy_10 : x_cy 10 = 0 := by decide +kernel
theorem rt_10 : x_rt 10 = some .boolean := by decide +kernel
theorem na_11 : x_na 11 = 1 := by decide +kernel
theorem ml_11 : x_ml 11 = 1 := by decide +kernel
theorem cy_11 : x_cy 11 = 0 := by decide +kernel
theorem rt_11 : x_rt 11 = some .int := by decide +kernel
theorem na_12 : x_na 12 = 3 := by decide +kernel
theorem ml_12 : x_ml 12 = 4 := by decide +kernel
theorem cy_12 : x_cy 12 = 0 := by decide +kernel
theorem rt_12 : x_rt 12 = some .int := by decide +kernel
theorem na_13 : x_na 13 = 1 := by decide +kernel
theorem ml_13 : x_ml 13 = 1 := by decide +kernel
theorem cy_13 : x_cy 13 = 0 := by decide +kernel
theorem rt_13 : x_rt 13 = some .int := by decide +kernel
theorem na_14 : x_na 14 = 1 := by decide +kernel
theorem ml_14 : x_ml 14 = 1 := by decide +kernel
theorem cy_14 : x_cy 14 = 0 := by decide +kernel
theorem rt_14 : x_rt 14 = some .int := by decide +kernel
theorem na_15 : x_na 15 = 2 := by decide +kernel
theorem ml_15 : x_ml 15 = 5 := by decide +kernel
theorem cy_15 : x_cy 15 = 0 := by decide +kernel
theorem rt_15 : x_rt 15 = some .int := by decide +kernel
theorem na_16 : x_na 16 = 1 := by decide +kernel
theorem ml_16 : x_ml 16 = 1 := by decide +kernel
theorem cy_16 : x_cy 16 = 1 := by decide +kernel
theorem rt_16 : x_rt 16 = none := by decide +kernel
theorem na_17 : x_na 17 = 2 := by decide +kernel
theorem ml_17 : x_ml 17 = 4 := by decide +kernel
theorem cy_17 : x_cy 17 = 1 := by decide +kernel
theorem rt_17 : x_rt 17 = none := by decide +kernel
theorem na_18 : x_na 18 = 2 := by decide +kernel
theorem ml_18 : x_ml 18 = 2 := by decide +kernel
theorem cy_18 : x_cy 18 = 1 := by decide +kernel
theorem rt_18 : x_rt 18 = some .int := by decide +kernel
theorem na_19 : x_na 19 = 3 := by decide +kernel
theorem ml_19 : x_ml 19 = 3 := by decide +kernel
theorem cy_19 : x_cy 19 = 1 := by decide +kernel
theorem rt_19 : x_rt 19 = some .int := by decide +kernel
theorem na_20 : x_na 20 = 2 := by decide +kernel
theorem ml_20 : x_ml 20 = 2 := by decide +kernel
theorem cy_20 : x_cy 20 = 1 := by decide +kernel
theorem rt_20 : x_rt 20 = some .int := by decide +kernel
theorem na_21 : x_na 21 = 4 := by decide +kernel
theorem ml_21 : x_ml 21 = 4 := by decide +kernel
theorem cy_21 : x_cy 21 = 1 := by decide +kernel
theorem rt_21 : x_rt 21 = some .boolean := by decide +kernel
theorem na_22 : x_na 22 = 4 := by decide +kernel
theorem ml_22 : x_ml 22 = 7 := by decide +kernel
theorem cy_22 : x_cy 22 = 1 := by decide +kernel
theorem rt_22 : x_rt 22 = some .int := by decide +kernel
theorem na_23 : x_na 23 = 1 := by decide +kernel
theorem ml_23 : x_ml 23 = 1 := by decide +kernel
theorem cy_23 : x_cy 23 = 2 := by decide +kernel
theorem rt_23 : x_rt 23 = none := by decide +kernel
theorem na_24 : x_na 24 = 3 := by decide +kernel
theorem ml_24 : x_ml 24 = 3 := by decide +kernel
theorem cy_24 : x_cy 24 = 2 := by decide +kernel
theorem rt_24 : x_rt 24 = none := by decide +kernel
theorem na_25 : x_na 25 = 3 := by decide +kernel
theorem ml_25 : x_ml 25 = 3 := by decide +kernel
theorem cy_25 : x_cy 25 = 2 := by decide +kernel
theorem rt_25 : x_rt 25 = some .boolean := by decide +kernel
theorem na_26 : x_na 26 = 2 := by decide +kernel
theorem ml_26 : x_ml 26 = 2 := by decide +kernel
theorem cy_26 : x_cy 26 = 2 := by decide +kernel
theorem rt_26 : x_rt 26 = some .int := by decide +kernel
theorem na_27 : x_na 27 = 2 := by decide +kernel
theorem ml_27 : x_ml 27 = 2 := by decide +kernel
theorem cy_27 : x_cy 27 = 2 := by decide +kernel
theorem rt_27 : x_rt 27 = some .int := by decide +kernel
theorem na_28 : x_na 28 = 1 := by decide +kernel
theorem ml_28 : x_ml 28 = 1 := by decide +kernel
theorem cy_28 : x_cy 28 = 3 := by decide +kernel
theorem rt_28 : x_rt 28 = none := by decide +kernel
theorem na_29 : x_na 29 = 2 := by decide +kernel
theorem ml_29 : x_ml 29 = 2 := by decide +kernel
theorem cy_29 : x_cy 29 = 3 := by decide +kernel
theorem rt_29 : x_rt 29 = none := by decide +kernel
theorem na_30 : x_na 30 = 1 := by decide +kernel
theorem ml_30 : x_ml 30 = 1 := by decide +kernel
theorem cy_30 : x_cy 30 = 3 := by decide +kernel
theorem rt_30 : x_rt 30 = none := by decide +kernel
theorem na_31 : x_na 31 = 1 := by decide +kernel
theorem ml_31 : x_ml 31 = 1 := by decide +kernel
theorem cy_31 : x_cy 31 = 3 := by decide +kernel
theorem rt_31 : x_rt 31 = none := by decide +kernel
theorem na_32 : x_na 32 = 2 := by decide +kernel
theorem ml_32 : x_ml 32 = 2 := by decide +kernel
theorem cy_32 : x_cy 32 = 3 := by decide +kernel
theorem rt_32 : x_rt 32 = some .int := by decide +kernel
theorem na_33 : x_na 33 = 1 := by decide +kernel
theorem ml_33 : x_ml 33 = 1 := by decide +kernel
theorem cy_33 : x_cy 33 = 3 := by decide +kernel
theorem rt_33 : x_rt 33 = some .boolean := by decide +kernel
theorem na_34 : x_na 34 = 1 := by decide +kernel
theorem ml_34 : x_ml 34 = 1 := by decide +kernel
theorem cy_34 : x_cy 34 = 3 := by decide +kernel
theorem rt_34 : x_rt 34 = some .boolean := by decide +kernel
theorem na_35 : x_na 35 = 1 := by decide +kernel
theorem ml_35 : x_ml 35 = 1 := by decide +kernel
theorem cy_35 : x_cy 35 = 3 := by decide +kernel
theorem rt_35 : x_rt 35 = none := by decide +kernel
theorem na_36 : x_na 36 = 1 := by decide +kernel
theorem ml_36 : x_ml 36 = 1 := by decide +kernel
theorem cy_36 : x_cy 36 = 3 := by decide +kernel
theorem rt_36 : x_rt 36 = some .boolean := by decide +kernel
theorem na_37 : x_na 37 = 1 := by decide +kernel
theorem ml_37 : x_ml 37 = 1 := by decide +kernel
theorem cy_37 : x_cy 37 = 3 := by decide +kernel
theorem rt_37 : x_rt 37 = none := by decide +kernel
theorem na_38 : x_na 38 = 2 := by decide +kernel
theorem ml_38 : x_ml 38 = 3 := by decide +kernel
theorem cy_38 : x_cy 38 = 3 := by decide +kernel
theorem rt_38 : x_rt 38 = some .boolean := by decide +kernel
theorem na_39 : x_na 39 = 1 := by decide +kernel
theorem ml_39 : x_ml 39 = 4 := by decide +kernel
theorem cy_39 : x_cy 39 = 3 := by decide +kernel
theorem rt_39 : x_rt 39 = some .int := by decide +kernel
theorem na_40 : x_na 40 = 1 := by decide +kernel
theorem ml_40 : x_ml 40 = 1 := by decide +kernel
theorem cy_40 : x_cy 40 = 4 := by decide +kernel
theorem rt_40 : x_rt 40 = none := by decide +kernel
theorem na_41 : x_na 41 = 2 := by decide +kernel
theorem ml_41 : x_ml 41 = 2 := by decide +kernel
theorem cy_41 : x_cy 41 = 4 := by decide +kernel
theorem rt_41 : x_rt 41 = none := by decide +kernel
theorem na_42 : x_na 42 = 1 := by decide +kernel
theorem ml_42 : x_ml 42 = 2 := by decide +kernel
theorem cy_42 : x_cy 42 = 5 := by decide +kernel
theorem rt_42 : x_rt 42 = none := by decide +kernel
theorem na_43 : x_na 43 = 4 := by decide +kernel
theorem ml_43 : x_ml 43 = 4 := by decide +kernel
theorem cy_43 : x_cy 43 = 5 := by decide +kernel
theorem rt_43 : x_rt 43 = some .int := by decide +kernel
theorem na_44 : x_na 44 = 1 := by decide +kernel
theorem ml_44 : x_ml 44 = 1 := by decide +kernel
theorem cy_44 : x_cy 44 = 5 := by decide +kernel
theorem rt_44 : x_rt 44 = some .boolean := by decide +kernel
theorem na_45 : x_na 45 = 2 := by decide +kernel
theorem ml_45 : x_ml 45 = 2 := by decide +kernel
theorem cy_45 : x_cy 45 = 5 := by decide +kernel
theorem rt_45 : x_rt 45 = some .int := by decide +kernel
theorem na_46 : x_na 46 = 2 := by decide +kernel
theorem ml_46 : x_ml 46 = 2 := by decide +kernel
theorem cy_46 : x_cy 46 = 5 := by decide +kernel
theorem rt_46 : x_rt 46 = some .int := by decide +kernel
theorem na_47 : x_na 47 = 4 := by decide +kernel
theorem ml_47 : x_ml 47 = 5 := by decide +kernel
theorem cy_47 : x_cy 47 = 5 := by decide +kernel
theorem rt_47 : x_rt 47 = some .int := by decide +kernel
theorem na_48 : x_na 48 = 6 := by decide +kernel
theorem ml_48 : x_ml 48 = 8 := by decide +kernel
theorem cy_48 : x_cy 48 = 5 := by decide +kernel
theorem rt_48 : x_rt 48 = some .int := by decide +kernel
theorem na_49 : x_na 49 = 2 := by decide +kernel
theorem ml_49 : x_ml 49 = 3 := by decide +kernel
theorem cy_49 : x_cy 49 = 5 := by decide +kernel
theorem rt_49 : x_rt 49 = some .int := by decide +kernel
theorem na_50 : x_na 50 = 3 := by decide +kernel
theorem ml_50 : x_ml 50 = 5 := by decide +kernel
theorem cy_50 : x_cy 50 = 5 := by decide +kernel
theorem rt_50 : x_rt 50 = some .int := by decide +kernel
theorem na_51 : x_na 51 = 1 := by decide +kernel
theorem ml_51 : x_ml 51 = 3 := by decide +kernel
theorem cy_51 : x_cy 51 = 5 := by decide +kernel
theorem rt_51 : x_rt 51 = some .int := by decide +kernel
theorem na_52 : x_na 52 = 2 := by decide +kernel
theorem ml_52 : x_ml 52 = 4 := by decide +kernel
theorem cy_52 : x_cy 52 = 5 := by decide +kernel
theorem rt_52 : x_rt 52 = some .int := by decide +kernel
theorem na_53 : x_na 53 = 2 := by decide +kernel
theorem ml_53 : x_ml 53 = 4 := by decide +kernel
theorem cy_53 : x_cy 53 = 5 := by decide +kernel
theorem rt_53 : x_rt 53 = some .int := by decide +kernel
theorem na_54 : x_na 54 = 2 := by decide +kernel
theorem ml_54 : x_ml 54 = 2 := by decide +kernel
theorem cy_54 : x_cy 54 = 5 := by decide +kernel
theorem rt_54 : x_rt 54 = some .int := by decide +kernel
theorem na_55 : x_na 55 = 1 := by decide +kernel
theorem ml_55 : x_ml 55 = 1 := by decide +kernel
theorem cy_55 : x_cy 55 = 5 := by decide +kernel
theorem rt_55 : x_rt 55 = some .int := by decide +kernel
theorem na_56 : x_na 56 = 2 := by decide +kernel
theorem ml_56 : x_ml 56 = 4 := by decide +kernel
theorem cy_56 : x_cy 56 = 5 := by decide +kernel
theorem rt_56 : x_rt 56 = some .int := by decide +kernel
theorem na_57 : x_na 57 = 1 := by decide +kernel
theorem ml_57 : x_ml 57 = 1 := by decide +kernel
theorem cy_57 : x_cy 57 = 5 := by decide +kernel
theorem rt_57 : x_rt 57 = some .int := by decide +kernel
theorem na_58 : x_na 58 = 3 := by decide +kernel
theorem ml_58 : x_ml 58 = 3 := by decide +kernel
theorem cy_58 : x_cy 58 = 5 := by decide +kernel
theorem rt_58 : x_rt 58 = some .int := by decide +kernel
theorem na_59 : x_na 59 = 3 := by decide +kernel
theorem ml_59 : x_ml 59 = 3 := by decide +kernel
theorem cy_59 : x_cy 59 = 5 := by decide +kernel
theorem rt_59 : x_rt 59 = some .boolean := by decide +kernel
theorem na_60 : x_na 60 = 2 := by decide +kernel
theorem ml_60 : x_ml 60 = 2 := by decide +kernel
theorem cy_60 : x_cy 60 = 5 := by decide +kernel
theorem rt_60 : x_rt 60 = some .boolean := by decide +kernel
theorem na_61 : x_na 61 = 2 := by decide +kernel
theorem ml_61 : x_ml 61 = 2 := by decide +kernel
theorem cy_61 : x_cy 61 = 5 := by decide +kernel
theorem rt_61 : x_rt 61 = some .int := by decide +kernel
theorem na_62 : x_na 62 = 1 := by decide +kernel
theorem ml_62 : x_ml 62 = 1 := by decide +kernel
theorem cy_62 : x_cy 62 = 5 := by decide +kernel
theorem rt_62 : x_rt 62 = some .boolean := by decide +kernel
theorem na_63 : x_na 63 = 3 := by decide +kernel
theorem ml_63 : x_ml 63 = 3 := by decide +kernel
theorem cy_63 : x_cy 63 = 5 := by decide +kernel
theorem rt_63 : x_rt 63 = some .int := by decide +kernel
theorem na_64 : x_na 64 = 4 := by decide +kernel
theorem ml_64 : x_ml 64 = 6 := by decide +kernel
theorem cy_64 : x_cy 64 = 5 := by decide +kernel
theorem rt_64 : x_rt 64 = some .int := by decide +kernel
theorem na_65 : x_na 65 = 4 := by decide +kernel
theorem ml_65 : x_ml 65 = 6 := by decide +kernel
theorem cy_65 : x_cy 65 = 5 := by decide +kernel
theorem rt_65 : x_rt 65 = some .boolean := by decide +kernel
theorem na_66 : x_na 66 = 4 := by decide +kernel
theorem ml_66 : x_ml 66 = 6 := by decide +kernel
theorem cy_66 : x_cy 66 = 5 := by decide +kernel
theorem rt_66 : x_rt 66 = some .boolean := by decide +kernel
theorem na_67 : x_na 67 = 3 := by decide +kernel
theorem ml_67 : x_ml 67 = 6 := by decide +kernel
theorem cy_67 : x_cy 67 = 5 := by decide +kernel
theorem rt_67 : x_rt 67 = some .int := by decide +kernel
theorem na_68 : x_na 68 = 2 := by decide +kernel
theorem ml_68 : x_ml 68 = 5 := by decide +kernel
theorem cy_68 : x_cy 68 = 5 := by decide +kernel
theorem rt_68 : x_rt 68 = none := by decide +kernel
theorem na_69 : x_na 69 = 2 := by decide +kernel
theorem ml_69 : x_ml 69 = 4 := by decide +kernel
theorem cy_69 : x_cy 69 = 5 := by decide +kernel
theorem rt_69 : x_rt 69 = some .int := by decide +kernel
theorem na_70 : x_na 70 = 2 := by decide +kernel
theorem ml_70 : x_ml 70 = 2 := by decide +kernel
theorem cy_70 : x_cy 70 = 5 := by decide +kernel
theorem rt_70 : x_rt 70 = some .int := by decide +kernel
theorem na_71 : x_na 71 = 2 := by decide +kernel
theorem ml_71 : x_ml 71 = 4 := by decide +kernel
theorem cy_71 : x_cy 71 = 5 := by decide +kernel
theorem rt_71 : x_rt 71 = some .int := by decide +kernel
theorem na_72 : x_na 72 = 4 := by decide +kernel
theorem ml_72 : x_ml 72 = 13 := by decide +kernel
theorem cy_72 : x_cy 72 = 5 := by decide +kernel
theorem rt_72 : x_rt 72 = some .int := by decide +kernel
theorem na_73 : x_na 73 = 4 := by decide +kernel
theorem ml_73 : x_ml 73 = 10 := by decide +kernel
theorem cy_73 : x_cy 73 = 5 := by decide +kernel
theorem rt_73 : x_rt 73 = some .int := by decide +kernel
theorem na_74 : x_na 74 = 3 := by decide +kernel
theorem ml_74 : x_ml 74 = 6 := by decide +kernel
theorem cy_74 : x_cy 74 = 5 := by decide +kernel
theorem rt_74 : x_rt 74 = some .int := by decide +kernel
theorem na_75 : x_na 75 = 2 := by decide +kernel
theorem ml_75 : x_ml 75 = 6 := by decide +kernel
theorem cy_75 : x_cy 75 = 5 := by decide +kernel
theorem rt_75 : x_rt 75 = some .int := by decide +kernel
theorem na_76 : x_na 76 = 3 := by decide +kernel
theorem ml_76 : x_ml 76 = 4 := by decide +kernel
theorem cy_76 : x_cy 76 = 5 := by decide +kernel
theorem rt_76 : x_rt 76 = some .int := by decide +kernel
theorem na_77 : x_na 77 = 7 := by decide +kernel
theorem ml_77 : x_ml 77 = 10 := by decide +kernel
theorem cy_77 : x_cy 77 = 5 := by decide +kernel
theorem rt_77 : x_rt 77 = some .boolean := by decide +kernel
theorem na_78 : x_na 78 = 2 := by decide +kernel
theorem ml_78 : x_ml 78 = 6 := by decide +kernel
theorem cy_78 : x_cy 78 = 5 := by decide +kernel
theorem rt_78 : x_rt 78 = some .int := by decide +kernel
theorem na_79 : x_na 79 = 4 := by decide +kernel
theorem ml_79 : x_ml 79 = 7 := by decide +kernel
theorem cy_79 : x_cy 79 = 5 := by decide +kernel
theorem rt_79 : x_rt 79 = some .boolean := by decide +kernel
theorem na_80 : x_na 80 = 3 := by decide +kernel
theorem ml_80 : x_ml 80 = 3 := by decide +kernel
theorem cy_80 : x_cy 80 = 5 := by decide +kernel
theorem rt_80 : x_rt 80 = some .int := by decide +kernel
theorem na_81 : x_na 81 = 2 := by decide +kernel
theorem ml_81 : x_ml 81 = 5 := by decide +kernel
theorem cy_81 : x_cy 81 = 5 := by decide +kernel
theorem rt_81 : x_rt 81 = some .int := by decide +kernel
theorem na_82 : x_na 82 = 2 := by decide +kernel
theorem ml_82 : x_ml 82 = 4 := by decide +kernel
theorem cy_82 : x_cy 82 = 5 := by decide +kernel
theorem rt_82 : x_rt 82 = some .int := by decide +kernel
theorem na_83 : x_na 83 = 4 := by decide +kernel
theorem ml_83 : x_ml 83 = 6 := by decide +kernel
theorem cy_83 : x_cy 83 = 5 := by decide +kernel
theorem rt_83 : x_rt 83 = some .int := by decide +kernel
theorem na_84 : x_na 84 = 4 := by decide +kernel
theorem ml_84 : x_ml 84 = 5 := by decide +kernel
theorem cy_84 : x_cy 84 = 5 := by decide +kernel
theorem rt_84 : x_rt 84 = some .int := by decide +kernel
theorem na_85 : x_na 85 = 2 := by decide +kernel
theorem ml_85 : x_ml 85 = 2 := by decide +kernel
theorem cy_85 : x_cy 85 = 5 := by decide +kernel
theorem rt_85 : x_rt 85 = some .int := by decide +kernel
theorem na_86 : x_na 86 = 2 := by decide +kernel
theorem ml_86 : x_ml 86 = 2 := by decide +kernel
theorem cy_86 : x_cy 86 = 5 := by decide +kernel
theorem rt_86 : x_rt 86 = some .int := by decide +kernel
theorem na_87 : x_na 87 = 2 := by decide +kernel
theorem ml_87 : x_ml 87 = 2 := by decide +kernel
theorem cy_87 : x_cy 87 = 5 := by decide +kernel
theorem rt_87 : x_rt 87 = some .int := by decide +kernel
theorem na_88 : x_na 88 = 2 := by decide +kernel
theorem ml_88 : x_ml 88 = 2 := by decide +kernel
theorem cy_88 : x_cy 88 = 5 := by decide +kernel
theorem rt_88 : x_rt 88 = some .int := by decide +kernel
theorem na_89 : x_na 89 = 3 := by decide +kernel
theorem ml_89 : x_ml 89 = 5 := by decide +kernel
theorem cy_89 : x_cy 89 = 5 := by decide +kernel
theorem rt_89 : x_rt 89 = some .boolean := by decide +kernel
theorem na_90 : x_na 90 = 3 := by decide +kernel
theorem ml_90 : x_ml 90 = 3 := by decide +kernel
theorem cy_90 : x_cy 90 = 5 := by decide +kernel
theorem rt_90 : x_rt 90 = some .int := by decide +kernel
theorem na_91 : x_na 91 = 3 := by decide +kernel
theorem ml_91 : x_ml 91 = 3 := by decide +kernel
theorem cy_91 : x_cy 91 = 5 := by decide +kernel
theorem rt_91 : x_rt 91 = some .int := by decide +kernel
theorem na_92 : x_na 92 = 3 := by decide +kernel
theorem ml_92 : x_ml 92 = 5 := by decide +kernel
theorem cy_92 : x_cy 92 = 5 := by decide +kernel
theorem rt_92 : x_rt 92 = some .int := by decide +kernel
theorem na_93 : x_na 93 = 5 := by decide +kernel
theorem ml_93 : x_ml 93 = 7 := by decide +kernel
theorem cy_93 : x_cy 93 = 5 := by decide +kernel
theorem rt_93 : x_rt 93 = some .int := by decide +kernel
theorem na_94 : x_na 94 = 2 := by decide +kernel
theorem ml_94 : x_ml 94 = 2 := by decide +kernel
theorem cy_94 : x_cy 94 = 5 := by decide +kernel
theorem rt_94 : x_rt 94 = some .int := by decide +kernel
theorem na_95 : x_na 95 = 2 := by decide +kernel
theorem ml_95 : x_ml 95 = 2 := by decide +kernel
theorem cy_95 : x_cy 95 = 5 := by decide +kernel
theorem rt_95 : x_rt 95 = some .int := by decide +kernel
theorem na_96 : x_na 96 = 1 := by decide +kernel
theorem ml_96 : x_ml 96 = 3 := by decide +kernel
theorem cy_96 : x_cy 96 = 5 := by decide +kernel
theorem rt_96 : x_rt 96 = some .int := by decide +kernel
theorem na_97 : x_na 97 = 1 := by decide +kernel
theorem ml_97 : x_ml 97 = 1 := by decide +kernel
theorem cy_97 : x_cy 97 = 5 := by decide +kernel
theorem rt_97 : x_rt 97 = some .int := by decide +kernel
theorem na_98 : x_na 98 = 1 := by decide +kernel
theorem ml_98 : x_ml 98 = 1 := by decide +kernel
theorem cy_98 : x_cy 98 = 6 := by decide +kernel
theorem rt_98 : x_rt 98 = none := by decide +kernel
theorem na_99 : x_na 99 = 4 := by decide +kernel
theorem ml_99 : x_ml 99 = 5 := by decide +kernel
theorem cy_99 : x_cy 99 = 6 := by decide +kernel
theorem rt_99 : x_rt 99 = some .int := by decide +kernel
theorem na_100 : x_na 100 = 1 := by decide +kernel
theorem ml_100 : x_ml 100 = 1 := by decide +kernel
theorem cy_100 : x_cy 100 = 6 := by decide +kernel
theorem rt_100 : x_rt 100 = some .boolean := by decide +kernel
theorem na_101 : x_na 101 = 3 := by decide +kernel
theorem ml_101 : x_ml 101 = 6 := by decide +kernel
theorem cy_101 : x_cy 101 = 6 := by decide +kernel
theorem rt_101 : x_rt 101 = some .boolean := by decide +kernel
theorem na_102 : x_na 102 = 2 := by decide +kernel
theorem ml_102 : x_ml 102 = 2 := by decide +kernel
theorem cy_102 : x_cy 102 = 6 := by decide +kernel
theorem rt_102 : x_rt 102 = some .int := by decide +kernel
theorem na_103 : x_na 103 = 2 := by decide +kernel
theorem ml_103 : x_ml 103 = 2 := by decide +kernel
theorem cy_103 : x_cy 103 = 6 := by decide +kernel
theorem rt_103 : x_rt 103 = some .int := by decide +kernel
theorem na_104 : x_na 104 = 4 := by decide +kernel
theorem ml_104 : x_ml 104 = 4 := by decide +kernel
theorem cy_104 : x_cy 104 = 6 := by decide +kernel
theorem rt_104 : x_rt 104 = some .int := by decide +kernel
theorem na_105 : x_na 105 = 6 := by decide +kernel
theorem ml_105 : x_ml 105 = 8 := by decide +kernel
theorem cy_105 : x_cy 105 = 6 := by decide +kernel
theorem rt_105 : x_rt 105 = some .int := by decide +kernel
theorem na_106 : x_na 106 = 4 := by decide +kernel
theorem ml_106 : x_ml 106 = 4 := by decide +kernel
theorem cy_106 : x_cy 106 = 6 := by decide +kernel
theorem rt_106 : x_rt 106 = some .boolean := by decide +kernel
theorem na_107 : x_na 107 = 2 := by decide +kernel
theorem ml_107 : x_ml 107 = 2 := by decide +kernel
theorem cy_107 : x_cy 107 = 6 := by decide +kernel
theorem rt_107 : x_rt 107 = some .int := by decide +kernel
theorem na_108 : x_na 108 = 3 := by decide +kernel
theorem ml_108 : x_ml 108 = 5 := by decide +kernel
theorem cy_108 : x_cy 108 = 6 := by decide +kernel
theorem rt_108 : x_rt 108 = some .int := by decide +kernel
theorem na_109 : x_na 109 = 1 := by decide +kernel
theorem ml_109 : x_ml 109 = 4 := by decide +kernel
theorem cy_109 : x_cy 109 = 6 := by decide +kernel
theorem rt_109 : x_rt 109 = some .int := by decide +kernel
theorem na_110 : x_na 110 = 1 := by decide +kernel
theorem ml_110 : x_ml 110 = 1 := by decide +kernel
theorem cy_110 : x_cy 110 = 6 := by decide +kernel
theorem rt_110 : x_rt 110 = some .boolean := by decide +kernel
theorem na_111 : x_na 111 = 1 := by decide +kernel
theorem ml_111 : x_ml 111 = 1 := by decide +kernel
theorem cy_111 : x_cy 111 = 6 := by decide +kernel
theorem rt_111 : x_rt 111 = none := by decide +kernel
theorem na_112 : x_na 112 = 1 := by decide +kernel
theorem ml_112 : x_ml 112 = 1 := by decide +kernel
theorem cy_112 : x_cy 112 = 6 := by decide +kernel
theorem rt_112 : x_rt 112 = some .int := by decide +kernel
theorem na_113 : x_na 113 = 1 := by decide +kernel
theorem ml_113 : x_ml 113 = 3 := by decide +kernel
theorem cy_113 : x_cy 113 = 6 := by decide +kernel
theorem rt_113 : x_rt 113 = some .boolean := by decide +kernel
theorem na_114 : x_na 114 = 3 := by decide +kernel
theorem ml_114 : x_ml 114 = 5 := by decide +kernel
theorem cy_114 : x_cy 114 = 6 := by decide +kernel
theorem rt_114 : x_rt 114 = some .boolean := by decide +kernel
theorem na_115 : x_na 115 = 2 := by decide +kernel
theorem ml_115 : x_ml 115 = 4 := by decide +kernel
theorem cy_115 : x_cy 115 = 6 := by decide +kernel
theorem rt_115 : x_rt 115 = some .int := by decide +kernel
theorem na_116 : x_na 116 = 1 := by decide +kernel
theorem ml_116 : x_ml 116 = 1 := by decide +kernel
theorem cy_116 : x_cy 116 = 6 := by decide +kernel
theorem rt_116 : x_rt 116 = some .boolean := by decide +kernel
theorem na_117 : x_na 117 = 1 := by decide +kernel
theorem ml_117 : x_ml 117 = 1 := by decide +kernel
theorem cy_117 : x_cy 117 = 6 := by decide +kernel
theorem rt_117 : x_rt 117 = some .boolean := by decide +kernel
theorem na_118 : x_na 118 = 1 := by decide +kernel
theorem ml_118 : x_ml 118 = 2 := by decide +kernel
theorem cy_118 : x_cy 118 = 6 := by decide +kernel
theorem rt_118 : x_rt 118 = some .boolean := by decide +kernel
theorem na_119 : x_na 119 = 1 := by decide +kernel
theorem ml_119 : x_ml 119 = 4 := by decide +kernel
theorem cy_119 : x_cy 119 = 6 := by decide +kernel
theorem rt_119 : x_rt 119 = some .boolean := by decide +kernel
theorem na_120 : x_na 120 = 1 := by decide +kernel
theorem ml_120 : x_ml 120 = 2 := by decide +kernel
theorem cy_120 : x_cy 120 = 6 := by decide +kernel
theorem rt_120 : x_rt 120 = none := by decide +kernel
theorem na_121 : x_na 121 = 2 := by decide +kernel
theorem ml_121 : x_ml 121 = 8 := by decide +kernel
theorem cy_121 : x_cy 121 = 6 := by decide +kernel
theorem rt_121 : x_rt 121 = some .int := by decide +kernel
theorem na_122 : x_na 122 = 2 := by decide +kernel
theorem ml_122 : x_ml 122 = 2 := by decide +kernel
theorem cy_122 : x_cy 122 = 6 := by decide +kernel
theorem rt_122 : x_rt 122 = some .boolean := by decide +kernel
theorem na_123 : x_na 123 = 1 := by decide +kernel
theorem ml_123 : x_ml 123 = 1 := by decide +kernel
theorem cy_123 : x_cy 123 = 6 := by decide +kernel
theorem rt_123 : x_rt 123 = some .int := by decide +kernel
theorem na_124 : x_na 124 = 3 := by decide +kernel
theorem ml_124 : x_ml 124 = 3 := by decide +kernel
theorem cy_124 : x_cy 124 = 6 := by decide +kernel
theorem rt_124 : x_rt 124 = some .int := by decide +kernel
theorem na_125 : x_na 125 = 2 := by decide +kernel
theorem ml_125 : x_ml 125 = 2 := by decide +kernel
theorem cy_125 : x_cy 125 = 6 := by decide +kernel
theorem rt_125 : x_rt 125 = some .boolean := by decide +kernel
theorem na_126 : x_na 126 = 1 := by decide +kernel
theorem ml_126 : x_ml 126 = 1 := by decide +kernel
theorem cy_126 : x_cy 126 = 6 := by decide +kernel
theorem rt_126 : x_rt 126 = some .boolean := by decide +kernel
theorem na_127 : x_na 127 = 2 := by decide +kernel
theorem ml_127 : x_ml 127 = 2 := by decide +kernel
theorem cy_127 : x_cy 127 = 6 := by decide +kernel
theorem rt_127 : x_rt 127 = some .int := by decide +kernel
theorem na_128 : x_na 128 = 1 := by decide +kernel
theorem ml_128 : x_ml 128 = 1 := by decide +kernel
theorem cy_128 : x_cy 128 = 6 := by decide +kernel
theorem rt_128 : x_rt 128 = some .boolean := by decide +kernel
theorem na_129 : x_na 129 = 2 := by decide +kernel
theorem ml_129 : x_ml 129 = 4 := by decide +kernel
theorem cy_129 : x_cy 129 = 6 := by decide +kernel
theorem rt_129 : x_rt 129 = some .int := by decide +kernel
theorem na_130 : x_na 130 = 3 := by decide +kernel
theorem ml_130 : x_ml 130 = 3 := by decide +kernel
theorem cy_130 : x_cy 130 = 6 := by decide +kernel
theorem rt_130 : x_rt 130 = some .int := by decide +kernel
theorem na_131 : x_na 131 = 2 := by decide +kernel
theorem ml_131 : x_ml 131 = 2 := by decide +kernel
theorem cy_131 : x_cy 131 = 6 := by decide +kernel
theorem rt_131 : x_rt 131 = some .boolean := by decide +kernel
theorem na_132 : x_na 132 = 2 := by decide +kernel
theorem ml_132 : x_ml 132 = 5 := by decide +kernel
theorem cy_132 : x_cy 132 = 6 := by decide +kernel
theorem rt_132 : x_rt 132 = some .int := by decide +kernel
theorem na_133 : x_na 133 = 4 := by decide +kernel
theorem ml_133 : x_ml 133 = 9 := by decide +kernel
theorem cy_133 : x_cy 133 = 6 := by decide +kernel
theorem rt_133 : x_rt 133 = some .int := by decide +kernel
theorem na_134 : x_na 134 = 3 := by decide +kernel
theorem ml_134 : x_ml 134 = 5 := by decide +kernel
theorem cy_134 : x_cy 134 = 6 := by decide +kernel
theorem rt_134 : x_rt 134 = some .int := by decide +kernel
theorem na_135 : x_na 135 = 3 := by decide +kernel
theorem ml_135 : x_ml 135 = 10 := by decide +kernel
theorem cy_135 : x_cy 135 = 6 := by decide +kernel
theorem rt_135 : x_rt 135 = some .int := by decide +kernel
theorem na_136 : x_na 136 = 1 := by decide +kernel
theorem ml_136 : x_ml 136 = 3 := by decide +kernel
theorem cy_136 : x_cy 136 = 6 := by decide +kernel
theorem rt_136 : x_rt 136 = some .int := by decide +kernel
theorem na_137 : x_na 137 = 2 := by decide +kernel
theorem ml_137 : x_ml 137 = 2 := by decide +kernel
theorem cy_137 : x_cy 137 = 6 := by decide +kernel
theorem rt_137 : x_rt 137 = some .int := by decide +kernel
theorem na_138 : x_na 138 = 1 := by decide +kernel
theorem ml_138 : x_ml 138 = 1 := by decide +kernel
theorem cy_138 : x_cy 138 = 6 := by decide +kernel
theorem rt_138 : x_rt 138 = some .boolean := by decide +kernel
theorem na_139 : x_na 139 = 2 := by decide +kernel
theorem ml_139 : x_ml 139 = 2 := by decide +kernel
theorem cy_139 : x_cy 139 = 6 := by decide +kernel
theorem rt_139 : x_rt 139 = some .int := by decide +kernel
theorem na_140 : x_na 140 = 1 := by decide +kernel
theorem ml_140 : x_ml 140 = 4 := by decide +kernel
theorem cy_140 : x_cy 140 = 6 := by decide +kernel
theorem rt_140 : x_rt 140 = none := by decide +kernel
theorem na_141 : x_na 141 = 4 := by decide +kernel
theorem ml_141 : x_ml 141 = 4 := by decide +kernel
theorem cy_141 : x_cy 141 = 6 := by decide +kernel
theorem rt_141 : x_rt 141 = none := by decide +kernel
theorem na_142 : x_na 142 = 2 := by decide +kernel
theorem ml_142 : x_ml 142 = 5 := by decide +kernel
theorem cy_142 : x_cy 142 = 6 := by decide +kernel
theorem rt_142 : x_rt 142 = some .boolean := by decide +kernel
theorem na_143 : x_na 143 = 4 := by decide +kernel
theorem ml_143 : x_ml 143 = 12 := by decide +kernel
theorem cy_143 : x_cy 143 = 6 := by decide +kernel
theorem rt_143 : x_rt 143 = some .int := by decide +kernel
theorem na_144 : x_na 144 = 2 := by decide +kernel
theorem ml_144 : x_ml 144 = 5 := by decide +kernel
theorem cy_144 : x_cy 144 = 6 := by decide +kernel
theorem rt_144 : x_rt 144 = some .int := by decide +kernel
theorem na_145 : x_na 145 = 3 := by decide +kernel
theorem ml_145 : x_ml 145 = 4 := by decide +kernel
theorem cy_145 : x_cy 145 = 6 := by decide +kernel
theorem rt_145 : x_rt 145 = some .int := by decide +kernel
theorem na_146 : x_na 146 = 2 := by decide +kernel
theorem ml_146 : x_ml 146 = 7 := by decide +kernel
theorem cy_146 : x_cy 146 = 6 := by decide +kernel
theorem rt_146 : x_rt 146 = some .int := by decide +kernel
theorem na_147 : x_na 147 = 1 := by decide +kernel
theorem ml_147 : x_ml 147 = 1 := by decide +kernel
theorem cy_147 : x_cy 147 = 6 := by decide +kernel
theorem rt_147 : x_rt 147 = some .int := by decide +kernel
theorem na_148 : x_na 148 = 2 := by decide +kernel
theorem ml_148 : x_ml 148 = 6 := by decide +kernel
theorem cy_148 : x_cy 148 = 6 := by decide +kernel
theorem rt_148 : x_rt 148 = some .int := by decide +kernel
theorem na_149 : x_na 149 = 4 := by decide +kernel
theorem ml_149 : x_ml 149 = 6 := by decide +kernel
theorem cy_149 : x_cy 149 = 6 := by decide +kernel
theorem rt_149 : x_rt 149 = some .boolean := by decide +kernel
theorem na_150 : x_na 150 = 3 := by decide +kernel
theorem ml_150 : x_ml 150 = 6 := by decide +kernel
theorem cy_150 : x_cy 150 = 6 := by decide +kernel
theorem rt_150 : x_rt 150 = some .int := by decide +kernel
theorem na_151 : x_na 151 = 2 := by decide +kernel
theorem ml_151 : x_ml 151 = 6 := by decide +kernel
theorem cy_151 : x_cy 151 = 6 := by decide +kernel
theorem rt_151 : x_rt 151 = some .int := by decide +kernel
theorem na_152 : x_na 152 = 2 := by decide +kernel
theorem ml_152 : x_ml 152 = 3 := by decide +kernel
theorem cy_152 : x_cy 152 = 6 := by decide +kernel
theorem rt_152 : x_rt 152 = some .int := by decide +kernel
theorem na_153 : x_na 153 = 3 := by decide +kernel
theorem ml_153 : x_ml 153 = 5 := by decide +kernel
theorem cy_153 : x_cy 153 = 6 := by decide +kernel
theorem rt_153 : x_rt 153 = some .boolean := by decide +kernel
theorem na_154 : x_na 154 = 4 := by decide +kernel
theorem ml_154 : x_ml 154 = 6 := by decide +kernel
theorem cy_154 : x_cy 154 = 6 := by decide +kernel
theorem rt_154 : x_rt 154 = some .int := by decide +kernel
theorem na_155 : x_na 155 = 4 := by decide +kernel
theorem ml_155 : x_ml 155 = 5 := by decide +kernel
theorem cy_155 : x_cy 155 = 6 := by decide +kernel
theorem rt_155 : x_rt 155 = some .int := by decide +kernel
theorem na_156 : x_na 156 = 2 := by decide +kernel
theorem ml_156 : x_ml 156 = 2 := by decide +kernel
theorem cy_156 : x_cy 156 = 6 := by decide +kernel
theorem rt_156 : x_rt 156 = some .int := by decide +kernel
theorem na_157 : x_na 157 = 3 := by decide +kernel
theorem ml_157 : x_ml 157 = 4 := by decide +kernel
theorem cy_157 : x_cy 157 = 6 := by decide +kernel
theorem rt_157 : x_rt 157 = none := by decide +kernel
theorem na_158 : x_na 158 = 2 := by decide +kernel
theorem ml_158 : x_ml 158 = 2 := by decide +kernel
theorem cy_158 : x_cy 158 = 6 := by decide +kernel
theorem rt_158 : x_rt 158 = some .int := by decide +kernel
theorem na_159 : x_na 159 = 2 := by decide +kernel
theorem ml_159 : x_ml 159 = 2 := by decide +kernel
theorem cy_159 : x_cy 159 = 6 := by decide +kernel
theorem rt_159 : x_rt 159 = some .int := by decide +kernel
theorem na_160 : x_na 160 = 2 := by decide +kernel
theorem ml_160 : x_ml 160 = 4 := by decide +kernel
theorem cy_160 : x_cy 160 = 6 := by decide +kernel
theorem rt_160 : x_rt 160 = some .int := by decide +kernel
theorem na_161 : x_na 161 = 3 := by decide +kernel
theorem ml_161 : x_ml 161 = 5 := by decide +kernel
theorem cy_161 : x_cy 161 = 6 := by decide +kernel
theorem rt_161 : x_rt 161 = some .int := by decide +kernel
theorem na_162 : x_na 162 = 3 := by decide +kernel
theorem ml_162 : x_ml 162 = 3 := by decide +kernel
theorem cy_162 : x_cy 162 = 6 := by decide +kernel
theorem rt_162 : x_rt 162 = some .int := by decide +kernel
theorem na_163 : x_na 163 = 2 := by decide +kernel
theorem ml_163 : x_ml 163 = 3 := by decide +kernel
theorem cy_163 : x_cy 163 = 6 := by decide +kernel
theorem rt_163 : x_rt 163 = some .int := by decide +kernel
theorem na_164 : x_na 164 = 2 := by decide +kernel
theorem ml_164 : x_ml 164 = 2 := by decide +kernel
theorem cy_164 : x_cy 164 = 6 := by decide +kernel
theorem rt_164 : x_rt 164 = none := by decide +kernel
theorem na_165 : x_na 165 = 2 := by decide +kernel
theorem ml_165 : x_ml 165 = 3 := by decide +kernel
theorem cy_165 : x_cy 165 = 6 := by decide +kernel
theorem rt_165 : x_rt 165 = some .int := by decide +kernel
theorem na_166 : x_na 166 = 2 := by decide +kernel
theorem ml_166 : x_ml 166 = 2 := by decide +kernel
theorem cy_166 : x_cy 166 = 6 := by decide +kernel
theorem rt_166 : x_rt 166 = some .int := by decide +kernel
theorem na_167 : x_na 167 = 2 := by decide +kernel
theorem ml_167 : x_ml 167 = 4 := by decide +kernel
theorem cy_167 : x_cy 167 = 6 := by decide +kernel
theorem rt_167 : x_rt 167 = some .int := by decide +kernel
theorem na_168 : x_na 168 = 2 := by decide +kernel
theorem ml_168 : x_ml 168 = 3 := by decide +kernel
theorem cy_168 : x_cy 168 = 6 := by decide +kernel
theorem rt_168 : x_rt 168 = some .int := by decide +kernel
theorem na_169 : x_na 169 = 2 := by decide +kernel
theorem ml_169 : x_ml 169 = 2 := by decide +kernel
theorem cy_169 : x_cy 169 = 6 := by decide +kernel
theorem rt_169 : x_rt 169 = some .int := by decide +kernel
theorem na_170 : x_na 170 = 2 := by decide +kernel
theorem ml_170 : x_ml 170 = 2 := by decide +kernel
theorem cy_170 : x_cy 170 = 6 := by decide +kernel
theorem rt_170 : x_rt 170 = some .int := by decide +kernel
theorem na_171 : x_na 171 = 2 := by decide +kernel
theorem ml_171 : x_ml 171 = 4 := by decide +kernel
theorem cy_171 : x_cy 171 = 6 := by decide +kernel
theorem rt_171 : x_rt 171 = some .int := by decide +kernel
theorem na_172 : x_na 172 = 1 := by decide +kernel
theorem ml_172 : x_ml 172 = 1 := by decide +kernel
theorem cy_172 : x_cy 172 = 6 := by decide +kernel
theorem rt_172 : x_rt 172 = some .int := by decide +kernel
theorem na_173 : x_na 173 = 1 := by decide +kernel
theorem ml_173 : x_ml 173 = 1 := by decide +kernel
theorem cy_173 : x_cy 173 = 8 := by decide +kernel
theorem rt_173 : x_rt 173 = some .int := by decide +kernel
theorem na_174 : x_na 174 = 1 := by decide +kernel
theorem ml_174 : x_ml 174 = 1 := by decide +kernel
theorem cy_174 : x_cy 174 = 8 := by decide +kernel
theorem rt_174 : x_rt 174 = some .byte := by decide +kernel
theorem na_175 : x_na 175 = 2 := by decide +kernel
theorem ml_175 : x_ml 175 = 2 := by decide +kernel
theorem cy_175 : x_cy 175 = 8 := by decide +kernel
theorem rt_175 : x_rt 175 = some .char := by decide +kernel
theorem na_176 : x_na 176 = 1 := by decide +kernel
theorem ml_176 : x_ml 176 = 1 := by decide +kernel
theorem cy_176 : x_cy 176 = 8 := by decide +kernel
theorem rt_176 : x_rt 176 = some .boolean := by decide +kernel
theorem na_177 : x_na 177 = 2 := by decide +kernel
theorem ml_177 : x_ml 177 = 2 := by decide +kernel
theorem cy_177 : x_cy 177 = 8 := by decide +kernel
theorem rt_177 : x_rt 177 = none := by decide +kernel
theorem na_178 : x_na 178 = 2 := by decide +kernel
theorem ml_178 : x_ml 178 = 2 := by decide +kernel
theorem cy_178 : x_cy 178 = 9 := by decide +kernel
theorem rt_178 : x_rt 178 = some .char := by decide +kernel
theorem na_179 : x_na 179 = 1 := by decide +kernel
theorem ml_179 : x_ml 179 = 1 := by decide +kernel
theorem cy_179 : x_cy 179 = 10 := by decide +kernel
theorem rt_179 : x_rt 179 = some .int := by decide +kernel
theorem na_180 : x_na 180 = 1 := by decide +kernel
theorem ml_180 : x_ml 180 = 1 := by decide +kernel
theorem cy_180 : x_cy 180 = 11 := by decide +kernel
theorem rt_180 : x_rt 180 = some .int := by decide +kernel
theorem na_181 : x_na 181 = 2 := by decide +kernel
theorem ml_181 : x_ml 181 = 2 := by decide +kernel
theorem cy_181 : x_cy 181 = 11 := by decide +kernel
theorem rt_181 : x_rt 181 = some .int := by decide +kernel
theorem na_182 : x_na 182 = 2 := by decide +kernel
theorem ml_182 : x_ml 182 = 4 := by decide +kernel
theorem cy_182 : x_cy 182 = 12 := by decide +kernel
theorem rt_182 : x_rt 182 = none := by decide +kernel
theorem na_183 : x_na 183 = 3 := by decide +kernel
theorem ml_183 : x_ml 183 = 3 := by decide +kernel
theorem cy_183 : x_cy 183 = 13 := by decide +kernel
theorem rt_183 : x_rt 183 = some .int := by decide +kernel
theorem ht_0_0 {g : Nat} (h : x_tg g = 0) : x_tg (x_rr g 0) = 10 := (x_tg_r (j := 0) h (by decide) (by decide) (by decide)).2.1
theorem hn_0_0 {g : Nat} (h : x_tg g = 0) : x_ln (x_rr g 0) = 9 := (x_tg_r (j := 0) h (by decide) (by decide) (by decide)).2.2
theorem ht_0_1 {g : Nat} (h : x_tg g = 0) : x_tg (x_rr g 1) = 10 := (x_tg_r (j := 1) h (by decide) (by decide) (by decide)).2.1
theorem hn_0_1 {g : Nat} (h : x_tg g = 0) : x_ln (x_rr g 1) = 112 := (x_tg_r (j := 1) h (by decide) (by decide) (by decide)).2.2
theorem ht_0_2 {g : Nat} (h : x_tg g = 0) : x_tg (x_rr g 2) = 10 := (x_tg_r (j := 2) h (by decide) (by decide) (by decide)).2.1
theorem hn_0_2 {g : Nat} (h : x_tg g = 0) : x_ln (x_rr g 2) = 2 := (x_tg_r (j := 2) h (by decide) (by decide) (by decide)).2.2
theorem ht_0_3 {g : Nat} (h : x_tg g = 0) : x_tg (x_rr g 3) = 10 := (x_tg_r (j := 3) h (by decide) (by decide) (by decide)).2.1
theorem hn_0_3 {g : Nat} (h : x_tg g = 0) : x_ln (x_rr g 3) = 2 := (x_tg_r (j := 3) h (by decide) (by decide) (by decide)).2.2
theorem ht_1_0 {g : Nat} (h : x_tg g = 1) : x_tg (x_rr g 0) = 10 := (x_tg_r (j := 0) h (by decide) (by decide) (by decide)).2.1
theorem hn_1_0 {g : Nat} (h : x_tg g = 1) : x_ln (x_rr g 0) = 4 := (x_tg_r (j := 0) h (by decide) (by decide) (by decide)).2.2
theorem ht_1_1 {g : Nat} (h : x_tg g = 1) : x_tg (x_rr g 1) = 10 := (x_tg_r (j := 1) h (by decide) (by decide) (by decide)).2.1
theorem hn_1_1 {g : Nat} (h : x_tg g = 1) : x_ln (x_rr g 1) = 2 := (x_tg_r (j := 1) h (by decide) (by decide) (by decide)).2.2
theorem ht_1_2 {g : Nat} (h : x_tg g = 1) : x_tg (x_rr g 2) = 10 := (x_tg_r (j := 2) h (by decide) (by decide) (by decide)).2.1
theorem hn_1_2 {g : Nat} (h : x_tg g = 1) : x_ln (x_rr g 2) = 16384 := (x_tg_r (j := 2) h (by decide) (by decide) (by decide)).2.2
theorem ht_2_0 {g : Nat} (h : x_tg g = 2) : x_tg (x_rr g 0) = 10 := (x_tg_r (j := 0) h (by decide) (by decide) (by decide)).2.1
theorem hn_2_0 {g : Nat} (h : x_tg g = 2) : x_ln (x_rr g 0) = 40 := (x_tg_r (j := 0) h (by decide) (by decide) (by decide)).2.2
theorem ht_3_0 {g : Nat} (h : x_tg g = 3) : x_tg (x_rr g 0) = 10 := (x_tg_r (j := 0) h (by decide) (by decide) (by decide)).2.1
theorem hn_3_0 {g : Nat} (h : x_tg g = 3) : x_ln (x_rr g 0) = 400 := (x_tg_r (j := 0) h (by decide) (by decide) (by decide)).2.2
theorem ht_4_0 {g : Nat} (h : x_tg g = 4) : x_tg (x_rr g 0) = 10 := (x_tg_r (j := 0) h (by decide) (by decide) (by decide)).2.1
theorem hn_4_0 {g : Nat} (h : x_tg g = 4) : x_ln (x_rr g 0) = 16 := (x_tg_r (j := 0) h (by decide) (by decide) (by decide)).2.2
theorem ht_5_0 {g : Nat} (h : x_tg g = 5) : x_tg (x_rr g 0) = 11 := (x_tg_r (j := 0) h (by decide) (by decide) (by decide)).2.1
theorem hn_5_0 {g : Nat} (h : x_tg g = 5) : x_ln (x_rr g 0) = 8 := (x_tg_r (j := 0) h (by decide) (by decide) (by decide)).2.2
theorem ht_5_1 {g : Nat} (h : x_tg g = 5) : x_tg (x_rr g 1) = 3 := (x_tg_r (j := 1) h (by decide) (by decide) (by decide)).2.1
theorem hn_5_1 {g : Nat} (h : x_tg g = 5) : x_ln (x_rr g 1) = 6 := (x_tg_r (j := 1) h (by decide) (by decide) (by decide)).2.2
theorem ht_5_2 {g : Nat} (h : x_tg g = 5) : x_tg (x_rr g 2) = 0 := (x_tg_r (j := 2) h (by decide) (by decide) (by decide)).2.1
theorem hn_5_2 {g : Nat} (h : x_tg g = 5) : x_ln (x_rr g 2) = 10 := (x_tg_r (j := 2) h (by decide) (by decide) (by decide)).2.2
theorem ht_5_3 {g : Nat} (h : x_tg g = 5) : x_tg (x_rr g 3) = 0 := (x_tg_r (j := 3) h (by decide) (by decide) (by decide)).2.1
theorem hn_5_3 {g : Nat} (h : x_tg g = 5) : x_ln (x_rr g 3) = 10 := (x_tg_r (j := 3) h (by decide) (by decide) (by decide)).2.2
theorem ht_5_4 {g : Nat} (h : x_tg g = 5) : x_tg (x_rr g 4) = 12 := (x_tg_r (j := 4) h (by decide) (by decide) (by decide)).2.1
theorem hn_5_4 {g : Nat} (h : x_tg g = 5) : x_ln (x_rr g 4) = 2 := (x_tg_r (j := 4) h (by decide) (by decide) (by decide)).2.2
theorem ht_5_5 {g : Nat} (h : x_tg g = 5) : x_tg (x_rr g 5) = 1 := (x_tg_r (j := 5) h (by decide) (by decide) (by decide)).2.1
theorem hn_5_5 {g : Nat} (h : x_tg g = 5) : x_ln (x_rr g 5) = 5 := (x_tg_r (j := 5) h (by decide) (by decide) (by decide)).2.2
theorem ht_5_6 {g : Nat} (h : x_tg g = 5) : x_tg (x_rr g 6) = 10 := (x_tg_r (j := 6) h (by decide) (by decide) (by decide)).2.1
theorem hn_5_6 {g : Nat} (h : x_tg g = 5) : x_ln (x_rr g 6) = 3 := (x_tg_r (j := 6) h (by decide) (by decide) (by decide)).2.2
theorem ht_5_7 {g : Nat} (h : x_tg g = 5) : x_tg (x_rr g 7) = 4 := (x_tg_r (j := 7) h (by decide) (by decide) (by decide)).2.1
theorem hn_5_7 {g : Nat} (h : x_tg g = 5) : x_ln (x_rr g 7) = 2 := (x_tg_r (j := 7) h (by decide) (by decide) (by decide)).2.2
theorem ht_6_0 {g : Nat} (h : x_tg g = 6) : x_tg (x_rr g 0) = 10 := (x_tg_r (j := 0) h (by decide) (by decide) (by decide)).2.1
theorem hn_6_0 {g : Nat} (h : x_tg g = 6) : x_ln (x_rr g 0) = 99 := (x_tg_r (j := 0) h (by decide) (by decide) (by decide)).2.2
theorem ht_6_1 {g : Nat} (h : x_tg g = 6) : x_tg (x_rr g 1) = 10 := (x_tg_r (j := 1) h (by decide) (by decide) (by decide)).2.1
theorem hn_6_1 {g : Nat} (h : x_tg g = 6) : x_ln (x_rr g 1) = 400 := (x_tg_r (j := 1) h (by decide) (by decide) (by decide)).2.2
theorem ht_6_5 {g : Nat} (h : x_tg g = 6) : x_tg (x_rr g 5) = 10 := (x_tg_r (j := 5) h (by decide) (by decide) (by decide)).2.1
theorem hn_6_5 {g : Nat} (h : x_tg g = 6) : x_ln (x_rr g 5) = 8 := (x_tg_r (j := 5) h (by decide) (by decide) (by decide)).2.2
theorem ht_6_6 {g : Nat} (h : x_tg g = 6) : x_tg (x_rr g 6) = 10 := (x_tg_r (j := 6) h (by decide) (by decide) (by decide)).2.1
theorem hn_6_6 {g : Nat} (h : x_tg g = 6) : x_ln (x_rr g 6) = 8 := (x_tg_r (j := 6) h (by decide) (by decide) (by decide)).2.2
theorem ht_6_7 {g : Nat} (h : x_tg g = 6) : x_tg (x_rr g 7) = 10 := (x_tg_r (j := 7) h (by decide) (by decide) (by decide)).2.1
theorem hn_6_7 {g : Nat} (h : x_tg g = 6) : x_ln (x_rr g 7) = 320 := (x_tg_r (j := 7) h (by decide) (by decide) (by decide)).2.2
theorem ht_6_8 {g : Nat} (h : x_tg g = 6) : x_tg (x_rr g 8) = 10 := (x_tg_r (j := 8) h (by decide) (by decide) (by decide)).2.1
theorem hn_6_8 {g : Nat} (h : x_tg g = 6) : x_ln (x_rr g 8) = 16 := (x_tg_r (j := 8) h (by decide) (by decide) (by decide)).2.2
theorem ht_6_13 {g : Nat} (h : x_tg g = 6) : x_tg (x_rr g 13) = 10 := (x_tg_r (j := 13) h (by decide) (by decide) (by decide)).2.1
theorem hn_6_13 {g : Nat} (h : x_tg g = 6) : x_ln (x_rr g 13) = 9 := (x_tg_r (j := 13) h (by decide) (by decide) (by decide)).2.2
theorem ht_6_14 {g : Nat} (h : x_tg g = 6) : x_tg (x_rr g 14) = 10 := (x_tg_r (j := 14) h (by decide) (by decide) (by decide)).2.1
theorem hn_6_14 {g : Nat} (h : x_tg g = 6) : x_ln (x_rr g 14) = 14 := (x_tg_r (j := 14) h (by decide) (by decide) (by decide)).2.2
theorem ht_6_15 {g : Nat} (h : x_tg g = 6) : x_tg (x_rr g 15) = 10 := (x_tg_r (j := 15) h (by decide) (by decide) (by decide)).2.1
theorem hn_6_15 {g : Nat} (h : x_tg g = 6) : x_ln (x_rr g 15) = 14 := (x_tg_r (j := 15) h (by decide) (by decide) (by decide)).2.2
theorem ht_6_17 {g : Nat} (h : x_tg g = 6) : x_tg (x_rr g 17) = 10 := (x_tg_r (j := 17) h (by decide) (by decide) (by decide)).2.1
theorem hn_6_17 {g : Nat} (h : x_tg g = 6) : x_ln (x_rr g 17) = 112 := (x_tg_r (j := 17) h (by decide) (by decide) (by decide)).2.2
theorem ht_6_18 {g : Nat} (h : x_tg g = 6) : x_tg (x_rr g 18) = 10 := (x_tg_r (j := 18) h (by decide) (by decide) (by decide)).2.1
theorem hn_6_18 {g : Nat} (h : x_tg g = 6) : x_ln (x_rr g 18) = 3 := (x_tg_r (j := 18) h (by decide) (by decide) (by decide)).2.2
theorem ht_6_19 {g : Nat} (h : x_tg g = 6) : x_tg (x_rr g 19) = 10 := (x_tg_r (j := 19) h (by decide) (by decide) (by decide)).2.1
theorem hn_6_19 {g : Nat} (h : x_tg g = 6) : x_ln (x_rr g 19) = 6 := (x_tg_r (j := 19) h (by decide) (by decide) (by decide)).2.2
theorem ht_6_20 {g : Nat} (h : x_tg g = 6) : x_tg (x_rr g 20) = 10 := (x_tg_r (j := 20) h (by decide) (by decide) (by decide)).2.1
theorem hn_6_20 {g : Nat} (h : x_tg g = 6) : x_ln (x_rr g 20) = 6 := (x_tg_r (j := 20) h (by decide) (by decide) (by decide)).2.2
theorem ht_6_21 {g : Nat} (h : x_tg g = 6) : x_tg (x_rr g 21) = 10 := (x_tg_r (j := 21) h (by decide) (by decide) (by decide)).2.1
theorem hn_6_21 {g : Nat} (h : x_tg g = 6) : x_ln (x_rr g 21) = 12 := (x_tg_r (j := 21) h (by decide) (by decide) (by decide)).2.2
theorem ht_6_22 {g : Nat} (h : x_tg g = 6) : x_tg (x_rr g 22) = 10 := (x_tg_r (j := 22) h (by decide) (by decide) (by decide)).2.1
theorem hn_6_22 {g : Nat} (h : x_tg g = 6) : x_ln (x_rr g 22) = 6 := (x_tg_r (j := 22) h (by decide) (by decide) (by decide)).2.2
theorem ht_6_23 {g : Nat} (h : x_tg g = 6) : x_tg (x_rr g 23) = 10 := (x_tg_r (j := 23) h (by decide) (by decide) (by decide)).2.1
theorem hn_6_23 {g : Nat} (h : x_tg g = 6) : x_ln (x_rr g 23) = 6 := (x_tg_r (j := 23) h (by decide) (by decide) (by decide)).2.2
theorem ht_6_24 {g : Nat} (h : x_tg g = 6) : x_tg (x_rr g 24) = 10 := (x_tg_r (j := 24) h (by decide) (by decide) (by decide)).2.1
theorem hn_6_24 {g : Nat} (h : x_tg g = 6) : x_ln (x_rr g 24) = 6 := (x_tg_r (j := 24) h (by decide) (by decide) (by decide)).2.2
theorem ht_6_26 {g : Nat} (h : x_tg g = 6) : x_tg (x_rr g 26) = 10 := (x_tg_r (j := 26) h (by decide) (by decide) (by decide)).2.1
theorem hn_6_26 {g : Nat} (h : x_tg g = 6) : x_ln (x_rr g 26) = 3 := (x_tg_r (j := 26) h (by decide) (by decide) (by decide)).2.2
