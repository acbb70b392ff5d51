theorem gi_1_0 : gF 1 0 = some (2, 1, 0, 0, 0, 0) := rfl
theorem gi_1_1 : gF 1 1 = some (40, 4, 0, 14, 0, 0) := rfl
theorem gi_1_11 : gF 1 11 = some (37, 15, 0, 0, 0, 0) := rfl
theorem gi_1_15 : gF 1 15 = some (79, 16, 0, 0, 0, 0) := rfl
theorem gi_1_4 : gF 1 4 = some (2, 5, 0, 0, 0, 0) := rfl
theorem gi_1_7 : gF 1 7 = some (47, 10, 0, 14, 0, 0) := rfl
theorem gi_101_12 : gF 101 12 = some (39, 15, 0, 17, 0, 0) := rfl
theorem gi_101_16 : gF 101 16 = some (79, 17, 0, 0, 0, 0) := rfl
theorem gi_101_4 : gF 101 4 = some (38, 7, 0, 15, 0, 0) := rfl
theorem gi_101_48 : gF 101 48 = some (79, 49, 0, 0, 0, 0) := rfl
theorem gi_102_0 : gF 102 0 = some (2, 1, 1, 0, 0, 0) := rfl
theorem gi_102_1 : gF 102 1 = some (74, 4, 143, 1, 0, 0) := rfl
theorem gi_102_12 : gF 102 12 = some (2, 13, 3, 0, 0, 0) := rfl
theorem gi_102_15 : gF 102 15 = some (49, 18, 0, 20, 0, 0) := rfl
theorem gi_102_19 : gF 102 19 = some (79, 20, 0, 0, 0, 0) := rfl
theorem gi_102_20 : gF 102 20 = some (7, 21, 0, 0, 0, 0) := rfl
theorem gi_102_21 : gF 102 21 = some (52, 24, 10, 11, 0, 0) := rfl
theorem gi_102_24 : gF 102 24 = some (2, 25, 1, 0, 0, 0) := rfl
theorem gi_102_25 : gF 102 25 = some (60, 26, 0, 0, 0, 0) := rfl
theorem gi_102_26 : gF 102 26 = some (5, 28, 4, 0, 0, 0) := rfl
theorem gi_102_28 : gF 102 28 = some (7, 30, 4, 0, 0, 0) := rfl
theorem gi_102_30 : gF 102 30 = some (73, 33, 62, 0, 0, 0) := rfl
theorem gi_102_33 : gF 102 33 = some (38, 36, 0, 38, 0, 0) := rfl
theorem gi_102_38 : gF 102 38 = some (7, 40, 4, 0, 0, 0) := rfl
theorem gi_102_4 : gF 102 4 = some (38, 7, 0, 18, 0, 0) := rfl
theorem gi_102_40 : gF 102 40 = some (73, 43, 64, 0, 0, 0) := rfl
theorem gi_102_43 : gF 102 43 = some (39, 46, 0, 49, 0, 0) := rfl
theorem gi_102_48 : gF 102 48 = some (79, 49, 0, 0, 0, 0) := rfl
theorem gi_102_7 : gF 102 7 = some (2, 8, 3, 0, 0, 0) := rfl
theorem gi_102_74 : gF 102 74 = some (38, 77, 0, 83, 0, 0) := rfl
theorem gi_102_83 : gF 102 83 = some (2, 85, 5, 0, 0, 0) := rfl
theorem gi_102_85 : gF 102 85 = some (79, 86, 0, 0, 0, 0) := rfl
theorem gi_102_9 : gF 102 9 = some (46, 12, 0, 18, 0, 0) := rfl
theorem gi_103_33 : gF 103 33 = some (79, 34, 0, 0, 0, 0) := rfl
theorem gi_103_75 : gF 103 75 = some (38, 78, 0, 96, 0, 0) := rfl
theorem gi_103_84 : gF 103 84 = some (38, 87, 0, 96, 0, 0) := rfl
theorem gi_103_93 : gF 103 93 = some (39, 96, 0, 98, 0, 0) := rfl
theorem gi_103_97 : gF 103 97 = some (79, 98, 0, 0, 0, 0) := rfl
theorem gi_104_0 : gF 104 0 = some (7, 1, 0, 0, 0, 0) := rfl
theorem gi_104_1 : gF 104 1 = some (52, 4, 10, 1, 0, 0) := rfl
theorem gi_104_12 : gF 104 12 = some (2, 13, 2, 0, 0, 0) := rfl
theorem gi_104_13 : gF 104 13 = some (2, 14, 3, 0, 0, 0) := rfl
theorem gi_104_14 : gF 104 14 = some (74, 17, 86, 2, 0, 0) := rfl
theorem gi_104_17 : gF 104 17 = some (39, 20, 0, 22, 0, 0) := rfl
theorem gi_104_21 : gF 104 21 = some (79, 22, 0, 0, 0, 0) := rfl
theorem gi_104_22 : gF 104 22 = some (7, 23, 0, 0, 0, 0) := rfl
theorem gi_104_23 : gF 104 23 = some (52, 26, 10, 1, 0, 0) := rfl
theorem gi_104_26 : gF 104 26 = some (2, 27, 1, 0, 0, 0) := rfl
theorem gi_104_27 : gF 104 27 = some (2, 28, 2, 0, 0, 0) := rfl
theorem gi_104_28 : gF 104 28 = some (73, 31, 90, 2, 0, 0) := rfl
theorem gi_104_31 : gF 104 31 = some (3, 33, 4, 0, 0, 0) := rfl
theorem gi_104_33 : gF 104 33 = some (2, 35, 4, 0, 0, 0) := rfl
theorem gi_104_35 : gF 104 35 = some (2, 36, 3, 0, 0, 0) := rfl
theorem gi_104_36 : gF 104 36 = some (44, 39, 0, 61, 0, 0) := rfl
theorem gi_104_39 : gF 104 39 = some (7, 40, 0, 0, 0, 0) := rfl
theorem gi_104_4 : gF 104 4 = some (2, 5, 1, 0, 0, 0) := rfl
theorem gi_104_40 : gF 104 40 = some (52, 43, 10, 9, 0, 0) := rfl
theorem gi_104_43 : gF 104 43 = some (2, 44, 1, 0, 0, 0) := rfl
theorem gi_104_44 : gF 104 44 = some (2, 45, 2, 0, 0, 0) := rfl
theorem gi_104_45 : gF 104 45 = some (2, 47, 4, 0, 0, 0) := rfl
theorem gi_104_47 : gF 104 47 = some (2, 48, 3, 0, 0, 0) := rfl
theorem gi_104_48 : gF 104 48 = some (73, 51, 14, 4, 0, 0) := rfl
theorem gi_104_5 : gF 104 5 = some (2, 6, 2, 0, 0, 0) := rfl
theorem gi_104_51 : gF 104 51 = some (7, 52, 0, 0, 0, 0) := rfl
theorem gi_104_52 : gF 104 52 = some (52, 55, 10, 1, 0, 0) := rfl
theorem gi_104_55 : gF 104 55 = some (2, 56, 1, 0, 0, 0) := rfl
theorem gi_104_56 : gF 104 56 = some (2, 57, 2, 0, 0, 0) := rfl
theorem gi_104_57 : gF 104 57 = some (2, 58, 3, 0, 0, 0) := rfl
theorem gi_104_58 : gF 104 58 = some (73, 61, 91, 3, 0, 0) := rfl
theorem gi_104_6 : gF 104 6 = some (73, 9, 88, 2, 0, 0) := rfl
theorem gi_104_61 : gF 104 61 = some (2, 63, 4, 0, 0, 0) := rfl
theorem gi_104_63 : gF 104 63 = some (79, 64, 0, 0, 0, 0) := rfl
theorem gi_104_9 : gF 104 9 = some (38, 12, 0, 20, 0, 0) := rfl
theorem gi_105_0 : gF 105 0 = some (2, 1, 2, 0, 0, 0) := rfl
theorem gi_105_12 : gF 105 12 = some (7, 13, 0, 0, 0, 0) := rfl
theorem gi_105_13 : gF 105 13 = some (52, 16, 10, 1, 0, 0) := rfl
theorem gi_105_16 : gF 105 16 = some (2, 17, 1, 0, 0, 0) := rfl
theorem gi_105_17 : gF 105 17 = some (73, 20, 87, 1, 0, 0) := rfl
theorem gi_105_20 : gF 105 20 = some (39, 23, 0, 25, 0, 0) := rfl
theorem gi_105_24 : gF 105 24 = some (79, 25, 0, 0, 0, 0) := rfl
theorem gi_105_25 : gF 105 25 = some (2, 26, 2, 0, 0, 0) := rfl
theorem gi_105_28 : gF 105 28 = some (45, 31, 0, 43, 0, 0) := rfl
theorem gi_105_3 : gF 105 3 = some (44, 6, 0, 12, 0, 0) := rfl
theorem gi_105_31 : gF 105 31 = some (7, 32, 0, 0, 0, 0) := rfl
theorem gi_105_32 : gF 105 32 = some (52, 35, 10, 6, 0, 0) := rfl
theorem gi_105_35 : gF 105 35 = some (52, 38, 2, 1, 0, 0) := rfl
theorem gi_105_38 : gF 105 38 = some (2, 39, 1, 0, 0, 0) := rfl
theorem gi_105_39 : gF 105 39 = some (58, 40, 0, 0, 0, 0) := rfl
theorem gi_105_40 : gF 105 40 = some (37, 52, 0, 0, 0, 0) := rfl
theorem gi_105_43 : gF 105 43 = some (7, 44, 0, 0, 0, 0) := rfl
theorem gi_105_44 : gF 105 44 = some (52, 47, 10, 6, 0, 0) := rfl
theorem gi_105_47 : gF 105 47 = some (52, 50, 2, 2, 0, 0) := rfl
theorem gi_105_50 : gF 105 50 = some (2, 51, 1, 0, 0, 0) := rfl
theorem gi_105_51 : gF 105 51 = some (58, 52, 0, 0, 0, 0) := rfl
theorem gi_105_52 : gF 105 52 = some (79, 53, 0, 0, 0, 0) := rfl
theorem gi_105_53 : gF 105 53 = some (7, 54, 0, 0, 0, 0) := rfl
theorem gi_105_54 : gF 105 54 = some (52, 57, 10, 1, 0, 0) := rfl
theorem gi_105_57 : gF 105 57 = some (2, 58, 1, 0, 0, 0) := rfl
theorem gi_105_58 : gF 105 58 = some (2, 59, 2, 0, 0, 0) := rfl
theorem gi_105_59 : gF 105 59 = some (73, 62, 88, 2, 0, 0) := rfl
theorem gi_105_6 : gF 105 6 = some (2, 7, 2, 0, 0, 0) := rfl
theorem gi_105_62 : gF 105 62 = some (38, 65, 0, 77, 0, 0) := rfl
theorem gi_105_78 : gF 105 78 = some (79, 79, 0, 0, 0, 0) := rfl
theorem gi_105_9 : gF 105 9 = some (45, 12, 0, 53, 0, 0) := rfl
theorem gi_106_12 : gF 106 12 = some (79, 13, 0, 0, 0, 0) := rfl
theorem gi_106_21 : gF 106 21 = some (38, 24, 0, 34, 0, 0) := rfl
theorem gi_106_36 : gF 106 36 = some (79, 37, 0, 0, 0, 0) := rfl
theorem gi_108_22 : gF 108 22 = some (79, 23, 0, 0, 0, 0) := rfl
theorem gi_108_8 : gF 108 8 = some (38, 11, 0, 21, 0, 0) := rfl
theorem gi_109_0 : gF 109 0 = some (2, 1, 1, 0, 0, 0) := rfl
theorem gi_109_1 : gF 109 1 = some (74, 4, 143, 1, 0, 0) := rfl
theorem gi_109_10 : gF 109 10 = some (46, 13, 0, 24, 0, 0) := rfl
theorem gi_109_13 : gF 109 13 = some (2, 14, 2, 0, 0, 0) := rfl
theorem gi_109_14 : gF 109 14 = some (7, 15, 0, 0, 0, 0) := rfl
theorem gi_109_15 : gF 109 15 = some (52, 18, 10, 1, 0, 0) := rfl
theorem gi_109_18 : gF 109 18 = some (50, 21, 9, 2, 0, 0) := rfl
theorem gi_109_21 : gF 109 21 = some (46, 24, 0, 26, 0, 0) := rfl
theorem gi_109_25 : gF 109 25 = some (79, 26, 0, 0, 0, 0) := rfl
theorem gi_109_26 : gF 109 26 = some (7, 27, 0, 0, 0, 0) := rfl
theorem gi_109_27 : gF 109 27 = some (52, 30, 10, 2, 0, 0) := rfl
theorem gi_109_30 : gF 109 30 = some (7, 31, 0, 0, 0, 0) := rfl
theorem gi_109_31 : gF 109 31 = some (52, 34, 10, 11, 0, 0) := rfl
theorem gi_109_34 : gF 109 34 = some (2, 35, 1, 0, 0, 0) := rfl
theorem gi_109_35 : gF 109 35 = some (60, 36, 0, 0, 0, 0) := rfl
theorem gi_109_36 : gF 109 36 = some (73, 39, 78, 1, 0, 0) := rfl
theorem gi_109_39 : gF 109 39 = some (3, 40, 3, 0, 0, 0) := rfl
theorem gi_109_4 : gF 109 4 = some (38, 7, 0, 24, 0, 0) := rfl
theorem gi_109_40 : gF 109 40 = some (2, 41, 3, 0, 0, 0) := rfl
theorem gi_109_41 : gF 109 41 = some (41, 44, 0, 46, 0, 0) := rfl
theorem gi_109_44 : gF 109 44 = some (2, 45, 3, 0, 0, 0) := rfl
theorem gi_109_45 : gF 109 45 = some (79, 46, 0, 0, 0, 0) := rfl
theorem gi_109_7 : gF 109 7 = some (2, 8, 2, 0, 0, 0) := rfl
theorem gi_109_96 : gF 109 96 = some (79, 97, 0, 0, 0, 0) := rfl
theorem gi_11_0 : gF 11 0 = some (2, 1, 1, 0, 0, 0) := rfl
theorem gi_11_1 : gF 11 1 = some (82, 88, 0, 0, 0, 0) := rfl
theorem gi_11_44 : gF 11 44 = some (2, 45, 2, 0, 0, 0) := rfl
theorem gi_11_45 : gF 11 45 = some (7, 46, 0, 0, 0, 0) := rfl
theorem gi_11_46 : gF 11 46 = some (50, 49, 0, 4, 0, 0) := rfl
theorem gi_11_49 : gF 11 49 = some (10, 50, 0, 0, 0, 0) := rfl
theorem gi_11_50 : gF 11 50 = some (79, 51, 0, 0, 0, 0) := rfl
theorem gi_11_51 : gF 11 51 = some (7, 52, 0, 0, 0, 0) := rfl
theorem gi_11_53 : gF 11 53 = some (2, 54, 2, 0, 0, 0) := rfl
theorem gi_11_54 : gF 11 54 = some (2, 55, 3, 0, 0, 0) := rfl
theorem gi_11_55 : gF 11 55 = some (73, 58, 8, 3, 0, 0) := rfl
theorem gi_11_58 : gF 11 58 = some (3, 60, 4, 0, 0, 0) := rfl
theorem gi_11_60 : gF 11 60 = some (2, 62, 4, 0, 0, 0) := rfl
theorem gi_11_62 : gF 11 62 = some (7, 63, 0, 0, 0, 0) := rfl
theorem gi_11_65 : gF 11 65 = some (2, 66, 3, 0, 0, 0) := rfl
theorem gi_11_66 : gF 11 66 = some (73, 69, 8, 3, 0, 0) := rfl
theorem gi_11_69 : gF 11 69 = some (11, 70, 0, 0, 0, 0) := rfl
theorem gi_11_70 : gF 11 70 = some (79, 71, 0, 0, 0, 0) := rfl
theorem gi_11_71 : gF 11 71 = some (7, 72, 0, 0, 0, 0) := rfl
theorem gi_11_73 : gF 11 73 = some (2, 74, 2, 0, 0, 0) := rfl
theorem gi_11_74 : gF 11 74 = some (2, 75, 3, 0, 0, 0) := rfl
theorem gi_11_75 : gF 11 75 = some (73, 78, 8, 3, 0, 0) := rfl
theorem gi_11_79 : gF 11 79 = some (12, 80, 0, 0, 0, 0) := rfl
theorem gi_11_80 : gF 11 80 = some (79, 81, 0, 0, 0, 0) := rfl
theorem gi_11_81 : gF 11 81 = some (2, 82, 2, 0, 0, 0) := rfl
theorem gi_11_82 : gF 11 82 = some (7, 83, 0, 0, 0, 0) := rfl
theorem gi_11_83 : gF 11 83 = some (50, 86, 0, 4, 0, 0) := rfl
theorem gi_11_86 : gF 11 86 = some (15, 87, 0, 0, 0, 0) := rfl
theorem gi_11_87 : gF 11 87 = some (79, 88, 0, 0, 0, 0) := rfl
theorem gi_110_0 : gF 110 0 = some (2, 1, 1, 0, 0, 0) := rfl
theorem gi_110_1 : gF 110 1 = some (74, 4, 143, 1, 0, 0) := rfl
theorem gi_110_11 : gF 110 11 = some (39, 14, 0, 16, 0, 0) := rfl
theorem gi_110_15 : gF 110 15 = some (79, 16, 0, 0, 0, 0) := rfl
theorem gi_110_16 : gF 110 16 = some (7, 17, 0, 0, 0, 0) := rfl
theorem gi_110_17 : gF 110 17 = some (52, 20, 10, 2, 0, 0) := rfl
theorem gi_110_20 : gF 110 20 = some (7, 21, 0, 0, 0, 0) := rfl
theorem gi_110_21 : gF 110 21 = some (52, 24, 10, 11, 0, 0) := rfl
theorem gi_110_24 : gF 110 24 = some (2, 25, 1, 0, 0, 0) := rfl
theorem gi_110_25 : gF 110 25 = some (60, 26, 0, 0, 0, 0) := rfl
theorem gi_110_26 : gF 110 26 = some (73, 29, 78, 1, 0, 0) := rfl
theorem gi_110_29 : gF 110 29 = some (3, 30, 3, 0, 0, 0) := rfl
theorem gi_110_30 : gF 110 30 = some (2, 31, 3, 0, 0, 0) := rfl
theorem gi_110_31 : gF 110 31 = some (41, 34, 0, 36, 0, 0) := rfl
theorem gi_110_34 : gF 110 34 = some (2, 35, 3, 0, 0, 0) := rfl
theorem gi_110_35 : gF 110 35 = some (79, 36, 0, 0, 0, 0) := rfl
theorem gi_110_36 : gF 110 36 = some (7, 37, 0, 0, 0, 0) := rfl
theorem gi_110_37 : gF 110 37 = some (52, 40, 10, 2, 0, 0) := rfl
theorem gi_110_4 : gF 110 4 = some (38, 7, 0, 14, 0, 0) := rfl
theorem gi_110_40 : gF 110 40 = some (73, 43, 81, 0, 0, 0) := rfl
theorem gi_110_43 : gF 110 43 = some (3, 45, 4, 0, 0, 0) := rfl
theorem gi_110_45 : gF 110 45 = some (2, 46, 2, 0, 0, 0) := rfl
theorem gi_110_46 : gF 110 46 = some (39, 49, 0, 52, 0, 0) := rfl
theorem gi_110_7 : gF 110 7 = some (2, 8, 2, 0, 0, 0) := rfl
theorem gi_110_75 : gF 110 75 = some (79, 76, 0, 0, 0, 0) := rfl
theorem gi_110_8 : gF 110 8 = some (74, 11, 146, 1, 0, 0) := rfl
theorem gi_111_0 : gF 111 0 = some (2, 1, 1, 0, 0, 0) := rfl
theorem gi_111_1 : gF 111 1 = some (74, 4, 143, 1, 0, 0) := rfl
theorem gi_111_11 : gF 111 11 = some (2, 12, 2, 0, 0, 0) := rfl
theorem gi_111_14 : gF 111 14 = some (49, 17, 0, 19, 0, 0) := rfl
theorem gi_111_18 : gF 111 18 = some (79, 19, 0, 0, 0, 0) := rfl
theorem gi_111_19 : gF 111 19 = some (7, 20, 0, 0, 0, 0) := rfl
theorem gi_111_20 : gF 111 20 = some (52, 23, 10, 2, 0, 0) := rfl
theorem gi_111_23 : gF 111 23 = some (2, 24, 2, 0, 0, 0) := rfl
theorem gi_111_24 : gF 111 24 = some (73, 27, 77, 1, 0, 0) := rfl
theorem gi_111_27 : gF 111 27 = some (7, 28, 0, 0, 0, 0) := rfl
theorem gi_111_28 : gF 111 28 = some (52, 31, 10, 2, 0, 0) := rfl
theorem gi_111_31 : gF 111 31 = some (7, 32, 0, 0, 0, 0) := rfl
theorem gi_111_32 : gF 111 32 = some (52, 35, 10, 11, 0, 0) := rfl
theorem gi_111_35 : gF 111 35 = some (2, 36, 1, 0, 0, 0) := rfl
theorem gi_111_36 : gF 111 36 = some (60, 37, 0, 0, 0, 0) := rfl
theorem gi_111_37 : gF 111 37 = some (73, 40, 78, 1, 0, 0) := rfl
theorem gi_111_4 : gF 111 4 = some (38, 7, 0, 17, 0, 0) := rfl
theorem gi_111_40 : gF 111 40 = some (3, 41, 3, 0, 0, 0) := rfl
theorem gi_111_41 : gF 111 41 = some (2, 42, 3, 0, 0, 0) := rfl
theorem gi_111_42 : gF 111 42 = some (41, 45, 0, 49, 0, 0) := rfl
theorem gi_111_45 : gF 111 45 = some (2, 46, 3, 0, 0, 0) := rfl
theorem gi_111_46 : gF 111 46 = some (37, 56, 0, 0, 0, 0) := rfl
theorem gi_111_56 : gF 111 56 = some (79, 57, 0, 0, 0, 0) := rfl
theorem gi_111_7 : gF 111 7 = some (2, 8, 2, 0, 0, 0) := rfl
theorem gi_111_8 : gF 111 8 = some (40, 11, 0, 17, 0, 0) := rfl
theorem gi_112_0 : gF 112 0 = some (2, 1, 1, 0, 0, 0) := rfl
theorem gi_112_1 : gF 112 1 = some (74, 4, 143, 1, 0, 0) := rfl
theorem gi_112_102 : gF 112 102 = some (2, 103, 3, 0, 0, 0) := rfl
theorem gi_112_103 : gF 112 103 = some (39, 106, 0, 111, 0, 0) := rfl
theorem gi_112_11 : gF 112 11 = some (38, 14, 0, 21, 0, 0) := rfl
theorem gi_112_113 : gF 112 113 = some (79, 114, 0, 0, 0, 0) := rfl
theorem gi_112_14 : gF 112 14 = some (2, 15, 3, 0, 0, 0) := rfl
theorem gi_112_15 : gF 112 15 = some (74, 18, 146, 1, 0, 0) := rfl
theorem gi_112_18 : gF 112 18 = some (39, 21, 0, 23, 0, 0) := rfl
theorem gi_112_22 : gF 112 22 = some (79, 23, 0, 0, 0, 0) := rfl
theorem gi_112_23 : gF 112 23 = some (7, 24, 0, 0, 0, 0) := rfl
theorem gi_112_24 : gF 112 24 = some (52, 27, 10, 2, 0, 0) := rfl
theorem gi_112_27 : gF 112 27 = some (7, 28, 0, 0, 0, 0) := rfl
theorem gi_112_28 : gF 112 28 = some (52, 31, 10, 11, 0, 0) := rfl
theorem gi_112_31 : gF 112 31 = some (2, 32, 1, 0, 0, 0) := rfl
theorem gi_112_32 : gF 112 32 = some (60, 33, 0, 0, 0, 0) := rfl
theorem gi_112_33 : gF 112 33 = some (73, 36, 78, 1, 0, 0) := rfl
theorem gi_112_36 : gF 112 36 = some (3, 38, 4, 0, 0, 0) := rfl
theorem gi_112_38 : gF 112 38 = some (2, 40, 4, 0, 0, 0) := rfl
theorem gi_112_4 : gF 112 4 = some (38, 7, 0, 21, 0, 0) := rfl
theorem gi_112_40 : gF 112 40 = some (41, 43, 0, 46, 0, 0) := rfl
theorem gi_112_43 : gF 112 43 = some (2, 45, 4, 0, 0, 0) := rfl
theorem gi_112_45 : gF 112 45 = some (79, 46, 0, 0, 0, 0) := rfl
theorem gi_112_48 : gF 112 48 = some (3, 50, 5, 0, 0, 0) := rfl
theorem gi_112_52 : gF 112 52 = some (3, 54, 6, 0, 0, 0) := rfl
theorem gi_112_55 : gF 112 55 = some (3, 57, 7, 0, 0, 0) := rfl
theorem gi_112_7 : gF 112 7 = some (2, 8, 2, 0, 0, 0) := rfl
theorem gi_112_8 : gF 112 8 = some (74, 11, 145, 1, 0, 0) := rfl
theorem gi_112_96 : gF 112 96 = some (8, 99, 7, 0, 1, 0) := rfl
theorem gi_112_99 : gF 112 99 = some (37, 57, 0, 0, 0, 0) := rfl
theorem gi_113_0 : gF 113 0 = some (2, 1, 1, 0, 0, 0) := rfl
theorem gi_113_1 : gF 113 1 = some (74, 4, 143, 1, 0, 0) := rfl
theorem gi_113_11 : gF 113 11 = some (2, 12, 2, 0, 0, 0) := rfl
theorem gi_113_14 : gF 113 14 = some (46, 17, 0, 19, 0, 0) := rfl
theorem gi_113_18 : gF 113 18 = some (79, 19, 0, 0, 0, 0) := rfl
theorem gi_113_19 : gF 113 19 = some (7, 20, 0, 0, 0, 0) := rfl
theorem gi_113_20 : gF 113 20 = some (52, 23, 10, 2, 0, 0) := rfl
theorem gi_113_23 : gF 113 23 = some (7, 24, 0, 0, 0, 0) := rfl
theorem gi_113_24 : gF 113 24 = some (52, 27, 10, 11, 0, 0) := rfl
theorem gi_113_27 : gF 113 27 = some (2, 28, 1, 0, 0, 0) := rfl
theorem gi_113_28 : gF 113 28 = some (60, 29, 0, 0, 0, 0) := rfl
theorem gi_113_29 : gF 113 29 = some (73, 32, 78, 1, 0, 0) := rfl
theorem gi_113_32 : gF 113 32 = some (3, 33, 3, 0, 0, 0) := rfl
theorem gi_113_33 : gF 113 33 = some (2, 34, 3, 0, 0, 0) := rfl
theorem gi_113_34 : gF 113 34 = some (41, 37, 0, 39, 0, 0) := rfl
theorem gi_113_37 : gF 113 37 = some (2, 38, 3, 0, 0, 0) := rfl
theorem gi_113_38 : gF 113 38 = some (79, 39, 0, 0, 0, 0) := rfl
theorem gi_113_4 : gF 113 4 = some (38, 7, 0, 17, 0, 0) := rfl
theorem gi_113_62 : gF 113 62 = some (79, 63, 0, 0, 0, 0) := rfl
theorem gi_113_7 : gF 113 7 = some (2, 8, 2, 0, 0, 0) := rfl
theorem gi_113_8 : gF 113 8 = some (40, 11, 0, 17, 0, 0) := rfl
theorem gi_114_21 : gF 114 21 = some (38, 24, 0, 29, 0, 0) := rfl
theorem gi_114_30 : gF 114 30 = some (79, 31, 0, 0, 0, 0) := rfl
theorem gi_114_87 : gF 114 87 = some (79, 88, 0, 0, 0, 0) := rfl
theorem gi_115_0 : gF 115 0 = some (2, 1, 1, 0, 0, 0) := rfl
theorem gi_115_1 : gF 115 1 = some (74, 4, 143, 1, 0, 0) := rfl
theorem gi_115_11 : gF 115 11 = some (2, 12, 2, 0, 0, 0) := rfl
theorem gi_115_14 : gF 115 14 = some (47, 17, 0, 24, 0, 0) := rfl
theorem gi_115_142 : gF 115 142 = some (8, 145, 7, 0, 1, 0) := rfl
theorem gi_115_145 : gF 115 145 = some (37, 58, 0, 0, 0, 0) := rfl
theorem gi_115_148 : gF 115 148 = some (2, 149, 3, 0, 0, 0) := rfl
theorem gi_115_149 : gF 115 149 = some (39, 152, 0, 157, 0, 0) := rfl
theorem gi_115_159 : gF 115 159 = some (79, 160, 0, 0, 0, 0) := rfl
theorem gi_115_17 : gF 115 17 = some (2, 18, 3, 0, 0, 0) := rfl
theorem gi_115_18 : gF 115 18 = some (74, 21, 146, 1, 0, 0) := rfl
theorem gi_115_21 : gF 115 21 = some (39, 24, 0, 26, 0, 0) := rfl
theorem gi_115_25 : gF 115 25 = some (79, 26, 0, 0, 0, 0) := rfl
theorem gi_115_26 : gF 115 26 = some (7, 27, 0, 0, 0, 0) := rfl
theorem gi_115_27 : gF 115 27 = some (52, 30, 10, 2, 0, 0) := rfl
theorem gi_115_30 : gF 115 30 = some (7, 31, 0, 0, 0, 0) := rfl
theorem gi_115_31 : gF 115 31 = some (52, 34, 10, 11, 0, 0) := rfl
theorem gi_115_34 : gF 115 34 = some (2, 35, 1, 0, 0, 0) := rfl
theorem gi_115_35 : gF 115 35 = some (60, 36, 0, 0, 0, 0) := rfl
theorem gi_115_36 : gF 115 36 = some (73, 39, 78, 1, 0, 0) := rfl
theorem gi_115_39 : gF 115 39 = some (3, 41, 4, 0, 0, 0) := rfl
theorem gi_115_4 : gF 115 4 = some (38, 7, 0, 24, 0, 0) := rfl
theorem gi_115_41 : gF 115 41 = some (2, 43, 4, 0, 0, 0) := rfl
theorem gi_115_43 : gF 115 43 = some (41, 46, 0, 49, 0, 0) := rfl
theorem gi_115_46 : gF 115 46 = some (2, 48, 4, 0, 0, 0) := rfl
theorem gi_115_48 : gF 115 48 = some (79, 49, 0, 0, 0, 0) := rfl
theorem gi_115_50 : gF 115 50 = some (3, 52, 5, 0, 0, 0) := rfl
theorem gi_115_53 : gF 115 53 = some (3, 55, 6, 0, 0, 0) := rfl
theorem gi_115_56 : gF 115 56 = some (3, 58, 7, 0, 0, 0) := rfl
theorem gi_115_7 : gF 115 7 = some (2, 8, 2, 0, 0, 0) := rfl
theorem gi_115_8 : gF 115 8 = some (40, 11, 0, 24, 0, 0) := rfl
theorem gi_116_18 : gF 116 18 = some (79, 19, 0, 0, 0, 0) := rfl
theorem gi_116_4 : gF 116 4 = some (38, 7, 0, 17, 0, 0) := rfl
theorem gi_116_64 : gF 116 64 = some (8, 67, 4, 0, 1, 0) := rfl
theorem gi_116_67 : gF 116 67 = some (37, 24, 0, 0, 0, 0) := rfl
theorem gi_117_0 : gF 117 0 = some (2, 1, 1, 0, 0, 0) := rfl
theorem gi_117_1 : gF 117 1 = some (74, 4, 143, 1, 0, 0) := rfl
theorem gi_117_10 : gF 117 10 = some (52, 13, 10, 2, 0, 0) := rfl
theorem gi_117_13 : gF 117 13 = some (7, 14, 0, 0, 0, 0) := rfl
theorem gi_117_14 : gF 117 14 = some (52, 17, 10, 11, 0, 0) := rfl
theorem gi_117_17 : gF 117 17 = some (2, 18, 1, 0, 0, 0) := rfl
theorem gi_117_18 : gF 117 18 = some (60, 19, 0, 0, 0, 0) := rfl
theorem gi_117_19 : gF 117 19 = some (73, 22, 78, 1, 0, 0) := rfl
theorem gi_117_22 : gF 117 22 = some (3, 23, 2, 0, 0, 0) := rfl
theorem gi_117_23 : gF 117 23 = some (2, 24, 2, 0, 0, 0) := rfl
theorem gi_117_24 : gF 117 24 = some (41, 27, 0, 29, 0, 0) := rfl
theorem gi_117_27 : gF 117 27 = some (2, 28, 2, 0, 0, 0) := rfl
theorem gi_117_28 : gF 117 28 = some (79, 29, 0, 0, 0, 0) := rfl
theorem gi_117_4 : gF 117 4 = some (39, 7, 0, 9, 0, 0) := rfl
theorem gi_117_53 : gF 117 53 = some (79, 54, 0, 0, 0, 0) := rfl
theorem gi_117_8 : gF 117 8 = some (79, 9, 0, 0, 0, 0) := rfl
theorem gi_117_9 : gF 117 9 = some (7, 10, 0, 0, 0, 0) := rfl
theorem gi_118_14 : gF 118 14 = some (39, 17, 0, 19, 0, 0) := rfl
theorem gi_118_18 : gF 118 18 = some (79, 19, 0, 0, 0, 0) := rfl
theorem gi_118_19 : gF 118 19 = some (7, 20, 0, 0, 0, 0) := rfl
theorem gi_118_20 : gF 118 20 = some (52, 23, 10, 5, 0, 0) := rfl
theorem gi_118_23 : gF 118 23 = some (2, 24, 1, 0, 0, 0) := rfl
theorem gi_118_24 : gF 118 24 = some (7, 25, 0, 0, 0, 0) := rfl
theorem gi_118_25 : gF 118 25 = some (52, 28, 10, 1, 0, 0) := rfl
theorem gi_118_31 : gF 118 31 = some (73, 34, 90, 2, 0, 0) := rfl
theorem gi_118_34 : gF 118 34 = some (73, 37, 56, 2, 0, 0) := rfl
theorem gi_118_37 : gF 118 37 = some (2, 38, 2, 0, 0, 0) := rfl
theorem gi_118_38 : gF 118 38 = some (39, 41, 0, 52, 0, 0) := rfl
theorem gi_118_41 : gF 118 41 = some (7, 42, 0, 0, 0, 0) := rfl
theorem gi_118_42 : gF 118 42 = some (52, 45, 10, 5, 0, 0) := rfl
theorem gi_118_45 : gF 118 45 = some (51, 48, 6, 1, 0, 0) := rfl
theorem gi_118_48 : gF 118 48 = some (30, 49, 0, 0, 0, 0) := rfl
theorem gi_118_49 : gF 118 49 = some (37, 59, 0, 0, 0, 0) := rfl
theorem gi_118_52 : gF 118 52 = some (7, 53, 0, 0, 0, 0) := rfl
theorem gi_118_53 : gF 118 53 = some (52, 56, 10, 5, 0, 0) := rfl
theorem gi_118_56 : gF 118 56 = some (50, 59, 6, 2, 0, 0) := rfl
theorem gi_118_59 : gF 118 59 = some (79, 60, 0, 0, 0, 0) := rfl
theorem gi_119_12 : gF 119 12 = some (79, 13, 0, 0, 0, 0) := rfl
theorem gi_12_0 : gF 12 0 = some (2, 1, 1, 0, 0, 0) := rfl
theorem gi_12_1 : gF 12 1 = some (82, 233, 0, 0, 0, 0) := rfl
theorem gi_12_102 : gF 12 102 = some (10, 103, 0, 0, 0, 0) := rfl
theorem gi_12_103 : gF 12 103 = some (79, 104, 0, 0, 0, 0) := rfl
theorem gi_12_104 : gF 12 104 = some (7, 105, 0, 0, 0, 0) := rfl
theorem gi_12_105 : gF 12 105 = some (2, 106, 2, 0, 0, 0) := rfl
theorem gi_12_107 : gF 12 107 = some (2, 108, 3, 0, 0, 0) := rfl
theorem gi_12_108 : gF 12 108 = some (2, 110, 4, 0, 0, 0) := rfl
theorem gi_12_110 : gF 12 110 = some (73, 113, 9, 4, 0, 0) := rfl
theorem gi_12_113 : gF 12 113 = some (21, 114, 0, 0, 0, 0) := rfl
theorem gi_12_114 : gF 12 114 = some (79, 115, 0, 0, 0, 0) := rfl
theorem gi_12_115 : gF 12 115 = some (7, 116, 0, 0, 0, 0) := rfl
theorem gi_12_116 : gF 12 116 = some (2, 117, 2, 0, 0, 0) := rfl
theorem gi_12_118 : gF 12 118 = some (2, 119, 3, 0, 0, 0) := rfl
theorem gi_12_119 : gF 12 119 = some (2, 121, 4, 0, 0, 0) := rfl
theorem gi_12_121 : gF 12 121 = some (73, 124, 9, 4, 0, 0) := rfl
theorem gi_12_125 : gF 12 125 = some (12, 126, 0, 0, 0, 0) := rfl
theorem gi_12_126 : gF 12 126 = some (79, 127, 0, 0, 0, 0) := rfl
theorem gi_12_127 : gF 12 127 = some (7, 128, 0, 0, 0, 0) := rfl
theorem gi_12_128 : gF 12 128 = some (2, 129, 2, 0, 0, 0) := rfl
theorem gi_12_130 : gF 12 130 = some (2, 131, 3, 0, 0, 0) := rfl
theorem gi_12_132 : gF 12 132 = some (10, 133, 0, 0, 0, 0) := rfl
theorem gi_12_133 : gF 12 133 = some (2, 135, 4, 0, 0, 0) := rfl
theorem gi_12_135 : gF 12 135 = some (73, 138, 9, 4, 0, 0) := rfl
theorem gi_12_138 : gF 12 138 = some (79, 139, 0, 0, 0, 0) := rfl
theorem gi_12_151 : gF 12 151 = some (7, 152, 0, 0, 0, 0) := rfl
theorem gi_12_152 : gF 12 152 = some (2, 153, 2, 0, 0, 0) := rfl
theorem gi_12_154 : gF 12 154 = some (2, 155, 3, 0, 0, 0) := rfl
theorem gi_12_155 : gF 12 155 = some (2, 157, 4, 0, 0, 0) := rfl
theorem gi_12_157 : gF 12 157 = some (73, 160, 9, 4, 0, 0) := rfl
theorem gi_12_160 : gF 12 160 = some (3, 162, 5, 0, 0, 0) := rfl
theorem gi_12_162 : gF 12 162 = some (2, 164, 5, 0, 0, 0) := rfl
theorem gi_12_164 : gF 12 164 = some (7, 165, 0, 0, 0, 0) := rfl
theorem gi_12_167 : gF 12 167 = some (2, 169, 4, 0, 0, 0) := rfl
theorem gi_12_169 : gF 12 169 = some (73, 172, 8, 3, 0, 0) := rfl
theorem gi_12_172 : gF 12 172 = some (11, 173, 0, 0, 0, 0) := rfl
theorem gi_12_173 : gF 12 173 = some (79, 174, 0, 0, 0, 0) := rfl
theorem gi_12_186 : gF 12 186 = some (7, 187, 0, 0, 0, 0) := rfl
theorem gi_12_187 : gF 12 187 = some (2, 188, 2, 0, 0, 0) := rfl
theorem gi_12_189 : gF 12 189 = some (2, 190, 3, 0, 0, 0) := rfl
theorem gi_12_190 : gF 12 190 = some (2, 192, 4, 0, 0, 0) := rfl
theorem gi_12_192 : gF 12 192 = some (73, 195, 9, 4, 0, 0) := rfl
theorem gi_12_196 : gF 12 196 = some (12, 197, 0, 0, 0, 0) := rfl
theorem gi_12_197 : gF 12 197 = some (79, 198, 0, 0, 0, 0) := rfl
theorem gi_12_198 : gF 12 198 = some (7, 199, 0, 0, 0, 0) := rfl
theorem gi_12_199 : gF 12 199 = some (2, 200, 2, 0, 0, 0) := rfl
theorem gi_12_201 : gF 12 201 = some (2, 202, 3, 0, 0, 0) := rfl
theorem gi_12_202 : gF 12 202 = some (2, 204, 4, 0, 0, 0) := rfl
theorem gi_12_204 : gF 12 204 = some (73, 207, 9, 4, 0, 0) := rfl
theorem gi_12_207 : gF 12 207 = some (3, 209, 6, 0, 0, 0) := rfl
theorem gi_12_209 : gF 12 209 = some (2, 211, 6, 0, 0, 0) := rfl
theorem gi_12_211 : gF 12 211 = some (7, 212, 0, 0, 0, 0) := rfl
theorem gi_12_214 : gF 12 214 = some (2, 216, 4, 0, 0, 0) := rfl
theorem gi_12_216 : gF 12 216 = some (73, 219, 8, 3, 0, 0) := rfl
theorem gi_12_219 : gF 12 219 = some (10, 220, 0, 0, 0, 0) := rfl
theorem gi_12_220 : gF 12 220 = some (79, 221, 0, 0, 0, 0) := rfl
theorem gi_12_221 : gF 12 221 = some (7, 222, 0, 0, 0, 0) := rfl
theorem gi_12_222 : gF 12 222 = some (2, 223, 2, 0, 0, 0) := rfl
theorem gi_12_224 : gF 12 224 = some (2, 225, 3, 0, 0, 0) := rfl
theorem gi_12_225 : gF 12 225 = some (2, 227, 4, 0, 0, 0) := rfl
theorem gi_12_227 : gF 12 227 = some (73, 230, 9, 4, 0, 0) := rfl
theorem gi_12_231 : gF 12 231 = some (11, 232, 0, 0, 0, 0) := rfl
theorem gi_12_232 : gF 12 232 = some (79, 233, 0, 0, 0, 0) := rfl
theorem gi_12_92 : gF 12 92 = some (7, 93, 0, 0, 0, 0) := rfl
theorem gi_12_93 : gF 12 93 = some (2, 94, 2, 0, 0, 0) := rfl
theorem gi_12_95 : gF 12 95 = some (2, 96, 3, 0, 0, 0) := rfl
theorem gi_12_96 : gF 12 96 = some (2, 98, 4, 0, 0, 0) := rfl
theorem gi_12_98 : gF 12 98 = some (73, 101, 9, 4, 0, 0) := rfl
theorem gi_120_0 : gF 120 0 = some (2, 1, 1, 0, 0, 0) := rfl
theorem gi_120_1 : gF 120 1 = some (74, 4, 143, 1, 0, 0) := rfl
theorem gi_120_106 : gF 120 106 = some (79, 107, 0, 0, 0, 0) := rfl
theorem gi_120_11 : gF 120 11 = some (2, 12, 2, 0, 0, 0) := rfl
theorem gi_120_13 : gF 120 13 = some (49, 16, 0, 18, 0, 0) := rfl
theorem gi_120_17 : gF 120 17 = some (79, 18, 0, 0, 0, 0) := rfl
theorem gi_120_18 : gF 120 18 = some (7, 19, 0, 0, 0, 0) := rfl
theorem gi_120_19 : gF 120 19 = some (52, 22, 10, 11, 0, 0) := rfl
theorem gi_120_22 : gF 120 22 = some (2, 23, 1, 0, 0, 0) := rfl
theorem gi_120_23 : gF 120 23 = some (60, 24, 0, 0, 0, 0) := rfl
theorem gi_120_24 : gF 120 24 = some (73, 27, 69, 0, 0, 0) := rfl
theorem gi_120_27 : gF 120 27 = some (3, 28, 3, 0, 0, 0) := rfl
theorem gi_120_28 : gF 120 28 = some (2, 29, 3, 0, 0, 0) := rfl
theorem gi_120_29 : gF 120 29 = some (41, 32, 0, 34, 0, 0) := rfl
theorem gi_120_32 : gF 120 32 = some (2, 33, 3, 0, 0, 0) := rfl
theorem gi_120_33 : gF 120 33 = some (79, 34, 0, 0, 0, 0) := rfl
theorem gi_120_4 : gF 120 4 = some (38, 7, 0, 16, 0, 0) := rfl
theorem gi_120_7 : gF 120 7 = some (2, 8, 2, 0, 0, 0) := rfl
theorem gi_120_8 : gF 120 8 = some (40, 11, 0, 16, 0, 0) := rfl
theorem gi_121_12 : gF 121 12 = some (79, 13, 0, 0, 0, 0) := rfl
theorem gi_122_100 : gF 122 100 = some (79, 101, 0, 0, 0, 0) := rfl
theorem gi_122_11 : gF 122 11 = some (39, 14, 0, 16, 0, 0) := rfl
theorem gi_122_15 : gF 122 15 = some (79, 16, 0, 0, 0, 0) := rfl
theorem gi_122_18 : gF 122 18 = some (3, 19, 3, 0, 0, 0) := rfl
theorem gi_122_20 : gF 122 20 = some (3, 22, 4, 0, 0, 0) := rfl
theorem gi_122_23 : gF 122 23 = some (3, 25, 5, 0, 0, 0) := rfl
theorem gi_122_4 : gF 122 4 = some (38, 7, 0, 14, 0, 0) := rfl
theorem gi_122_67 : gF 122 67 = some (2, 69, 5, 0, 0, 0) := rfl
theorem gi_122_69 : gF 122 69 = some (3, 70, 3, 0, 0, 0) := rfl
theorem gi_122_70 : gF 122 70 = some (2, 72, 6, 0, 0, 0) := rfl
theorem gi_122_72 : gF 122 72 = some (3, 74, 4, 0, 0, 0) := rfl
theorem gi_122_74 : gF 122 74 = some (8, 77, 5, 0, 1, 0) := rfl
theorem gi_122_77 : gF 122 77 = some (37, 25, 0, 0, 0, 0) := rfl
theorem gi_122_80 : gF 122 80 = some (2, 81, 2, 0, 0, 0) := rfl
theorem gi_122_81 : gF 122 81 = some (38, 84, 0, 88, 0, 0) := rfl
theorem gi_122_88 : gF 122 88 = some (2, 89, 3, 0, 0, 0) := rfl
theorem gi_122_89 : gF 122 89 = some (37, 100, 0, 0, 0, 0) := rfl
theorem gi_123_0 : gF 123 0 = some (2, 1, 1, 0, 0, 0) := rfl
theorem gi_123_1 : gF 123 1 = some (74, 4, 143, 1, 0, 0) := rfl
theorem gi_123_12 : gF 123 12 = some (2, 13, 3, 0, 0, 0) := rfl
theorem gi_123_15 : gF 123 15 = some (48, 18, 0, 26, 0, 0) := rfl
theorem gi_123_18 : gF 123 18 = some (2, 20, 4, 0, 0, 0) := rfl
theorem gi_123_20 : gF 123 20 = some (74, 23, 146, 1, 0, 0) := rfl
theorem gi_123_23 : gF 123 23 = some (39, 26, 0, 28, 0, 0) := rfl
theorem gi_123_27 : gF 123 27 = some (79, 28, 0, 0, 0, 0) := rfl
theorem gi_123_28 : gF 123 28 = some (7, 29, 0, 0, 0, 0) := rfl
theorem gi_123_29 : gF 123 29 = some (52, 32, 10, 2, 0, 0) := rfl
theorem gi_123_32 : gF 123 32 = some (7, 33, 0, 0, 0, 0) := rfl
theorem gi_123_33 : gF 123 33 = some (52, 36, 10, 11, 0, 0) := rfl
theorem gi_123_36 : gF 123 36 = some (2, 37, 1, 0, 0, 0) := rfl
theorem gi_123_37 : gF 123 37 = some (60, 38, 0, 0, 0, 0) := rfl
theorem gi_123_38 : gF 123 38 = some (73, 41, 78, 1, 0, 0) := rfl
theorem gi_123_4 : gF 123 4 = some (38, 7, 0, 26, 0, 0) := rfl
theorem gi_123_41 : gF 123 41 = some (3, 43, 5, 0, 0, 0) := rfl
theorem gi_123_43 : gF 123 43 = some (2, 45, 5, 0, 0, 0) := rfl
theorem gi_123_45 : gF 123 45 = some (41, 48, 0, 51, 0, 0) := rfl
theorem gi_123_48 : gF 123 48 = some (2, 50, 5, 0, 0, 0) := rfl
theorem gi_123_50 : gF 123 50 = some (79, 51, 0, 0, 0, 0) := rfl
theorem gi_123_51 : gF 123 51 = some (7, 52, 0, 0, 0, 0) := rfl
theorem gi_123_52 : gF 123 52 = some (52, 55, 10, 4, 0, 0) := rfl
theorem gi_123_55 : gF 123 55 = some (2, 56, 2, 0, 0, 0) := rfl
theorem gi_123_56 : gF 123 56 = some (2, 57, 3, 0, 0, 0) := rfl
theorem gi_123_57 : gF 123 57 = some (73, 60, 45, 2, 0, 0) := rfl
theorem gi_123_60 : gF 123 60 = some (2, 62, 4, 0, 0, 0) := rfl
theorem gi_123_62 : gF 123 62 = some (39, 65, 0, 75, 0, 0) := rfl
theorem gi_123_7 : gF 123 7 = some (2, 8, 3, 0, 0, 0) := rfl
theorem gi_123_82 : gF 123 82 = some (79, 83, 0, 0, 0, 0) := rfl
theorem gi_123_9 : gF 123 9 = some (46, 12, 0, 26, 0, 0) := rfl
theorem gi_124_12 : gF 124 12 = some (79, 13, 0, 0, 0, 0) := rfl
theorem gi_124_8 : gF 124 8 = some (39, 11, 0, 13, 0, 0) := rfl
theorem gi_125_36 : gF 125 36 = some (79, 37, 0, 0, 0, 0) := rfl
theorem gi_125_4 : gF 125 4 = some (39, 7, 0, 9, 0, 0) := rfl
theorem gi_125_8 : gF 125 8 = some (79, 9, 0, 0, 0, 0) := rfl
theorem gi_126_23 : gF 126 23 = some (79, 24, 0, 0, 0, 0) := rfl
theorem gi_126_8 : gF 126 8 = some (38, 11, 0, 22, 0, 0) := rfl
theorem gi_128_102 : gF 128 102 = some (79, 103, 0, 0, 0, 0) := rfl
theorem gi_130_0 : gF 130 0 = some (7, 1, 0, 0, 0, 0) := rfl
theorem gi_130_1 : gF 130 1 = some (50, 4, 10, 8, 0, 0) := rfl
theorem gi_130_4 : gF 130 4 = some (39, 7, 0, 10, 0, 0) := rfl
theorem gi_131_0 : gF 131 0 = some (7, 1, 0, 0, 0, 0) := rfl
theorem gi_131_1 : gF 131 1 = some (52, 4, 10, 9, 0, 0) := rfl
theorem gi_131_10 : gF 131 10 = some (7, 11, 0, 0, 0, 0) := rfl
theorem gi_131_11 : gF 131 11 = some (52, 14, 10, 9, 0, 0) := rfl
theorem gi_131_14 : gF 131 14 = some (50, 17, 1, 5, 0, 0) := rfl
theorem gi_131_17 : gF 131 17 = some (37, 22, 0, 0, 0, 0) := rfl
theorem gi_131_22 : gF 131 22 = some (79, 23, 0, 0, 0, 0) := rfl
theorem gi_131_4 : gF 131 4 = some (73, 7, 16, 0, 0, 0) := rfl
theorem gi_131_7 : gF 131 7 = some (38, 10, 0, 20, 0, 0) := rfl
theorem gi_132_0 : gF 132 0 = some (7, 1, 0, 0, 0, 0) := rfl
theorem gi_132_1 : gF 132 1 = some (52, 4, 10, 9, 0, 0) := rfl
theorem gi_132_10 : gF 132 10 = some (7, 11, 0, 0, 0, 0) := rfl
theorem gi_132_11 : gF 132 11 = some (52, 14, 10, 9, 0, 0) := rfl
theorem gi_132_14 : gF 132 14 = some (50, 17, 1, 6, 0, 0) := rfl
theorem gi_132_17 : gF 132 17 = some (7, 18, 0, 0, 0, 0) := rfl
theorem gi_132_18 : gF 132 18 = some (52, 21, 10, 9, 0, 0) := rfl
theorem gi_132_21 : gF 132 21 = some (50, 24, 1, 5, 0, 0) := rfl
theorem gi_132_24 : gF 132 24 = some (11, 25, 0, 0, 0, 0) := rfl
theorem gi_132_25 : gF 132 25 = some (37, 30, 0, 0, 0, 0) := rfl
theorem gi_132_30 : gF 132 30 = some (79, 31, 0, 0, 0, 0) := rfl
theorem gi_132_4 : gF 132 4 = some (73, 7, 17, 0, 0, 0) := rfl
theorem gi_132_7 : gF 132 7 = some (38, 10, 0, 28, 0, 0) := rfl
theorem gi_133_17 : gF 133 17 = some (79, 18, 0, 0, 0, 0) := rfl
theorem gi_133_4 : gF 133 4 = some (39, 7, 0, 9, 0, 0) := rfl
theorem gi_133_8 : gF 133 8 = some (79, 9, 0, 0, 0, 0) := rfl
theorem gi_134_0 : gF 134 0 = some (7, 1, 0, 0, 0, 0) := rfl
theorem gi_134_1 : gF 134 1 = some (52, 4, 10, 10, 0, 0) := rfl
theorem gi_134_10 : gF 134 10 = some (79, 11, 0, 0, 0, 0) := rfl
theorem gi_134_4 : gF 134 4 = some (2, 5, 1, 0, 0, 0) := rfl
theorem gi_134_5 : gF 134 5 = some (2, 6, 2, 0, 0, 0) := rfl
theorem gi_134_6 : gF 134 6 = some (2, 7, 3, 0, 0, 0) := rfl
theorem gi_134_7 : gF 134 7 = some (73, 10, 7, 3, 0, 0) := rfl
theorem gi_135_8 : gF 135 8 = some (79, 9, 0, 0, 0, 0) := rfl
theorem gi_136_0 : gF 136 0 = some (2, 1, 1, 0, 0, 0) := rfl
theorem gi_136_1 : gF 136 1 = some (74, 4, 143, 1, 0, 0) := rfl
theorem gi_136_12 : gF 136 12 = some (7, 13, 0, 0, 0, 0) := rfl
theorem gi_136_13 : gF 136 13 = some (52, 16, 10, 10, 0, 0) := rfl
theorem gi_136_16 : gF 136 16 = some (2, 17, 2, 0, 0, 0) := rfl
theorem gi_136_17 : gF 136 17 = some (73, 20, 3, 1, 0, 0) := rfl
theorem gi_136_20 : gF 136 20 = some (39, 23, 0, 25, 0, 0) := rfl
theorem gi_136_24 : gF 136 24 = some (79, 25, 0, 0, 0, 0) := rfl
theorem gi_136_25 : gF 136 25 = some (2, 26, 2, 0, 0, 0) := rfl
theorem gi_136_27 : gF 136 27 = some (45, 30, 0, 42, 0, 0) := rfl
theorem gi_136_30 : gF 136 30 = some (7, 31, 0, 0, 0, 0) := rfl
theorem gi_136_31 : gF 136 31 = some (52, 34, 10, 11, 0, 0) := rfl
theorem gi_136_34 : gF 136 34 = some (2, 35, 1, 0, 0, 0) := rfl
theorem gi_136_35 : gF 136 35 = some (60, 36, 0, 0, 0, 0) := rfl
theorem gi_136_36 : gF 136 36 = some (73, 39, 66, 0, 0, 0) := rfl
theorem gi_136_39 : gF 136 39 = some (37, 52, 0, 0, 0, 0) := rfl
theorem gi_136_4 : gF 136 4 = some (38, 7, 0, 23, 0, 0) := rfl
theorem gi_136_42 : gF 136 42 = some (7, 43, 0, 0, 0, 0) := rfl
theorem gi_136_43 : gF 136 43 = some (52, 46, 10, 11, 0, 0) := rfl
theorem gi_136_46 : gF 136 46 = some (2, 47, 1, 0, 0, 0) := rfl
theorem gi_136_47 : gF 136 47 = some (60, 48, 0, 0, 0, 0) := rfl
theorem gi_136_48 : gF 136 48 = some (2, 49, 2, 0, 0, 0) := rfl
theorem gi_136_49 : gF 136 49 = some (73, 52, 67, 1, 0, 0) := rfl
theorem gi_136_53 : gF 136 53 = some (79, 54, 0, 0, 0, 0) := rfl
theorem gi_136_7 : gF 136 7 = some (2, 8, 2, 0, 0, 0) := rfl
theorem gi_136_9 : gF 136 9 = some (44, 12, 0, 25, 0, 0) := rfl
theorem gi_137_0 : gF 137 0 = some (2, 1, 1, 0, 0, 0) := rfl
theorem gi_137_1 : gF 137 1 = some (74, 4, 143, 1, 0, 0) := rfl
theorem gi_137_11 : gF 137 11 = some (38, 14, 0, 20, 0, 0) := rfl
theorem gi_137_14 : gF 137 14 = some (2, 15, 3, 0, 0, 0) := rfl
theorem gi_137_17 : gF 137 17 = some (49, 20, 0, 22, 0, 0) := rfl
theorem gi_137_21 : gF 137 21 = some (79, 22, 0, 0, 0, 0) := rfl
theorem gi_137_22 : gF 137 22 = some (2, 23, 3, 0, 0, 0) := rfl
theorem gi_137_23 : gF 137 23 = some (41, 26, 0, 29, 0, 0) := rfl
theorem gi_137_28 : gF 137 28 = some (79, 29, 0, 0, 0, 0) := rfl
theorem gi_137_29 : gF 137 29 = some (7, 30, 0, 0, 0, 0) := rfl
theorem gi_137_30 : gF 137 30 = some (52, 33, 10, 11, 0, 0) := rfl
theorem gi_137_33 : gF 137 33 = some (2, 34, 1, 0, 0, 0) := rfl
theorem gi_137_34 : gF 137 34 = some (60, 35, 0, 0, 0, 0) := rfl
theorem gi_137_35 : gF 137 35 = some (2, 36, 2, 0, 0, 0) := rfl
theorem gi_137_36 : gF 137 36 = some (2, 37, 3, 0, 0, 0) := rfl
theorem gi_137_37 : gF 137 37 = some (73, 40, 68, 2, 0, 0) := rfl
theorem gi_137_4 : gF 137 4 = some (38, 7, 0, 20, 0, 0) := rfl
theorem gi_137_41 : gF 137 41 = some (79, 42, 0, 0, 0, 0) := rfl
theorem gi_137_7 : gF 137 7 = some (2, 8, 2, 0, 0, 0) := rfl
theorem gi_137_8 : gF 137 8 = some (74, 11, 61, 1, 0, 0) := rfl
theorem gi_138_0 : gF 138 0 = some (2, 1, 1, 0, 0, 0) := rfl
theorem gi_138_1 : gF 138 1 = some (74, 4, 143, 1, 0, 0) := rfl
theorem gi_138_10 : gF 138 10 = some (52, 13, 10, 11, 0, 0) := rfl
theorem gi_138_13 : gF 138 13 = some (2, 14, 1, 0, 0, 0) := rfl
theorem gi_138_14 : gF 138 14 = some (60, 15, 0, 0, 0, 0) := rfl
theorem gi_138_15 : gF 138 15 = some (2, 16, 2, 0, 0, 0) := rfl
theorem gi_138_16 : gF 138 16 = some (73, 19, 70, 1, 0, 0) := rfl
theorem gi_138_19 : gF 138 19 = some (3, 21, 5, 0, 0, 0) := rfl
theorem gi_138_21 : gF 138 21 = some (2, 23, 5, 0, 0, 0) := rfl
theorem gi_138_23 : gF 138 23 = some (41, 26, 0, 29, 0, 0) := rfl
theorem gi_138_26 : gF 138 26 = some (2, 28, 5, 0, 0, 0) := rfl
theorem gi_138_28 : gF 138 28 = some (79, 29, 0, 0, 0, 0) := rfl
theorem gi_138_29 : gF 138 29 = some (7, 30, 0, 0, 0, 0) := rfl
theorem gi_138_30 : gF 138 30 = some (52, 33, 10, 11, 0, 0) := rfl
theorem gi_138_33 : gF 138 33 = some (2, 34, 1, 0, 0, 0) := rfl
theorem gi_138_34 : gF 138 34 = some (60, 35, 0, 0, 0, 0) := rfl
theorem gi_138_35 : gF 138 35 = some (2, 36, 2, 0, 0, 0) := rfl
theorem gi_138_36 : gF 138 36 = some (6, 37, 3, 0, 0, 0) := rfl
theorem gi_138_37 : gF 138 37 = some (73, 40, 73, 2, 0, 0) := rfl
theorem gi_138_4 : gF 138 4 = some (39, 7, 0, 9, 0, 0) := rfl
theorem gi_138_41 : gF 138 41 = some (79, 42, 0, 0, 0, 0) := rfl
theorem gi_138_8 : gF 138 8 = some (79, 9, 0, 0, 0, 0) := rfl
theorem gi_138_9 : gF 138 9 = some (7, 10, 0, 0, 0, 0) := rfl
theorem gi_139_0 : gF 139 0 = some (2, 1, 1, 0, 0, 0) := rfl
theorem gi_139_1 : gF 139 1 = some (74, 4, 143, 1, 0, 0) := rfl
theorem gi_139_11 : gF 139 11 = some (2, 12, 1, 0, 0, 0) := rfl
theorem gi_139_12 : gF 139 12 = some (60, 13, 0, 0, 0, 0) := rfl
theorem gi_139_13 : gF 139 13 = some (2, 14, 2, 0, 0, 0) := rfl
theorem gi_139_14 : gF 139 14 = some (73, 17, 70, 1, 0, 0) := rfl
theorem gi_139_17 : gF 139 17 = some (41, 20, 0, 24, 0, 0) := rfl
theorem gi_139_20 : gF 139 20 = some (1, 23, 0, 0, 0, (-9223372036854775808)) := rfl
theorem gi_139_23 : gF 139 23 = some (80, 24, 0, 0, 0, 0) := rfl
theorem gi_139_24 : gF 139 24 = some (7, 25, 0, 0, 0, 0) := rfl
theorem gi_139_25 : gF 139 25 = some (52, 28, 10, 11, 0, 0) := rfl
theorem gi_139_28 : gF 139 28 = some (2, 29, 1, 0, 0, 0) := rfl
theorem gi_139_29 : gF 139 29 = some (60, 30, 0, 0, 0, 0) := rfl
theorem gi_139_30 : gF 139 30 = some (2, 31, 2, 0, 0, 0) := rfl
theorem gi_139_31 : gF 139 31 = some (73, 34, 72, 1, 0, 0) := rfl
theorem gi_139_34 : gF 139 34 = some (80, 35, 0, 0, 0, 0) := rfl
theorem gi_139_4 : gF 139 4 = some (38, 7, 0, 20, 0, 0) := rfl
theorem gi_139_7 : gF 139 7 = some (7, 8, 0, 0, 0, 0) := rfl
theorem gi_139_8 : gF 139 8 = some (52, 11, 10, 11, 0, 0) := rfl
theorem gi_14_0 : gF 14 0 = some (7, 1, 0, 0, 0, 0) := rfl
theorem gi_14_1 : gF 14 1 = some (50, 4, 1, 5, 0, 0) := rfl
theorem gi_14_10 : gF 14 10 = some (73, 13, 15, 0, 0, 0) := rfl
theorem gi_14_13 : gF 14 13 = some (7, 14, 0, 0, 0, 0) := rfl
theorem gi_14_14 : gF 14 14 = some (52, 17, 1, 1, 0, 0) := rfl
theorem gi_14_17 : gF 14 17 = some (7, 18, 0, 0, 0, 0) := rfl
theorem gi_14_18 : gF 14 18 = some (50, 21, 1, 5, 0, 0) := rfl
theorem gi_14_21 : gF 14 21 = some (2, 22, 1, 0, 0, 0) := rfl
theorem gi_14_22 : gF 14 22 = some (64, 23, 0, 0, 0, 0) := rfl
theorem gi_14_23 : gF 14 23 = some (7, 24, 0, 0, 0, 0) := rfl
theorem gi_14_24 : gF 14 24 = some (52, 27, 1, 2, 0, 0) := rfl
theorem gi_14_27 : gF 14 27 = some (7, 28, 0, 0, 0, 0) := rfl
theorem gi_14_28 : gF 14 28 = some (50, 31, 1, 5, 0, 0) := rfl
theorem gi_14_31 : gF 14 31 = some (2, 32, 2, 0, 0, 0) := rfl
theorem gi_14_32 : gF 14 32 = some (64, 33, 0, 0, 0, 0) := rfl
theorem gi_14_33 : gF 14 33 = some (7, 34, 0, 0, 0, 0) := rfl
theorem gi_14_34 : gF 14 34 = some (52, 37, 1, 3, 0, 0) := rfl
theorem gi_14_37 : gF 14 37 = some (7, 38, 0, 0, 0, 0) := rfl
theorem gi_14_38 : gF 14 38 = some (50, 41, 1, 5, 0, 0) := rfl
theorem gi_14_41 : gF 14 41 = some (2, 42, 3, 0, 0, 0) := rfl
theorem gi_14_42 : gF 14 42 = some (64, 43, 0, 0, 0, 0) := rfl
theorem gi_14_43 : gF 14 43 = some (7, 44, 0, 0, 0, 0) := rfl
theorem gi_14_44 : gF 14 44 = some (52, 47, 1, 4, 0, 0) := rfl
theorem gi_14_47 : gF 14 47 = some (7, 48, 0, 0, 0, 0) := rfl
theorem gi_14_48 : gF 14 48 = some (50, 51, 1, 5, 0, 0) := rfl
theorem gi_14_51 : gF 14 51 = some (2, 53, 4, 0, 0, 0) := rfl
theorem gi_14_53 : gF 14 53 = some (64, 54, 0, 0, 0, 0) := rfl
theorem gi_14_54 : gF 14 54 = some (7, 55, 0, 0, 0, 0) := rfl
theorem gi_14_55 : gF 14 55 = some (34, 56, 0, 0, 0, 0) := rfl
theorem gi_14_56 : gF 14 56 = some (50, 59, 1, 5, 0, 0) := rfl
theorem gi_14_6 : gF 14 6 = some (46, 9, 0, 13, 0, 0) := rfl
theorem gi_14_60 : gF 14 60 = some (10, 61, 0, 0, 0, 0) := rfl
theorem gi_14_61 : gF 14 61 = some (53, 64, 1, 5, 0, 0) := rfl
theorem gi_14_64 : gF 14 64 = some (7, 65, 0, 0, 0, 0) := rfl
theorem gi_14_65 : gF 14 65 = some (7, 66, 0, 0, 0, 0) := rfl
theorem gi_14_66 : gF 14 66 = some (50, 69, 1, 5, 0, 0) := rfl
theorem gi_14_69 : gF 14 69 = some (53, 72, 1, 6, 0, 0) := rfl
theorem gi_14_72 : gF 14 72 = some (81, 73, 0, 0, 0, 0) := rfl
theorem gi_14_9 : gF 14 9 = some (7, 10, 0, 0, 0, 0) := rfl
theorem gi_140_0 : gF 140 0 = some (2, 1, 1, 0, 0, 0) := rfl
theorem gi_140_1 : gF 140 1 = some (74, 4, 143, 1, 0, 0) := rfl
theorem gi_140_11 : gF 140 11 = some (39, 14, 0, 16, 0, 0) := rfl
theorem gi_140_15 : gF 140 15 = some (79, 16, 0, 0, 0, 0) := rfl
theorem gi_140_16 : gF 140 16 = some (7, 17, 0, 0, 0, 0) := rfl
theorem gi_140_17 : gF 140 17 = some (52, 20, 10, 11, 0, 0) := rfl
theorem gi_140_20 : gF 140 20 = some (2, 21, 1, 0, 0, 0) := rfl
theorem gi_140_21 : gF 140 21 = some (60, 22, 0, 0, 0, 0) := rfl
theorem gi_140_22 : gF 140 22 = some (5, 24, 6, 0, 0, 0) := rfl
theorem gi_140_24 : gF 140 24 = some (7, 25, 0, 0, 0, 0) := rfl
theorem gi_140_25 : gF 140 25 = some (52, 28, 10, 11, 0, 0) := rfl
theorem gi_140_28 : gF 140 28 = some (2, 29, 3, 0, 0, 0) := rfl
theorem gi_140_29 : gF 140 29 = some (60, 30, 0, 0, 0, 0) := rfl
theorem gi_140_30 : gF 140 30 = some (5, 32, 7, 0, 0, 0) := rfl
theorem gi_140_32 : gF 140 32 = some (7, 34, 6, 0, 0, 0) := rfl
theorem gi_140_34 : gF 140 34 = some (73, 37, 62, 0, 0, 0) := rfl
theorem gi_140_37 : gF 140 37 = some (39, 40, 0, 48, 0, 0) := rfl
theorem gi_140_4 : gF 140 4 = some (38, 7, 0, 14, 0, 0) := rfl
theorem gi_140_40 : gF 140 40 = some (7, 42, 7, 0, 0, 0) := rfl
theorem gi_140_42 : gF 140 42 = some (73, 45, 62, 0, 0, 0) := rfl
theorem gi_140_45 : gF 140 45 = some (38, 48, 0, 51, 0, 0) := rfl
theorem gi_140_50 : gF 140 50 = some (79, 51, 0, 0, 0, 0) := rfl
theorem gi_140_51 : gF 140 51 = some (7, 53, 6, 0, 0, 0) := rfl
theorem gi_140_53 : gF 140 53 = some (7, 55, 7, 0, 0, 0) := rfl
theorem gi_140_55 : gF 140 55 = some (73, 58, 65, 1, 0, 0) := rfl
theorem gi_140_58 : gF 140 58 = some (39, 61, 0, 64, 0, 0) := rfl
theorem gi_140_63 : gF 140 63 = some (79, 64, 0, 0, 0, 0) := rfl
theorem gi_140_7 : gF 140 7 = some (2, 8, 3, 0, 0, 0) := rfl
theorem gi_140_77 : gF 140 77 = some (38, 80, 0, 92, 0, 0) := rfl
theorem gi_140_8 : gF 140 8 = some (74, 11, 143, 1, 0, 0) := rfl
theorem gi_140_89 : gF 140 89 = some (39, 92, 0, 95, 0, 0) := rfl
theorem gi_140_94 : gF 140 94 = some (79, 95, 0, 0, 0, 0) := rfl
theorem gi_141_0 : gF 141 0 = some (2, 1, 1, 0, 0, 0) := rfl
theorem gi_141_1 : gF 141 1 = some (74, 4, 143, 1, 0, 0) := rfl
theorem gi_141_11 : gF 141 11 = some (39, 14, 0, 16, 0, 0) := rfl
theorem gi_141_15 : gF 141 15 = some (79, 16, 0, 0, 0, 0) := rfl
theorem gi_141_16 : gF 141 16 = some (7, 17, 0, 0, 0, 0) := rfl
theorem gi_141_17 : gF 141 17 = some (52, 20, 10, 11, 0, 0) := rfl
theorem gi_141_20 : gF 141 20 = some (2, 21, 1, 0, 0, 0) := rfl
theorem gi_141_21 : gF 141 21 = some (60, 22, 0, 0, 0, 0) := rfl
theorem gi_141_22 : gF 141 22 = some (5, 23, 3, 0, 0, 0) := rfl
theorem gi_141_23 : gF 141 23 = some (7, 24, 3, 0, 0, 0) := rfl
theorem gi_141_24 : gF 141 24 = some (73, 27, 62, 0, 0, 0) := rfl
theorem gi_141_27 : gF 141 27 = some (38, 30, 0, 33, 0, 0) := rfl
theorem gi_141_33 : gF 141 33 = some (7, 34, 3, 0, 0, 0) := rfl
theorem gi_141_34 : gF 141 34 = some (73, 37, 63, 0, 0, 0) := rfl
theorem gi_141_37 : gF 141 37 = some (39, 40, 0, 43, 0, 0) := rfl
theorem gi_141_4 : gF 141 4 = some (38, 7, 0, 14, 0, 0) := rfl
theorem gi_141_54 : gF 141 54 = some (3, 56, 4, 0, 0, 0) := rfl
theorem gi_141_56 : gF 141 56 = some (2, 58, 4, 0, 0, 0) := rfl
theorem gi_141_58 : gF 141 58 = some (2, 59, 2, 0, 0, 0) := rfl
theorem gi_141_59 : gF 141 59 = some (74, 62, 2, 2, 0, 0) := rfl
theorem gi_141_62 : gF 141 62 = some (38, 65, 0, 70, 0, 0) := rfl
theorem gi_141_65 : gF 141 65 = some (2, 67, 4, 0, 0, 0) := rfl
theorem gi_141_67 : gF 141 67 = some (37, 72, 0, 0, 0, 0) := rfl
theorem gi_141_7 : gF 141 7 = some (2, 8, 2, 0, 0, 0) := rfl
theorem gi_141_72 : gF 141 72 = some (79, 73, 0, 0, 0, 0) := rfl
theorem gi_141_8 : gF 141 8 = some (74, 11, 1, 1, 0, 0) := rfl
theorem gi_143_0 : gF 143 0 = some (2, 1, 0, 0, 0, 0) := rfl
theorem gi_143_1 : gF 143 1 = some (40, 4, 0, 14, 0, 0) := rfl
theorem gi_143_11 : gF 143 11 = some (37, 15, 0, 0, 0, 0) := rfl
theorem gi_143_15 : gF 143 15 = some (79, 16, 0, 0, 0, 0) := rfl
theorem gi_143_4 : gF 143 4 = some (2, 5, 0, 0, 0, 0) := rfl
theorem gi_143_7 : gF 143 7 = some (47, 10, 0, 14, 0, 0) := rfl
theorem gi_144_0 : gF 144 0 = some (2, 1, 0, 0, 0, 0) := rfl
theorem gi_144_1 : gF 144 1 = some (40, 4, 0, 15, 0, 0) := rfl
theorem gi_144_12 : gF 144 12 = some (37, 16, 0, 0, 0, 0) := rfl
theorem gi_144_16 : gF 144 16 = some (79, 17, 0, 0, 0, 0) := rfl
theorem gi_144_4 : gF 144 4 = some (2, 5, 0, 0, 0, 0) := rfl
theorem gi_144_8 : gF 144 8 = some (47, 11, 0, 15, 0, 0) := rfl
theorem gi_145_0 : gF 145 0 = some (2, 1, 0, 0, 0, 0) := rfl
theorem gi_145_12 : gF 145 12 = some (37, 16, 0, 0, 0, 0) := rfl
theorem gi_145_16 : gF 145 16 = some (79, 17, 0, 0, 0, 0) := rfl
theorem gi_145_2 : gF 145 2 = some (46, 5, 0, 15, 0, 0) := rfl
theorem gi_145_5 : gF 145 5 = some (2, 6, 0, 0, 0, 0) := rfl
theorem gi_145_8 : gF 145 8 = some (48, 11, 0, 15, 0, 0) := rfl
theorem gi_146_0 : gF 146 0 = some (2, 1, 0, 0, 0, 0) := rfl
theorem gi_146_1 : gF 146 1 = some (38, 4, 0, 9, 0, 0) := rfl
theorem gi_146_10 : gF 146 10 = some (37, 14, 0, 0, 0, 0) := rfl
theorem gi_146_14 : gF 146 14 = some (79, 15, 0, 0, 0, 0) := rfl
theorem gi_146_4 : gF 146 4 = some (2, 5, 0, 0, 0, 0) := rfl
theorem gi_146_6 : gF 146 6 = some (45, 9, 0, 13, 0, 0) := rfl
theorem gi_148_0 : gF 148 0 = some (2, 1, 0, 0, 0, 0) := rfl
theorem gi_148_1 : gF 148 1 = some (2, 2, 1, 0, 0, 0) := rfl
theorem gi_148_11 : gF 148 11 = some (37, 15, 0, 0, 0, 0) := rfl
theorem gi_148_15 : gF 148 15 = some (79, 16, 0, 0, 0, 0) := rfl
theorem gi_148_2 : gF 148 2 = some (46, 5, 0, 14, 0, 0) := rfl
theorem gi_148_5 : gF 148 5 = some (2, 6, 0, 0, 0, 0) := rfl
theorem gi_148_6 : gF 148 6 = some (2, 7, 2, 0, 0, 0) := rfl
theorem gi_148_7 : gF 148 7 = some (48, 10, 0, 14, 0, 0) := rfl
theorem gi_149_14 : gF 149 14 = some (79, 15, 0, 0, 0, 0) := rfl
theorem gi_15_0 : gF 15 0 = some (7, 1, 0, 0, 0, 0) := rfl
theorem gi_15_11 : gF 15 11 = some (7, 12, 0, 0, 0, 0) := rfl
theorem gi_15_12 : gF 15 12 = some (52, 15, 1, 1, 0, 0) := rfl
theorem gi_15_16 : gF 15 16 = some (7, 17, 0, 0, 0, 0) := rfl
theorem gi_15_17 : gF 15 17 = some (50, 20, 1, 5, 0, 0) := rfl
theorem gi_15_20 : gF 15 20 = some (77, 23, 0, 0, 0, 0) := rfl
theorem gi_15_23 : gF 15 23 = some (7, 24, 0, 0, 0, 0) := rfl
theorem gi_15_24 : gF 15 24 = some (52, 27, 1, 2, 0, 0) := rfl
theorem gi_15_28 : gF 15 28 = some (7, 29, 0, 0, 0, 0) := rfl
theorem gi_15_29 : gF 15 29 = some (52, 32, 1, 2, 0, 0) := rfl
theorem gi_15_3 : gF 15 3 = some (53, 6, 1, 5, 0, 0) := rfl
theorem gi_15_33 : gF 15 33 = some (7, 34, 0, 0, 0, 0) := rfl
theorem gi_15_34 : gF 15 34 = some (50, 37, 1, 5, 0, 0) := rfl
theorem gi_15_37 : gF 15 37 = some (77, 40, 0, 0, 0, 0) := rfl
theorem gi_15_40 : gF 15 40 = some (7, 41, 0, 0, 0, 0) := rfl
theorem gi_15_41 : gF 15 41 = some (52, 44, 1, 3, 0, 0) := rfl
theorem gi_15_45 : gF 15 45 = some (7, 46, 0, 0, 0, 0) := rfl
theorem gi_15_46 : gF 15 46 = some (52, 49, 1, 3, 0, 0) := rfl
theorem gi_15_50 : gF 15 50 = some (7, 51, 0, 0, 0, 0) := rfl
theorem gi_15_51 : gF 15 51 = some (50, 54, 1, 5, 0, 0) := rfl
theorem gi_15_54 : gF 15 54 = some (77, 57, 0, 0, 0, 0) := rfl
theorem gi_15_57 : gF 15 57 = some (7, 58, 0, 0, 0, 0) := rfl
theorem gi_15_58 : gF 15 58 = some (52, 61, 1, 4, 0, 0) := rfl
theorem gi_15_6 : gF 15 6 = some (7, 7, 0, 0, 0, 0) := rfl
theorem gi_15_62 : gF 15 62 = some (7, 63, 0, 0, 0, 0) := rfl
theorem gi_15_63 : gF 15 63 = some (52, 66, 1, 4, 0, 0) := rfl
theorem gi_15_67 : gF 15 67 = some (7, 68, 0, 0, 0, 0) := rfl
theorem gi_15_68 : gF 15 68 = some (50, 71, 1, 5, 0, 0) := rfl
theorem gi_15_7 : gF 15 7 = some (52, 10, 1, 1, 0, 0) := rfl
theorem gi_15_71 : gF 15 71 = some (77, 74, 0, 0, 0, 0) := rfl
theorem gi_15_74 : gF 15 74 = some (81, 75, 0, 0, 0, 0) := rfl
theorem gi_151_0 : gF 151 0 = some (2, 1, 1, 0, 0, 0) := rfl
theorem gi_151_11 : gF 151 11 = some (79, 12, 0, 0, 0, 0) := rfl
theorem gi_151_2 : gF 151 2 = some (7, 3, 0, 0, 0, 0) := rfl
theorem gi_151_3 : gF 151 3 = some (50, 6, 11, 1, 0, 0) := rfl
theorem gi_151_7 : gF 151 7 = some (11, 8, 0, 0, 0, 0) := rfl
theorem gi_151_8 : gF 151 8 = some (74, 11, 148, 3, 0, 0) := rfl
theorem gi_152_0 : gF 152 0 = some (7, 1, 0, 0, 0, 0) := rfl
theorem gi_152_1 : gF 152 1 = some (52, 4, 11, 2, 0, 0) := rfl
theorem gi_152_10 : gF 152 10 = some (7, 11, 0, 0, 0, 0) := rfl
theorem gi_152_11 : gF 152 11 = some (52, 14, 11, 3, 0, 0) := rfl
theorem gi_152_14 : gF 152 14 = some (7, 15, 0, 0, 0, 0) := rfl
theorem gi_152_15 : gF 152 15 = some (50, 18, 11, 1, 0, 0) := rfl
theorem gi_152_18 : gF 152 18 = some (2, 19, 2, 0, 0, 0) := rfl
theorem gi_152_19 : gF 152 19 = some (64, 20, 0, 0, 0, 0) := rfl
theorem gi_152_20 : gF 152 20 = some (7, 21, 0, 0, 0, 0) := rfl
theorem gi_152_21 : gF 152 21 = some (52, 24, 11, 4, 0, 0) := rfl
theorem gi_152_24 : gF 152 24 = some (7, 25, 0, 0, 0, 0) := rfl
theorem gi_152_25 : gF 152 25 = some (50, 28, 11, 1, 0, 0) := rfl
theorem gi_152_28 : gF 152 28 = some (2, 29, 3, 0, 0, 0) := rfl
theorem gi_152_29 : gF 152 29 = some (64, 30, 0, 0, 0, 0) := rfl
theorem gi_152_30 : gF 152 30 = some (7, 31, 0, 0, 0, 0) := rfl
theorem gi_152_31 : gF 152 31 = some (52, 34, 11, 5, 0, 0) := rfl
theorem gi_152_34 : gF 152 34 = some (7, 35, 0, 0, 0, 0) := rfl
theorem gi_152_35 : gF 152 35 = some (50, 38, 11, 1, 0, 0) := rfl
theorem gi_152_39 : gF 152 39 = some (64, 40, 0, 0, 0, 0) := rfl
theorem gi_152_4 : gF 152 4 = some (7, 5, 0, 0, 0, 0) := rfl
theorem gi_152_40 : gF 152 40 = some (7, 41, 0, 0, 0, 0) := rfl
theorem gi_152_41 : gF 152 41 = some (52, 44, 11, 6, 0, 0) := rfl
theorem gi_152_44 : gF 152 44 = some (7, 45, 0, 0, 0, 0) := rfl
theorem gi_152_45 : gF 152 45 = some (50, 48, 11, 1, 0, 0) := rfl
theorem gi_152_49 : gF 152 49 = some (64, 50, 0, 0, 0, 0) := rfl
theorem gi_152_5 : gF 152 5 = some (50, 8, 11, 1, 0, 0) := rfl
theorem gi_152_50 : gF 152 50 = some (7, 51, 0, 0, 0, 0) := rfl
theorem gi_152_51 : gF 152 51 = some (52, 54, 11, 42, 0, 0) := rfl
theorem gi_152_54 : gF 152 54 = some (7, 55, 0, 0, 0, 0) := rfl
theorem gi_152_55 : gF 152 55 = some (50, 58, 11, 1, 0, 0) := rfl
theorem gi_152_59 : gF 152 59 = some (64, 60, 0, 0, 0, 0) := rfl
theorem gi_152_60 : gF 152 60 = some (7, 61, 0, 0, 0, 0) := rfl
theorem gi_152_61 : gF 152 61 = some (52, 64, 11, 43, 0, 0) := rfl
theorem gi_152_64 : gF 152 64 = some (7, 65, 0, 0, 0, 0) := rfl
theorem gi_152_65 : gF 152 65 = some (50, 68, 11, 1, 0, 0) := rfl
theorem gi_152_69 : gF 152 69 = some (64, 70, 0, 0, 0, 0) := rfl
theorem gi_152_70 : gF 152 70 = some (7, 71, 0, 0, 0, 0) := rfl
theorem gi_152_71 : gF 152 71 = some (34, 72, 0, 0, 0, 0) := rfl
theorem gi_152_72 : gF 152 72 = some (50, 75, 11, 1, 0, 0) := rfl
theorem gi_152_76 : gF 152 76 = some (10, 77, 0, 0, 0, 0) := rfl
theorem gi_152_77 : gF 152 77 = some (53, 80, 11, 1, 0, 0) := rfl
theorem gi_152_8 : gF 152 8 = some (2, 9, 1, 0, 0, 0) := rfl
theorem gi_152_80 : gF 152 80 = some (7, 81, 0, 0, 0, 0) := rfl
theorem gi_152_81 : gF 152 81 = some (50, 84, 11, 1, 0, 0) := rfl
theorem gi_152_85 : gF 152 85 = some (11, 86, 0, 0, 0, 0) := rfl
theorem gi_152_86 : gF 152 86 = some (79, 87, 0, 0, 0, 0) := rfl
theorem gi_152_9 : gF 152 9 = some (64, 10, 0, 0, 0, 0) := rfl
theorem gi_153_0 : gF 153 0 = some (2, 1, 1, 0, 0, 0) := rfl
theorem gi_153_11 : gF 153 11 = some (2, 12, 2, 0, 0, 0) := rfl
theorem gi_153_15 : gF 153 15 = some (74, 18, 148, 3, 0, 0) := rfl
theorem gi_153_18 : gF 153 18 = some (39, 21, 0, 23, 0, 0) := rfl
theorem gi_153_22 : gF 153 22 = some (79, 23, 0, 0, 0, 0) := rfl
theorem gi_153_23 : gF 153 23 = some (7, 24, 0, 0, 0, 0) := rfl
theorem gi_153_24 : gF 153 24 = some (50, 27, 11, 1, 0, 0) := rfl
theorem gi_153_29 : gF 153 29 = some (45, 32, 0, 37, 0, 0) := rfl
theorem gi_153_37 : gF 153 37 = some (7, 38, 0, 0, 0, 0) := rfl
theorem gi_153_38 : gF 153 38 = some (2, 39, 1, 0, 0, 0) := rfl
theorem gi_153_41 : gF 153 41 = some (20, 42, 0, 0, 0, 0) := rfl
theorem gi_153_42 : gF 153 42 = some (2, 43, 1, 0, 0, 0) := rfl
theorem gi_153_45 : gF 153 45 = some (19, 46, 0, 0, 0, 0) := rfl
theorem gi_153_46 : gF 153 46 = some (2, 47, 2, 0, 0, 0) := rfl
theorem gi_153_47 : gF 153 47 = some (73, 50, 152, 3, 0, 0) := rfl
theorem gi_153_5 : gF 153 5 = some (74, 8, 148, 3, 0, 0) := rfl
theorem gi_153_50 : gF 153 50 = some (79, 51, 0, 0, 0, 0) := rfl
theorem gi_153_8 : gF 153 8 = some (38, 11, 0, 21, 0, 0) := rfl
theorem gi_154_0 : gF 154 0 = some (2, 1, 1, 0, 0, 0) := rfl
theorem gi_154_1 : gF 154 1 = some (74, 4, 248, 1, 0, 0) := rfl
theorem gi_154_104 : gF 154 104 = some (45, 107, 0, 110, 0, 0) := rfl
theorem gi_154_107 : gF 154 107 = some (2, 109, 4, 0, 0, 0) := rfl
theorem gi_154_109 : gF 154 109 = some (79, 110, 0, 0, 0, 0) := rfl
theorem gi_154_11 : gF 154 11 = some (74, 14, 148, 3, 0, 0) := rfl
theorem gi_154_112 : gF 154 112 = some (2, 113, 1, 0, 0, 0) := rfl
theorem gi_154_113 : gF 154 113 = some (12, 114, 0, 0, 0, 0) := rfl
theorem gi_154_114 : gF 154 114 = some (6, 116, 5, 0, 0, 0) := rfl
theorem gi_154_116 : gF 154 116 = some (30, 117, 0, 0, 0, 0) := rfl
theorem gi_154_117 : gF 154 117 = some (10, 118, 0, 0, 0, 0) := rfl
theorem gi_154_118 : gF 154 118 = some (3, 120, 7, 0, 0, 0) := rfl
theorem gi_154_120 : gF 154 120 = some (7, 121, 0, 0, 0, 0) := rfl
theorem gi_154_121 : gF 154 121 = some (52, 124, 11, 60, 0, 0) := rfl
theorem gi_154_124 : gF 154 124 = some (2, 126, 7, 0, 0, 0) := rfl
theorem gi_154_126 : gF 154 126 = some (59, 127, 0, 0, 0, 0) := rfl
theorem gi_154_127 : gF 154 127 = some (30, 128, 0, 0, 0, 0) := rfl
theorem gi_154_131 : gF 154 131 = some (74, 134, 148, 3, 0, 0) := rfl
theorem gi_154_134 : gF 154 134 = some (38, 137, 0, 175, 0, 0) := rfl
theorem gi_154_137 : gF 154 137 = some (7, 138, 0, 0, 0, 0) := rfl
theorem gi_154_138 : gF 154 138 = some (52, 141, 11, 60, 0, 0) := rfl
theorem gi_154_14 : gF 154 14 = some (39, 17, 0, 19, 0, 0) := rfl
theorem gi_154_141 : gF 154 141 = some (2, 143, 7, 0, 0, 0) := rfl
theorem gi_154_144 : gF 154 144 = some (10, 145, 0, 0, 0, 0) := rfl
theorem gi_154_145 : gF 154 145 = some (59, 146, 0, 0, 0, 0) := rfl
theorem gi_154_146 : gF 154 146 = some (30, 147, 0, 0, 0, 0) := rfl
theorem gi_154_150 : gF 154 150 = some (74, 153, 148, 3, 0, 0) := rfl
theorem gi_154_153 : gF 154 153 = some (38, 156, 0, 175, 0, 0) := rfl
theorem gi_154_156 : gF 154 156 = some (7, 157, 0, 0, 0, 0) := rfl
theorem gi_154_157 : gF 154 157 = some (52, 160, 11, 60, 0, 0) := rfl
theorem gi_154_160 : gF 154 160 = some (2, 162, 7, 0, 0, 0) := rfl
theorem gi_154_163 : gF 154 163 = some (10, 164, 0, 0, 0, 0) := rfl
theorem gi_154_164 : gF 154 164 = some (59, 165, 0, 0, 0, 0) := rfl
theorem gi_154_165 : gF 154 165 = some (30, 166, 0, 0, 0, 0) := rfl
theorem gi_154_169 : gF 154 169 = some (74, 172, 148, 3, 0, 0) := rfl
theorem gi_154_172 : gF 154 172 = some (39, 175, 0, 178, 0, 0) := rfl
theorem gi_154_175 : gF 154 175 = some (2, 177, 4, 0, 0, 0) := rfl
theorem gi_154_177 : gF 154 177 = some (79, 178, 0, 0, 0, 0) := rfl
theorem gi_154_178 : gF 154 178 = some (7, 179, 0, 0, 0, 0) := rfl
theorem gi_154_179 : gF 154 179 = some (7, 180, 0, 0, 0, 0) := rfl
theorem gi_154_18 : gF 154 18 = some (79, 19, 0, 0, 0, 0) := rfl
theorem gi_154_180 : gF 154 180 = some (52, 183, 11, 60, 0, 0) := rfl
theorem gi_154_183 : gF 154 183 = some (2, 185, 7, 0, 0, 0) := rfl
theorem gi_154_185 : gF 154 185 = some (59, 186, 0, 0, 0, 0) := rfl
theorem gi_154_186 : gF 154 186 = some (30, 187, 0, 0, 0, 0) := rfl
theorem gi_154_187 : gF 154 187 = some (7, 188, 0, 0, 0, 0) := rfl
theorem gi_154_188 : gF 154 188 = some (52, 191, 11, 60, 0, 0) := rfl
theorem gi_154_19 : gF 154 19 = some (7, 20, 0, 0, 0, 0) := rfl
theorem gi_154_191 : gF 154 191 = some (2, 193, 7, 0, 0, 0) := rfl
theorem gi_154_194 : gF 154 194 = some (10, 195, 0, 0, 0, 0) := rfl
theorem gi_154_195 : gF 154 195 = some (59, 196, 0, 0, 0, 0) := rfl
theorem gi_154_196 : gF 154 196 = some (30, 197, 0, 0, 0, 0) := rfl
theorem gi_154_197 : gF 154 197 = some (7, 198, 0, 0, 0, 0) := rfl
theorem gi_154_198 : gF 154 198 = some (52, 201, 11, 60, 0, 0) := rfl
theorem gi_154_20 : gF 154 20 = some (52, 23, 11, 58, 0, 0) := rfl
theorem gi_154_201 : gF 154 201 = some (2, 203, 7, 0, 0, 0) := rfl
theorem gi_154_204 : gF 154 204 = some (10, 205, 0, 0, 0, 0) := rfl
theorem gi_154_205 : gF 154 205 = some (59, 206, 0, 0, 0, 0) := rfl
theorem gi_154_206 : gF 154 206 = some (30, 207, 0, 0, 0, 0) := rfl
theorem gi_154_207 : gF 154 207 = some (73, 210, 152, 3, 0, 0) := rfl
theorem gi_154_210 : gF 154 210 = some (35, 211, 0, 0, 0, 0) := rfl
theorem gi_154_211 : gF 154 211 = some (8, 214, 4, 0, 1, 0) := rfl
theorem gi_154_214 : gF 154 214 = some (37, 58, 0, 0, 0, 0) := rfl
theorem gi_154_23 : gF 154 23 = some (2, 24, 1, 0, 0, 0) := rfl
theorem gi_154_24 : gF 154 24 = some (58, 25, 0, 0, 0, 0) := rfl
theorem gi_154_26 : gF 154 26 = some (44, 29, 0, 43, 0, 0) := rfl
theorem gi_154_29 : gF 154 29 = some (7, 30, 0, 0, 0, 0) := rfl
theorem gi_154_30 : gF 154 30 = some (52, 33, 11, 58, 0, 0) := rfl
theorem gi_154_33 : gF 154 33 = some (2, 34, 1, 0, 0, 0) := rfl
theorem gi_154_34 : gF 154 34 = some (58, 35, 0, 0, 0, 0) := rfl
theorem gi_154_37 : gF 154 37 = some (44, 40, 0, 43, 0, 0) := rfl
theorem gi_154_4 : gF 154 4 = some (38, 7, 0, 17, 0, 0) := rfl
theorem gi_154_42 : gF 154 42 = some (79, 43, 0, 0, 0, 0) := rfl
theorem gi_154_43 : gF 154 43 = some (7, 44, 0, 0, 0, 0) := rfl
theorem gi_154_44 : gF 154 44 = some (52, 47, 11, 58, 0, 0) := rfl
theorem gi_154_47 : gF 154 47 = some (2, 48, 1, 0, 0, 0) := rfl
theorem gi_154_48 : gF 154 48 = some (58, 49, 0, 0, 0, 0) := rfl
theorem gi_154_50 : gF 154 50 = some (45, 53, 0, 55, 0, 0) := rfl
theorem gi_154_54 : gF 154 54 = some (79, 55, 0, 0, 0, 0) := rfl
theorem gi_154_56 : gF 154 56 = some (3, 58, 4, 0, 0, 0) := rfl
theorem gi_154_58 : gF 154 58 = some (2, 60, 4, 0, 0, 0) := rfl
theorem gi_154_60 : gF 154 60 = some (2, 61, 3, 0, 0, 0) := rfl
theorem gi_154_61 : gF 154 61 = some (47, 64, 0, 217, 0, 0) := rfl
theorem gi_154_64 : gF 154 64 = some (2, 65, 2, 0, 0, 0) := rfl
theorem gi_154_65 : gF 154 65 = some (29, 66, 0, 0, 0, 0) := rfl
theorem gi_154_67 : gF 154 67 = some (2, 69, 4, 0, 0, 0) := rfl
theorem gi_154_69 : gF 154 69 = some (12, 70, 0, 0, 0, 0) := rfl
theorem gi_154_7 : gF 154 7 = some (2, 8, 3, 0, 0, 0) := rfl
theorem gi_154_70 : gF 154 70 = some (29, 71, 0, 0, 0, 0) := rfl
theorem gi_154_71 : gF 154 71 = some (22, 72, 0, 0, 0, 0) := rfl
theorem gi_154_72 : gF 154 72 = some (4, 74, 5, 0, 0, 0) := rfl
theorem gi_154_74 : gF 154 74 = some (6, 76, 5, 0, 0, 0) := rfl
theorem gi_154_76 : gF 154 76 = some (1, 77, 0, 0, 0, 0) := rfl
theorem gi_154_77 : gF 154 77 = some (33, 78, 0, 0, 0, 0) := rfl
theorem gi_154_78 : gF 154 78 = some (40, 81, 0, 107, 0, 0) := rfl
theorem gi_154_81 : gF 154 81 = some (6, 83, 5, 0, 0, 0) := rfl
theorem gi_154_83 : gF 154 83 = some (1, 86, 0, 0, 0, 2) := rfl
theorem gi_154_86 : gF 154 86 = some (22, 87, 0, 0, 0, 0) := rfl
theorem gi_154_87 : gF 154 87 = some (7, 88, 0, 0, 0, 0) := rfl
theorem gi_154_88 : gF 154 88 = some (52, 91, 11, 59, 0, 0) := rfl
theorem gi_154_91 : gF 154 91 = some (2, 92, 1, 0, 0, 0) := rfl
theorem gi_154_92 : gF 154 92 = some (58, 93, 0, 0, 0, 0) := rfl
theorem gi_154_93 : gF 154 93 = some (29, 94, 0, 0, 0, 0) := rfl
theorem gi_154_94 : gF 154 94 = some (33, 95, 0, 0, 0, 0) := rfl
theorem gi_154_95 : gF 154 95 = some (41, 98, 0, 107, 0, 0) := rfl
theorem gi_154_98 : gF 154 98 = some (7, 99, 0, 0, 0, 0) := rfl
theorem gi_154_99 : gF 154 99 = some (50, 102, 11, 1, 0, 0) := rfl
theorem gi_156_0 : gF 156 0 = some (2, 1, 1, 0, 0, 0) := rfl
theorem gi_156_1 : gF 156 1 = some (82, 86, 0, 0, 0, 0) := rfl
theorem gi_156_36 : gF 156 36 = some (7, 37, 0, 0, 0, 0) := rfl
theorem gi_156_37 : gF 156 37 = some (52, 40, 11, 2, 0, 0) := rfl
theorem gi_156_40 : gF 156 40 = some (2, 41, 2, 0, 0, 0) := rfl
theorem gi_156_41 : gF 156 41 = some (2, 42, 3, 0, 0, 0) := rfl
theorem gi_156_42 : gF 156 42 = some (64, 43, 0, 0, 0, 0) := rfl
theorem gi_156_43 : gF 156 43 = some (37, 95, 0, 0, 0, 0) := rfl
theorem gi_156_46 : gF 156 46 = some (7, 47, 0, 0, 0, 0) := rfl
theorem gi_156_47 : gF 156 47 = some (52, 50, 11, 3, 0, 0) := rfl
theorem gi_156_50 : gF 156 50 = some (2, 51, 2, 0, 0, 0) := rfl
theorem gi_156_51 : gF 156 51 = some (2, 52, 3, 0, 0, 0) := rfl
theorem gi_156_52 : gF 156 52 = some (64, 53, 0, 0, 0, 0) := rfl
theorem gi_156_53 : gF 156 53 = some (37, 95, 0, 0, 0, 0) := rfl
theorem gi_156_56 : gF 156 56 = some (7, 57, 0, 0, 0, 0) := rfl
theorem gi_156_57 : gF 156 57 = some (52, 60, 11, 4, 0, 0) := rfl
theorem gi_156_60 : gF 156 60 = some (2, 61, 2, 0, 0, 0) := rfl
theorem gi_156_61 : gF 156 61 = some (2, 62, 3, 0, 0, 0) := rfl
theorem gi_156_62 : gF 156 62 = some (64, 63, 0, 0, 0, 0) := rfl
theorem gi_156_63 : gF 156 63 = some (37, 95, 0, 0, 0, 0) := rfl
theorem gi_156_66 : gF 156 66 = some (7, 67, 0, 0, 0, 0) := rfl
theorem gi_156_67 : gF 156 67 = some (52, 70, 11, 5, 0, 0) := rfl
theorem gi_156_70 : gF 156 70 = some (2, 71, 2, 0, 0, 0) := rfl
theorem gi_156_71 : gF 156 71 = some (2, 72, 3, 0, 0, 0) := rfl
theorem gi_156_72 : gF 156 72 = some (64, 73, 0, 0, 0, 0) := rfl
theorem gi_156_73 : gF 156 73 = some (37, 95, 0, 0, 0, 0) := rfl
theorem gi_156_76 : gF 156 76 = some (7, 77, 0, 0, 0, 0) := rfl
theorem gi_156_77 : gF 156 77 = some (52, 80, 11, 6, 0, 0) := rfl
theorem gi_156_80 : gF 156 80 = some (2, 81, 2, 0, 0, 0) := rfl
theorem gi_156_81 : gF 156 81 = some (2, 82, 3, 0, 0, 0) := rfl
theorem gi_156_82 : gF 156 82 = some (64, 83, 0, 0, 0, 0) := rfl
theorem gi_156_83 : gF 156 83 = some (37, 95, 0, 0, 0, 0) := rfl
theorem gi_156_86 : gF 156 86 = some (7, 87, 0, 0, 0, 0) := rfl
theorem gi_156_87 : gF 156 87 = some (52, 90, 11, 7, 0, 0) := rfl
theorem gi_156_90 : gF 156 90 = some (2, 91, 1, 0, 0, 0) := rfl
theorem gi_156_92 : gF 156 92 = some (11, 93, 0, 0, 0, 0) := rfl
theorem gi_156_93 : gF 156 93 = some (2, 94, 3, 0, 0, 0) := rfl
theorem gi_156_94 : gF 156 94 = some (64, 95, 0, 0, 0, 0) := rfl
theorem gi_156_95 : gF 156 95 = some (81, 96, 0, 0, 0, 0) := rfl
theorem gi_157_0 : gF 157 0 = some (7, 1, 0, 0, 0, 0) := rfl
theorem gi_157_1 : gF 157 1 = some (2, 2, 1, 0, 0, 0) := rfl
theorem gi_157_10 : gF 157 10 = some (2, 11, 3, 0, 0, 0) := rfl
theorem gi_157_11 : gF 157 11 = some (45, 14, 0, 17, 0, 0) := rfl
theorem gi_157_111 : gF 157 111 = some (7, 112, 0, 0, 0, 0) := rfl
theorem gi_157_112 : gF 157 112 = some (34, 113, 0, 0, 0, 0) := rfl
theorem gi_157_113 : gF 157 113 = some (50, 116, 11, 8, 0, 0) := rfl
theorem gi_157_117 : gF 157 117 = some (11, 118, 0, 0, 0, 0) := rfl
theorem gi_157_118 : gF 157 118 = some (53, 121, 11, 8, 0, 0) := rfl
theorem gi_157_121 : gF 157 121 = some (7, 122, 0, 0, 0, 0) := rfl
theorem gi_157_122 : gF 157 122 = some (52, 125, 11, 10, 0, 0) := rfl
theorem gi_157_125 : gF 157 125 = some (7, 126, 0, 0, 0, 0) := rfl
theorem gi_157_126 : gF 157 126 = some (50, 129, 11, 8, 0, 0) := rfl
theorem gi_157_129 : gF 157 129 = some (2, 130, 1, 0, 0, 0) := rfl
theorem gi_157_130 : gF 157 130 = some (64, 131, 0, 0, 0, 0) := rfl
theorem gi_157_131 : gF 157 131 = some (7, 132, 0, 0, 0, 0) := rfl
theorem gi_157_132 : gF 157 132 = some (52, 135, 11, 11, 0, 0) := rfl
theorem gi_157_135 : gF 157 135 = some (7, 136, 0, 0, 0, 0) := rfl
theorem gi_157_136 : gF 157 136 = some (50, 139, 11, 8, 0, 0) := rfl
theorem gi_157_139 : gF 157 139 = some (2, 140, 2, 0, 0, 0) := rfl
theorem gi_157_140 : gF 157 140 = some (64, 141, 0, 0, 0, 0) := rfl
theorem gi_157_141 : gF 157 141 = some (7, 142, 0, 0, 0, 0) := rfl
theorem gi_157_142 : gF 157 142 = some (52, 145, 11, 12, 0, 0) := rfl
theorem gi_157_145 : gF 157 145 = some (7, 146, 0, 0, 0, 0) := rfl
theorem gi_157_146 : gF 157 146 = some (50, 149, 11, 8, 0, 0) := rfl
theorem gi_157_149 : gF 157 149 = some (2, 151, 4, 0, 0, 0) := rfl
theorem gi_157_151 : gF 157 151 = some (64, 152, 0, 0, 0, 0) := rfl
theorem gi_157_152 : gF 157 152 = some (7, 153, 0, 0, 0, 0) := rfl
theorem gi_157_153 : gF 157 153 = some (52, 156, 11, 13, 0, 0) := rfl
theorem gi_157_156 : gF 157 156 = some (7, 157, 0, 0, 0, 0) := rfl
theorem gi_157_157 : gF 157 157 = some (50, 160, 11, 8, 0, 0) := rfl
theorem gi_157_160 : gF 157 160 = some (2, 161, 3, 0, 0, 0) := rfl
theorem gi_157_161 : gF 157 161 = some (64, 162, 0, 0, 0, 0) := rfl
theorem gi_157_162 : gF 157 162 = some (7, 163, 0, 0, 0, 0) := rfl
theorem gi_157_163 : gF 157 163 = some (34, 164, 0, 0, 0, 0) := rfl
theorem gi_157_164 : gF 157 164 = some (50, 167, 11, 8, 0, 0) := rfl
theorem gi_157_168 : gF 157 168 = some (10, 169, 0, 0, 0, 0) := rfl
theorem gi_157_169 : gF 157 169 = some (53, 172, 11, 8, 0, 0) := rfl
theorem gi_157_17 : gF 157 17 = some (7, 18, 0, 0, 0, 0) := rfl
theorem gi_157_172 : gF 157 172 = some (7, 173, 0, 0, 0, 0) := rfl
theorem gi_157_173 : gF 157 173 = some (2, 174, 1, 0, 0, 0) := rfl
theorem gi_157_174 : gF 157 174 = some (2, 175, 2, 0, 0, 0) := rfl
theorem gi_157_175 : gF 157 175 = some (2, 176, 3, 0, 0, 0) := rfl
theorem gi_157_176 : gF 157 176 = some (73, 179, 156, 3, 0, 0) := rfl
theorem gi_157_179 : gF 157 179 = some (2, 181, 4, 0, 0, 0) := rfl
theorem gi_157_181 : gF 157 181 = some (79, 182, 0, 0, 0, 0) := rfl
theorem gi_157_19 : gF 157 19 = some (53, 22, 11, 9, 0, 0) := rfl
theorem gi_157_2 : gF 157 2 = some (2, 3, 2, 0, 0, 0) := rfl
theorem gi_157_22 : gF 157 22 = some (7, 23, 0, 0, 0, 0) := rfl
theorem gi_157_23 : gF 157 23 = some (50, 26, 11, 8, 0, 0) := rfl
theorem gi_157_28 : gF 157 28 = some (45, 31, 0, 121, 0, 0) := rfl
theorem gi_157_3 : gF 157 3 = some (73, 6, 155, 2, 0, 0) := rfl
theorem gi_157_32 : gF 157 32 = some (3, 34, 5, 0, 0, 0) := rfl
theorem gi_157_6 : gF 157 6 = some (3, 8, 4, 0, 0, 0) := rfl
theorem gi_157_8 : gF 157 8 = some (2, 10, 4, 0, 0, 0) := rfl
theorem gi_158_0 : gF 158 0 = some (7, 1, 0, 0, 0, 0) := rfl
theorem gi_158_1 : gF 158 1 = some (50, 4, 11, 8, 0, 0) := rfl
theorem gi_158_10 : gF 158 10 = some (7, 11, 0, 0, 0, 0) := rfl
theorem gi_158_11 : gF 158 11 = some (34, 12, 0, 0, 0, 0) := rfl
theorem gi_158_12 : gF 158 12 = some (50, 15, 11, 8, 0, 0) := rfl
theorem gi_158_16 : gF 158 16 = some (11, 17, 0, 0, 0, 0) := rfl
theorem gi_158_17 : gF 158 17 = some (53, 20, 11, 8, 0, 0) := rfl
theorem gi_158_20 : gF 158 20 = some (7, 21, 0, 0, 0, 0) := rfl
theorem gi_158_21 : gF 158 21 = some (34, 22, 0, 0, 0, 0) := rfl
theorem gi_158_22 : gF 158 22 = some (50, 25, 11, 9, 0, 0) := rfl
theorem gi_158_26 : gF 158 26 = some (10, 27, 0, 0, 0, 0) := rfl
theorem gi_158_27 : gF 158 27 = some (53, 30, 11, 9, 0, 0) := rfl
theorem gi_158_30 : gF 158 30 = some (7, 31, 0, 0, 0, 0) := rfl
theorem gi_158_31 : gF 158 31 = some (7, 32, 0, 0, 0, 0) := rfl
theorem gi_158_32 : gF 158 32 = some (52, 35, 11, 10, 0, 0) := rfl
theorem gi_158_35 : gF 158 35 = some (7, 36, 0, 0, 0, 0) := rfl
theorem gi_158_36 : gF 158 36 = some (50, 39, 11, 8, 0, 0) := rfl
theorem gi_158_39 : gF 158 39 = some (58, 40, 0, 0, 0, 0) := rfl
theorem gi_158_4 : gF 158 4 = some (39, 7, 0, 10, 0, 0) := rfl
theorem gi_158_40 : gF 158 40 = some (7, 41, 0, 0, 0, 0) := rfl
theorem gi_158_41 : gF 158 41 = some (52, 44, 11, 11, 0, 0) := rfl
theorem gi_158_44 : gF 158 44 = some (7, 45, 0, 0, 0, 0) := rfl
theorem gi_158_45 : gF 158 45 = some (50, 48, 11, 8, 0, 0) := rfl
theorem gi_158_48 : gF 158 48 = some (58, 49, 0, 0, 0, 0) := rfl
theorem gi_158_49 : gF 158 49 = some (7, 50, 0, 0, 0, 0) := rfl
theorem gi_158_50 : gF 158 50 = some (52, 53, 11, 12, 0, 0) := rfl
theorem gi_158_53 : gF 158 53 = some (7, 54, 0, 0, 0, 0) := rfl
theorem gi_158_54 : gF 158 54 = some (50, 57, 11, 8, 0, 0) := rfl
theorem gi_158_57 : gF 158 57 = some (58, 58, 0, 0, 0, 0) := rfl
theorem gi_158_58 : gF 158 58 = some (73, 61, 156, 3, 0, 0) := rfl
theorem gi_158_61 : gF 158 61 = some (7, 62, 0, 0, 0, 0) := rfl
theorem gi_158_62 : gF 158 62 = some (50, 65, 11, 8, 0, 0) := rfl
theorem gi_158_65 : gF 158 65 = some (79, 66, 0, 0, 0, 0) := rfl
theorem gi_159_0 : gF 159 0 = some (7, 1, 0, 0, 0, 0) := rfl
theorem gi_159_1 : gF 159 1 = some (50, 4, 11, 9, 0, 0) := rfl
theorem gi_159_10 : gF 159 10 = some (7, 11, 0, 0, 0, 0) := rfl
theorem gi_159_11 : gF 159 11 = some (7, 12, 0, 0, 0, 0) := rfl
theorem gi_159_12 : gF 159 12 = some (52, 15, 11, 10, 0, 0) := rfl
theorem gi_159_15 : gF 159 15 = some (7, 16, 0, 0, 0, 0) := rfl
theorem gi_159_16 : gF 159 16 = some (50, 19, 11, 8, 0, 0) := rfl
theorem gi_159_19 : gF 159 19 = some (58, 20, 0, 0, 0, 0) := rfl
theorem gi_159_20 : gF 159 20 = some (7, 21, 0, 0, 0, 0) := rfl
theorem gi_159_21 : gF 159 21 = some (52, 24, 11, 11, 0, 0) := rfl
theorem gi_159_24 : gF 159 24 = some (7, 25, 0, 0, 0, 0) := rfl
theorem gi_159_25 : gF 159 25 = some (50, 28, 11, 8, 0, 0) := rfl
theorem gi_159_28 : gF 159 28 = some (58, 29, 0, 0, 0, 0) := rfl
theorem gi_159_29 : gF 159 29 = some (7, 30, 0, 0, 0, 0) := rfl
theorem gi_159_30 : gF 159 30 = some (52, 33, 11, 13, 0, 0) := rfl
theorem gi_159_33 : gF 159 33 = some (7, 34, 0, 0, 0, 0) := rfl
theorem gi_159_34 : gF 159 34 = some (50, 37, 11, 8, 0, 0) := rfl
theorem gi_159_37 : gF 159 37 = some (58, 38, 0, 0, 0, 0) := rfl
theorem gi_159_38 : gF 159 38 = some (73, 41, 156, 3, 0, 0) := rfl
theorem gi_159_4 : gF 159 4 = some (39, 7, 0, 10, 0, 0) := rfl
theorem gi_159_41 : gF 159 41 = some (7, 42, 0, 0, 0, 0) := rfl
theorem gi_159_42 : gF 159 42 = some (34, 43, 0, 0, 0, 0) := rfl
theorem gi_159_43 : gF 159 43 = some (50, 46, 11, 8, 0, 0) := rfl
theorem gi_159_47 : gF 159 47 = some (10, 48, 0, 0, 0, 0) := rfl
theorem gi_159_48 : gF 159 48 = some (53, 51, 11, 8, 0, 0) := rfl
theorem gi_159_51 : gF 159 51 = some (7, 52, 0, 0, 0, 0) := rfl
theorem gi_159_52 : gF 159 52 = some (34, 53, 0, 0, 0, 0) := rfl
theorem gi_159_53 : gF 159 53 = some (50, 56, 11, 9, 0, 0) := rfl
theorem gi_159_57 : gF 159 57 = some (11, 58, 0, 0, 0, 0) := rfl
theorem gi_159_58 : gF 159 58 = some (53, 61, 11, 9, 0, 0) := rfl
theorem gi_159_61 : gF 159 61 = some (7, 62, 0, 0, 0, 0) := rfl
theorem gi_159_62 : gF 159 62 = some (50, 65, 11, 9, 0, 0) := rfl
theorem gi_159_65 : gF 159 65 = some (79, 66, 0, 0, 0, 0) := rfl
theorem gi_16_0 : gF 16 0 = some (7, 1, 0, 0, 0, 0) := rfl
theorem gi_16_1 : gF 16 1 = some (50, 4, 1, 5, 0, 0) := rfl
theorem gi_16_4 : gF 16 4 = some (42, 7, 0, 9, 0, 0) := rfl
theorem gi_16_54 : gF 16 54 = some (79, 55, 0, 0, 0, 0) := rfl
theorem gi_160_0 : gF 160 0 = some (2, 1, 2, 0, 0, 0) := rfl
theorem gi_160_10 : gF 160 10 = some (2, 11, 1, 0, 0, 0) := rfl
theorem gi_160_11 : gF 160 11 = some (73, 14, 151, 1, 0, 0) := rfl
theorem gi_160_14 : gF 160 14 = some (37, 36, 0, 0, 0, 0) := rfl
theorem gi_160_17 : gF 160 17 = some (2, 18, 2, 0, 0, 0) := rfl
theorem gi_160_21 : gF 160 21 = some (74, 24, 148, 3, 0, 0) := rfl
theorem gi_160_24 : gF 160 24 = some (38, 27, 0, 35, 0, 0) := rfl
theorem gi_160_27 : gF 160 27 = some (2, 28, 1, 0, 0, 0) := rfl
theorem gi_160_28 : gF 160 28 = some (39, 31, 0, 35, 0, 0) := rfl
theorem gi_160_3 : gF 160 3 = some (74, 6, 148, 3, 0, 0) := rfl
theorem gi_160_32 : gF 160 32 = some (37, 36, 0, 0, 0, 0) := rfl
theorem gi_160_36 : gF 160 36 = some (79, 37, 0, 0, 0, 0) := rfl
theorem gi_160_6 : gF 160 6 = some (38, 9, 0, 17, 0, 0) := rfl
theorem gi_160_9 : gF 160 9 = some (7, 10, 0, 0, 0, 0) := rfl
theorem gi_161_0 : gF 161 0 = some (2, 1, 0, 0, 0, 0) := rfl
theorem gi_161_1 : gF 161 1 = some (82, 144, 0, 0, 0, 0) := rfl
theorem gi_161_101 : gF 161 101 = some (79, 102, 0, 0, 0, 0) := rfl
theorem gi_161_102 : gF 161 102 = some (2, 103, 1, 0, 0, 0) := rfl
theorem gi_161_107 : gF 161 107 = some (74, 110, 148, 3, 0, 0) := rfl
theorem gi_161_110 : gF 161 110 = some (79, 111, 0, 0, 0, 0) := rfl
theorem gi_161_111 : gF 161 111 = some (2, 112, 1, 0, 0, 0) := rfl
theorem gi_161_115 : gF 161 115 = some (74, 118, 148, 3, 0, 0) := rfl
theorem gi_161_118 : gF 161 118 = some (79, 119, 0, 0, 0, 0) := rfl
theorem gi_161_119 : gF 161 119 = some (2, 120, 1, 0, 0, 0) := rfl
theorem gi_161_124 : gF 161 124 = some (74, 127, 148, 3, 0, 0) := rfl
theorem gi_161_127 : gF 161 127 = some (79, 128, 0, 0, 0, 0) := rfl
theorem gi_161_128 : gF 161 128 = some (2, 129, 1, 0, 0, 0) := rfl
theorem gi_161_132 : gF 161 132 = some (74, 135, 148, 3, 0, 0) := rfl
theorem gi_161_135 : gF 161 135 = some (79, 136, 0, 0, 0, 0) := rfl
theorem gi_161_136 : gF 161 136 = some (2, 137, 1, 0, 0, 0) := rfl
theorem gi_161_140 : gF 161 140 = some (74, 143, 148, 3, 0, 0) := rfl
theorem gi_161_143 : gF 161 143 = some (79, 144, 0, 0, 0, 0) := rfl
theorem gi_161_144 : gF 161 144 = some (2, 145, 1, 0, 0, 0) := rfl
theorem gi_161_148 : gF 161 148 = some (74, 151, 148, 3, 0, 0) := rfl
theorem gi_161_151 : gF 161 151 = some (79, 152, 0, 0, 0, 0) := rfl
theorem gi_161_60 : gF 161 60 = some (2, 61, 1, 0, 0, 0) := rfl
theorem gi_161_64 : gF 161 64 = some (74, 67, 148, 3, 0, 0) := rfl
theorem gi_161_67 : gF 161 67 = some (79, 68, 0, 0, 0, 0) := rfl
theorem gi_161_68 : gF 161 68 = some (2, 69, 1, 0, 0, 0) := rfl
theorem gi_161_72 : gF 161 72 = some (74, 75, 148, 3, 0, 0) := rfl
theorem gi_161_75 : gF 161 75 = some (79, 76, 0, 0, 0, 0) := rfl
theorem gi_161_76 : gF 161 76 = some (2, 77, 1, 0, 0, 0) := rfl
theorem gi_161_81 : gF 161 81 = some (74, 84, 148, 3, 0, 0) := rfl
theorem gi_161_84 : gF 161 84 = some (79, 85, 0, 0, 0, 0) := rfl
theorem gi_161_85 : gF 161 85 = some (2, 86, 1, 0, 0, 0) := rfl
theorem gi_161_89 : gF 161 89 = some (74, 92, 148, 3, 0, 0) := rfl
theorem gi_161_92 : gF 161 92 = some (79, 93, 0, 0, 0, 0) := rfl
theorem gi_161_93 : gF 161 93 = some (2, 94, 1, 0, 0, 0) := rfl
theorem gi_161_98 : gF 161 98 = some (74, 101, 148, 3, 0, 0) := rfl
theorem gi_162_0 : gF 162 0 = some (7, 1, 0, 0, 0, 0) := rfl
theorem gi_162_1 : gF 162 1 = some (2, 2, 1, 0, 0, 0) := rfl
theorem gi_162_10 : gF 162 10 = some (2, 11, 3, 0, 0, 0) := rfl
theorem gi_162_11 : gF 162 11 = some (74, 14, 161, 2, 0, 0) := rfl
theorem gi_162_14 : gF 162 14 = some (38, 17, 0, 27, 0, 0) := rfl
theorem gi_162_17 : gF 162 17 = some (7, 18, 0, 0, 0, 0) := rfl
theorem gi_162_18 : gF 162 18 = some (2, 19, 2, 0, 0, 0) := rfl
theorem gi_162_19 : gF 162 19 = some (2, 20, 1, 0, 0, 0) := rfl
theorem gi_162_2 : gF 162 2 = some (2, 3, 2, 0, 0, 0) := rfl
theorem gi_162_20 : gF 162 20 = some (2, 21, 3, 0, 0, 0) := rfl
theorem gi_162_21 : gF 162 21 = some (73, 24, 157, 3, 0, 0) := rfl
theorem gi_162_24 : gF 162 24 = some (37, 28, 0, 0, 0, 0) := rfl
theorem gi_162_28 : gF 162 28 = some (79, 29, 0, 0, 0, 0) := rfl
theorem gi_162_3 : gF 162 3 = some (73, 6, 160, 2, 0, 0) := rfl
theorem gi_162_6 : gF 162 6 = some (38, 9, 0, 27, 0, 0) := rfl
theorem gi_162_9 : gF 162 9 = some (2, 10, 2, 0, 0, 0) := rfl
theorem gi_163_0 : gF 163 0 = some (2, 1, 2, 0, 0, 0) := rfl
theorem gi_163_11 : gF 163 11 = some (7, 12, 0, 0, 0, 0) := rfl
theorem gi_163_12 : gF 163 12 = some (2, 13, 1, 0, 0, 0) := rfl
theorem gi_163_13 : gF 163 13 = some (73, 16, 151, 1, 0, 0) := rfl
theorem gi_163_16 : gF 163 16 = some (39, 19, 0, 23, 0, 0) := rfl
theorem gi_163_20 : gF 163 20 = some (37, 44, 0, 0, 0, 0) := rfl
theorem gi_163_23 : gF 163 23 = some (2, 24, 2, 0, 0, 0) := rfl
theorem gi_163_26 : gF 163 26 = some (45, 29, 0, 38, 0, 0) := rfl
theorem gi_163_29 : gF 163 29 = some (7, 30, 0, 0, 0, 0) := rfl
theorem gi_163_30 : gF 163 30 = some (52, 33, 11, 42, 0, 0) := rfl
theorem gi_163_33 : gF 163 33 = some (2, 34, 1, 0, 0, 0) := rfl
theorem gi_163_34 : gF 163 34 = some (58, 35, 0, 0, 0, 0) := rfl
theorem gi_163_35 : gF 163 35 = some (37, 44, 0, 0, 0, 0) := rfl
theorem gi_163_38 : gF 163 38 = some (7, 39, 0, 0, 0, 0) := rfl
theorem gi_163_39 : gF 163 39 = some (52, 42, 11, 43, 0, 0) := rfl
theorem gi_163_42 : gF 163 42 = some (2, 43, 1, 0, 0, 0) := rfl
theorem gi_163_43 : gF 163 43 = some (58, 44, 0, 0, 0, 0) := rfl
theorem gi_163_44 : gF 163 44 = some (79, 45, 0, 0, 0, 0) := rfl
theorem gi_163_45 : gF 163 45 = some (7, 46, 0, 0, 0, 0) := rfl
theorem gi_163_46 : gF 163 46 = some (2, 47, 1, 0, 0, 0) := rfl
theorem gi_163_47 : gF 163 47 = some (2, 48, 2, 0, 0, 0) := rfl
theorem gi_163_48 : gF 163 48 = some (73, 51, 160, 2, 0, 0) := rfl
theorem gi_163_5 : gF 163 5 = some (74, 8, 148, 3, 0, 0) := rfl
theorem gi_163_51 : gF 163 51 = some (38, 54, 0, 63, 0, 0) := rfl
theorem gi_163_54 : gF 163 54 = some (7, 55, 0, 0, 0, 0) := rfl
theorem gi_163_55 : gF 163 55 = some (2, 56, 2, 0, 0, 0) := rfl
theorem gi_163_56 : gF 163 56 = some (2, 57, 1, 0, 0, 0) := rfl
theorem gi_163_57 : gF 163 57 = some (73, 60, 155, 2, 0, 0) := rfl
theorem gi_163_60 : gF 163 60 = some (37, 64, 0, 0, 0, 0) := rfl
theorem gi_163_64 : gF 163 64 = some (79, 65, 0, 0, 0, 0) := rfl
theorem gi_163_8 : gF 163 8 = some (38, 11, 0, 45, 0, 0) := rfl
theorem gi_164_0 : gF 164 0 = some (2, 1, 1, 0, 0, 0) := rfl
theorem gi_164_12 : gF 164 12 = some (79, 13, 0, 0, 0, 0) := rfl
theorem gi_164_13 : gF 164 13 = some (7, 14, 0, 0, 0, 0) := rfl
theorem gi_164_14 : gF 164 14 = some (50, 17, 11, 15, 0, 0) := rfl
theorem gi_164_19 : gF 164 19 = some (45, 22, 0, 25, 0, 0) := rfl
theorem gi_164_24 : gF 164 24 = some (79, 25, 0, 0, 0, 0) := rfl
theorem gi_164_25 : gF 164 25 = some (7, 26, 0, 0, 0, 0) := rfl
theorem gi_164_26 : gF 164 26 = some (52, 29, 11, 14, 0, 0) := rfl
theorem gi_164_29 : gF 164 29 = some (7, 30, 0, 0, 0, 0) := rfl
theorem gi_164_30 : gF 164 30 = some (50, 33, 11, 15, 0, 0) := rfl
theorem gi_164_33 : gF 164 33 = some (2, 34, 1, 0, 0, 0) := rfl
theorem gi_164_34 : gF 164 34 = some (31, 35, 0, 0, 0, 0) := rfl
theorem gi_164_35 : gF 164 35 = some (66, 36, 0, 0, 0, 0) := rfl
theorem gi_164_36 : gF 164 36 = some (7, 37, 0, 0, 0, 0) := rfl
theorem gi_164_37 : gF 164 37 = some (34, 38, 0, 0, 0, 0) := rfl
theorem gi_164_38 : gF 164 38 = some (50, 41, 11, 15, 0, 0) := rfl
theorem gi_164_42 : gF 164 42 = some (10, 43, 0, 0, 0, 0) := rfl
theorem gi_164_43 : gF 164 43 = some (53, 46, 11, 15, 0, 0) := rfl
theorem gi_164_46 : gF 164 46 = some (7, 47, 0, 0, 0, 0) := rfl
theorem gi_164_47 : gF 164 47 = some (50, 50, 11, 15, 0, 0) := rfl
theorem gi_164_5 : gF 164 5 = some (74, 8, 148, 3, 0, 0) := rfl
theorem gi_164_50 : gF 164 50 = some (79, 51, 0, 0, 0, 0) := rfl
theorem gi_164_8 : gF 164 8 = some (39, 11, 0, 13, 0, 0) := rfl
theorem gi_165_24 : gF 165 24 = some (79, 25, 0, 0, 0, 0) := rfl
theorem gi_166_0 : gF 166 0 = some (7, 1, 0, 0, 0, 0) := rfl
theorem gi_166_1 : gF 166 1 = some (50, 4, 11, 17, 0, 0) := rfl
theorem gi_166_12 : gF 166 12 = some (53, 15, 11, 17, 0, 0) := rfl
theorem gi_166_15 : gF 166 15 = some (81, 16, 0, 0, 0, 0) := rfl
theorem gi_166_4 : gF 166 4 = some (41, 7, 0, 15, 0, 0) := rfl
theorem gi_166_7 : gF 166 7 = some (7, 8, 0, 0, 0, 0) := rfl
theorem gi_166_8 : gF 166 8 = some (7, 9, 0, 0, 0, 0) := rfl
theorem gi_166_9 : gF 166 9 = some (50, 12, 11, 16, 0, 0) := rfl
theorem gi_168_85 : gF 168 85 = some (79, 86, 0, 0, 0, 0) := rfl
theorem gi_169_0 : gF 169 0 = some (7, 1, 0, 0, 0, 0) := rfl
theorem gi_169_1 : gF 169 1 = some (50, 4, 11, 18, 0, 0) := rfl
theorem gi_169_10 : gF 169 10 = some (73, 13, 166, 0, 0, 0) := rfl
theorem gi_169_14 : gF 169 14 = some (79, 15, 0, 0, 0, 0) := rfl
theorem gi_169_15 : gF 169 15 = some (7, 16, 0, 0, 0, 0) := rfl
theorem gi_169_16 : gF 169 16 = some (34, 17, 0, 0, 0, 0) := rfl
theorem gi_169_17 : gF 169 17 = some (50, 20, 11, 18, 0, 0) := rfl
theorem gi_169_21 : gF 169 21 = some (10, 22, 0, 0, 0, 0) := rfl
theorem gi_169_22 : gF 169 22 = some (53, 25, 11, 18, 0, 0) := rfl
theorem gi_169_25 : gF 169 25 = some (7, 26, 0, 0, 0, 0) := rfl
theorem gi_169_26 : gF 169 26 = some (34, 27, 0, 0, 0, 0) := rfl
theorem gi_169_27 : gF 169 27 = some (50, 30, 11, 16, 0, 0) := rfl
theorem gi_169_31 : gF 169 31 = some (10, 32, 0, 0, 0, 0) := rfl
theorem gi_169_32 : gF 169 32 = some (53, 35, 11, 16, 0, 0) := rfl
theorem gi_169_36 : gF 169 36 = some (79, 37, 0, 0, 0, 0) := rfl
theorem gi_169_6 : gF 169 6 = some (45, 9, 0, 15, 0, 0) := rfl
theorem gi_169_9 : gF 169 9 = some (7, 10, 0, 0, 0, 0) := rfl
theorem gi_17_0 : gF 17 0 = some (7, 1, 0, 0, 0, 0) := rfl
theorem gi_17_1 : gF 17 1 = some (50, 4, 1, 5, 0, 0) := rfl
theorem gi_17_4 : gF 17 4 = some (7, 5, 0, 0, 0, 0) := rfl
theorem gi_17_47 : gF 17 47 = some (7, 48, 0, 0, 0, 0) := rfl
theorem gi_17_48 : gF 17 48 = some (34, 49, 0, 0, 0, 0) := rfl
theorem gi_17_49 : gF 17 49 = some (50, 52, 1, 5, 0, 0) := rfl
theorem gi_17_5 : gF 17 5 = some (50, 8, 1, 6, 0, 0) := rfl
theorem gi_17_53 : gF 17 53 = some (10, 54, 0, 0, 0, 0) := rfl
theorem gi_17_54 : gF 17 54 = some (53, 57, 1, 5, 0, 0) := rfl
theorem gi_17_58 : gF 17 58 = some (79, 59, 0, 0, 0, 0) := rfl
theorem gi_17_8 : gF 17 8 = some (46, 11, 0, 13, 0, 0) := rfl
theorem gi_170_20 : gF 170 20 = some (38, 23, 0, 52, 0, 0) := rfl
theorem gi_170_67 : gF 170 67 = some (38, 70, 0, 74, 0, 0) := rfl
theorem gi_170_70 : gF 170 70 = some (7, 71, 0, 0, 0, 0) := rfl
theorem gi_170_71 : gF 170 71 = some (73, 74, 166, 0, 0, 0) := rfl
theorem gi_170_74 : gF 170 74 = some (7, 75, 0, 0, 0, 0) := rfl
theorem gi_170_76 : gF 170 76 = some (2, 77, 1, 0, 0, 0) := rfl
theorem gi_170_77 : gF 170 77 = some (73, 80, 167, 2, 0, 0) := rfl
theorem gi_170_80 : gF 170 80 = some (81, 81, 0, 0, 0, 0) := rfl
theorem gi_171_105 : gF 171 105 = some (7, 106, 0, 0, 0, 0) := rfl
theorem gi_171_106 : gF 171 106 = some (50, 109, 11, 17, 0, 0) := rfl
theorem gi_171_109 : gF 171 109 = some (40, 112, 0, 113, 0, 0) := rfl
theorem gi_171_154 : gF 171 154 = some (81, 155, 0, 0, 0, 0) := rfl
theorem gi_171_46 : gF 171 46 = some (7, 47, 0, 0, 0, 0) := rfl
theorem gi_171_47 : gF 171 47 = some (73, 50, 169, 0, 0, 0) := rfl
theorem gi_171_50 : gF 171 50 = some (39, 53, 0, 54, 0, 0) := rfl
theorem gi_171_53 : gF 171 53 = some (81, 54, 0, 0, 0, 0) := rfl
theorem gi_171_54 : gF 171 54 = some (7, 55, 0, 0, 0, 0) := rfl
theorem gi_171_55 : gF 171 55 = some (73, 58, 171, 0, 0, 0) := rfl
theorem gi_171_58 : gF 171 58 = some (7, 59, 0, 0, 0, 0) := rfl
theorem gi_171_59 : gF 171 59 = some (34, 60, 0, 0, 0, 0) := rfl
theorem gi_171_60 : gF 171 60 = some (50, 63, 11, 18, 0, 0) := rfl
theorem gi_171_64 : gF 171 64 = some (11, 65, 0, 0, 0, 0) := rfl
theorem gi_171_65 : gF 171 65 = some (53, 68, 11, 18, 0, 0) := rfl
theorem gi_171_68 : gF 171 68 = some (7, 69, 0, 0, 0, 0) := rfl
theorem gi_171_69 : gF 171 69 = some (2, 70, 1, 0, 0, 0) := rfl
theorem gi_171_72 : gF 171 72 = some (45, 75, 0, 79, 0, 0) := rfl
theorem gi_171_76 : gF 171 76 = some (37, 80, 0, 0, 0, 0) := rfl
theorem gi_171_81 : gF 171 81 = some (73, 84, 167, 2, 0, 0) := rfl
theorem gi_171_84 : gF 171 84 = some (37, 154, 0, 0, 0, 0) := rfl
theorem gi_171_97 : gF 171 97 = some (39, 100, 0, 101, 0, 0) := rfl
theorem gi_172_11 : gF 172 11 = some (7, 12, 0, 0, 0, 0) := rfl
theorem gi_172_12 : gF 172 12 = some (73, 15, 165, 0, 0, 0) := rfl
theorem gi_172_17 : gF 172 17 = some (44, 20, 0, 38, 0, 0) := rfl
theorem gi_172_20 : gF 172 20 = some (7, 21, 0, 0, 0, 0) := rfl
theorem gi_172_21 : gF 172 21 = some (73, 24, 165, 0, 0, 0) := rfl
theorem gi_172_26 : gF 172 26 = some (44, 29, 0, 38, 0, 0) := rfl
theorem gi_172_29 : gF 172 29 = some (7, 30, 0, 0, 0, 0) := rfl
theorem gi_172_30 : gF 172 30 = some (73, 33, 165, 0, 0, 0) := rfl
theorem gi_172_35 : gF 172 35 = some (45, 38, 0, 66, 0, 0) := rfl
theorem gi_172_38 : gF 172 38 = some (7, 39, 0, 0, 0, 0) := rfl
theorem gi_172_39 : gF 172 39 = some (73, 42, 165, 0, 0, 0) := rfl
theorem gi_172_4 : gF 172 4 = some (7, 5, 0, 0, 0, 0) := rfl
theorem gi_172_42 : gF 172 42 = some (3, 43, 1, 0, 0, 0) := rfl
theorem gi_172_43 : gF 172 43 = some (7, 44, 0, 0, 0, 0) := rfl
theorem gi_172_44 : gF 172 44 = some (34, 45, 0, 0, 0, 0) := rfl
theorem gi_172_45 : gF 172 45 = some (50, 48, 11, 16, 0, 0) := rfl
theorem gi_172_49 : gF 172 49 = some (10, 50, 0, 0, 0, 0) := rfl
theorem gi_172_5 : gF 172 5 = some (50, 8, 11, 17, 0, 0) := rfl
theorem gi_172_50 : gF 172 50 = some (53, 53, 11, 16, 0, 0) := rfl
theorem gi_172_53 : gF 172 53 = some (7, 54, 0, 0, 0, 0) := rfl
theorem gi_172_54 : gF 172 54 = some (73, 57, 171, 0, 0, 0) := rfl
theorem gi_172_57 : gF 172 57 = some (7, 58, 0, 0, 0, 0) := rfl
theorem gi_172_58 : gF 172 58 = some (2, 59, 1, 0, 0, 0) := rfl
theorem gi_172_60 : gF 172 60 = some (73, 63, 167, 2, 0, 0) := rfl
theorem gi_172_63 : gF 172 63 = some (37, 4, 0, 0, 0, 0) := rfl
theorem gi_172_66 : gF 172 66 = some (81, 67, 0, 0, 0, 0) := rfl
theorem gi_172_8 : gF 172 8 = some (41, 11, 0, 66, 0, 0) := rfl
theorem gi_173_11 : gF 173 11 = some (7, 12, 0, 0, 0, 0) := rfl
theorem gi_173_12 : gF 173 12 = some (73, 15, 165, 0, 0, 0) := rfl
theorem gi_173_17 : gF 173 17 = some (44, 20, 0, 29, 0, 0) := rfl
theorem gi_173_20 : gF 173 20 = some (7, 21, 0, 0, 0, 0) := rfl
theorem gi_173_21 : gF 173 21 = some (73, 24, 165, 0, 0, 0) := rfl
theorem gi_173_26 : gF 173 26 = some (45, 29, 0, 57, 0, 0) := rfl
theorem gi_173_29 : gF 173 29 = some (7, 30, 0, 0, 0, 0) := rfl
theorem gi_173_30 : gF 173 30 = some (73, 33, 165, 0, 0, 0) := rfl
theorem gi_173_33 : gF 173 33 = some (3, 34, 1, 0, 0, 0) := rfl
theorem gi_173_34 : gF 173 34 = some (7, 35, 0, 0, 0, 0) := rfl
theorem gi_173_35 : gF 173 35 = some (34, 36, 0, 0, 0, 0) := rfl
theorem gi_173_36 : gF 173 36 = some (50, 39, 11, 16, 0, 0) := rfl
theorem gi_173_4 : gF 173 4 = some (7, 5, 0, 0, 0, 0) := rfl
theorem gi_173_40 : gF 173 40 = some (10, 41, 0, 0, 0, 0) := rfl
theorem gi_173_41 : gF 173 41 = some (53, 44, 11, 16, 0, 0) := rfl
theorem gi_173_44 : gF 173 44 = some (7, 45, 0, 0, 0, 0) := rfl
theorem gi_173_45 : gF 173 45 = some (73, 48, 172, 0, 0, 0) := rfl
theorem gi_173_48 : gF 173 48 = some (7, 49, 0, 0, 0, 0) := rfl
theorem gi_173_49 : gF 173 49 = some (2, 50, 1, 0, 0, 0) := rfl
theorem gi_173_5 : gF 173 5 = some (50, 8, 11, 17, 0, 0) := rfl
theorem gi_173_51 : gF 173 51 = some (73, 54, 167, 2, 0, 0) := rfl
theorem gi_173_54 : gF 173 54 = some (37, 4, 0, 0, 0, 0) := rfl
theorem gi_173_57 : gF 173 57 = some (81, 58, 0, 0, 0, 0) := rfl
theorem gi_173_8 : gF 173 8 = some (41, 11, 0, 57, 0, 0) := rfl
theorem gi_174_10 : gF 174 10 = some (50, 13, 11, 17, 0, 0) := rfl
theorem gi_174_13 : gF 174 13 = some (41, 16, 0, 34, 0, 0) := rfl
theorem gi_174_34 : gF 174 34 = some (81, 35, 0, 0, 0, 0) := rfl
theorem gi_174_35 : gF 174 35 = some (7, 36, 0, 0, 0, 0) := rfl
theorem gi_174_36 : gF 174 36 = some (34, 37, 0, 0, 0, 0) := rfl
theorem gi_174_37 : gF 174 37 = some (50, 40, 11, 16, 0, 0) := rfl
theorem gi_174_4 : gF 174 4 = some (7, 5, 0, 0, 0, 0) := rfl
theorem gi_174_41 : gF 174 41 = some (10, 42, 0, 0, 0, 0) := rfl
theorem gi_174_42 : gF 174 42 = some (53, 45, 11, 16, 0, 0) := rfl
theorem gi_174_45 : gF 174 45 = some (7, 46, 0, 0, 0, 0) := rfl
theorem gi_174_46 : gF 174 46 = some (73, 49, 173, 0, 0, 0) := rfl
theorem gi_174_49 : gF 174 49 = some (7, 50, 0, 0, 0, 0) := rfl
theorem gi_174_5 : gF 174 5 = some (73, 8, 165, 0, 0, 0) := rfl
theorem gi_174_50 : gF 174 50 = some (2, 51, 1, 0, 0, 0) := rfl
theorem gi_174_52 : gF 174 52 = some (73, 55, 167, 2, 0, 0) := rfl
theorem gi_174_55 : gF 174 55 = some (81, 56, 0, 0, 0, 0) := rfl
theorem gi_174_8 : gF 174 8 = some (3, 9, 1, 0, 0, 0) := rfl
theorem gi_174_9 : gF 174 9 = some (7, 10, 0, 0, 0, 0) := rfl
theorem gi_175_11 : gF 175 11 = some (7, 12, 0, 0, 0, 0) := rfl
theorem gi_175_12 : gF 175 12 = some (73, 15, 165, 0, 0, 0) := rfl
theorem gi_175_17 : gF 175 17 = some (45, 20, 0, 44, 0, 0) := rfl
theorem gi_175_34 : gF 175 34 = some (7, 35, 0, 0, 0, 0) := rfl
theorem gi_175_38 : gF 175 38 = some (73, 41, 167, 2, 0, 0) := rfl
theorem gi_175_4 : gF 175 4 = some (7, 5, 0, 0, 0, 0) := rfl
theorem gi_175_41 : gF 175 41 = some (37, 4, 0, 0, 0, 0) := rfl
theorem gi_175_44 : gF 175 44 = some (81, 45, 0, 0, 0, 0) := rfl
theorem gi_175_5 : gF 175 5 = some (50, 8, 11, 17, 0, 0) := rfl
theorem gi_175_8 : gF 175 8 = some (41, 11, 0, 44, 0, 0) := rfl
theorem gi_176_11 : gF 176 11 = some (7, 12, 0, 0, 0, 0) := rfl
theorem gi_176_12 : gF 176 12 = some (73, 15, 165, 0, 0, 0) := rfl
theorem gi_176_17 : gF 176 17 = some (45, 20, 0, 44, 0, 0) := rfl
theorem gi_176_34 : gF 176 34 = some (7, 35, 0, 0, 0, 0) := rfl
theorem gi_176_38 : gF 176 38 = some (73, 41, 167, 2, 0, 0) := rfl
theorem gi_176_4 : gF 176 4 = some (7, 5, 0, 0, 0, 0) := rfl
theorem gi_176_41 : gF 176 41 = some (37, 4, 0, 0, 0, 0) := rfl
theorem gi_176_44 : gF 176 44 = some (81, 45, 0, 0, 0, 0) := rfl
theorem gi_176_5 : gF 176 5 = some (50, 8, 11, 17, 0, 0) := rfl
theorem gi_176_8 : gF 176 8 = some (41, 11, 0, 44, 0, 0) := rfl
theorem gi_177_25 : gF 177 25 = some (7, 26, 0, 0, 0, 0) := rfl
theorem gi_177_26 : gF 177 26 = some (50, 29, 11, 17, 0, 0) := rfl
theorem gi_177_29 : gF 177 29 = some (41, 32, 0, 66, 0, 0) := rfl
theorem gi_177_66 : gF 177 66 = some (7, 67, 0, 0, 0, 0) := rfl
theorem gi_177_67 : gF 177 67 = some (52, 70, 11, 24, 0, 0) := rfl
theorem gi_177_70 : gF 177 70 = some (2, 71, 1, 0, 0, 0) := rfl
theorem gi_177_71 : gF 177 71 = some (7, 72, 0, 0, 0, 0) := rfl
theorem gi_177_72 : gF 177 72 = some (50, 75, 11, 19, 0, 0) := rfl
theorem gi_177_75 : gF 177 75 = some (32, 76, 0, 0, 0, 0) := rfl
theorem gi_177_76 : gF 177 76 = some (67, 77, 0, 0, 0, 0) := rfl
theorem gi_177_77 : gF 177 77 = some (7, 78, 0, 0, 0, 0) := rfl
theorem gi_177_78 : gF 177 78 = some (52, 81, 11, 22, 0, 0) := rfl
theorem gi_177_82 : gF 177 82 = some (36, 83, 0, 0, 0, 0) := rfl
theorem gi_177_83 : gF 177 83 = some (58, 84, 0, 0, 0, 0) := rfl
theorem gi_177_85 : gF 177 85 = some (10, 86, 0, 0, 0, 0) := rfl
theorem gi_177_86 : gF 177 86 = some (64, 87, 0, 0, 0, 0) := rfl
theorem gi_177_87 : gF 177 87 = some (81, 88, 0, 0, 0, 0) := rfl
theorem gi_178_102 : gF 178 102 = some (79, 103, 0, 0, 0, 0) := rfl
theorem gi_178_31 : gF 178 31 = some (7, 32, 0, 0, 0, 0) := rfl
theorem gi_178_32 : gF 178 32 = some (50, 35, 11, 17, 0, 0) := rfl
theorem gi_178_35 : gF 178 35 = some (41, 38, 0, 64, 0, 0) := rfl
theorem gi_178_38 : gF 178 38 = some (7, 39, 0, 0, 0, 0) := rfl
theorem gi_178_39 : gF 178 39 = some (73, 42, 165, 0, 0, 0) := rfl
theorem gi_178_44 : gF 178 44 = some (45, 47, 0, 64, 0, 0) := rfl
theorem gi_178_47 : gF 178 47 = some (7, 48, 0, 0, 0, 0) := rfl
theorem gi_178_48 : gF 178 48 = some (34, 49, 0, 0, 0, 0) := rfl
theorem gi_178_49 : gF 178 49 = some (50, 52, 11, 16, 0, 0) := rfl
theorem gi_178_53 : gF 178 53 = some (10, 54, 0, 0, 0, 0) := rfl
theorem gi_178_54 : gF 178 54 = some (53, 57, 11, 16, 0, 0) := rfl
theorem gi_178_61 : gF 178 61 = some (37, 31, 0, 0, 0, 0) := rfl
theorem gi_178_64 : gF 178 64 = some (7, 65, 0, 0, 0, 0) := rfl
theorem gi_178_65 : gF 178 65 = some (50, 68, 11, 17, 0, 0) := rfl
theorem gi_178_68 : gF 178 68 = some (41, 71, 0, 86, 0, 0) := rfl
theorem gi_178_71 : gF 178 71 = some (7, 72, 0, 0, 0, 0) := rfl
theorem gi_178_72 : gF 178 72 = some (50, 75, 11, 16, 0, 0) := rfl
theorem gi_178_75 : gF 178 75 = some (7, 76, 0, 0, 0, 0) := rfl
theorem gi_178_76 : gF 178 76 = some (50, 79, 11, 15, 0, 0) := rfl
theorem gi_178_79 : gF 178 79 = some (47, 82, 0, 86, 0, 0) := rfl
theorem gi_178_86 : gF 178 86 = some (7, 87, 0, 0, 0, 0) := rfl
theorem gi_178_88 : gF 178 88 = some (53, 91, 11, 15, 0, 0) := rfl
theorem gi_178_91 : gF 178 91 = some (7, 92, 0, 0, 0, 0) := rfl
theorem gi_178_92 : gF 178 92 = some (50, 95, 11, 17, 0, 0) := rfl
theorem gi_178_95 : gF 178 95 = some (40, 98, 0, 103, 0, 0) := rfl
theorem gi_178_98 : gF 178 98 = some (7, 99, 0, 0, 0, 0) := rfl
theorem gi_178_99 : gF 178 99 = some (50, 102, 11, 17, 0, 0) := rfl
theorem gi_179_0 : gF 179 0 = some (2, 1, 0, 0, 0, 0) := rfl
theorem gi_179_1 : gF 179 1 = some (82, 218, 0, 0, 0, 0) := rfl
theorem gi_179_153 : gF 179 153 = some (79, 154, 0, 0, 0, 0) := rfl
theorem gi_179_164 : gF 179 164 = some (37, 170, 0, 0, 0, 0) := rfl
theorem gi_179_170 : gF 179 170 = some (79, 171, 0, 0, 0, 0) := rfl
theorem gi_179_181 : gF 179 181 = some (79, 182, 0, 0, 0, 0) := rfl
theorem gi_179_192 : gF 179 192 = some (79, 193, 0, 0, 0, 0) := rfl
theorem gi_179_203 : gF 179 203 = some (79, 204, 0, 0, 0, 0) := rfl
theorem gi_179_217 : gF 179 217 = some (79, 218, 0, 0, 0, 0) := rfl
theorem gi_179_227 : gF 179 227 = some (37, 231, 0, 0, 0, 0) := rfl
theorem gi_179_231 : gF 179 231 = some (79, 232, 0, 0, 0, 0) := rfl
theorem gi_180_117 : gF 180 117 = some (64, 118, 0, 0, 0, 0) := rfl
theorem gi_180_118 : gF 180 118 = some (37, 182, 0, 0, 0, 0) := rfl
theorem gi_180_12 : gF 180 12 = some (2, 14, 5, 0, 0, 0) := rfl
theorem gi_180_121 : gF 180 121 = some (2, 123, 6, 0, 0, 0) := rfl
theorem gi_180_124 : gF 180 124 = some (45, 127, 0, 149, 0, 0) := rfl
theorem gi_180_17 : gF 180 17 = some (2, 18, 1, 0, 0, 0) := rfl
theorem gi_180_18 : gF 180 18 = some (12, 19, 0, 0, 0, 0) := rfl
theorem gi_180_182 : gF 180 182 = some (8, 185, 5, 0, 1, 0) := rfl
theorem gi_180_185 : gF 180 185 = some (37, 12, 0, 0, 0, 0) := rfl
theorem gi_180_19 : gF 180 19 = some (2, 20, 3, 0, 0, 0) := rfl
theorem gi_180_20 : gF 180 20 = some (10, 21, 0, 0, 0, 0) := rfl
theorem gi_180_21 : gF 180 21 = some (47, 24, 0, 188, 0, 0) := rfl
theorem gi_180_24 : gF 180 24 = some (7, 25, 0, 0, 0, 0) := rfl
theorem gi_180_25 : gF 180 25 = some (52, 28, 11, 20, 0, 0) := rfl
theorem gi_180_28 : gF 180 28 = some (2, 30, 5, 0, 0, 0) := rfl
theorem gi_180_30 : gF 180 30 = some (61, 31, 0, 0, 0, 0) := rfl
theorem gi_180_31 : gF 180 31 = some (3, 33, 6, 0, 0, 0) := rfl
theorem gi_180_33 : gF 180 33 = some (2, 35, 6, 0, 0, 0) := rfl
theorem gi_180_36 : gF 180 36 = some (44, 39, 0, 45, 0, 0) := rfl
theorem gi_180_39 : gF 180 39 = some (2, 41, 6, 0, 0, 0) := rfl
theorem gi_180_42 : gF 180 42 = some (45, 45, 0, 86, 0, 0) := rfl
theorem gi_180_45 : gF 180 45 = some (7, 46, 0, 0, 0, 0) := rfl
theorem gi_180_46 : gF 180 46 = some (52, 49, 11, 26, 0, 0) := rfl
theorem gi_180_49 : gF 180 49 = some (2, 51, 4, 0, 0, 0) := rfl
theorem gi_180_51 : gF 180 51 = some (2, 53, 6, 0, 0, 0) := rfl
theorem gi_180_54 : gF 180 54 = some (45, 57, 0, 67, 0, 0) := rfl
theorem gi_180_67 : gF 180 67 = some (7, 68, 0, 0, 0, 0) := rfl
theorem gi_180_68 : gF 180 68 = some (52, 71, 11, 25, 0, 0) := rfl
theorem gi_180_71 : gF 180 71 = some (7, 72, 0, 0, 0, 0) := rfl
theorem gi_180_72 : gF 180 72 = some (52, 75, 11, 21, 0, 0) := rfl
theorem gi_180_75 : gF 180 75 = some (2, 77, 5, 0, 0, 0) := rfl
theorem gi_180_77 : gF 180 77 = some (58, 78, 0, 0, 0, 0) := rfl
theorem gi_180_78 : gF 180 78 = some (58, 79, 0, 0, 0, 0) := rfl
theorem gi_180_79 : gF 180 79 = some (64, 80, 0, 0, 0, 0) := rfl
theorem gi_180_80 : gF 180 80 = some (8, 83, 4, 0, 1, 0) := rfl
theorem gi_180_83 : gF 180 83 = some (37, 182, 0, 0, 0, 0) := rfl
theorem gi_180_86 : gF 180 86 = some (2, 88, 6, 0, 0, 0) := rfl
theorem gi_180_89 : gF 180 89 = some (45, 92, 0, 121, 0, 0) := rfl
theorem gi_181_10 : gF 181 10 = some (2, 11, 1, 0, 0, 0) := rfl
theorem gi_181_11 : gF 181 11 = some (12, 12, 0, 0, 0, 0) := rfl
theorem gi_181_12 : gF 181 12 = some (7, 13, 0, 0, 0, 0) := rfl
theorem gi_181_13 : gF 181 13 = some (52, 16, 11, 22, 0, 0) := rfl
theorem gi_181_16 : gF 181 16 = some (2, 17, 1, 0, 0, 0) := rfl
theorem gi_181_17 : gF 181 17 = some (58, 18, 0, 0, 0, 0) := rfl
theorem gi_181_18 : gF 181 18 = some (10, 19, 0, 0, 0, 0) := rfl
theorem gi_181_19 : gF 181 19 = some (47, 22, 0, 78, 0, 0) := rfl
theorem gi_181_22 : gF 181 22 = some (7, 23, 0, 0, 0, 0) := rfl
theorem gi_181_23 : gF 181 23 = some (52, 26, 11, 23, 0, 0) := rfl
theorem gi_181_26 : gF 181 26 = some (2, 27, 3, 0, 0, 0) := rfl
theorem gi_181_27 : gF 181 27 = some (62, 28, 0, 0, 0, 0) := rfl
theorem gi_181_28 : gF 181 28 = some (2, 29, 2, 0, 0, 0) := rfl
theorem gi_181_29 : gF 181 29 = some (44, 32, 0, 47, 0, 0) := rfl
theorem gi_181_47 : gF 181 47 = some (7, 48, 0, 0, 0, 0) := rfl
theorem gi_181_48 : gF 181 48 = some (2, 49, 1, 0, 0, 0) := rfl
theorem gi_181_49 : gF 181 49 = some (7, 50, 0, 0, 0, 0) := rfl
theorem gi_181_50 : gF 181 50 = some (52, 53, 11, 23, 0, 0) := rfl
theorem gi_181_53 : gF 181 53 = some (2, 54, 3, 0, 0, 0) := rfl
theorem gi_181_54 : gF 181 54 = some (62, 55, 0, 0, 0, 0) := rfl
theorem gi_181_55 : gF 181 55 = some (7, 56, 0, 0, 0, 0) := rfl
theorem gi_181_56 : gF 181 56 = some (52, 59, 11, 24, 0, 0) := rfl
theorem gi_181_59 : gF 181 59 = some (2, 60, 3, 0, 0, 0) := rfl
theorem gi_181_60 : gF 181 60 = some (62, 61, 0, 0, 0, 0) := rfl
theorem gi_181_61 : gF 181 61 = some (73, 64, 180, 3, 0, 0) := rfl
theorem gi_181_64 : gF 181 64 = some (79, 65, 0, 0, 0, 0) := rfl
theorem gi_181_7 : gF 181 7 = some (2, 8, 3, 0, 0, 0) := rfl
theorem gi_182_6 : gF 182 6 = some (2, 7, 1, 0, 0, 0) := rfl
theorem gi_182_7 : gF 182 7 = some (40, 10, 0, 15, 0, 0) := rfl
theorem gi_183_0 : gF 183 0 = some (7, 1, 0, 0, 0, 0) := rfl
theorem gi_183_1 : gF 183 1 = some (52, 4, 11, 7, 0, 0) := rfl
theorem gi_183_10 : gF 183 10 = some (7, 11, 0, 0, 0, 0) := rfl
theorem gi_183_100 : gF 183 100 = some (52, 103, 11, 25, 0, 0) := rfl
theorem gi_183_104 : gF 183 104 = some (2, 105, 3, 0, 0, 0) := rfl
theorem gi_183_105 : gF 183 105 = some (64, 106, 0, 0, 0, 0) := rfl
theorem gi_183_106 : gF 183 106 = some (7, 107, 0, 0, 0, 0) := rfl
theorem gi_183_107 : gF 183 107 = some (52, 110, 11, 25, 0, 0) := rfl
theorem gi_183_11 : gF 183 11 = some (52, 14, 11, 7, 0, 0) := rfl
theorem gi_183_111 : gF 183 111 = some (2, 113, 4, 0, 0, 0) := rfl
theorem gi_183_113 : gF 183 113 = some (64, 114, 0, 0, 0, 0) := rfl
theorem gi_183_114 : gF 183 114 = some (7, 115, 0, 0, 0, 0) := rfl
theorem gi_183_115 : gF 183 115 = some (52, 118, 11, 25, 0, 0) := rfl
theorem gi_183_119 : gF 183 119 = some (2, 120, 1, 0, 0, 0) := rfl
theorem gi_183_120 : gF 183 120 = some (64, 121, 0, 0, 0, 0) := rfl
theorem gi_183_121 : gF 183 121 = some (7, 122, 0, 0, 0, 0) := rfl
theorem gi_183_123 : gF 183 123 = some (73, 126, 181, 1, 0, 0) := rfl
theorem gi_183_126 : gF 183 126 = some (3, 128, 5, 0, 0, 0) := rfl
theorem gi_183_128 : gF 183 128 = some (2, 130, 5, 0, 0, 0) := rfl
theorem gi_183_130 : gF 183 130 = some (41, 133, 0, 137, 0, 0) := rfl
theorem gi_183_134 : gF 183 134 = some (37, 151, 0, 0, 0, 0) := rfl
theorem gi_183_137 : gF 183 137 = some (2, 139, 5, 0, 0, 0) := rfl
theorem gi_183_141 : gF 183 141 = some (49, 144, 0, 149, 0, 0) := rfl
theorem gi_183_146 : gF 183 146 = some (37, 151, 0, 0, 0, 0) := rfl
theorem gi_183_149 : gF 183 149 = some (2, 151, 5, 0, 0, 0) := rfl
theorem gi_183_15 : gF 183 15 = some (58, 16, 0, 0, 0, 0) := rfl
theorem gi_183_151 : gF 183 151 = some (79, 152, 0, 0, 0, 0) := rfl
theorem gi_183_16 : gF 183 16 = some (2, 17, 3, 0, 0, 0) := rfl
theorem gi_183_17 : gF 183 17 = some (11, 18, 0, 0, 0, 0) := rfl
theorem gi_183_18 : gF 183 18 = some (37, 22, 0, 0, 0, 0) := rfl
theorem gi_183_22 : gF 183 22 = some (3, 24, 4, 0, 0, 0) := rfl
theorem gi_183_24 : gF 183 24 = some (2, 26, 4, 0, 0, 0) := rfl
theorem gi_183_26 : gF 183 26 = some (43, 29, 0, 45, 0, 0) := rfl
theorem gi_183_29 : gF 183 29 = some (7, 30, 0, 0, 0, 0) := rfl
theorem gi_183_30 : gF 183 30 = some (52, 33, 11, 5, 0, 0) := rfl
theorem gi_183_33 : gF 183 33 = some (2, 34, 1, 0, 0, 0) := rfl
theorem gi_183_34 : gF 183 34 = some (58, 35, 0, 0, 0, 0) := rfl
theorem gi_183_35 : gF 183 35 = some (7, 36, 0, 0, 0, 0) := rfl
theorem gi_183_36 : gF 183 36 = some (52, 39, 11, 6, 0, 0) := rfl
theorem gi_183_39 : gF 183 39 = some (2, 40, 1, 0, 0, 0) := rfl
theorem gi_183_40 : gF 183 40 = some (58, 41, 0, 0, 0, 0) := rfl
theorem gi_183_41 : gF 183 41 = some (11, 42, 0, 0, 0, 0) := rfl
theorem gi_183_42 : gF 183 42 = some (37, 59, 0, 0, 0, 0) := rfl
theorem gi_183_45 : gF 183 45 = some (7, 46, 0, 0, 0, 0) := rfl
theorem gi_183_46 : gF 183 46 = some (52, 49, 11, 6, 0, 0) := rfl
theorem gi_183_49 : gF 183 49 = some (2, 50, 1, 0, 0, 0) := rfl
theorem gi_183_5 : gF 183 5 = some (58, 6, 0, 0, 0, 0) := rfl
theorem gi_183_50 : gF 183 50 = some (58, 51, 0, 0, 0, 0) := rfl
theorem gi_183_51 : gF 183 51 = some (39, 54, 0, 58, 0, 0) := rfl
theorem gi_183_55 : gF 183 55 = some (37, 59, 0, 0, 0, 0) := rfl
theorem gi_183_59 : gF 183 59 = some (3, 61, 5, 0, 0, 0) := rfl
theorem gi_183_6 : gF 183 6 = some (2, 7, 3, 0, 0, 0) := rfl
theorem gi_183_61 : gF 183 61 = some (7, 62, 0, 0, 0, 0) := rfl
theorem gi_183_62 : gF 183 62 = some (50, 65, 11, 27, 0, 0) := rfl
theorem gi_183_65 : gF 183 65 = some (38, 68, 0, 128, 0, 0) := rfl
theorem gi_183_68 : gF 183 68 = some (7, 69, 0, 0, 0, 0) := rfl
theorem gi_183_69 : gF 183 69 = some (52, 72, 11, 25, 0, 0) := rfl
theorem gi_183_7 : gF 183 7 = some (49, 10, 0, 21, 0, 0) := rfl
theorem gi_183_73 : gF 183 73 = some (7, 74, 0, 0, 0, 0) := rfl
theorem gi_183_74 : gF 183 74 = some (52, 77, 11, 5, 0, 0) := rfl
theorem gi_183_77 : gF 183 77 = some (2, 78, 1, 0, 0, 0) := rfl
theorem gi_183_78 : gF 183 78 = some (58, 79, 0, 0, 0, 0) := rfl
theorem gi_183_79 : gF 183 79 = some (64, 80, 0, 0, 0, 0) := rfl
theorem gi_183_80 : gF 183 80 = some (7, 81, 0, 0, 0, 0) := rfl
theorem gi_183_81 : gF 183 81 = some (52, 84, 11, 25, 0, 0) := rfl
theorem gi_183_85 : gF 183 85 = some (7, 86, 0, 0, 0, 0) := rfl
theorem gi_183_86 : gF 183 86 = some (52, 89, 11, 6, 0, 0) := rfl
theorem gi_183_89 : gF 183 89 = some (2, 90, 1, 0, 0, 0) := rfl
theorem gi_183_90 : gF 183 90 = some (58, 91, 0, 0, 0, 0) := rfl
theorem gi_183_91 : gF 183 91 = some (64, 92, 0, 0, 0, 0) := rfl
theorem gi_183_92 : gF 183 92 = some (7, 93, 0, 0, 0, 0) := rfl
theorem gi_183_93 : gF 183 93 = some (52, 96, 11, 25, 0, 0) := rfl
theorem gi_183_97 : gF 183 97 = some (2, 98, 2, 0, 0, 0) := rfl
theorem gi_183_98 : gF 183 98 = some (64, 99, 0, 0, 0, 0) := rfl
theorem gi_183_99 : gF 183 99 = some (7, 100, 0, 0, 0, 0) := rfl
theorem gi_184_0 : gF 184 0 = some (7, 1, 0, 0, 0, 0) := rfl
theorem gi_184_1 : gF 184 1 = some (2, 2, 1, 0, 0, 0) := rfl
theorem gi_184_12 : gF 184 12 = some (74, 15, 148, 3, 0, 0) := rfl
theorem gi_184_15 : gF 184 15 = some (38, 18, 0, 36, 0, 0) := rfl
theorem gi_184_2 : gF 184 2 = some (73, 5, 151, 1, 0, 0) := rfl
theorem gi_184_37 : gF 184 37 = some (79, 38, 0, 0, 0, 0) := rfl
theorem gi_184_5 : gF 184 5 = some (38, 8, 0, 36, 0, 0) := rfl
theorem gi_184_8 : gF 184 8 = some (2, 9, 2, 0, 0, 0) := rfl
theorem gi_186_14 : gF 186 14 = some (79, 15, 0, 0, 0, 0) := rfl
theorem gi_188_15 : gF 188 15 = some (3, 16, 2, 0, 0, 0) := rfl
theorem gi_188_16 : gF 188 16 = some (7, 17, 0, 0, 0, 0) := rfl
theorem gi_188_17 : gF 188 17 = some (52, 20, 11, 2, 0, 0) := rfl
theorem gi_188_20 : gF 188 20 = some (2, 21, 2, 0, 0, 0) := rfl
theorem gi_188_21 : gF 188 21 = some (58, 22, 0, 0, 0, 0) := rfl
theorem gi_188_22 : gF 188 22 = some (7, 23, 0, 0, 0, 0) := rfl
theorem gi_188_23 : gF 188 23 = some (52, 26, 11, 2, 0, 0) := rfl
theorem gi_188_26 : gF 188 26 = some (2, 27, 1, 0, 0, 0) := rfl
theorem gi_188_27 : gF 188 27 = some (58, 28, 0, 0, 0, 0) := rfl
theorem gi_188_28 : gF 188 28 = some (74, 31, 149, 2, 0, 0) := rfl
theorem gi_188_31 : gF 188 31 = some (7, 32, 0, 0, 0, 0) := rfl
theorem gi_188_32 : gF 188 32 = some (52, 35, 11, 3, 0, 0) := rfl
theorem gi_188_35 : gF 188 35 = some (2, 36, 2, 0, 0, 0) := rfl
theorem gi_188_36 : gF 188 36 = some (58, 37, 0, 0, 0, 0) := rfl
theorem gi_188_37 : gF 188 37 = some (7, 38, 0, 0, 0, 0) := rfl
theorem gi_188_38 : gF 188 38 = some (52, 41, 11, 3, 0, 0) := rfl
theorem gi_188_41 : gF 188 41 = some (2, 42, 1, 0, 0, 0) := rfl
theorem gi_188_42 : gF 188 42 = some (58, 43, 0, 0, 0, 0) := rfl
theorem gi_188_43 : gF 188 43 = some (74, 46, 149, 2, 0, 0) := rfl
theorem gi_188_46 : gF 188 46 = some (10, 47, 0, 0, 0, 0) := rfl
theorem gi_188_47 : gF 188 47 = some (3, 48, 3, 0, 0, 0) := rfl
theorem gi_188_48 : gF 188 48 = some (2, 49, 3, 0, 0, 0) := rfl
theorem gi_188_49 : gF 188 49 = some (7, 50, 0, 0, 0, 0) := rfl
theorem gi_188_50 : gF 188 50 = some (52, 53, 11, 7, 0, 0) := rfl
theorem gi_188_54 : gF 188 54 = some (58, 55, 0, 0, 0, 0) := rfl
theorem gi_188_55 : gF 188 55 = some (10, 56, 0, 0, 0, 0) := rfl
theorem gi_188_57 : gF 188 57 = some (11, 58, 0, 0, 0, 0) := rfl
theorem gi_188_58 : gF 188 58 = some (7, 59, 0, 0, 0, 0) := rfl
theorem gi_188_59 : gF 188 59 = some (52, 62, 11, 7, 0, 0) := rfl
theorem gi_188_63 : gF 188 63 = some (58, 64, 0, 0, 0, 0) := rfl
theorem gi_188_64 : gF 188 64 = some (19, 65, 0, 0, 0, 0) := rfl
theorem gi_188_65 : gF 188 65 = some (79, 66, 0, 0, 0, 0) := rfl
theorem gi_190_0 : gF 190 0 = some (7, 1, 0, 0, 0, 0) := rfl
theorem gi_190_1 : gF 190 1 = some (50, 4, 11, 31, 0, 0) := rfl
theorem gi_190_10 : gF 190 10 = some (2, 11, 2, 0, 0, 0) := rfl
theorem gi_190_11 : gF 190 11 = some (10, 12, 0, 0, 0, 0) := rfl
theorem gi_190_15 : gF 190 15 = some (48, 18, 0, 22, 0, 0) := rfl
theorem gi_190_19 : gF 190 19 = some (37, 23, 0, 0, 0, 0) := rfl
theorem gi_190_23 : gF 190 23 = some (79, 24, 0, 0, 0, 0) := rfl
theorem gi_190_4 : gF 190 4 = some (7, 5, 0, 0, 0, 0) := rfl
theorem gi_190_5 : gF 190 5 = some (2, 6, 1, 0, 0, 0) := rfl
theorem gi_190_6 : gF 190 6 = some (73, 9, 188, 1, 0, 0) := rfl
theorem gi_190_9 : gF 190 9 = some (10, 10, 0, 0, 0, 0) := rfl
theorem gi_191_80 : gF 191 80 = some (8, 83, 3, 0, 1, 0) := rfl
theorem gi_191_83 : gF 191 83 = some (37, 21, 0, 0, 0, 0) := rfl
theorem gi_192_0 : gF 192 0 = some (7, 1, 0, 0, 0, 0) := rfl
theorem gi_192_1 : gF 192 1 = some (52, 4, 11, 58, 0, 0) := rfl
theorem gi_192_12 : gF 192 12 = some (37, 32, 0, 0, 0, 0) := rfl
theorem gi_192_15 : gF 192 15 = some (7, 16, 0, 0, 0, 0) := rfl
theorem gi_192_16 : gF 192 16 = some (52, 19, 11, 58, 0, 0) := rfl
theorem gi_192_19 : gF 192 19 = some (2, 20, 1, 0, 0, 0) := rfl
theorem gi_192_20 : gF 192 20 = some (58, 21, 0, 0, 0, 0) := rfl
theorem gi_192_23 : gF 192 23 = some (45, 26, 0, 30, 0, 0) := rfl
theorem gi_192_27 : gF 192 27 = some (37, 32, 0, 0, 0, 0) := rfl
theorem gi_192_32 : gF 192 32 = some (79, 33, 0, 0, 0, 0) := rfl
theorem gi_192_4 : gF 192 4 = some (2, 5, 1, 0, 0, 0) := rfl
theorem gi_192_5 : gF 192 5 = some (58, 6, 0, 0, 0, 0) := rfl
theorem gi_192_7 : gF 192 7 = some (45, 10, 0, 15, 0, 0) := rfl
theorem gi_193_0 : gF 193 0 = some (7, 1, 0, 0, 0, 0) := rfl
theorem gi_193_1 : gF 193 1 = some (52, 4, 11, 60, 0, 0) := rfl
theorem gi_193_10 : gF 193 10 = some (59, 11, 0, 0, 0, 0) := rfl
theorem gi_193_11 : gF 193 11 = some (30, 12, 0, 0, 0, 0) := rfl
theorem gi_193_12 : gF 193 12 = some (79, 13, 0, 0, 0, 0) := rfl
theorem gi_193_6 : gF 193 6 = some (2, 7, 1, 0, 0, 0) := rfl
theorem gi_193_7 : gF 193 7 = some (12, 8, 0, 0, 0, 0) := rfl
theorem gi_193_8 : gF 193 8 = some (2, 9, 2, 0, 0, 0) := rfl
theorem gi_193_9 : gF 193 9 = some (10, 10, 0, 0, 0, 0) := rfl
theorem gi_194_42 : gF 194 42 = some (38, 45, 0, 70, 0, 0) := rfl
theorem gi_194_53 : gF 194 53 = some (38, 56, 0, 70, 0, 0) := rfl
theorem gi_194_63 : gF 194 63 = some (38, 66, 0, 70, 0, 0) := rfl
theorem gi_194_71 : gF 194 71 = some (79, 72, 0, 0, 0, 0) := rfl
theorem gi_195_18 : gF 195 18 = some (53, 21, 11, 34, 0, 0) := rfl
theorem gi_195_22 : gF 195 22 = some (3, 23, 3, 0, 0, 0) := rfl
theorem gi_195_34 : gF 195 34 = some (38, 37, 0, 65, 0, 0) := rfl
theorem gi_195_65 : gF 195 65 = some (2, 66, 3, 0, 0, 0) := rfl
theorem gi_195_66 : gF 195 66 = some (79, 67, 0, 0, 0, 0) := rfl
theorem gi_196_0 : gF 196 0 = some (2, 1, 1, 0, 0, 0) := rfl
theorem gi_196_1 : gF 196 1 = some (74, 4, 248, 1, 0, 0) := rfl
theorem gi_196_10 : gF 196 10 = some (7, 11, 0, 0, 0, 0) := rfl
theorem gi_196_11 : gF 196 11 = some (50, 14, 11, 1, 0, 0) := rfl
theorem gi_196_15 : gF 196 15 = some (11, 16, 0, 0, 0, 0) := rfl
theorem gi_196_16 : gF 196 16 = some (74, 19, 148, 3, 0, 0) := rfl
theorem gi_196_19 : gF 196 19 = some (39, 22, 0, 24, 0, 0) := rfl
theorem gi_196_23 : gF 196 23 = some (79, 24, 0, 0, 0, 0) := rfl
theorem gi_196_24 : gF 196 24 = some (7, 25, 0, 0, 0, 0) := rfl
theorem gi_196_25 : gF 196 25 = some (2, 26, 1, 0, 0, 0) := rfl
theorem gi_196_26 : gF 196 26 = some (73, 29, 192, 1, 0, 0) := rfl
theorem gi_196_29 : gF 196 29 = some (41, 32, 0, 38, 0, 0) := rfl
theorem gi_196_32 : gF 196 32 = some (7, 33, 0, 0, 0, 0) := rfl
theorem gi_196_33 : gF 196 33 = some (2, 34, 1, 0, 0, 0) := rfl
theorem gi_196_34 : gF 196 34 = some (73, 37, 192, 1, 0, 0) := rfl
theorem gi_196_37 : gF 196 37 = some (79, 38, 0, 0, 0, 0) := rfl
theorem gi_196_38 : gF 196 38 = some (7, 39, 0, 0, 0, 0) := rfl
theorem gi_196_39 : gF 196 39 = some (2, 40, 1, 0, 0, 0) := rfl
theorem gi_196_4 : gF 196 4 = some (38, 7, 0, 22, 0, 0) := rfl
theorem gi_196_42 : gF 196 42 = some (73, 45, 195, 2, 0, 0) := rfl
theorem gi_196_45 : gF 196 45 = some (3, 46, 3, 0, 0, 0) := rfl
theorem gi_196_46 : gF 196 46 = some (2, 47, 2, 0, 0, 0) := rfl
theorem gi_196_49 : gF 196 49 = some (45, 52, 0, 56, 0, 0) := rfl
theorem gi_196_56 : gF 196 56 = some (2, 57, 2, 0, 0, 0) := rfl
theorem gi_196_59 : gF 196 59 = some (45, 62, 0, 69, 0, 0) := rfl
theorem gi_196_69 : gF 196 69 = some (2, 70, 2, 0, 0, 0) := rfl
theorem gi_196_7 : gF 196 7 = some (2, 8, 2, 0, 0, 0) := rfl
theorem gi_196_71 : gF 196 71 = some (45, 74, 0, 81, 0, 0) := rfl
theorem gi_196_87 : gF 196 87 = some (79, 88, 0, 0, 0, 0) := rfl
theorem gi_198_37 : gF 198 37 = some (8, 40, 3, 0, 1, 0) := rfl
theorem gi_198_40 : gF 198 40 = some (37, 7, 0, 0, 0, 0) := rfl
theorem gi_199_0 : gF 199 0 = some (2, 1, 1, 0, 0, 0) := rfl
theorem gi_199_1 : gF 199 1 = some (74, 4, 248, 1, 0, 0) := rfl
theorem gi_199_10 : gF 199 10 = some (74, 13, 148, 3, 0, 0) := rfl
theorem gi_199_13 : gF 199 13 = some (39, 16, 0, 18, 0, 0) := rfl
theorem gi_199_17 : gF 199 17 = some (79, 18, 0, 0, 0, 0) := rfl
theorem gi_199_18 : gF 199 18 = some (7, 19, 0, 0, 0, 0) := rfl
theorem gi_199_19 : gF 199 19 = some (2, 20, 1, 0, 0, 0) := rfl
theorem gi_199_20 : gF 199 20 = some (73, 23, 192, 1, 0, 0) := rfl
theorem gi_199_23 : gF 199 23 = some (41, 26, 0, 32, 0, 0) := rfl
theorem gi_199_26 : gF 199 26 = some (7, 27, 0, 0, 0, 0) := rfl
theorem gi_199_27 : gF 199 27 = some (2, 28, 1, 0, 0, 0) := rfl
theorem gi_199_28 : gF 199 28 = some (73, 31, 192, 1, 0, 0) := rfl
theorem gi_199_31 : gF 199 31 = some (79, 32, 0, 0, 0, 0) := rfl
theorem gi_199_32 : gF 199 32 = some (7, 33, 0, 0, 0, 0) := rfl
theorem gi_199_33 : gF 199 33 = some (2, 34, 1, 0, 0, 0) := rfl
theorem gi_199_36 : gF 199 36 = some (73, 39, 195, 2, 0, 0) := rfl
theorem gi_199_39 : gF 199 39 = some (35, 40, 0, 0, 0, 0) := rfl
theorem gi_199_4 : gF 199 4 = some (38, 7, 0, 16, 0, 0) := rfl
theorem gi_199_40 : gF 199 40 = some (7, 41, 0, 0, 0, 0) := rfl
theorem gi_199_41 : gF 199 41 = some (73, 44, 198, 0, 0, 0) := rfl
theorem gi_199_44 : gF 199 44 = some (3, 45, 3, 0, 0, 0) := rfl
theorem gi_199_45 : gF 199 45 = some (2, 46, 2, 0, 0, 0) := rfl
theorem gi_199_46 : gF 199 46 = some (39, 49, 0, 51, 0, 0) := rfl
theorem gi_199_51 : gF 199 51 = some (2, 52, 3, 0, 0, 0) := rfl
theorem gi_199_52 : gF 199 52 = some (41, 55, 0, 59, 0, 0) := rfl
theorem gi_199_59 : gF 199 59 = some (1, 62, 0, 0, 0, 1000000) := rfl
theorem gi_199_62 : gF 199 62 = some (7, 63, 0, 0, 0, 0) := rfl
theorem gi_199_63 : gF 199 63 = some (52, 66, 11, 28, 0, 0) := rfl
theorem gi_199_66 : gF 199 66 = some (2, 67, 3, 0, 0, 0) := rfl
theorem gi_199_67 : gF 199 67 = some (58, 68, 0, 0, 0, 0) := rfl
theorem gi_199_68 : gF 199 68 = some (29, 69, 0, 0, 0, 0) := rfl
theorem gi_199_69 : gF 199 69 = some (24, 70, 0, 0, 0, 0) := rfl
theorem gi_199_7 : gF 199 7 = some (2, 8, 2, 0, 0, 0) := rfl
theorem gi_199_70 : gF 199 70 = some (7, 71, 0, 0, 0, 0) := rfl
theorem gi_199_71 : gF 199 71 = some (73, 74, 197, 0, 0, 0) := rfl
theorem gi_199_74 : gF 199 74 = some (29, 75, 0, 0, 0, 0) := rfl
theorem gi_199_75 : gF 199 75 = some (27, 76, 0, 0, 0, 0) := rfl
theorem gi_199_76 : gF 199 76 = some (30, 77, 0, 0, 0, 0) := rfl
theorem gi_199_77 : gF 199 77 = some (79, 78, 0, 0, 0, 0) := rfl
theorem gi_2_0 : gF 2 0 = some (2, 1, 0, 0, 0, 0) := rfl
theorem gi_2_1 : gF 2 1 = some (3, 2, 2, 0, 0, 0) := rfl
theorem gi_2_10 : gF 2 10 = some (2, 11, 2, 0, 0, 0) := rfl
theorem gi_2_11 : gF 2 11 = some (74, 14, 1, 1, 0, 0) := rfl
theorem gi_2_14 : gF 2 14 = some (38, 17, 0, 36, 0, 0) := rfl
theorem gi_2_17 : gF 2 17 = some (2, 18, 2, 0, 0, 0) := rfl
theorem gi_2_18 : gF 2 18 = some (2, 19, 1, 0, 0, 0) := rfl
theorem gi_2_19 : gF 2 19 = some (45, 22, 0, 24, 0, 0) := rfl
theorem gi_2_23 : gF 2 23 = some (79, 24, 0, 0, 0, 0) := rfl
theorem gi_2_24 : gF 2 24 = some (57, 27, 5, 0, 0, 0) := rfl
theorem gi_2_27 : gF 2 27 = some (2, 28, 2, 0, 0, 0) := rfl
theorem gi_2_28 : gF 2 28 = some (58, 29, 0, 0, 0, 0) := rfl
theorem gi_2_29 : gF 2 29 = some (3, 30, 2, 0, 0, 0) := rfl
theorem gi_2_3 : gF 2 3 = some (3, 4, 3, 0, 0, 0) := rfl
theorem gi_2_30 : gF 2 30 = some (8, 33, 3, 0, 1, 0) := rfl
theorem gi_2_33 : gF 2 33 = some (37, 4, 0, 0, 0, 0) := rfl
theorem gi_2_37 : gF 2 37 = some (79, 38, 0, 0, 0, 0) := rfl
theorem gi_2_4 : gF 2 4 = some (2, 5, 3, 0, 0, 0) := rfl
theorem gi_2_7 : gF 2 7 = some (47, 10, 0, 36, 0, 0) := rfl
theorem gi_200_0 : gF 200 0 = some (2, 1, 1, 0, 0, 0) := rfl
theorem gi_200_1 : gF 200 1 = some (74, 4, 248, 1, 0, 0) := rfl
theorem gi_200_11 : gF 200 11 = some (74, 14, 148, 3, 0, 0) := rfl
theorem gi_200_14 : gF 200 14 = some (39, 17, 0, 19, 0, 0) := rfl
theorem gi_200_18 : gF 200 18 = some (79, 19, 0, 0, 0, 0) := rfl
theorem gi_200_19 : gF 200 19 = some (7, 20, 0, 0, 0, 0) := rfl
theorem gi_200_20 : gF 200 20 = some (2, 21, 1, 0, 0, 0) := rfl
theorem gi_200_21 : gF 200 21 = some (73, 24, 192, 1, 0, 0) := rfl
theorem gi_200_24 : gF 200 24 = some (41, 27, 0, 33, 0, 0) := rfl
theorem gi_200_27 : gF 200 27 = some (7, 28, 0, 0, 0, 0) := rfl
theorem gi_200_28 : gF 200 28 = some (2, 29, 1, 0, 0, 0) := rfl
theorem gi_200_29 : gF 200 29 = some (73, 32, 192, 1, 0, 0) := rfl
theorem gi_200_32 : gF 200 32 = some (79, 33, 0, 0, 0, 0) := rfl
theorem gi_200_33 : gF 200 33 = some (7, 34, 0, 0, 0, 0) := rfl
theorem gi_200_34 : gF 200 34 = some (2, 35, 2, 0, 0, 0) := rfl
theorem gi_200_35 : gF 200 35 = some (53, 38, 11, 35, 0, 0) := rfl
theorem gi_200_38 : gF 200 38 = some (7, 39, 0, 0, 0, 0) := rfl
theorem gi_200_39 : gF 200 39 = some (2, 40, 1, 0, 0, 0) := rfl
theorem gi_200_4 : gF 200 4 = some (38, 7, 0, 17, 0, 0) := rfl
theorem gi_200_7 : gF 200 7 = some (2, 8, 2, 0, 0, 0) := rfl
theorem gi_202_0 : gF 202 0 = some (2, 1, 1, 0, 0, 0) := rfl
theorem gi_202_1 : gF 202 1 = some (74, 4, 248, 1, 0, 0) := rfl
theorem gi_202_11 : gF 202 11 = some (74, 14, 148, 3, 0, 0) := rfl
theorem gi_202_123 : gF 202 123 = some (2, 125, 6, 0, 0, 0) := rfl
theorem gi_202_125 : gF 202 125 = some (3, 127, 4, 0, 0, 0) := rfl
theorem gi_202_127 : gF 202 127 = some (2, 129, 7, 0, 0, 0) := rfl
theorem gi_202_129 : gF 202 129 = some (3, 131, 5, 0, 0, 0) := rfl
theorem gi_202_131 : gF 202 131 = some (8, 134, 6, 0, 1, 0) := rfl
theorem gi_202_134 : gF 202 134 = some (37, 61, 0, 0, 0, 0) := rfl
theorem gi_202_137 : gF 202 137 = some (2, 138, 3, 0, 0, 0) := rfl
theorem gi_202_138 : gF 202 138 = some (39, 141, 0, 146, 0, 0) := rfl
theorem gi_202_14 : gF 202 14 = some (38, 17, 0, 26, 0, 0) := rfl
theorem gi_202_148 : gF 202 148 = some (79, 149, 0, 0, 0, 0) := rfl
theorem gi_202_17 : gF 202 17 = some (2, 18, 3, 0, 0, 0) := rfl
theorem gi_202_20 : gF 202 20 = some (74, 23, 148, 3, 0, 0) := rfl
theorem gi_202_23 : gF 202 23 = some (39, 26, 0, 28, 0, 0) := rfl
theorem gi_202_27 : gF 202 27 = some (79, 28, 0, 0, 0, 0) := rfl
theorem gi_202_28 : gF 202 28 = some (7, 29, 0, 0, 0, 0) := rfl
theorem gi_202_29 : gF 202 29 = some (2, 30, 1, 0, 0, 0) := rfl
theorem gi_202_30 : gF 202 30 = some (73, 33, 192, 1, 0, 0) := rfl
theorem gi_202_33 : gF 202 33 = some (41, 36, 0, 42, 0, 0) := rfl
theorem gi_202_36 : gF 202 36 = some (7, 37, 0, 0, 0, 0) := rfl
theorem gi_202_37 : gF 202 37 = some (2, 38, 1, 0, 0, 0) := rfl
theorem gi_202_38 : gF 202 38 = some (73, 41, 192, 1, 0, 0) := rfl
theorem gi_202_4 : gF 202 4 = some (38, 7, 0, 26, 0, 0) := rfl
theorem gi_202_41 : gF 202 41 = some (79, 42, 0, 0, 0, 0) := rfl
theorem gi_202_42 : gF 202 42 = some (7, 43, 0, 0, 0, 0) := rfl
theorem gi_202_43 : gF 202 43 = some (2, 44, 1, 0, 0, 0) := rfl
theorem gi_202_46 : gF 202 46 = some (73, 49, 195, 2, 0, 0) := rfl
theorem gi_202_49 : gF 202 49 = some (35, 50, 0, 0, 0, 0) := rfl
theorem gi_202_52 : gF 202 52 = some (3, 54, 4, 0, 0, 0) := rfl
theorem gi_202_56 : gF 202 56 = some (3, 58, 5, 0, 0, 0) := rfl
theorem gi_202_59 : gF 202 59 = some (3, 61, 6, 0, 0, 0) := rfl
theorem gi_202_7 : gF 202 7 = some (2, 8, 2, 0, 0, 0) := rfl
theorem gi_202_77 : gF 202 77 = some (39, 80, 0, 83, 0, 0) := rfl
theorem gi_203_0 : gF 203 0 = some (2, 1, 1, 0, 0, 0) := rfl
theorem gi_203_1 : gF 203 1 = some (74, 4, 248, 1, 0, 0) := rfl
theorem gi_203_102 : gF 203 102 = some (37, 53, 0, 0, 0, 0) := rfl
theorem gi_203_11 : gF 203 11 = some (74, 14, 148, 3, 0, 0) := rfl
theorem gi_203_14 : gF 203 14 = some (39, 17, 0, 19, 0, 0) := rfl
theorem gi_203_18 : gF 203 18 = some (79, 19, 0, 0, 0, 0) := rfl
theorem gi_203_19 : gF 203 19 = some (7, 20, 0, 0, 0, 0) := rfl
theorem gi_203_20 : gF 203 20 = some (2, 21, 1, 0, 0, 0) := rfl
theorem gi_203_21 : gF 203 21 = some (73, 24, 192, 1, 0, 0) := rfl
theorem gi_203_24 : gF 203 24 = some (41, 27, 0, 33, 0, 0) := rfl
theorem gi_203_27 : gF 203 27 = some (7, 28, 0, 0, 0, 0) := rfl
theorem gi_203_28 : gF 203 28 = some (2, 29, 1, 0, 0, 0) := rfl
theorem gi_203_29 : gF 203 29 = some (73, 32, 192, 1, 0, 0) := rfl
theorem gi_203_32 : gF 203 32 = some (79, 33, 0, 0, 0, 0) := rfl
theorem gi_203_33 : gF 203 33 = some (7, 34, 0, 0, 0, 0) := rfl
theorem gi_203_34 : gF 203 34 = some (2, 35, 1, 0, 0, 0) := rfl
theorem gi_203_37 : gF 203 37 = some (73, 40, 195, 2, 0, 0) := rfl
theorem gi_203_4 : gF 203 4 = some (38, 7, 0, 17, 0, 0) := rfl
theorem gi_203_40 : gF 203 40 = some (35, 41, 0, 0, 0, 0) := rfl
theorem gi_203_41 : gF 203 41 = some (7, 42, 0, 0, 0, 0) := rfl
theorem gi_203_42 : gF 203 42 = some (50, 45, 11, 30, 0, 0) := rfl
theorem gi_203_45 : gF 203 45 = some (41, 48, 0, 51, 0, 0) := rfl
theorem gi_203_7 : gF 203 7 = some (2, 8, 2, 0, 0, 0) := rfl
theorem gi_203_89 : gF 203 89 = some (3, 91, 4, 0, 0, 0) := rfl
theorem gi_203_91 : gF 203 91 = some (2, 93, 4, 0, 0, 0) := rfl
theorem gi_203_93 : gF 203 93 = some (2, 94, 2, 0, 0, 0) := rfl
theorem gi_203_94 : gF 203 94 = some (47, 97, 0, 99, 0, 0) := rfl
theorem gi_203_97 : gF 203 97 = some (2, 98, 3, 0, 0, 0) := rfl
theorem gi_203_98 : gF 203 98 = some (79, 99, 0, 0, 0, 0) := rfl
theorem gi_203_99 : gF 203 99 = some (8, 102, 3, 0, 1, 0) := rfl
theorem gi_204_27 : gF 204 27 = some (38, 30, 0, 47, 0, 0) := rfl
theorem gi_205_71 : gF 205 71 = some (8, 74, 5, 0, 1, 0) := rfl
theorem gi_205_74 : gF 205 74 = some (37, 16, 0, 0, 0, 0) := rfl
theorem gi_206_0 : gF 206 0 = some (2, 1, 1, 0, 0, 0) := rfl
theorem gi_206_10 : gF 206 10 = some (74, 13, 148, 3, 0, 0) := rfl
theorem gi_206_13 : gF 206 13 = some (38, 16, 0, 31, 0, 0) := rfl
theorem gi_206_16 : gF 206 16 = some (2, 17, 2, 0, 0, 0) := rfl
theorem gi_206_20 : gF 206 20 = some (74, 23, 148, 3, 0, 0) := rfl
theorem gi_206_23 : gF 206 23 = some (38, 26, 0, 31, 0, 0) := rfl
theorem gi_206_26 : gF 206 26 = some (2, 27, 3, 0, 0, 0) := rfl
theorem gi_206_28 : gF 206 28 = some (47, 31, 0, 33, 0, 0) := rfl
theorem gi_206_3 : gF 206 3 = some (7, 4, 0, 0, 0, 0) := rfl
theorem gi_206_32 : gF 206 32 = some (79, 33, 0, 0, 0, 0) := rfl
theorem gi_206_33 : gF 206 33 = some (2, 34, 1, 0, 0, 0) := rfl
theorem gi_206_34 : gF 206 34 = some (74, 37, 150, 1, 0, 0) := rfl
theorem gi_206_39 : gF 206 39 = some (49, 42, 0, 45, 0, 0) := rfl
theorem gi_206_4 : gF 206 4 = some (50, 7, 11, 1, 0, 0) := rfl
theorem gi_206_44 : gF 206 44 = some (79, 45, 0, 0, 0, 0) := rfl
theorem gi_206_45 : gF 206 45 = some (7, 46, 0, 0, 0, 0) := rfl
theorem gi_206_47 : gF 206 47 = some (53, 50, 11, 38, 0, 0) := rfl
theorem gi_206_50 : gF 206 50 = some (7, 51, 0, 0, 0, 0) := rfl
theorem gi_206_51 : gF 206 51 = some (2, 52, 1, 0, 0, 0) := rfl
theorem gi_206_54 : gF 206 54 = some (2, 55, 2, 0, 0, 0) := rfl
theorem gi_206_55 : gF 206 55 = some (73, 58, 205, 4, 0, 0) := rfl
theorem gi_206_58 : gF 206 58 = some (2, 59, 3, 0, 0, 0) := rfl
theorem gi_206_59 : gF 206 59 = some (41, 62, 0, 69, 0, 0) := rfl
theorem gi_206_62 : gF 206 62 = some (7, 63, 0, 0, 0, 0) := rfl
theorem gi_206_63 : gF 206 63 = some (50, 66, 11, 38, 0, 0) := rfl
theorem gi_206_66 : gF 206 66 = some (37, 88, 0, 0, 0, 0) := rfl
theorem gi_206_69 : gF 206 69 = some (2, 70, 3, 0, 0, 0) := rfl
theorem gi_206_7 : gF 206 7 = some (16, 8, 0, 0, 0, 0) := rfl
theorem gi_206_70 : gF 206 70 = some (2, 71, 1, 0, 0, 0) := rfl
theorem gi_206_71 : gF 206 71 = some (74, 74, 150, 1, 0, 0) := rfl
theorem gi_206_74 : gF 206 74 = some (47, 77, 0, 86, 0, 0) := rfl
theorem gi_206_77 : gF 206 77 = some (7, 78, 0, 0, 0, 0) := rfl
theorem gi_206_78 : gF 206 78 = some (52, 81, 11, 37, 0, 0) := rfl
theorem gi_206_81 : gF 206 81 = some (2, 82, 3, 0, 0, 0) := rfl
theorem gi_206_82 : gF 206 82 = some (58, 83, 0, 0, 0, 0) := rfl
theorem gi_206_83 : gF 206 83 = some (37, 88, 0, 0, 0, 0) := rfl
theorem gi_206_88 : gF 206 88 = some (79, 89, 0, 0, 0, 0) := rfl
theorem gi_206_9 : gF 206 9 = some (11, 10, 0, 0, 0, 0) := rfl
theorem gi_207_0 : gF 207 0 = some (2, 1, 1, 0, 0, 0) := rfl
theorem gi_207_1 : gF 207 1 = some (74, 4, 248, 1, 0, 0) := rfl
theorem gi_207_11 : gF 207 11 = some (2, 12, 2, 0, 0, 0) := rfl
theorem gi_207_125 : gF 207 125 = some (8, 128, 7, 0, 1, 0) := rfl
theorem gi_207_128 : gF 207 128 = some (37, 64, 0, 0, 0, 0) := rfl
theorem gi_207_131 : gF 207 131 = some (2, 132, 3, 0, 0, 0) := rfl
theorem gi_207_132 : gF 207 132 = some (39, 135, 0, 140, 0, 0) := rfl
theorem gi_207_14 : gF 207 14 = some (19, 15, 0, 0, 0, 0) := rfl
theorem gi_207_142 : gF 207 142 = some (79, 143, 0, 0, 0, 0) := rfl
theorem gi_207_18 : gF 207 18 = some (48, 21, 0, 30, 0, 0) := rfl
theorem gi_207_21 : gF 207 21 = some (2, 22, 3, 0, 0, 0) := rfl
theorem gi_207_24 : gF 207 24 = some (74, 27, 148, 3, 0, 0) := rfl
theorem gi_207_27 : gF 207 27 = some (39, 30, 0, 32, 0, 0) := rfl
theorem gi_207_31 : gF 207 31 = some (79, 32, 0, 0, 0, 0) := rfl
theorem gi_207_32 : gF 207 32 = some (7, 33, 0, 0, 0, 0) := rfl
theorem gi_207_33 : gF 207 33 = some (2, 34, 1, 0, 0, 0) := rfl
theorem gi_207_34 : gF 207 34 = some (73, 37, 192, 1, 0, 0) := rfl
theorem gi_207_37 : gF 207 37 = some (41, 40, 0, 46, 0, 0) := rfl
theorem gi_207_4 : gF 207 4 = some (38, 7, 0, 30, 0, 0) := rfl
theorem gi_207_40 : gF 207 40 = some (7, 41, 0, 0, 0, 0) := rfl
theorem gi_207_41 : gF 207 41 = some (2, 42, 1, 0, 0, 0) := rfl
theorem gi_207_42 : gF 207 42 = some (73, 45, 192, 1, 0, 0) := rfl
theorem gi_207_45 : gF 207 45 = some (79, 46, 0, 0, 0, 0) := rfl
theorem gi_207_46 : gF 207 46 = some (7, 47, 0, 0, 0, 0) := rfl
theorem gi_207_47 : gF 207 47 = some (2, 48, 1, 0, 0, 0) := rfl
theorem gi_207_50 : gF 207 50 = some (73, 53, 195, 2, 0, 0) := rfl
theorem gi_207_53 : gF 207 53 = some (3, 55, 4, 0, 0, 0) := rfl
theorem gi_207_56 : gF 207 56 = some (3, 58, 5, 0, 0, 0) := rfl
theorem gi_207_59 : gF 207 59 = some (3, 61, 6, 0, 0, 0) := rfl
theorem gi_207_62 : gF 207 62 = some (3, 64, 7, 0, 0, 0) := rfl
theorem gi_207_7 : gF 207 7 = some (2, 8, 2, 0, 0, 0) := rfl
theorem gi_207_8 : gF 207 8 = some (40, 11, 0, 30, 0, 0) := rfl
theorem gi_209_0 : gF 209 0 = some (2, 1, 1, 0, 0, 0) := rfl
theorem gi_209_11 : gF 209 11 = some (2, 12, 2, 0, 0, 0) := rfl
theorem gi_209_15 : gF 209 15 = some (74, 18, 148, 3, 0, 0) := rfl
theorem gi_209_18 : gF 209 18 = some (39, 21, 0, 23, 0, 0) := rfl
theorem gi_209_22 : gF 209 22 = some (79, 23, 0, 0, 0, 0) := rfl
theorem gi_209_5 : gF 209 5 = some (74, 8, 148, 3, 0, 0) := rfl
theorem gi_209_55 : gF 209 55 = some (8, 58, 4, 0, 1, 0) := rfl
theorem gi_209_58 : gF 209 58 = some (37, 28, 0, 0, 0, 0) := rfl
theorem gi_209_8 : gF 209 8 = some (38, 11, 0, 21, 0, 0) := rfl
theorem gi_21_22 : gF 21 22 = some (2, 23, 3, 0, 0, 0) := rfl
theorem gi_21_25 : gF 21 25 = some (47, 28, 0, 41, 0, 0) := rfl
theorem gi_21_28 : gF 21 28 = some (7, 29, 0, 0, 0, 0) := rfl
theorem gi_21_29 : gF 21 29 = some (52, 32, 2, 1, 0, 0) := rfl
theorem gi_21_32 : gF 21 32 = some (2, 33, 3, 0, 0, 0) := rfl
theorem gi_21_34 : gF 21 34 = some (64, 35, 0, 0, 0, 0) := rfl
theorem gi_21_35 : gF 21 35 = some (8, 38, 3, 0, 1, 0) := rfl
theorem gi_21_38 : gF 21 38 = some (37, 22, 0, 0, 0, 0) := rfl
theorem gi_210_0 : gF 210 0 = some (2, 1, 1, 0, 0, 0) := rfl
theorem gi_210_1 : gF 210 1 = some (74, 4, 248, 1, 0, 0) := rfl
theorem gi_210_10 : gF 210 10 = some (2, 11, 1, 0, 0, 0) := rfl
theorem gi_210_11 : gF 210 11 = some (73, 14, 192, 1, 0, 0) := rfl
theorem gi_210_14 : gF 210 14 = some (41, 17, 0, 23, 0, 0) := rfl
theorem gi_210_17 : gF 210 17 = some (7, 18, 0, 0, 0, 0) := rfl
theorem gi_210_18 : gF 210 18 = some (2, 19, 1, 0, 0, 0) := rfl
theorem gi_210_19 : gF 210 19 = some (73, 22, 192, 1, 0, 0) := rfl
theorem gi_210_22 : gF 210 22 = some (79, 23, 0, 0, 0, 0) := rfl
theorem gi_210_23 : gF 210 23 = some (7, 24, 0, 0, 0, 0) := rfl
theorem gi_210_24 : gF 210 24 = some (2, 25, 1, 0, 0, 0) := rfl
theorem gi_210_27 : gF 210 27 = some (73, 30, 195, 2, 0, 0) := rfl
theorem gi_210_30 : gF 210 30 = some (35, 31, 0, 0, 0, 0) := rfl
theorem gi_210_31 : gF 210 31 = some (7, 32, 0, 0, 0, 0) := rfl
theorem gi_210_32 : gF 210 32 = some (50, 35, 11, 30, 0, 0) := rfl
theorem gi_210_35 : gF 210 35 = some (40, 38, 0, 45, 0, 0) := rfl
theorem gi_210_38 : gF 210 38 = some (7, 39, 0, 0, 0, 0) := rfl
theorem gi_210_39 : gF 210 39 = some (73, 42, 197, 0, 0, 0) := rfl
theorem gi_210_4 : gF 210 4 = some (39, 7, 0, 9, 0, 0) := rfl
theorem gi_210_42 : gF 210 42 = some (39, 45, 0, 50, 0, 0) := rfl
theorem gi_210_47 : gF 210 47 = some (37, 67, 0, 0, 0, 0) := rfl
theorem gi_210_52 : gF 210 52 = some (7, 53, 0, 0, 0, 0) := rfl
theorem gi_210_53 : gF 210 53 = some (52, 56, 11, 28, 0, 0) := rfl
theorem gi_210_56 : gF 210 56 = some (7, 57, 0, 0, 0, 0) := rfl
theorem gi_210_57 : gF 210 57 = some (50, 60, 11, 30, 0, 0) := rfl
theorem gi_210_60 : gF 210 60 = some (58, 61, 0, 0, 0, 0) := rfl
theorem gi_210_61 : gF 210 61 = some (12, 62, 0, 0, 0, 0) := rfl
theorem gi_210_62 : gF 210 62 = some (7, 63, 0, 0, 0, 0) := rfl
theorem gi_210_63 : gF 210 63 = some (73, 66, 197, 0, 0, 0) := rfl
theorem gi_210_66 : gF 210 66 = some (19, 67, 0, 0, 0, 0) := rfl
theorem gi_210_67 : gF 210 67 = some (79, 68, 0, 0, 0, 0) := rfl
theorem gi_210_8 : gF 210 8 = some (79, 9, 0, 0, 0, 0) := rfl
theorem gi_210_9 : gF 210 9 = some (7, 10, 0, 0, 0, 0) := rfl
theorem gi_211_0 : gF 211 0 = some (1, 3, 0, 0, 0, 1000) := rfl
theorem gi_211_10 : gF 211 10 = some (2, 11, 1, 0, 0, 0) := rfl
theorem gi_211_11 : gF 211 11 = some (59, 12, 0, 0, 0, 0) := rfl
theorem gi_211_12 : gF 211 12 = some (22, 13, 0, 0, 0, 0) := rfl
theorem gi_211_13 : gF 211 13 = some (80, 14, 0, 0, 0, 0) := rfl
theorem gi_211_3 : gF 211 3 = some (2, 4, 2, 0, 0, 0) := rfl
theorem gi_211_4 : gF 211 4 = some (29, 5, 0, 0, 0, 0) := rfl
theorem gi_211_5 : gF 211 5 = some (24, 6, 0, 0, 0, 0) := rfl
theorem gi_211_6 : gF 211 6 = some (7, 7, 0, 0, 0, 0) := rfl
theorem gi_211_7 : gF 211 7 = some (52, 10, 11, 40, 0, 0) := rfl
theorem gi_212_64 : gF 212 64 = some (6, 66, 4, 0, 0, 0) := rfl
theorem gi_212_66 : gF 212 66 = some (6, 68, 6, 0, 0, 0) := rfl
theorem gi_212_68 : gF 212 68 = some (33, 69, 0, 0, 0, 0) := rfl
theorem gi_212_69 : gF 212 69 = some (42, 72, 0, 76, 0, 0) := rfl
theorem gi_212_73 : gF 212 73 = some (37, 77, 0, 0, 0, 0) := rfl
theorem gi_212_77 : gF 212 77 = some (79, 78, 0, 0, 0, 0) := rfl
theorem gi_213_129 : gF 213 129 = some (73, 132, 211, 2, 0, 0) := rfl
theorem gi_213_132 : gF 213 132 = some (65, 133, 0, 0, 0, 0) := rfl
theorem gi_213_133 : gF 213 133 = some (8, 136, 1, 0, 1, 0) := rfl
theorem gi_213_136 : gF 213 136 = some (37, 16, 0, 0, 0, 0) := rfl
theorem gi_214_16 : gF 214 16 = some (39, 19, 0, 21, 0, 0) := rfl
theorem gi_214_20 : gF 214 20 = some (79, 21, 0, 0, 0, 0) := rfl
theorem gi_214_52 : gF 214 52 = some (79, 53, 0, 0, 0, 0) := rfl
theorem gi_214_7 : gF 214 7 = some (38, 10, 0, 19, 0, 0) := rfl
theorem gi_215_11 : gF 215 11 = some (79, 12, 0, 0, 0, 0) := rfl
theorem gi_215_28 : gF 215 28 = some (2, 30, 4, 0, 0, 0) := rfl
theorem gi_215_30 : gF 215 30 = some (40, 33, 0, 67, 0, 0) := rfl
theorem gi_215_33 : gF 215 33 = some (2, 34, 3, 0, 0, 0) := rfl
theorem gi_215_34 : gF 215 34 = some (41, 37, 0, 67, 0, 0) := rfl
theorem gi_215_61 : gF 215 61 = some (8, 64, 4, 0, (-1), 0) := rfl
theorem gi_215_64 : gF 215 64 = some (37, 28, 0, 0, 0, 0) := rfl
theorem gi_215_67 : gF 215 67 = some (7, 68, 0, 0, 0, 0) := rfl
theorem gi_215_68 : gF 215 68 = some (52, 71, 11, 7, 0, 0) := rfl
theorem gi_215_7 : gF 215 7 = some (39, 10, 0, 12, 0, 0) := rfl
theorem gi_215_73 : gF 215 73 = some (2, 74, 2, 0, 0, 0) := rfl
theorem gi_215_74 : gF 215 74 = some (64, 75, 0, 0, 0, 0) := rfl
theorem gi_215_75 : gF 215 75 = some (2, 76, 3, 0, 0, 0) := rfl
theorem gi_215_76 : gF 215 76 = some (79, 77, 0, 0, 0, 0) := rfl
theorem gi_216_0 : gF 216 0 = some (2, 1, 1, 0, 0, 0) := rfl
theorem gi_216_1 : gF 216 1 = some (74, 4, 248, 1, 0, 0) := rfl
theorem gi_216_10 : gF 216 10 = some (74, 13, 148, 3, 0, 0) := rfl
theorem gi_216_100 : gF 216 100 = some (79, 101, 0, 0, 0, 0) := rfl
theorem gi_216_101 : gF 216 101 = some (2, 102, 2, 0, 0, 0) := rfl
theorem gi_216_103 : gF 216 103 = some (45, 106, 0, 115, 0, 0) := rfl
theorem gi_216_115 : gF 216 115 = some (2, 116, 3, 0, 0, 0) := rfl
theorem gi_216_116 : gF 216 116 = some (2, 118, 4, 0, 0, 0) := rfl
theorem gi_216_118 : gF 216 118 = some (45, 121, 0, 126, 0, 0) := rfl
theorem gi_216_123 : gF 216 123 = some (37, 137, 0, 0, 0, 0) := rfl
theorem gi_216_126 : gF 216 126 = some (2, 127, 3, 0, 0, 0) := rfl
theorem gi_216_127 : gF 216 127 = some (2, 129, 4, 0, 0, 0) := rfl
theorem gi_216_129 : gF 216 129 = some (49, 132, 0, 136, 0, 0) := rfl
theorem gi_216_13 : gF 216 13 = some (39, 16, 0, 18, 0, 0) := rfl
theorem gi_216_137 : gF 216 137 = some (79, 138, 0, 0, 0, 0) := rfl
theorem gi_216_17 : gF 216 17 = some (79, 18, 0, 0, 0, 0) := rfl
theorem gi_216_18 : gF 216 18 = some (7, 19, 0, 0, 0, 0) := rfl
theorem gi_216_19 : gF 216 19 = some (2, 20, 1, 0, 0, 0) := rfl
theorem gi_216_20 : gF 216 20 = some (73, 23, 192, 1, 0, 0) := rfl
theorem gi_216_23 : gF 216 23 = some (41, 26, 0, 32, 0, 0) := rfl
theorem gi_216_26 : gF 216 26 = some (7, 27, 0, 0, 0, 0) := rfl
theorem gi_216_27 : gF 216 27 = some (2, 28, 1, 0, 0, 0) := rfl
theorem gi_216_28 : gF 216 28 = some (73, 31, 192, 1, 0, 0) := rfl
theorem gi_216_31 : gF 216 31 = some (79, 32, 0, 0, 0, 0) := rfl
theorem gi_216_33 : gF 216 33 = some (3, 34, 3, 0, 0, 0) := rfl
theorem gi_216_35 : gF 216 35 = some (3, 37, 4, 0, 0, 0) := rfl
theorem gi_216_38 : gF 216 38 = some (3, 40, 5, 0, 0, 0) := rfl
theorem gi_216_4 : gF 216 4 = some (38, 7, 0, 16, 0, 0) := rfl
theorem gi_216_64 : gF 216 64 = some (7, 65, 0, 0, 0, 0) := rfl
theorem gi_216_65 : gF 216 65 = some (2, 66, 1, 0, 0, 0) := rfl
theorem gi_216_66 : gF 216 66 = some (2, 68, 5, 0, 0, 0) := rfl
theorem gi_216_68 : gF 216 68 = some (73, 71, 193, 2, 0, 0) := rfl
theorem gi_216_7 : gF 216 7 = some (2, 8, 2, 0, 0, 0) := rfl
theorem gi_216_72 : gF 216 72 = some (45, 75, 0, 78, 0, 0) := rfl
theorem gi_216_75 : gF 216 75 = some (8, 78, 4, 0, 1, 0) := rfl
theorem gi_216_78 : gF 216 78 = some (8, 81, 5, 0, 1, 0) := rfl
theorem gi_216_81 : gF 216 81 = some (37, 40, 0, 0, 0, 0) := rfl
theorem gi_216_84 : gF 216 84 = some (2, 85, 2, 0, 0, 0) := rfl
theorem gi_216_85 : gF 216 85 = some (39, 88, 0, 101, 0, 0) := rfl
theorem gi_217_0 : gF 217 0 = some (2, 1, 1, 0, 0, 0) := rfl
theorem gi_217_12 : gF 217 12 = some (79, 13, 0, 0, 0, 0) := rfl
theorem gi_217_49 : gF 217 49 = some (2, 50, 3, 0, 0, 0) := rfl
theorem gi_217_5 : gF 217 5 = some (74, 8, 148, 3, 0, 0) := rfl
theorem gi_217_50 : gF 217 50 = some (11, 51, 0, 0, 0, 0) := rfl
theorem gi_217_51 : gF 217 51 = some (10, 52, 0, 0, 0, 0) := rfl
theorem gi_217_52 : gF 217 52 = some (3, 53, 2, 0, 0, 0) := rfl
theorem gi_217_53 : gF 217 53 = some (2, 55, 5, 0, 0, 0) := rfl
theorem gi_217_55 : gF 217 55 = some (2, 57, 4, 0, 0, 0) := rfl
theorem gi_217_57 : gF 217 57 = some (49, 60, 0, 65, 0, 0) := rfl
theorem gi_217_60 : gF 217 60 = some (2, 62, 5, 0, 0, 0) := rfl
theorem gi_217_62 : gF 217 62 = some (37, 67, 0, 0, 0, 0) := rfl
theorem gi_217_65 : gF 217 65 = some (2, 67, 4, 0, 0, 0) := rfl
theorem gi_217_67 : gF 217 67 = some (3, 69, 6, 0, 0, 0) := rfl
theorem gi_217_69 : gF 217 69 = some (2, 71, 5, 0, 0, 0) := rfl
theorem gi_217_71 : gF 217 71 = some (7, 72, 0, 0, 0, 0) := rfl
theorem gi_217_72 : gF 217 72 = some (52, 75, 11, 7, 0, 0) := rfl
theorem gi_217_77 : gF 217 77 = some (58, 78, 0, 0, 0, 0) := rfl
theorem gi_217_78 : gF 217 78 = some (10, 79, 0, 0, 0, 0) := rfl
theorem gi_217_79 : gF 217 79 = some (3, 81, 4, 0, 0, 0) := rfl
theorem gi_217_8 : gF 217 8 = some (39, 11, 0, 13, 0, 0) := rfl
theorem gi_217_81 : gF 217 81 = some (2, 83, 6, 0, 0, 0) := rfl
theorem gi_217_83 : gF 217 83 = some (3, 84, 3, 0, 0, 0) := rfl
theorem gi_217_84 : gF 217 84 = some (37, 20, 0, 0, 0, 0) := rfl
theorem gi_218_0 : gF 218 0 = some (2, 1, 1, 0, 0, 0) := rfl
theorem gi_218_11 : gF 218 11 = some (2, 12, 2, 0, 0, 0) := rfl
theorem gi_218_14 : gF 218 14 = some (74, 17, 148, 3, 0, 0) := rfl
theorem gi_218_17 : gF 218 17 = some (39, 20, 0, 22, 0, 0) := rfl
theorem gi_218_21 : gF 218 21 = some (79, 22, 0, 0, 0, 0) := rfl
theorem gi_218_22 : gF 218 22 = some (7, 23, 0, 0, 0, 0) := rfl
theorem gi_218_23 : gF 218 23 = some (50, 26, 11, 1, 0, 0) := rfl
theorem gi_218_26 : gF 218 26 = some (39, 29, 0, 32, 0, 0) := rfl
theorem gi_218_31 : gF 218 31 = some (79, 32, 0, 0, 0, 0) := rfl
theorem gi_218_33 : gF 218 33 = some (3, 34, 3, 0, 0, 0) := rfl
theorem gi_218_35 : gF 218 35 = some (3, 37, 4, 0, 0, 0) := rfl
theorem gi_218_5 : gF 218 5 = some (74, 8, 148, 3, 0, 0) := rfl
theorem gi_218_65 : gF 218 65 = some (8, 68, 4, 0, 1, 0) := rfl
theorem gi_218_68 : gF 218 68 = some (37, 37, 0, 0, 0, 0) := rfl
theorem gi_218_71 : gF 218 71 = some (2, 72, 2, 0, 0, 0) := rfl
theorem gi_218_72 : gF 218 72 = some (39, 75, 0, 79, 0, 0) := rfl
theorem gi_218_75 : gF 218 75 = some (2, 76, 3, 0, 0, 0) := rfl
theorem gi_218_76 : gF 218 76 = some (37, 92, 0, 0, 0, 0) := rfl
theorem gi_218_79 : gF 218 79 = some (7, 80, 0, 0, 0, 0) := rfl
theorem gi_218_8 : gF 218 8 = some (38, 11, 0, 20, 0, 0) := rfl
theorem gi_218_80 : gF 218 80 = some (52, 83, 11, 4, 0, 0) := rfl
theorem gi_218_83 : gF 218 83 = some (2, 84, 3, 0, 0, 0) := rfl
theorem gi_218_84 : gF 218 84 = some (58, 85, 0, 0, 0, 0) := rfl
theorem gi_218_85 : gF 218 85 = some (7, 86, 0, 0, 0, 0) := rfl
theorem gi_218_86 : gF 218 86 = some (73, 89, 185, 0, 0, 0) := rfl
theorem gi_218_89 : gF 218 89 = some (74, 92, 186, 2, 0, 0) := rfl
theorem gi_218_92 : gF 218 92 = some (79, 93, 0, 0, 0, 0) := rfl
theorem gi_22_23 : gF 22 23 = some (38, 26, 0, 37, 0, 0) := rfl
theorem gi_22_38 : gF 22 38 = some (64, 39, 0, 0, 0, 0) := rfl
theorem gi_22_39 : gF 22 39 = some (7, 40, 0, 0, 0, 0) := rfl
theorem gi_22_40 : gF 22 40 = some (52, 43, 2, 2, 0, 0) := rfl
theorem gi_22_43 : gF 22 43 = some (2, 44, 2, 0, 0, 0) := rfl
theorem gi_22_45 : gF 22 45 = some (64, 46, 0, 0, 0, 0) := rfl
theorem gi_22_46 : gF 22 46 = some (2, 47, 1, 0, 0, 0) := rfl
theorem gi_22_47 : gF 22 47 = some (7, 48, 0, 0, 0, 0) := rfl
theorem gi_22_48 : gF 22 48 = some (52, 51, 2, 1, 0, 0) := rfl
theorem gi_22_51 : gF 22 51 = some (2, 52, 2, 0, 0, 0) := rfl
theorem gi_22_52 : gF 22 52 = some (58, 53, 0, 0, 0, 0) := rfl
theorem gi_22_53 : gF 22 53 = some (10, 54, 0, 0, 0, 0) := rfl
theorem gi_22_54 : gF 22 54 = some (3, 55, 1, 0, 0, 0) := rfl
theorem gi_22_55 : gF 22 55 = some (8, 58, 2, 0, 1, 0) := rfl
theorem gi_22_58 : gF 22 58 = some (37, 4, 0, 0, 0, 0) := rfl
theorem gi_22_75 : gF 22 75 = some (38, 78, 0, 82, 0, 0) := rfl
theorem gi_22_83 : gF 22 83 = some (53, 86, 2, 4, 0, 0) := rfl
theorem gi_22_86 : gF 22 86 = some (2, 87, 1, 0, 0, 0) := rfl
theorem gi_22_87 : gF 22 87 = some (79, 88, 0, 0, 0, 0) := rfl
theorem gi_220_11 : gF 220 11 = some (7, 12, 0, 0, 0, 0) := rfl
theorem gi_220_12 : gF 220 12 = some (2, 13, 1, 0, 0, 0) := rfl
theorem gi_220_13 : gF 220 13 = some (2, 14, 3, 0, 0, 0) := rfl
theorem gi_220_133 : gF 220 133 = some (7, 134, 0, 0, 0, 0) := rfl
theorem gi_220_134 : gF 220 134 = some (2, 136, 4, 0, 0, 0) := rfl
theorem gi_220_136 : gF 220 136 = some (2, 138, 5, 0, 0, 0) := rfl
theorem gi_220_138 : gF 220 138 = some (73, 141, 191, 2, 0, 0) := rfl
theorem gi_220_14 : gF 220 14 = some (73, 17, 194, 2, 0, 0) := rfl
theorem gi_220_141 : gF 220 141 = some (8, 144, 3, 0, 1, 0) := rfl
theorem gi_220_144 : gF 220 144 = some (37, 11, 0, 0, 0, 0) := rfl
theorem gi_220_17 : gF 220 17 = some (38, 20, 0, 147, 0, 0) := rfl
theorem gi_220_20 : gF 220 20 = some (7, 21, 0, 0, 0, 0) := rfl
theorem gi_220_21 : gF 220 21 = some (2, 22, 1, 0, 0, 0) := rfl
theorem gi_220_23 : gF 220 23 = some (2, 24, 3, 0, 0, 0) := rfl
theorem gi_220_24 : gF 220 24 = some (12, 25, 0, 0, 0, 0) := rfl
theorem gi_220_25 : gF 220 25 = some (73, 28, 193, 2, 0, 0) := rfl
theorem gi_220_28 : gF 220 28 = some (3, 30, 4, 0, 0, 0) := rfl
theorem gi_220_30 : gF 220 30 = some (7, 31, 0, 0, 0, 0) := rfl
theorem gi_220_31 : gF 220 31 = some (2, 32, 1, 0, 0, 0) := rfl
theorem gi_220_33 : gF 220 33 = some (2, 34, 3, 0, 0, 0) := rfl
theorem gi_220_34 : gF 220 34 = some (12, 35, 0, 0, 0, 0) := rfl
theorem gi_220_36 : gF 220 36 = some (10, 37, 0, 0, 0, 0) := rfl
theorem gi_220_37 : gF 220 37 = some (73, 40, 193, 2, 0, 0) := rfl
theorem gi_220_40 : gF 220 40 = some (3, 42, 5, 0, 0, 0) := rfl
theorem gi_220_42 : gF 220 42 = some (7, 43, 0, 0, 0, 0) := rfl
theorem gi_220_43 : gF 220 43 = some (50, 46, 11, 31, 0, 0) := rfl
theorem gi_220_46 : gF 220 46 = some (7, 47, 0, 0, 0, 0) := rfl
theorem gi_220_47 : gF 220 47 = some (2, 49, 4, 0, 0, 0) := rfl
theorem gi_220_49 : gF 220 49 = some (73, 52, 188, 1, 0, 0) := rfl
theorem gi_220_52 : gF 220 52 = some (10, 53, 0, 0, 0, 0) := rfl
theorem gi_220_53 : gF 220 53 = some (3, 55, 6, 0, 0, 0) := rfl
theorem gi_220_56 : gF 220 56 = some (3, 58, 7, 0, 0, 0) := rfl
theorem gi_220_58 : gF 220 58 = some (2, 60, 7, 0, 0, 0) := rfl
theorem gi_220_60 : gF 220 60 = some (2, 62, 5, 0, 0, 0) := rfl
theorem gi_220_62 : gF 220 62 = some (47, 65, 0, 133, 0, 0) := rfl
theorem gi_220_65 : gF 220 65 = some (2, 67, 4, 0, 0, 0) := rfl
theorem gi_220_67 : gF 220 67 = some (2, 68, 2, 0, 0, 0) := rfl
theorem gi_220_68 : gF 220 68 = some (45, 71, 0, 133, 0, 0) := rfl
theorem gi_221_0 : gF 221 0 = some (2, 1, 1, 0, 0, 0) := rfl
theorem gi_221_1 : gF 221 1 = some (74, 4, 248, 1, 0, 0) := rfl
theorem gi_221_107 : gF 221 107 = some (3, 109, 9, 0, 0, 0) := rfl
theorem gi_221_109 : gF 221 109 = some (2, 111, 9, 0, 0, 0) := rfl
theorem gi_221_11 : gF 221 11 = some (74, 14, 148, 3, 0, 0) := rfl
theorem gi_221_111 : gF 221 111 = some (41, 114, 0, 118, 0, 0) := rfl
theorem gi_221_115 : gF 221 115 = some (37, 125, 0, 0, 0, 0) := rfl
theorem gi_221_125 : gF 221 125 = some (3, 127, 10, 0, 0, 0) := rfl
theorem gi_221_127 : gF 221 127 = some (2, 129, 10, 0, 0, 0) := rfl
theorem gi_221_129 : gF 221 129 = some (41, 132, 0, 135, 0, 0) := rfl
theorem gi_221_132 : gF 221 132 = some (37, 145, 0, 0, 0, 0) := rfl
theorem gi_221_14 : gF 221 14 = some (38, 17, 0, 27, 0, 0) := rfl
theorem gi_221_145 : gF 221 145 = some (8, 148, 8, 0, 1, 0) := rfl
theorem gi_221_148 : gF 221 148 = some (37, 63, 0, 0, 0, 0) := rfl
theorem gi_221_151 : gF 221 151 = some (2, 153, 4, 0, 0, 0) := rfl
theorem gi_221_153 : gF 221 153 = some (39, 156, 0, 161, 0, 0) := rfl
theorem gi_221_163 : gF 221 163 = some (79, 164, 0, 0, 0, 0) := rfl
theorem gi_221_17 : gF 221 17 = some (2, 19, 4, 0, 0, 0) := rfl
theorem gi_221_21 : gF 221 21 = some (74, 24, 148, 3, 0, 0) := rfl
theorem gi_221_24 : gF 221 24 = some (39, 27, 0, 29, 0, 0) := rfl
theorem gi_221_28 : gF 221 28 = some (79, 29, 0, 0, 0, 0) := rfl
theorem gi_221_29 : gF 221 29 = some (7, 30, 0, 0, 0, 0) := rfl
theorem gi_221_30 : gF 221 30 = some (2, 31, 1, 0, 0, 0) := rfl
theorem gi_221_31 : gF 221 31 = some (73, 34, 192, 1, 0, 0) := rfl
theorem gi_221_34 : gF 221 34 = some (41, 37, 0, 43, 0, 0) := rfl
theorem gi_221_37 : gF 221 37 = some (7, 38, 0, 0, 0, 0) := rfl
theorem gi_221_38 : gF 221 38 = some (2, 39, 1, 0, 0, 0) := rfl
theorem gi_221_39 : gF 221 39 = some (73, 42, 192, 1, 0, 0) := rfl
theorem gi_221_4 : gF 221 4 = some (38, 7, 0, 27, 0, 0) := rfl
theorem gi_221_42 : gF 221 42 = some (79, 43, 0, 0, 0, 0) := rfl
theorem gi_221_43 : gF 221 43 = some (7, 44, 0, 0, 0, 0) := rfl
theorem gi_221_44 : gF 221 44 = some (2, 45, 2, 0, 0, 0) := rfl
theorem gi_221_45 : gF 221 45 = some (53, 48, 11, 41, 0, 0) := rfl
theorem gi_221_49 : gF 221 49 = some (3, 51, 5, 0, 0, 0) := rfl
theorem gi_221_52 : gF 221 52 = some (3, 54, 6, 0, 0, 0) := rfl
theorem gi_221_54 : gF 221 54 = some (7, 55, 0, 0, 0, 0) := rfl
theorem gi_221_55 : gF 221 55 = some (73, 58, 185, 0, 0, 0) := rfl
theorem gi_221_58 : gF 221 58 = some (3, 60, 7, 0, 0, 0) := rfl
theorem gi_221_61 : gF 221 61 = some (3, 63, 8, 0, 0, 0) := rfl
theorem gi_221_7 : gF 221 7 = some (2, 8, 3, 0, 0, 0) := rfl
theorem gi_223_0 : gF 223 0 = some (7, 1, 0, 0, 0, 0) := rfl
theorem gi_223_1 : gF 223 1 = some (2, 2, 1, 0, 0, 0) := rfl
theorem gi_223_10 : gF 223 10 = some (7, 11, 0, 0, 0, 0) := rfl
theorem gi_223_11 : gF 223 11 = some (73, 14, 222, 0, 0, 0) := rfl
theorem gi_223_14 : gF 223 14 = some (7, 15, 0, 0, 0, 0) := rfl
theorem gi_223_15 : gF 223 15 = some (50, 18, 11, 45, 0, 0) := rfl
theorem gi_223_18 : gF 223 18 = some (7, 19, 0, 0, 0, 0) := rfl
theorem gi_223_19 : gF 223 19 = some (2, 20, 1, 0, 0, 0) := rfl
theorem gi_223_2 : gF 223 2 = some (73, 5, 151, 1, 0, 0) := rfl
theorem gi_223_20 : gF 223 20 = some (73, 23, 188, 1, 0, 0) := rfl
theorem gi_223_23 : gF 223 23 = some (10, 24, 0, 0, 0, 0) := rfl
theorem gi_223_27 : gF 223 27 = some (49, 30, 0, 33, 0, 0) := rfl
theorem gi_223_5 : gF 223 5 = some (39, 8, 0, 10, 0, 0) := rfl
theorem gi_223_9 : gF 223 9 = some (79, 10, 0, 0, 0, 0) := rfl
theorem gi_224_0 : gF 224 0 = some (2, 1, 1, 0, 0, 0) := rfl
theorem gi_224_11 : gF 224 11 = some (79, 12, 0, 0, 0, 0) := rfl
theorem gi_224_12 : gF 224 12 = some (7, 13, 0, 0, 0, 0) := rfl
theorem gi_224_13 : gF 224 13 = some (50, 16, 11, 44, 0, 0) := rfl
theorem gi_224_16 : gF 224 16 = some (40, 19, 0, 31, 0, 0) := rfl
theorem gi_224_19 : gF 224 19 = some (7, 20, 0, 0, 0, 0) := rfl
theorem gi_224_20 : gF 224 20 = some (50, 23, 11, 45, 0, 0) := rfl
theorem gi_224_23 : gF 224 23 = some (2, 24, 1, 0, 0, 0) := rfl
theorem gi_224_24 : gF 224 24 = some (10, 25, 0, 0, 0, 0) := rfl
theorem gi_224_28 : gF 224 28 = some (49, 31, 0, 34, 0, 0) := rfl
theorem gi_224_33 : gF 224 33 = some (79, 34, 0, 0, 0, 0) := rfl
theorem gi_224_4 : gF 224 4 = some (74, 7, 148, 3, 0, 0) := rfl
theorem gi_224_7 : gF 224 7 = some (39, 10, 0, 12, 0, 0) := rfl
theorem gi_225_0 : gF 225 0 = some (7, 1, 0, 0, 0, 0) := rfl
theorem gi_225_1 : gF 225 1 = some (2, 2, 1, 0, 0, 0) := rfl
theorem gi_225_2 : gF 225 2 = some (73, 5, 151, 1, 0, 0) := rfl
theorem gi_225_43 : gF 225 43 = some (64, 44, 0, 0, 0, 0) := rfl
theorem gi_225_44 : gF 225 44 = some (8, 47, 3, 0, 1, 0) := rfl
theorem gi_225_47 : gF 225 47 = some (37, 19, 0, 0, 0, 0) := rfl
theorem gi_225_5 : gF 225 5 = some (39, 8, 0, 10, 0, 0) := rfl
theorem gi_225_9 : gF 225 9 = some (79, 10, 0, 0, 0, 0) := rfl
theorem gi_226_68 : gF 226 68 = some (53, 71, 11, 44, 0, 0) := rfl
theorem gi_226_71 : gF 226 71 = some (2, 72, 1, 0, 0, 0) := rfl
theorem gi_226_72 : gF 226 72 = some (79, 73, 0, 0, 0, 0) := rfl
theorem gi_227_0 : gF 227 0 = some (2, 1, 1, 0, 0, 0) := rfl
theorem gi_227_1 : gF 227 1 = some (39, 4, 0, 9, 0, 0) := rfl
theorem gi_227_11 : gF 227 11 = some (45, 14, 0, 31, 0, 0) := rfl
theorem gi_227_14 : gF 227 14 = some (7, 15, 0, 0, 0, 0) := rfl
theorem gi_227_15 : gF 227 15 = some (50, 18, 11, 44, 0, 0) := rfl
theorem gi_227_18 : gF 227 18 = some (41, 21, 0, 26, 0, 0) := rfl
theorem gi_227_23 : gF 227 23 = some (37, 30, 0, 0, 0, 0) := rfl
theorem gi_227_26 : gF 227 26 = some (7, 27, 0, 0, 0, 0) := rfl
theorem gi_227_27 : gF 227 27 = some (50, 30, 11, 44, 0, 0) := rfl
theorem gi_227_30 : gF 227 30 = some (79, 31, 0, 0, 0, 0) := rfl
theorem gi_227_31 : gF 227 31 = some (2, 32, 1, 0, 0, 0) := rfl
theorem gi_227_34 : gF 227 34 = some (74, 37, 148, 3, 0, 0) := rfl
theorem gi_227_37 : gF 227 37 = some (38, 40, 0, 51, 0, 0) := rfl
theorem gi_227_4 : gF 227 4 = some (7, 5, 0, 0, 0, 0) := rfl
theorem gi_227_40 : gF 227 40 = some (7, 41, 0, 0, 0, 0) := rfl
theorem gi_227_41 : gF 227 41 = some (52, 44, 11, 46, 0, 0) := rfl
theorem gi_227_44 : gF 227 44 = some (2, 45, 1, 0, 0, 0) := rfl
theorem gi_227_46 : gF 227 46 = some (11, 47, 0, 0, 0, 0) := rfl
theorem gi_227_47 : gF 227 47 = some (58, 48, 0, 0, 0, 0) := rfl
theorem gi_227_48 : gF 227 48 = some (37, 52, 0, 0, 0, 0) := rfl
theorem gi_227_5 : gF 227 5 = some (50, 8, 11, 45, 0, 0) := rfl
theorem gi_227_52 : gF 227 52 = some (79, 53, 0, 0, 0, 0) := rfl
theorem gi_227_8 : gF 227 8 = some (79, 9, 0, 0, 0, 0) := rfl
theorem gi_227_9 : gF 227 9 = some (2, 10, 1, 0, 0, 0) := rfl
theorem gi_228_71 : gF 228 71 = some (2, 72, 1, 0, 0, 0) := rfl
theorem gi_228_73 : gF 228 73 = some (47, 76, 0, 94, 0, 0) := rfl
theorem gi_228_76 : gF 228 76 = some (7, 77, 0, 0, 0, 0) := rfl
theorem gi_228_77 : gF 228 77 = some (52, 80, 11, 53, 0, 0) := rfl
theorem gi_228_80 : gF 228 80 = some (2, 81, 1, 0, 0, 0) := rfl
theorem gi_228_81 : gF 228 81 = some (7, 82, 0, 0, 0, 0) := rfl
theorem gi_228_82 : gF 228 82 = some (52, 85, 11, 46, 0, 0) := rfl
theorem gi_228_85 : gF 228 85 = some (2, 86, 1, 0, 0, 0) := rfl
theorem gi_228_86 : gF 228 86 = some (58, 87, 0, 0, 0, 0) := rfl
theorem gi_228_87 : gF 228 87 = some (64, 88, 0, 0, 0, 0) := rfl
theorem gi_228_88 : gF 228 88 = some (8, 91, 1, 0, 1, 0) := rfl
theorem gi_228_91 : gF 228 91 = some (37, 71, 0, 0, 0, 0) := rfl
theorem gi_229_0 : gF 229 0 = some (7, 1, 0, 0, 0, 0) := rfl
theorem gi_229_1 : gF 229 1 = some (50, 4, 11, 47, 0, 0) := rfl
theorem gi_229_101 : gF 229 101 = some (2, 102, 1, 0, 0, 0) := rfl
theorem gi_229_102 : gF 229 102 = some (7, 103, 0, 0, 0, 0) := rfl
theorem gi_229_103 : gF 229 103 = some (52, 106, 11, 53, 0, 0) := rfl
theorem gi_229_106 : gF 229 106 = some (2, 107, 1, 0, 0, 0) := rfl
theorem gi_229_107 : gF 229 107 = some (58, 108, 0, 0, 0, 0) := rfl
theorem gi_229_108 : gF 229 108 = some (64, 109, 0, 0, 0, 0) := rfl
theorem gi_229_109 : gF 229 109 = some (8, 112, 1, 0, 1, 0) := rfl
theorem gi_229_112 : gF 229 112 = some (37, 92, 0, 0, 0, 0) := rfl
theorem gi_229_4 : gF 229 4 = some (39, 7, 0, 10, 0, 0) := rfl
theorem gi_229_59 : gF 229 59 = some (64, 60, 0, 0, 0, 0) := rfl
theorem gi_229_60 : gF 229 60 = some (7, 61, 0, 0, 0, 0) := rfl
theorem gi_229_61 : gF 229 61 = some (52, 64, 11, 43, 0, 0) := rfl
theorem gi_229_64 : gF 229 64 = some (2, 65, 1, 0, 0, 0) := rfl
theorem gi_229_65 : gF 229 65 = some (2, 66, 1, 0, 0, 0) := rfl
theorem gi_229_66 : gF 229 66 = some (7, 67, 0, 0, 0, 0) := rfl
theorem gi_229_67 : gF 229 67 = some (50, 70, 11, 48, 0, 0) := rfl
theorem gi_229_70 : gF 229 70 = some (47, 73, 0, 82, 0, 0) := rfl
theorem gi_229_83 : gF 229 83 = some (64, 84, 0, 0, 0, 0) := rfl
theorem gi_229_84 : gF 229 84 = some (8, 87, 1, 0, 1, 0) := rfl
theorem gi_229_87 : gF 229 87 = some (37, 28, 0, 0, 0, 0) := rfl
theorem gi_229_92 : gF 229 92 = some (2, 93, 1, 0, 0, 0) := rfl
theorem gi_229_94 : gF 229 94 = some (47, 97, 0, 115, 0, 0) := rfl
theorem gi_229_97 : gF 229 97 = some (7, 98, 0, 0, 0, 0) := rfl
theorem gi_229_98 : gF 229 98 = some (52, 101, 11, 46, 0, 0) := rfl
theorem gi_23_0 : gF 23 0 = some (7, 1, 1, 0, 0, 0) := rfl
theorem gi_23_1 : gF 23 1 = some (52, 4, 2, 1, 0, 0) := rfl
theorem gi_23_12 : gF 23 12 = some (77, 15, 0, 0, 0, 0) := rfl
theorem gi_23_15 : gF 23 15 = some (7, 16, 1, 0, 0, 0) := rfl
theorem gi_23_16 : gF 23 16 = some (52, 19, 2, 2, 0, 0) := rfl
theorem gi_23_20 : gF 23 20 = some (7, 21, 0, 0, 0, 0) := rfl
theorem gi_23_21 : gF 23 21 = some (52, 24, 2, 2, 0, 0) := rfl
theorem gi_23_27 : gF 23 27 = some (77, 30, 0, 0, 0, 0) := rfl
theorem gi_23_30 : gF 23 30 = some (7, 31, 0, 0, 0, 0) := rfl
theorem gi_23_31 : gF 23 31 = some (7, 32, 1, 0, 0, 0) := rfl
theorem gi_23_32 : gF 23 32 = some (50, 35, 2, 3, 0, 0) := rfl
theorem gi_23_35 : gF 23 35 = some (53, 38, 2, 3, 0, 0) := rfl
theorem gi_23_38 : gF 23 38 = some (7, 39, 0, 0, 0, 0) := rfl
theorem gi_23_39 : gF 23 39 = some (7, 40, 1, 0, 0, 0) := rfl
theorem gi_23_40 : gF 23 40 = some (50, 43, 2, 4, 0, 0) := rfl
theorem gi_23_43 : gF 23 43 = some (53, 46, 2, 4, 0, 0) := rfl
theorem gi_23_46 : gF 23 46 = some (7, 47, 0, 0, 0, 0) := rfl
theorem gi_23_47 : gF 23 47 = some (7, 48, 1, 0, 0, 0) := rfl
theorem gi_23_48 : gF 23 48 = some (50, 51, 2, 5, 0, 0) := rfl
theorem gi_23_5 : gF 23 5 = some (7, 6, 0, 0, 0, 0) := rfl
theorem gi_23_51 : gF 23 51 = some (53, 54, 2, 5, 0, 0) := rfl
theorem gi_23_54 : gF 23 54 = some (7, 55, 0, 0, 0, 0) := rfl
theorem gi_23_55 : gF 23 55 = some (7, 56, 1, 0, 0, 0) := rfl
theorem gi_23_56 : gF 23 56 = some (50, 59, 2, 6, 0, 0) := rfl
theorem gi_23_59 : gF 23 59 = some (53, 62, 2, 6, 0, 0) := rfl
theorem gi_23_6 : gF 23 6 = some (52, 9, 2, 1, 0, 0) := rfl
theorem gi_23_62 : gF 23 62 = some (7, 63, 0, 0, 0, 0) := rfl
theorem gi_23_63 : gF 23 63 = some (7, 64, 1, 0, 0, 0) := rfl
theorem gi_23_64 : gF 23 64 = some (50, 67, 2, 7, 0, 0) := rfl
theorem gi_23_67 : gF 23 67 = some (53, 70, 2, 7, 0, 0) := rfl
theorem gi_23_70 : gF 23 70 = some (7, 71, 0, 0, 0, 0) := rfl
theorem gi_23_71 : gF 23 71 = some (7, 72, 1, 0, 0, 0) := rfl
theorem gi_23_72 : gF 23 72 = some (50, 75, 2, 8, 0, 0) := rfl
theorem gi_23_75 : gF 23 75 = some (53, 78, 2, 8, 0, 0) := rfl
theorem gi_23_78 : gF 23 78 = some (81, 79, 0, 0, 0, 0) := rfl
theorem gi_230_0 : gF 230 0 = some (2, 1, 1, 0, 0, 0) := rfl
theorem gi_230_11 : gF 230 11 = some (79, 12, 0, 0, 0, 0) := rfl
theorem gi_230_2 : gF 230 2 = some (7, 3, 0, 0, 0, 0) := rfl
theorem gi_230_3 : gF 230 3 = some (50, 6, 11, 54, 0, 0) := rfl
theorem gi_230_7 : gF 230 7 = some (11, 8, 0, 0, 0, 0) := rfl
theorem gi_230_8 : gF 230 8 = some (74, 11, 148, 3, 0, 0) := rfl
theorem gi_232_0 : gF 232 0 = some (2, 1, 1, 0, 0, 0) := rfl
theorem gi_232_1 : gF 232 1 = some (40, 4, 0, 27, 0, 0) := rfl
theorem gi_232_12 : gF 232 12 = some (2, 13, 1, 0, 0, 0) := rfl
theorem gi_232_15 : gF 232 15 = some (47, 18, 0, 27, 0, 0) := rfl
theorem gi_232_18 : gF 232 18 = some (7, 19, 0, 0, 0, 0) := rfl
theorem gi_232_19 : gF 232 19 = some (52, 22, 11, 57, 0, 0) := rfl
theorem gi_232_22 : gF 232 22 = some (2, 23, 1, 0, 0, 0) := rfl
theorem gi_232_23 : gF 232 23 = some (58, 24, 0, 0, 0, 0) := rfl
theorem gi_232_24 : gF 232 24 = some (37, 28, 0, 0, 0, 0) := rfl
theorem gi_232_28 : gF 232 28 = some (79, 29, 0, 0, 0, 0) := rfl
theorem gi_232_4 : gF 232 4 = some (2, 5, 1, 0, 0, 0) := rfl
theorem gi_232_5 : gF 232 5 = some (7, 6, 0, 0, 0, 0) := rfl
theorem gi_232_6 : gF 232 6 = some (50, 9, 11, 56, 0, 0) := rfl
theorem gi_232_9 : gF 232 9 = some (47, 12, 0, 27, 0, 0) := rfl
theorem gi_233_0 : gF 233 0 = some (2, 1, 1, 0, 0, 0) := rfl
theorem gi_233_11 : gF 233 11 = some (79, 12, 0, 0, 0, 0) := rfl
theorem gi_233_12 : gF 233 12 = some (7, 13, 0, 0, 0, 0) := rfl
theorem gi_233_13 : gF 233 13 = some (50, 16, 11, 54, 0, 0) := rfl
theorem gi_233_18 : gF 233 18 = some (45, 21, 0, 24, 0, 0) := rfl
theorem gi_233_23 : gF 233 23 = some (79, 24, 0, 0, 0, 0) := rfl
theorem gi_233_24 : gF 233 24 = some (7, 25, 0, 0, 0, 0) := rfl
theorem gi_233_25 : gF 233 25 = some (52, 28, 11, 55, 0, 0) := rfl
theorem gi_233_28 : gF 233 28 = some (7, 29, 0, 0, 0, 0) := rfl
theorem gi_233_29 : gF 233 29 = some (50, 32, 11, 54, 0, 0) := rfl
theorem gi_233_32 : gF 233 32 = some (2, 33, 1, 0, 0, 0) := rfl
theorem gi_233_33 : gF 233 33 = some (64, 34, 0, 0, 0, 0) := rfl
theorem gi_233_34 : gF 233 34 = some (7, 35, 0, 0, 0, 0) := rfl
theorem gi_233_35 : gF 233 35 = some (34, 36, 0, 0, 0, 0) := rfl
theorem gi_233_36 : gF 233 36 = some (50, 39, 11, 54, 0, 0) := rfl
theorem gi_233_4 : gF 233 4 = some (74, 7, 148, 3, 0, 0) := rfl
theorem gi_233_40 : gF 233 40 = some (10, 41, 0, 0, 0, 0) := rfl
theorem gi_233_41 : gF 233 41 = some (53, 44, 11, 54, 0, 0) := rfl
theorem gi_233_44 : gF 233 44 = some (7, 45, 0, 0, 0, 0) := rfl
theorem gi_233_45 : gF 233 45 = some (50, 48, 11, 54, 0, 0) := rfl
theorem gi_233_49 : gF 233 49 = some (11, 50, 0, 0, 0, 0) := rfl
theorem gi_233_50 : gF 233 50 = some (79, 51, 0, 0, 0, 0) := rfl
theorem gi_233_7 : gF 233 7 = some (39, 10, 0, 12, 0, 0) := rfl
theorem gi_234_0 : gF 234 0 = some (2, 1, 1, 0, 0, 0) := rfl
theorem gi_234_1 : gF 234 1 = some (38, 4, 0, 56, 0, 0) := rfl
theorem gi_234_11 : gF 234 11 = some (45, 14, 0, 19, 0, 0) := rfl
theorem gi_234_14 : gF 234 14 = some (2, 15, 0, 0, 0, 0) := rfl
theorem gi_234_16 : gF 234 16 = some (44, 19, 0, 56, 0, 0) := rfl
theorem gi_234_19 : gF 234 19 = some (2, 20, 1, 0, 0, 0) := rfl
theorem gi_234_21 : gF 234 21 = some (45, 24, 0, 34, 0, 0) := rfl
theorem gi_234_24 : gF 234 24 = some (2, 25, 0, 0, 0, 0) := rfl
theorem gi_234_26 : gF 234 26 = some (44, 29, 0, 56, 0, 0) := rfl
theorem gi_234_29 : gF 234 29 = some (2, 30, 0, 0, 0, 0) := rfl
theorem gi_234_31 : gF 234 31 = some (44, 34, 0, 56, 0, 0) := rfl
theorem gi_234_34 : gF 234 34 = some (2, 35, 1, 0, 0, 0) := rfl
theorem gi_234_36 : gF 234 36 = some (45, 39, 0, 44, 0, 0) := rfl
theorem gi_234_39 : gF 234 39 = some (2, 40, 0, 0, 0, 0) := rfl
theorem gi_234_4 : gF 234 4 = some (2, 5, 0, 0, 0, 0) := rfl
theorem gi_234_41 : gF 234 41 = some (44, 44, 0, 56, 0, 0) := rfl
theorem gi_234_44 : gF 234 44 = some (2, 45, 1, 0, 0, 0) := rfl
theorem gi_234_47 : gF 234 47 = some (45, 50, 0, 60, 0, 0) := rfl
theorem gi_234_5 : gF 234 5 = some (2, 6, 1, 0, 0, 0) := rfl
theorem gi_234_50 : gF 234 50 = some (2, 51, 0, 0, 0, 0) := rfl
theorem gi_234_53 : gF 234 53 = some (45, 56, 0, 60, 0, 0) := rfl
theorem gi_234_57 : gF 234 57 = some (37, 61, 0, 0, 0, 0) := rfl
theorem gi_234_6 : gF 234 6 = some (44, 9, 0, 56, 0, 0) := rfl
theorem gi_234_61 : gF 234 61 = some (79, 62, 0, 0, 0, 0) := rfl
theorem gi_234_9 : gF 234 9 = some (2, 10, 1, 0, 0, 0) := rfl
theorem gi_235_0 : gF 235 0 = some (7, 1, 0, 0, 0, 0) := rfl
theorem gi_235_2 : gF 235 2 = some (73, 5, 231, 1, 0, 0) := rfl
theorem gi_235_5 : gF 235 5 = some (2, 6, 2, 0, 0, 0) := rfl
theorem gi_235_6 : gF 235 6 = some (2, 7, 1, 0, 0, 0) := rfl
theorem gi_235_7 : gF 235 7 = some (10, 8, 0, 0, 0, 0) := rfl
theorem gi_235_8 : gF 235 8 = some (79, 9, 0, 0, 0, 0) := rfl
theorem gi_236_0 : gF 236 0 = some (7, 1, 0, 0, 0, 0) := rfl
theorem gi_236_13 : gF 236 13 = some (12, 14, 0, 0, 0, 0) := rfl
theorem gi_236_14 : gF 236 14 = some (79, 15, 0, 0, 0, 0) := rfl
theorem gi_236_3 : gF 236 3 = some (73, 6, 231, 1, 0, 0) := rfl
theorem gi_236_6 : gF 236 6 = some (7, 7, 0, 0, 0, 0) := rfl
theorem gi_236_7 : gF 236 7 = some (2, 8, 1, 0, 0, 0) := rfl
theorem gi_236_8 : gF 236 8 = some (2, 9, 2, 0, 0, 0) := rfl
theorem gi_236_9 : gF 236 9 = some (73, 12, 235, 2, 0, 0) := rfl
theorem gi_237_0 : gF 237 0 = some (7, 1, 0, 0, 0, 0) := rfl
theorem gi_237_1 : gF 237 1 = some (52, 4, 11, 55, 0, 0) := rfl
theorem gi_237_10 : gF 237 10 = some (38, 13, 0, 28, 0, 0) := rfl
theorem gi_237_13 : gF 237 13 = some (7, 14, 0, 0, 0, 0) := rfl
theorem gi_237_16 : gF 237 16 = some (73, 19, 231, 1, 0, 0) := rfl
theorem gi_237_19 : gF 237 19 = some (7, 20, 0, 0, 0, 0) := rfl
theorem gi_237_20 : gF 237 20 = some (2, 21, 1, 0, 0, 0) := rfl
theorem gi_237_21 : gF 237 21 = some (2, 22, 2, 0, 0, 0) := rfl
theorem gi_237_22 : gF 237 22 = some (73, 25, 235, 2, 0, 0) := rfl
theorem gi_237_26 : gF 237 26 = some (10, 27, 0, 0, 0, 0) := rfl
theorem gi_237_27 : gF 237 27 = some (79, 28, 0, 0, 0, 0) := rfl
theorem gi_237_28 : gF 237 28 = some (7, 29, 0, 0, 0, 0) := rfl
theorem gi_237_29 : gF 237 29 = some (52, 32, 11, 55, 0, 0) := rfl
theorem gi_237_32 : gF 237 32 = some (2, 33, 1, 0, 0, 0) := rfl
theorem gi_237_33 : gF 237 33 = some (58, 34, 0, 0, 0, 0) := rfl
theorem gi_237_36 : gF 237 36 = some (45, 39, 0, 54, 0, 0) := rfl
theorem gi_237_39 : gF 237 39 = some (7, 40, 0, 0, 0, 0) := rfl
theorem gi_237_4 : gF 237 4 = some (2, 5, 1, 0, 0, 0) := rfl
theorem gi_237_42 : gF 237 42 = some (73, 45, 231, 1, 0, 0) := rfl
theorem gi_237_45 : gF 237 45 = some (7, 46, 0, 0, 0, 0) := rfl
theorem gi_237_46 : gF 237 46 = some (2, 47, 1, 0, 0, 0) := rfl
theorem gi_237_47 : gF 237 47 = some (2, 48, 2, 0, 0, 0) := rfl
theorem gi_237_48 : gF 237 48 = some (73, 51, 236, 2, 0, 0) := rfl
theorem gi_237_5 : gF 237 5 = some (58, 6, 0, 0, 0, 0) := rfl
theorem gi_237_52 : gF 237 52 = some (11, 53, 0, 0, 0, 0) := rfl
theorem gi_237_53 : gF 237 53 = some (79, 54, 0, 0, 0, 0) := rfl
theorem gi_237_54 : gF 237 54 = some (7, 55, 0, 0, 0, 0) := rfl
theorem gi_237_55 : gF 237 55 = some (52, 58, 11, 55, 0, 0) := rfl
theorem gi_237_58 : gF 237 58 = some (2, 59, 1, 0, 0, 0) := rfl
theorem gi_237_59 : gF 237 59 = some (58, 60, 0, 0, 0, 0) := rfl
theorem gi_237_62 : gF 237 62 = some (45, 65, 0, 74, 0, 0) := rfl
theorem gi_237_65 : gF 237 65 = some (7, 66, 0, 0, 0, 0) := rfl
theorem gi_237_66 : gF 237 66 = some (2, 67, 1, 0, 0, 0) := rfl
theorem gi_237_67 : gF 237 67 = some (2, 68, 2, 0, 0, 0) := rfl
theorem gi_237_68 : gF 237 68 = some (73, 71, 236, 2, 0, 0) := rfl
theorem gi_237_7 : gF 237 7 = some (74, 10, 234, 2, 0, 0) := rfl
theorem gi_237_71 : gF 237 71 = some (37, 80, 0, 0, 0, 0) := rfl
theorem gi_237_74 : gF 237 74 = some (7, 75, 0, 0, 0, 0) := rfl
theorem gi_237_75 : gF 237 75 = some (2, 76, 1, 0, 0, 0) := rfl
theorem gi_237_76 : gF 237 76 = some (2, 77, 2, 0, 0, 0) := rfl
theorem gi_237_77 : gF 237 77 = some (73, 80, 235, 2, 0, 0) := rfl
theorem gi_237_80 : gF 237 80 = some (79, 81, 0, 0, 0, 0) := rfl
theorem gi_238_0 : gF 238 0 = some (7, 1, 0, 0, 0, 0) := rfl
theorem gi_238_13 : gF 238 13 = some (12, 14, 0, 0, 0, 0) := rfl
theorem gi_238_14 : gF 238 14 = some (79, 15, 0, 0, 0, 0) := rfl
theorem gi_238_3 : gF 238 3 = some (73, 6, 231, 1, 0, 0) := rfl
theorem gi_238_6 : gF 238 6 = some (7, 7, 0, 0, 0, 0) := rfl
theorem gi_238_7 : gF 238 7 = some (2, 8, 1, 0, 0, 0) := rfl
theorem gi_238_8 : gF 238 8 = some (2, 9, 2, 0, 0, 0) := rfl
theorem gi_238_9 : gF 238 9 = some (73, 12, 237, 2, 0, 0) := rfl
theorem gi_239_0 : gF 239 0 = some (7, 1, 0, 0, 0, 0) := rfl
theorem gi_239_12 : gF 239 12 = some (21, 13, 0, 0, 0, 0) := rfl
theorem gi_239_13 : gF 239 13 = some (79, 14, 0, 0, 0, 0) := rfl
theorem gi_239_3 : gF 239 3 = some (73, 6, 231, 1, 0, 0) := rfl
theorem gi_239_6 : gF 239 6 = some (7, 7, 0, 0, 0, 0) := rfl
theorem gi_239_7 : gF 239 7 = some (2, 8, 1, 0, 0, 0) := rfl
theorem gi_239_8 : gF 239 8 = some (2, 9, 2, 0, 0, 0) := rfl
theorem gi_239_9 : gF 239 9 = some (73, 12, 238, 2, 0, 0) := rfl
theorem gi_240_0 : gF 240 0 = some (7, 1, 0, 0, 0, 0) := rfl
theorem gi_240_1 : gF 240 1 = some (52, 4, 11, 55, 0, 0) := rfl
theorem gi_240_10 : gF 240 10 = some (38, 13, 0, 28, 0, 0) := rfl
theorem gi_240_13 : gF 240 13 = some (7, 14, 0, 0, 0, 0) := rfl
theorem gi_240_16 : gF 240 16 = some (73, 19, 231, 1, 0, 0) := rfl
theorem gi_240_19 : gF 240 19 = some (7, 20, 0, 0, 0, 0) := rfl
theorem gi_240_20 : gF 240 20 = some (2, 21, 1, 0, 0, 0) := rfl
theorem gi_240_21 : gF 240 21 = some (2, 22, 2, 0, 0, 0) := rfl
theorem gi_240_23 : gF 240 23 = some (10, 24, 0, 0, 0, 0) := rfl
theorem gi_240_24 : gF 240 24 = some (73, 27, 239, 2, 0, 0) := rfl
theorem gi_240_27 : gF 240 27 = some (79, 28, 0, 0, 0, 0) := rfl
theorem gi_240_28 : gF 240 28 = some (7, 29, 0, 0, 0, 0) := rfl
theorem gi_240_29 : gF 240 29 = some (52, 32, 11, 55, 0, 0) := rfl
theorem gi_240_32 : gF 240 32 = some (2, 33, 1, 0, 0, 0) := rfl
theorem gi_240_33 : gF 240 33 = some (58, 34, 0, 0, 0, 0) := rfl
theorem gi_240_36 : gF 240 36 = some (45, 39, 0, 61, 0, 0) := rfl
theorem gi_240_39 : gF 240 39 = some (7, 40, 0, 0, 0, 0) := rfl
theorem gi_240_4 : gF 240 4 = some (2, 5, 1, 0, 0, 0) := rfl
theorem gi_240_42 : gF 240 42 = some (73, 45, 231, 1, 0, 0) := rfl
theorem gi_240_45 : gF 240 45 = some (7, 46, 0, 0, 0, 0) := rfl
theorem gi_240_46 : gF 240 46 = some (2, 47, 1, 0, 0, 0) := rfl
theorem gi_240_47 : gF 240 47 = some (2, 48, 2, 0, 0, 0) := rfl
theorem gi_240_48 : gF 240 48 = some (73, 51, 238, 2, 0, 0) := rfl
theorem gi_240_5 : gF 240 5 = some (58, 6, 0, 0, 0, 0) := rfl
theorem gi_240_51 : gF 240 51 = some (3, 52, 3, 0, 0, 0) := rfl
theorem gi_240_52 : gF 240 52 = some (2, 53, 3, 0, 0, 0) := rfl
theorem gi_240_53 : gF 240 53 = some (7, 54, 0, 0, 0, 0) := rfl
theorem gi_240_54 : gF 240 54 = some (2, 55, 1, 0, 0, 0) := rfl
theorem gi_240_56 : gF 240 56 = some (73, 59, 243, 2, 0, 0) := rfl
theorem gi_240_59 : gF 240 59 = some (10, 60, 0, 0, 0, 0) := rfl
theorem gi_240_60 : gF 240 60 = some (79, 61, 0, 0, 0, 0) := rfl
theorem gi_240_61 : gF 240 61 = some (7, 62, 0, 0, 0, 0) := rfl
theorem gi_240_62 : gF 240 62 = some (52, 65, 11, 55, 0, 0) := rfl
theorem gi_240_65 : gF 240 65 = some (2, 66, 1, 0, 0, 0) := rfl
theorem gi_240_66 : gF 240 66 = some (58, 67, 0, 0, 0, 0) := rfl
theorem gi_240_68 : gF 240 68 = some (45, 71, 0, 80, 0, 0) := rfl
theorem gi_240_7 : gF 240 7 = some (74, 10, 234, 2, 0, 0) := rfl
theorem gi_240_71 : gF 240 71 = some (7, 72, 0, 0, 0, 0) := rfl
theorem gi_240_72 : gF 240 72 = some (2, 73, 1, 0, 0, 0) := rfl
theorem gi_240_73 : gF 240 73 = some (2, 74, 2, 0, 0, 0) := rfl
theorem gi_240_74 : gF 240 74 = some (73, 77, 239, 2, 0, 0) := rfl
theorem gi_240_77 : gF 240 77 = some (37, 86, 0, 0, 0, 0) := rfl
theorem gi_240_80 : gF 240 80 = some (7, 81, 0, 0, 0, 0) := rfl
theorem gi_240_81 : gF 240 81 = some (2, 82, 1, 0, 0, 0) := rfl
theorem gi_240_82 : gF 240 82 = some (2, 83, 2, 0, 0, 0) := rfl
theorem gi_240_83 : gF 240 83 = some (73, 86, 238, 2, 0, 0) := rfl
theorem gi_240_86 : gF 240 86 = some (79, 87, 0, 0, 0, 0) := rfl
theorem gi_241_0 : gF 241 0 = some (7, 1, 0, 0, 0, 0) := rfl
theorem gi_241_3 : gF 241 3 = some (73, 6, 231, 1, 0, 0) := rfl
theorem gi_241_6 : gF 241 6 = some (2, 7, 2, 0, 0, 0) := rfl
theorem gi_241_7 : gF 241 7 = some (2, 8, 1, 0, 0, 0) := rfl
theorem gi_241_8 : gF 241 8 = some (15, 9, 0, 0, 0, 0) := rfl
theorem gi_241_9 : gF 241 9 = some (79, 10, 0, 0, 0, 0) := rfl
theorem gi_242_0 : gF 242 0 = some (7, 1, 0, 0, 0, 0) := rfl
theorem gi_242_13 : gF 242 13 = some (12, 14, 0, 0, 0, 0) := rfl
theorem gi_242_14 : gF 242 14 = some (79, 15, 0, 0, 0, 0) := rfl
theorem gi_242_3 : gF 242 3 = some (73, 6, 231, 1, 0, 0) := rfl
theorem gi_242_6 : gF 242 6 = some (7, 7, 0, 0, 0, 0) := rfl
theorem gi_242_7 : gF 242 7 = some (2, 8, 1, 0, 0, 0) := rfl
theorem gi_242_8 : gF 242 8 = some (2, 9, 2, 0, 0, 0) := rfl
theorem gi_242_9 : gF 242 9 = some (73, 12, 241, 2, 0, 0) := rfl
theorem gi_243_0 : gF 243 0 = some (7, 1, 0, 0, 0, 0) := rfl
theorem gi_243_1 : gF 243 1 = some (52, 4, 11, 55, 0, 0) := rfl
theorem gi_243_10 : gF 243 10 = some (7, 11, 0, 0, 0, 0) := rfl
theorem gi_243_13 : gF 243 13 = some (73, 16, 231, 1, 0, 0) := rfl
theorem gi_243_16 : gF 243 16 = some (7, 17, 0, 0, 0, 0) := rfl
theorem gi_243_17 : gF 243 17 = some (2, 18, 1, 0, 0, 0) := rfl
theorem gi_243_18 : gF 243 18 = some (2, 19, 2, 0, 0, 0) := rfl
theorem gi_243_19 : gF 243 19 = some (73, 22, 242, 2, 0, 0) := rfl
theorem gi_243_22 : gF 243 22 = some (3, 23, 3, 0, 0, 0) := rfl
theorem gi_243_23 : gF 243 23 = some (2, 24, 3, 0, 0, 0) := rfl
theorem gi_243_24 : gF 243 24 = some (7, 25, 0, 0, 0, 0) := rfl
theorem gi_243_25 : gF 243 25 = some (2, 26, 1, 0, 0, 0) := rfl
theorem gi_243_27 : gF 243 27 = some (73, 30, 237, 2, 0, 0) := rfl
theorem gi_243_30 : gF 243 30 = some (11, 31, 0, 0, 0, 0) := rfl
theorem gi_243_31 : gF 243 31 = some (79, 32, 0, 0, 0, 0) := rfl
theorem gi_243_32 : gF 243 32 = some (7, 33, 0, 0, 0, 0) := rfl
theorem gi_243_33 : gF 243 33 = some (52, 36, 11, 55, 0, 0) := rfl
theorem gi_243_36 : gF 243 36 = some (2, 37, 1, 0, 0, 0) := rfl
theorem gi_243_37 : gF 243 37 = some (58, 38, 0, 0, 0, 0) := rfl
theorem gi_243_39 : gF 243 39 = some (45, 42, 0, 51, 0, 0) := rfl
theorem gi_243_4 : gF 243 4 = some (2, 5, 1, 0, 0, 0) := rfl
theorem gi_243_42 : gF 243 42 = some (7, 43, 0, 0, 0, 0) := rfl
theorem gi_243_43 : gF 243 43 = some (2, 44, 1, 0, 0, 0) := rfl
theorem gi_243_44 : gF 243 44 = some (2, 45, 2, 0, 0, 0) := rfl
theorem gi_243_45 : gF 243 45 = some (73, 48, 242, 2, 0, 0) := rfl
theorem gi_243_48 : gF 243 48 = some (37, 57, 0, 0, 0, 0) := rfl
theorem gi_243_5 : gF 243 5 = some (58, 6, 0, 0, 0, 0) := rfl
theorem gi_243_51 : gF 243 51 = some (7, 52, 0, 0, 0, 0) := rfl
theorem gi_243_52 : gF 243 52 = some (2, 53, 1, 0, 0, 0) := rfl
theorem gi_243_53 : gF 243 53 = some (2, 54, 2, 0, 0, 0) := rfl
theorem gi_243_54 : gF 243 54 = some (73, 57, 241, 2, 0, 0) := rfl
theorem gi_243_57 : gF 243 57 = some (79, 58, 0, 0, 0, 0) := rfl
theorem gi_243_7 : gF 243 7 = some (45, 10, 0, 32, 0, 0) := rfl
theorem gi_244_0 : gF 244 0 = some (7, 1, 0, 0, 0, 0) := rfl
theorem gi_244_11 : gF 244 11 = some (3, 12, 3, 0, 0, 0) := rfl
theorem gi_244_12 : gF 244 12 = some (2, 13, 3, 0, 0, 0) := rfl
theorem gi_244_13 : gF 244 13 = some (7, 14, 0, 0, 0, 0) := rfl
theorem gi_244_14 : gF 244 14 = some (2, 15, 1, 0, 0, 0) := rfl
theorem gi_244_16 : gF 244 16 = some (73, 19, 243, 2, 0, 0) := rfl
theorem gi_244_19 : gF 244 19 = some (11, 20, 0, 0, 0, 0) := rfl
theorem gi_244_2 : gF 244 2 = some (73, 5, 231, 1, 0, 0) := rfl
theorem gi_244_20 : gF 244 20 = some (79, 21, 0, 0, 0, 0) := rfl
theorem gi_244_5 : gF 244 5 = some (7, 6, 0, 0, 0, 0) := rfl
theorem gi_244_6 : gF 244 6 = some (2, 7, 1, 0, 0, 0) := rfl
theorem gi_244_7 : gF 244 7 = some (2, 8, 2, 0, 0, 0) := rfl
theorem gi_244_8 : gF 244 8 = some (73, 11, 240, 2, 0, 0) := rfl
theorem gi_245_0 : gF 245 0 = some (7, 1, 0, 0, 0, 0) := rfl
theorem gi_245_1 : gF 245 1 = some (52, 4, 11, 55, 0, 0) := rfl
theorem gi_245_25 : gF 245 25 = some (7, 26, 0, 0, 0, 0) := rfl
theorem gi_245_26 : gF 245 26 = some (52, 29, 11, 55, 0, 0) := rfl
theorem gi_245_29 : gF 245 29 = some (2, 30, 1, 0, 0, 0) := rfl
theorem gi_245_30 : gF 245 30 = some (58, 31, 0, 0, 0, 0) := rfl
theorem gi_245_32 : gF 245 32 = some (45, 35, 0, 50, 0, 0) := rfl
theorem gi_245_4 : gF 245 4 = some (2, 5, 1, 0, 0, 0) := rfl
theorem gi_245_5 : gF 245 5 = some (58, 6, 0, 0, 0, 0) := rfl
theorem gi_245_50 : gF 245 50 = some (7, 51, 0, 0, 0, 0) := rfl
theorem gi_245_51 : gF 245 51 = some (2, 52, 1, 0, 0, 0) := rfl
theorem gi_245_52 : gF 245 52 = some (2, 53, 2, 0, 0, 0) := rfl
theorem gi_245_53 : gF 245 53 = some (73, 56, 244, 2, 0, 0) := rfl
theorem gi_245_56 : gF 245 56 = some (79, 57, 0, 0, 0, 0) := rfl
theorem gi_245_7 : gF 245 7 = some (45, 10, 0, 25, 0, 0) := rfl
theorem gi_246_0 : gF 246 0 = some (7, 1, 0, 0, 0, 0) := rfl
theorem gi_246_10 : gF 246 10 = some (38, 13, 0, 22, 0, 0) := rfl
theorem gi_246_13 : gF 246 13 = some (2, 14, 2, 0, 0, 0) := rfl
theorem gi_246_16 : gF 246 16 = some (74, 19, 148, 3, 0, 0) := rfl
theorem gi_246_19 : gF 246 19 = some (39, 22, 0, 24, 0, 0) := rfl
theorem gi_246_2 : gF 246 2 = some (53, 5, 11, 56, 0, 0) := rfl
theorem gi_246_23 : gF 246 23 = some (79, 24, 0, 0, 0, 0) := rfl
theorem gi_246_24 : gF 246 24 = some (2, 25, 2, 0, 0, 0) := rfl
theorem gi_246_25 : gF 246 25 = some (39, 28, 0, 37, 0, 0) := rfl
theorem gi_246_28 : gF 246 28 = some (7, 29, 0, 0, 0, 0) := rfl
theorem gi_246_29 : gF 246 29 = some (2, 30, 1, 0, 0, 0) := rfl
theorem gi_246_30 : gF 246 30 = some (2, 31, 3, 0, 0, 0) := rfl
theorem gi_246_31 : gF 246 31 = some (73, 34, 237, 2, 0, 0) := rfl
theorem gi_246_34 : gF 246 34 = some (37, 71, 0, 0, 0, 0) := rfl
theorem gi_246_37 : gF 246 37 = some (2, 38, 2, 0, 0, 0) := rfl
theorem gi_246_39 : gF 246 39 = some (45, 42, 0, 51, 0, 0) := rfl
theorem gi_246_42 : gF 246 42 = some (7, 43, 0, 0, 0, 0) := rfl
theorem gi_246_43 : gF 246 43 = some (2, 44, 1, 0, 0, 0) := rfl
theorem gi_246_44 : gF 246 44 = some (2, 45, 3, 0, 0, 0) := rfl
theorem gi_246_45 : gF 246 45 = some (73, 48, 240, 2, 0, 0) := rfl
theorem gi_246_48 : gF 246 48 = some (37, 71, 0, 0, 0, 0) := rfl
theorem gi_246_5 : gF 246 5 = some (7, 6, 0, 0, 0, 0) := rfl
theorem gi_246_51 : gF 246 51 = some (2, 52, 2, 0, 0, 0) := rfl
theorem gi_246_53 : gF 246 53 = some (45, 56, 0, 65, 0, 0) := rfl
theorem gi_246_56 : gF 246 56 = some (7, 57, 0, 0, 0, 0) := rfl
theorem gi_246_57 : gF 246 57 = some (2, 58, 1, 0, 0, 0) := rfl
theorem gi_246_58 : gF 246 58 = some (2, 59, 3, 0, 0, 0) := rfl
theorem gi_246_59 : gF 246 59 = some (73, 62, 243, 2, 0, 0) := rfl
theorem gi_246_6 : gF 246 6 = some (2, 7, 1, 0, 0, 0) := rfl
theorem gi_246_62 : gF 246 62 = some (37, 71, 0, 0, 0, 0) := rfl
theorem gi_246_65 : gF 246 65 = some (7, 66, 0, 0, 0, 0) := rfl
theorem gi_246_66 : gF 246 66 = some (2, 67, 1, 0, 0, 0) := rfl
theorem gi_246_67 : gF 246 67 = some (2, 68, 3, 0, 0, 0) := rfl
theorem gi_246_68 : gF 246 68 = some (73, 71, 245, 2, 0, 0) := rfl
theorem gi_246_7 : gF 246 7 = some (73, 10, 230, 1, 0, 0) := rfl
theorem gi_246_71 : gF 246 71 = some (79, 72, 0, 0, 0, 0) := rfl
theorem gi_247_0 : gF 247 0 = some (2, 1, 1, 0, 0, 0) := rfl
theorem gi_247_1 : gF 247 1 = some (82, 61, 0, 0, 0, 0) := rfl
theorem gi_247_36 : gF 247 36 = some (7, 37, 0, 0, 0, 0) := rfl
theorem gi_247_37 : gF 247 37 = some (50, 40, 11, 1, 0, 0) := rfl
theorem gi_247_40 : gF 247 40 = some (79, 41, 0, 0, 0, 0) := rfl
theorem gi_247_41 : gF 247 41 = some (7, 42, 0, 0, 0, 0) := rfl
theorem gi_247_42 : gF 247 42 = some (50, 45, 11, 15, 0, 0) := rfl
theorem gi_247_45 : gF 247 45 = some (79, 46, 0, 0, 0, 0) := rfl
theorem gi_247_46 : gF 247 46 = some (7, 47, 0, 0, 0, 0) := rfl
theorem gi_247_47 : gF 247 47 = some (50, 50, 11, 8, 0, 0) := rfl
theorem gi_247_50 : gF 247 50 = some (79, 51, 0, 0, 0, 0) := rfl
theorem gi_247_51 : gF 247 51 = some (7, 52, 0, 0, 0, 0) := rfl
theorem gi_247_52 : gF 247 52 = some (50, 55, 11, 54, 0, 0) := rfl
theorem gi_247_55 : gF 247 55 = some (79, 56, 0, 0, 0, 0) := rfl
theorem gi_247_56 : gF 247 56 = some (7, 57, 0, 0, 0, 0) := rfl
theorem gi_247_57 : gF 247 57 = some (50, 60, 11, 56, 0, 0) := rfl
theorem gi_247_60 : gF 247 60 = some (79, 61, 0, 0, 0, 0) := rfl
theorem gi_247_62 : gF 247 62 = some (79, 63, 0, 0, 0, 0) := rfl
theorem gi_248_0 : gF 248 0 = some (2, 1, 0, 0, 0, 0) := rfl
theorem gi_248_3 : gF 248 3 = some (74, 6, 148, 3, 0, 0) := rfl
theorem gi_248_6 : gF 248 6 = some (79, 7, 0, 0, 0, 0) := rfl
theorem gi_249_0 : gF 249 0 = some (2, 1, 1, 0, 0, 0) := rfl
theorem gi_249_1 : gF 249 1 = some (74, 4, 248, 1, 0, 0) := rfl
theorem gi_249_12 : gF 249 12 = some (7, 13, 0, 0, 0, 0) := rfl
theorem gi_249_13 : gF 249 13 = some (2, 14, 2, 0, 0, 0) := rfl
theorem gi_249_14 : gF 249 14 = some (73, 17, 230, 1, 0, 0) := rfl
theorem gi_249_17 : gF 249 17 = some (39, 20, 0, 22, 0, 0) := rfl
theorem gi_249_21 : gF 249 21 = some (79, 22, 0, 0, 0, 0) := rfl
theorem gi_249_22 : gF 249 22 = some (7, 23, 0, 0, 0, 0) := rfl
theorem gi_249_23 : gF 249 23 = some (52, 26, 11, 58, 0, 0) := rfl
theorem gi_249_26 : gF 249 26 = some (2, 27, 1, 0, 0, 0) := rfl
theorem gi_249_27 : gF 249 27 = some (2, 28, 2, 0, 0, 0) := rfl
theorem gi_249_28 : gF 249 28 = some (64, 29, 0, 0, 0, 0) := rfl
theorem gi_249_30 : gF 249 30 = some (79, 31, 0, 0, 0, 0) := rfl
theorem gi_249_4 : gF 249 4 = some (38, 7, 0, 20, 0, 0) := rfl
theorem gi_249_7 : gF 249 7 = some (2, 8, 2, 0, 0, 0) := rfl
theorem gi_249_9 : gF 249 9 = some (44, 12, 0, 22, 0, 0) := rfl
theorem gi_250_0 : gF 250 0 = some (2, 1, 1, 0, 0, 0) := rfl
theorem gi_250_1 : gF 250 1 = some (74, 4, 248, 1, 0, 0) := rfl
theorem gi_250_10 : gF 250 10 = some (74, 13, 148, 3, 0, 0) := rfl
theorem gi_250_13 : gF 250 13 = some (38, 16, 0, 22, 0, 0) := rfl
theorem gi_250_16 : gF 250 16 = some (2, 17, 3, 0, 0, 0) := rfl
theorem gi_250_19 : gF 250 19 = some (49, 22, 0, 24, 0, 0) := rfl
theorem gi_250_23 : gF 250 23 = some (79, 24, 0, 0, 0, 0) := rfl
theorem gi_250_24 : gF 250 24 = some (2, 25, 3, 0, 0, 0) := rfl
theorem gi_250_25 : gF 250 25 = some (41, 28, 0, 31, 0, 0) := rfl
theorem gi_250_30 : gF 250 30 = some (79, 31, 0, 0, 0, 0) := rfl
theorem gi_250_31 : gF 250 31 = some (7, 32, 0, 0, 0, 0) := rfl
theorem gi_250_32 : gF 250 32 = some (52, 35, 11, 58, 0, 0) := rfl
theorem gi_250_35 : gF 250 35 = some (2, 36, 1, 0, 0, 0) := rfl
theorem gi_250_38 : gF 250 38 = some (2, 39, 2, 0, 0, 0) := rfl
theorem gi_250_39 : gF 250 39 = some (11, 40, 0, 0, 0, 0) := rfl
theorem gi_250_4 : gF 250 4 = some (38, 7, 0, 22, 0, 0) := rfl
theorem gi_250_40 : gF 250 40 = some (64, 41, 0, 0, 0, 0) := rfl
theorem gi_250_41 : gF 250 41 = some (7, 42, 0, 0, 0, 0) := rfl
theorem gi_250_42 : gF 250 42 = some (52, 45, 11, 59, 0, 0) := rfl
theorem gi_250_45 : gF 250 45 = some (2, 46, 1, 0, 0, 0) := rfl
theorem gi_250_46 : gF 250 46 = some (2, 47, 3, 0, 0, 0) := rfl
theorem gi_250_47 : gF 250 47 = some (64, 48, 0, 0, 0, 0) := rfl
theorem gi_250_50 : gF 250 50 = some (2, 51, 1, 0, 0, 0) := rfl
theorem gi_250_51 : gF 250 51 = some (12, 52, 0, 0, 0, 0) := rfl
theorem gi_250_52 : gF 250 52 = some (3, 54, 4, 0, 0, 0) := rfl
theorem gi_250_7 : gF 250 7 = some (2, 8, 2, 0, 0, 0) := rfl
theorem gi_250_81 : gF 250 81 = some (79, 82, 0, 0, 0, 0) := rfl
theorem gi_251_0 : gF 251 0 = some (2, 1, 1, 0, 0, 0) := rfl
theorem gi_251_1 : gF 251 1 = some (74, 4, 248, 1, 0, 0) := rfl
theorem gi_251_10 : gF 251 10 = some (52, 13, 11, 58, 0, 0) := rfl
theorem gi_251_13 : gF 251 13 = some (2, 14, 1, 0, 0, 0) := rfl
theorem gi_251_14 : gF 251 14 = some (58, 15, 0, 0, 0, 0) := rfl
theorem gi_251_16 : gF 251 16 = some (45, 19, 0, 22, 0, 0) := rfl
theorem gi_251_21 : gF 251 21 = some (79, 22, 0, 0, 0, 0) := rfl
theorem gi_251_22 : gF 251 22 = some (7, 23, 0, 0, 0, 0) := rfl
theorem gi_251_23 : gF 251 23 = some (52, 26, 11, 58, 0, 0) := rfl
theorem gi_251_26 : gF 251 26 = some (2, 27, 1, 0, 0, 0) := rfl
theorem gi_251_27 : gF 251 27 = some (58, 28, 0, 0, 0, 0) := rfl
theorem gi_251_28 : gF 251 28 = some (40, 31, 0, 34, 0, 0) := rfl
theorem gi_251_33 : gF 251 33 = some (79, 34, 0, 0, 0, 0) := rfl
theorem gi_251_34 : gF 251 34 = some (2, 35, 2, 0, 0, 0) := rfl
theorem gi_251_36 : gF 251 36 = some (7, 37, 0, 0, 0, 0) := rfl
theorem gi_251_37 : gF 251 37 = some (52, 40, 11, 59, 0, 0) := rfl
theorem gi_251_4 : gF 251 4 = some (39, 7, 0, 9, 0, 0) := rfl
theorem gi_251_40 : gF 251 40 = some (2, 41, 1, 0, 0, 0) := rfl
theorem gi_251_41 : gF 251 41 = some (58, 42, 0, 0, 0, 0) := rfl
theorem gi_251_43 : gF 251 43 = some (11, 44, 0, 0, 0, 0) := rfl
theorem gi_251_44 : gF 251 44 = some (74, 47, 148, 3, 0, 0) := rfl
theorem gi_251_47 : gF 251 47 = some (38, 50, 0, 54, 0, 0) := rfl
theorem gi_251_51 : gF 251 51 = some (37, 56, 0, 0, 0, 0) := rfl
theorem gi_251_56 : gF 251 56 = some (79, 57, 0, 0, 0, 0) := rfl
theorem gi_251_8 : gF 251 8 = some (79, 9, 0, 0, 0, 0) := rfl
theorem gi_251_9 : gF 251 9 = some (7, 10, 0, 0, 0, 0) := rfl
theorem gi_252_0 : gF 252 0 = some (7, 1, 0, 0, 0, 0) := rfl
theorem gi_252_1 : gF 252 1 = some (2, 2, 1, 0, 0, 0) := rfl
theorem gi_252_10 : gF 252 10 = some (41, 13, 0, 16, 0, 0) := rfl
theorem gi_252_13 : gF 252 13 = some (2, 15, 5, 0, 0, 0) := rfl
theorem gi_252_15 : gF 252 15 = some (79, 16, 0, 0, 0, 0) := rfl
theorem gi_252_18 : gF 252 18 = some (7, 19, 0, 0, 0, 0) := rfl
theorem gi_252_19 : gF 252 19 = some (52, 22, 11, 58, 0, 0) := rfl
theorem gi_252_2 : gF 252 2 = some (2, 3, 2, 0, 0, 0) := rfl
theorem gi_252_22 : gF 252 22 = some (2, 23, 1, 0, 0, 0) := rfl
theorem gi_252_23 : gF 252 23 = some (58, 24, 0, 0, 0, 0) := rfl
theorem gi_252_24 : gF 252 24 = some (11, 25, 0, 0, 0, 0) := rfl
theorem gi_252_25 : gF 252 25 = some (3, 27, 6, 0, 0, 0) := rfl
theorem gi_252_27 : gF 252 27 = some (7, 28, 0, 0, 0, 0) := rfl
theorem gi_252_28 : gF 252 28 = some (52, 31, 11, 60, 0, 0) := rfl
theorem gi_252_3 : gF 252 3 = some (73, 6, 251, 2, 0, 0) := rfl
theorem gi_252_33 : gF 252 33 = some (2, 34, 1, 0, 0, 0) := rfl
theorem gi_252_34 : gF 252 34 = some (12, 35, 0, 0, 0, 0) := rfl
theorem gi_252_35 : gF 252 35 = some (2, 36, 2, 0, 0, 0) := rfl
theorem gi_252_36 : gF 252 36 = some (10, 37, 0, 0, 0, 0) := rfl
theorem gi_252_37 : gF 252 37 = some (2, 39, 6, 0, 0, 0) := rfl
theorem gi_252_39 : gF 252 39 = some (39, 42, 0, 49, 0, 0) := rfl
theorem gi_252_42 : gF 252 42 = some (6, 43, 3, 0, 0, 0) := rfl
theorem gi_252_43 : gF 252 43 = some (30, 44, 0, 0, 0, 0) := rfl
theorem gi_252_44 : gF 252 44 = some (31, 45, 0, 0, 0, 0) := rfl
theorem gi_252_45 : gF 252 45 = some (29, 46, 0, 0, 0, 0) := rfl
theorem gi_252_46 : gF 252 46 = some (37, 95, 0, 0, 0, 0) := rfl
theorem gi_252_49 : gF 252 49 = some (2, 51, 6, 0, 0, 0) := rfl
theorem gi_252_52 : gF 252 52 = some (45, 55, 0, 62, 0, 0) := rfl
theorem gi_252_55 : gF 252 55 = some (6, 56, 3, 0, 0, 0) := rfl
theorem gi_252_56 : gF 252 56 = some (30, 57, 0, 0, 0, 0) := rfl
theorem gi_252_57 : gF 252 57 = some (32, 58, 0, 0, 0, 0) := rfl
theorem gi_252_58 : gF 252 58 = some (29, 59, 0, 0, 0, 0) := rfl
theorem gi_252_59 : gF 252 59 = some (37, 95, 0, 0, 0, 0) := rfl
theorem gi_252_6 : gF 252 6 = some (3, 8, 5, 0, 0, 0) := rfl
theorem gi_252_62 : gF 252 62 = some (2, 64, 6, 0, 0, 0) := rfl
theorem gi_252_65 : gF 252 65 = some (45, 68, 0, 74, 0, 0) := rfl
theorem gi_252_68 : gF 252 68 = some (6, 69, 3, 0, 0, 0) := rfl
theorem gi_252_69 : gF 252 69 = some (30, 70, 0, 0, 0, 0) := rfl
theorem gi_252_70 : gF 252 70 = some (29, 71, 0, 0, 0, 0) := rfl
theorem gi_252_71 : gF 252 71 = some (37, 95, 0, 0, 0, 0) := rfl
theorem gi_252_74 : gF 252 74 = some (2, 76, 6, 0, 0, 0) := rfl
theorem gi_252_77 : gF 252 77 = some (45, 80, 0, 84, 0, 0) := rfl
theorem gi_252_8 : gF 252 8 = some (2, 10, 5, 0, 0, 0) := rfl
theorem gi_252_80 : gF 252 80 = some (6, 81, 3, 0, 0, 0) := rfl
theorem gi_252_81 : gF 252 81 = some (37, 95, 0, 0, 0, 0) := rfl
theorem gi_252_84 : gF 252 84 = some (6, 85, 3, 0, 0, 0) := rfl
theorem gi_252_85 : gF 252 85 = some (1, 86, 0, 0, 0, 0) := rfl
theorem gi_252_86 : gF 252 86 = some (33, 87, 0, 0, 0, 0) := rfl
theorem gi_252_87 : gF 252 87 = some (38, 90, 0, 94, 0, 0) := rfl
theorem gi_252_90 : gF 252 90 = some (1, 91, 0, 0, 0, 1) := rfl
theorem gi_252_91 : gF 252 91 = some (37, 95, 0, 0, 0, 0) := rfl
theorem gi_252_94 : gF 252 94 = some (1, 95, 0, 0, 0, 0) := rfl
theorem gi_252_95 : gF 252 95 = some (65, 96, 0, 0, 0, 0) := rfl
theorem gi_252_97 : gF 252 97 = some (79, 98, 0, 0, 0, 0) := rfl
theorem gi_253_0 : gF 253 0 = some (7, 1, 0, 0, 0, 0) := rfl
theorem gi_253_1 : gF 253 1 = some (2, 2, 1, 0, 0, 0) := rfl
theorem gi_253_12 : gF 253 12 = some (37, 26, 0, 0, 0, 0) := rfl
theorem gi_253_15 : gF 253 15 = some (7, 16, 0, 0, 0, 0) := rfl
theorem gi_253_16 : gF 253 16 = some (52, 19, 11, 60, 0, 0) := rfl
theorem gi_253_2 : gF 253 2 = some (2, 3, 2, 0, 0, 0) := rfl
theorem gi_253_21 : gF 253 21 = some (2, 22, 1, 0, 0, 0) := rfl
theorem gi_253_22 : gF 253 22 = some (12, 23, 0, 0, 0, 0) := rfl
theorem gi_253_23 : gF 253 23 = some (2, 24, 2, 0, 0, 0) := rfl
theorem gi_253_24 : gF 253 24 = some (10, 25, 0, 0, 0, 0) := rfl
theorem gi_253_25 : gF 253 25 = some (59, 26, 0, 0, 0, 0) := rfl
theorem gi_253_26 : gF 253 26 = some (80, 27, 0, 0, 0, 0) := rfl
theorem gi_253_3 : gF 253 3 = some (73, 6, 251, 2, 0, 0) := rfl
theorem gi_253_6 : gF 253 6 = some (41, 9, 0, 15, 0, 0) := rfl
theorem gi_253_9 : gF 253 9 = some (1, 12, 0, 0, 0, (-9223372036854775808)) := rfl
theorem gi_254_0 : gF 254 0 = some (2, 1, 1, 0, 0, 0) := rfl
theorem gi_254_1 : gF 254 1 = some (74, 4, 248, 1, 0, 0) := rfl
theorem gi_254_100 : gF 254 100 = some (58, 101, 0, 0, 0, 0) := rfl
theorem gi_254_101 : gF 254 101 = some (2, 103, 5, 0, 0, 0) := rfl
theorem gi_254_103 : gF 254 103 = some (11, 104, 0, 0, 0, 0) := rfl
theorem gi_254_104 : gF 254 104 = some (49, 107, 0, 110, 0, 0) := rfl
theorem gi_254_109 : gF 254 109 = some (79, 110, 0, 0, 0, 0) := rfl
theorem gi_254_11 : gF 254 11 = some (39, 14, 0, 16, 0, 0) := rfl
theorem gi_254_111 : gF 254 111 = some (3, 113, 6, 0, 0, 0) := rfl
theorem gi_254_148 : gF 254 148 = some (3, 150, 6, 0, 0, 0) := rfl
theorem gi_254_15 : gF 254 15 = some (79, 16, 0, 0, 0, 0) := rfl
theorem gi_254_16 : gF 254 16 = some (7, 17, 0, 0, 0, 0) := rfl
theorem gi_254_17 : gF 254 17 = some (52, 20, 11, 58, 0, 0) := rfl
theorem gi_254_185 : gF 254 185 = some (2, 187, 5, 0, 0, 0) := rfl
theorem gi_254_187 : gF 254 187 = some (79, 188, 0, 0, 0, 0) := rfl
theorem gi_254_20 : gF 254 20 = some (2, 21, 1, 0, 0, 0) := rfl
theorem gi_254_21 : gF 254 21 = some (58, 22, 0, 0, 0, 0) := rfl
theorem gi_254_23 : gF 254 23 = some (44, 26, 0, 36, 0, 0) := rfl
theorem gi_254_26 : gF 254 26 = some (7, 27, 0, 0, 0, 0) := rfl
theorem gi_254_27 : gF 254 27 = some (52, 30, 11, 58, 0, 0) := rfl
theorem gi_254_30 : gF 254 30 = some (2, 31, 3, 0, 0, 0) := rfl
theorem gi_254_31 : gF 254 31 = some (58, 32, 0, 0, 0, 0) := rfl
theorem gi_254_33 : gF 254 33 = some (45, 36, 0, 39, 0, 0) := rfl
theorem gi_254_38 : gF 254 38 = some (79, 39, 0, 0, 0, 0) := rfl
theorem gi_254_39 : gF 254 39 = some (7, 40, 0, 0, 0, 0) := rfl
theorem gi_254_4 : gF 254 4 = some (38, 7, 0, 14, 0, 0) := rfl
theorem gi_254_40 : gF 254 40 = some (52, 43, 11, 58, 0, 0) := rfl
theorem gi_254_43 : gF 254 43 = some (2, 44, 1, 0, 0, 0) := rfl
theorem gi_254_44 : gF 254 44 = some (58, 45, 0, 0, 0, 0) := rfl
theorem gi_254_45 : gF 254 45 = some (41, 48, 0, 63, 0, 0) := rfl
theorem gi_254_48 : gF 254 48 = some (7, 49, 0, 0, 0, 0) := rfl
theorem gi_254_49 : gF 254 49 = some (52, 52, 11, 58, 0, 0) := rfl
theorem gi_254_52 : gF 254 52 = some (2, 53, 1, 0, 0, 0) := rfl
theorem gi_254_53 : gF 254 53 = some (58, 54, 0, 0, 0, 0) := rfl
theorem gi_254_54 : gF 254 54 = some (7, 55, 0, 0, 0, 0) := rfl
theorem gi_254_55 : gF 254 55 = some (52, 58, 11, 58, 0, 0) := rfl
theorem gi_254_58 : gF 254 58 = some (2, 59, 3, 0, 0, 0) := rfl
theorem gi_254_59 : gF 254 59 = some (58, 60, 0, 0, 0, 0) := rfl
theorem gi_254_60 : gF 254 60 = some (44, 63, 0, 66, 0, 0) := rfl
theorem gi_254_65 : gF 254 65 = some (79, 66, 0, 0, 0, 0) := rfl
theorem gi_254_66 : gF 254 66 = some (2, 68, 5, 0, 0, 0) := rfl
theorem gi_254_68 : gF 254 68 = some (40, 71, 0, 107, 0, 0) := rfl
theorem gi_254_7 : gF 254 7 = some (2, 8, 3, 0, 0, 0) := rfl
theorem gi_254_71 : gF 254 71 = some (2, 72, 2, 0, 0, 0) := rfl
theorem gi_254_72 : gF 254 72 = some (40, 75, 0, 107, 0, 0) := rfl
theorem gi_254_75 : gF 254 75 = some (2, 77, 4, 0, 0, 0) := rfl
theorem gi_254_77 : gF 254 77 = some (40, 80, 0, 107, 0, 0) := rfl
theorem gi_254_8 : gF 254 8 = some (74, 11, 248, 1, 0, 0) := rfl
theorem gi_254_80 : gF 254 80 = some (2, 81, 2, 0, 0, 0) := rfl
theorem gi_254_81 : gF 254 81 = some (7, 82, 0, 0, 0, 0) := rfl
theorem gi_254_82 : gF 254 82 = some (52, 85, 11, 59, 0, 0) := rfl
theorem gi_254_85 : gF 254 85 = some (2, 86, 1, 0, 0, 0) := rfl
theorem gi_254_86 : gF 254 86 = some (58, 87, 0, 0, 0, 0) := rfl
theorem gi_254_87 : gF 254 87 = some (2, 89, 5, 0, 0, 0) := rfl
theorem gi_254_89 : gF 254 89 = some (11, 90, 0, 0, 0, 0) := rfl
theorem gi_254_90 : gF 254 90 = some (48, 93, 0, 107, 0, 0) := rfl
theorem gi_254_93 : gF 254 93 = some (2, 95, 4, 0, 0, 0) := rfl
theorem gi_254_95 : gF 254 95 = some (7, 96, 0, 0, 0, 0) := rfl
theorem gi_254_96 : gF 254 96 = some (52, 99, 11, 59, 0, 0) := rfl
theorem gi_254_99 : gF 254 99 = some (2, 100, 3, 0, 0, 0) := rfl
theorem gi_255_0 : gF 255 0 = some (2, 1, 1, 0, 0, 0) := rfl
theorem gi_255_1 : gF 255 1 = some (74, 4, 248, 1, 0, 0) := rfl
theorem gi_255_11 : gF 255 11 = some (74, 14, 148, 3, 0, 0) := rfl
theorem gi_255_14 : gF 255 14 = some (39, 17, 0, 19, 0, 0) := rfl
theorem gi_255_18 : gF 255 18 = some (79, 19, 0, 0, 0, 0) := rfl
theorem gi_255_19 : gF 255 19 = some (7, 20, 0, 0, 0, 0) := rfl
theorem gi_255_20 : gF 255 20 = some (52, 23, 11, 58, 0, 0) := rfl
theorem gi_255_23 : gF 255 23 = some (2, 24, 1, 0, 0, 0) := rfl
theorem gi_255_24 : gF 255 24 = some (58, 25, 0, 0, 0, 0) := rfl
theorem gi_255_26 : gF 255 26 = some (45, 29, 0, 32, 0, 0) := rfl
theorem gi_255_31 : gF 255 31 = some (79, 32, 0, 0, 0, 0) := rfl
theorem gi_255_32 : gF 255 32 = some (7, 33, 0, 0, 0, 0) := rfl
theorem gi_255_33 : gF 255 33 = some (52, 36, 11, 58, 0, 0) := rfl
theorem gi_255_36 : gF 255 36 = some (2, 37, 1, 0, 0, 0) := rfl
theorem gi_255_37 : gF 255 37 = some (58, 38, 0, 0, 0, 0) := rfl
theorem gi_255_38 : gF 255 38 = some (40, 41, 0, 73, 0, 0) := rfl
theorem gi_255_4 : gF 255 4 = some (38, 7, 0, 17, 0, 0) := rfl
theorem gi_255_41 : gF 255 41 = some (7, 42, 0, 0, 0, 0) := rfl
theorem gi_255_42 : gF 255 42 = some (52, 45, 11, 55, 0, 0) := rfl
theorem gi_255_45 : gF 255 45 = some (7, 46, 0, 0, 0, 0) := rfl
theorem gi_255_46 : gF 255 46 = some (52, 49, 11, 58, 0, 0) := rfl
theorem gi_255_49 : gF 255 49 = some (2, 50, 1, 0, 0, 0) := rfl
theorem gi_255_50 : gF 255 50 = some (58, 51, 0, 0, 0, 0) := rfl
theorem gi_255_51 : gF 255 51 = some (58, 52, 0, 0, 0, 0) := rfl
theorem gi_255_52 : gF 255 52 = some (2, 53, 2, 0, 0, 0) := rfl
theorem gi_255_53 : gF 255 53 = some (74, 56, 234, 2, 0, 0) := rfl
theorem gi_255_56 : gF 255 56 = some (38, 59, 0, 73, 0, 0) := rfl
theorem gi_255_59 : gF 255 59 = some (7, 60, 0, 0, 0, 0) := rfl
theorem gi_255_60 : gF 255 60 = some (52, 63, 11, 55, 0, 0) := rfl
theorem gi_255_63 : gF 255 63 = some (7, 64, 0, 0, 0, 0) := rfl
theorem gi_255_64 : gF 255 64 = some (52, 67, 11, 58, 0, 0) := rfl
theorem gi_255_67 : gF 255 67 = some (2, 68, 1, 0, 0, 0) := rfl
theorem gi_255_68 : gF 255 68 = some (58, 69, 0, 0, 0, 0) := rfl
theorem gi_255_69 : gF 255 69 = some (58, 70, 0, 0, 0, 0) := rfl
theorem gi_255_7 : gF 255 7 = some (2, 8, 2, 0, 0, 0) := rfl
theorem gi_255_70 : gF 255 70 = some (37, 75, 0, 0, 0, 0) := rfl
theorem gi_255_75 : gF 255 75 = some (79, 76, 0, 0, 0, 0) := rfl
theorem gi_26_10 : gF 26 10 = some (73, 13, 27, 0, 0, 0) := rfl
theorem gi_26_13 : gF 26 13 = some (7, 14, 0, 0, 0, 0) := rfl
theorem gi_26_15 : gF 26 15 = some (53, 18, 3, 1, 0, 0) := rfl
theorem gi_26_18 : gF 26 18 = some (2, 19, 1, 0, 0, 0) := rfl
theorem gi_26_19 : gF 26 19 = some (38, 22, 0, 26, 0, 0) := rfl
theorem gi_26_23 : gF 26 23 = some (37, 33, 0, 0, 0, 0) := rfl
theorem gi_26_28 : gF 26 28 = some (7, 29, 0, 0, 0, 0) := rfl
theorem gi_26_29 : gF 26 29 = some (50, 32, 3, 2, 0, 0) := rfl
theorem gi_26_32 : gF 26 32 = some (11, 33, 0, 0, 0, 0) := rfl
theorem gi_26_33 : gF 26 33 = some (79, 34, 0, 0, 0, 0) := rfl
theorem gi_26_5 : gF 26 5 = some (2, 6, 1, 0, 0, 0) := rfl
theorem gi_26_6 : gF 26 6 = some (38, 9, 0, 13, 0, 0) := rfl
theorem gi_26_9 : gF 26 9 = some (7, 10, 0, 0, 0, 0) := rfl
theorem gi_27_0 : gF 27 0 = some (7, 1, 0, 0, 0, 0) := rfl
theorem gi_27_1 : gF 27 1 = some (52, 4, 3, 3, 0, 0) := rfl
theorem gi_27_10 : gF 27 10 = some (7, 11, 0, 0, 0, 0) := rfl
theorem gi_27_11 : gF 27 11 = some (7, 12, 0, 0, 0, 0) := rfl
theorem gi_27_12 : gF 27 12 = some (52, 15, 3, 6, 0, 0) := rfl
theorem gi_27_15 : gF 27 15 = some (55, 18, 3, 3, 0, 0) := rfl
theorem gi_27_18 : gF 27 18 = some (7, 19, 0, 0, 0, 0) := rfl
theorem gi_27_19 : gF 27 19 = some (7, 20, 0, 0, 0, 0) := rfl
theorem gi_27_20 : gF 27 20 = some (52, 23, 3, 7, 0, 0) := rfl
theorem gi_27_23 : gF 27 23 = some (55, 26, 3, 4, 0, 0) := rfl
theorem gi_27_26 : gF 27 26 = some (7, 27, 0, 0, 0, 0) := rfl
theorem gi_27_27 : gF 27 27 = some (7, 28, 0, 0, 0, 0) := rfl
theorem gi_27_28 : gF 27 28 = some (50, 31, 3, 8, 0, 0) := rfl
theorem gi_27_31 : gF 27 31 = some (53, 34, 3, 5, 0, 0) := rfl
theorem gi_27_34 : gF 27 34 = some (7, 35, 0, 0, 0, 0) := rfl
theorem gi_27_35 : gF 27 35 = some (7, 36, 1, 0, 0, 0) := rfl
theorem gi_27_36 : gF 27 36 = some (55, 39, 3, 6, 0, 0) := rfl
theorem gi_27_39 : gF 27 39 = some (7, 40, 0, 0, 0, 0) := rfl
theorem gi_27_4 : gF 27 4 = some (5, 5, 1, 0, 0, 0) := rfl
theorem gi_27_40 : gF 27 40 = some (7, 41, 2, 0, 0, 0) := rfl
theorem gi_27_41 : gF 27 41 = some (55, 44, 3, 7, 0, 0) := rfl
theorem gi_27_44 : gF 27 44 = some (81, 45, 0, 0, 0, 0) := rfl
theorem gi_27_5 : gF 27 5 = some (7, 6, 0, 0, 0, 0) := rfl
theorem gi_27_6 : gF 27 6 = some (52, 9, 3, 4, 0, 0) := rfl
theorem gi_27_9 : gF 27 9 = some (5, 10, 2, 0, 0, 0) := rfl
theorem gi_28_0 : gF 28 0 = some (7, 1, 0, 0, 0, 0) := rfl
theorem gi_28_11 : gF 28 11 = some (3, 12, 1, 0, 0, 0) := rfl
theorem gi_28_12 : gF 28 12 = some (2, 13, 1, 0, 0, 0) := rfl
theorem gi_28_15 : gF 28 15 = some (48, 18, 0, 74, 0, 0) := rfl
theorem gi_28_18 : gF 28 18 = some (7, 19, 0, 0, 0, 0) := rfl
theorem gi_28_19 : gF 28 19 = some (73, 22, 29, 0, 0, 0) := rfl
theorem gi_28_2 : gF 28 2 = some (53, 5, 3, 2, 0, 0) := rfl
theorem gi_28_22 : gF 28 22 = some (39, 25, 0, 27, 0, 0) := rfl
theorem gi_28_26 : gF 28 26 = some (79, 27, 0, 0, 0, 0) := rfl
theorem gi_28_27 : gF 28 27 = some (7, 28, 0, 0, 0, 0) := rfl
theorem gi_28_31 : gF 28 31 = some (73, 34, 34, 2, 0, 0) := rfl
theorem gi_28_34 : gF 28 34 = some (7, 35, 0, 0, 0, 0) := rfl
theorem gi_28_35 : gF 28 35 = some (50, 38, 3, 2, 0, 0) := rfl
theorem gi_28_38 : gF 28 38 = some (7, 39, 0, 0, 0, 0) := rfl
theorem gi_28_39 : gF 28 39 = some (50, 42, 3, 1, 0, 0) := rfl
theorem gi_28_42 : gF 28 42 = some (46, 45, 0, 47, 0, 0) := rfl
theorem gi_28_46 : gF 28 46 = some (79, 47, 0, 0, 0, 0) := rfl
theorem gi_28_47 : gF 28 47 = some (7, 48, 0, 0, 0, 0) := rfl
theorem gi_28_48 : gF 28 48 = some (73, 51, 33, 0, 0, 0) := rfl
theorem gi_28_5 : gF 28 5 = some (7, 6, 0, 0, 0, 0) := rfl
theorem gi_28_53 : gF 28 53 = some (44, 56, 0, 58, 0, 0) := rfl
theorem gi_28_57 : gF 28 57 = some (79, 58, 0, 0, 0, 0) := rfl
theorem gi_28_58 : gF 28 58 = some (7, 59, 0, 0, 0, 0) := rfl
theorem gi_28_59 : gF 28 59 = some (34, 60, 0, 0, 0, 0) := rfl
theorem gi_28_60 : gF 28 60 = some (50, 63, 3, 2, 0, 0) := rfl
theorem gi_28_64 : gF 28 64 = some (10, 65, 0, 0, 0, 0) := rfl
theorem gi_28_65 : gF 28 65 = some (53, 68, 3, 2, 0, 0) := rfl
theorem gi_28_68 : gF 28 68 = some (8, 71, 1, 0, 1, 0) := rfl
theorem gi_28_7 : gF 28 7 = some (53, 10, 3, 8, 0, 0) := rfl
theorem gi_28_71 : gF 28 71 = some (37, 12, 0, 0, 0, 0) := rfl
theorem gi_29_0 : gF 29 0 = some (7, 1, 0, 0, 0, 0) := rfl
theorem gi_29_10 : gF 29 10 = some (79, 11, 0, 0, 0, 0) := rfl
theorem gi_29_11 : gF 29 11 = some (7, 12, 0, 0, 0, 0) := rfl
theorem gi_29_12 : gF 29 12 = some (73, 15, 33, 0, 0, 0) := rfl
theorem gi_29_17 : gF 29 17 = some (44, 20, 0, 22, 0, 0) := rfl
theorem gi_29_21 : gF 29 21 = some (79, 22, 0, 0, 0, 0) := rfl
theorem gi_29_22 : gF 29 22 = some (7, 23, 0, 0, 0, 0) := rfl
theorem gi_29_23 : gF 29 23 = some (34, 24, 0, 0, 0, 0) := rfl
theorem gi_29_24 : gF 29 24 = some (50, 27, 3, 2, 0, 0) := rfl
theorem gi_29_28 : gF 29 28 = some (10, 29, 0, 0, 0, 0) := rfl
theorem gi_29_29 : gF 29 29 = some (53, 32, 3, 2, 0, 0) := rfl
theorem gi_29_3 : gF 29 3 = some (73, 6, 30, 2, 0, 0) := rfl
theorem gi_29_32 : gF 29 32 = some (7, 33, 0, 0, 0, 0) := rfl
theorem gi_29_36 : gF 29 36 = some (73, 39, 34, 2, 0, 0) := rfl
theorem gi_29_39 : gF 29 39 = some (7, 40, 0, 0, 0, 0) := rfl
theorem gi_29_42 : gF 29 42 = some (73, 45, 30, 2, 0, 0) := rfl
theorem gi_29_45 : gF 29 45 = some (79, 46, 0, 0, 0, 0) := rfl
theorem gi_29_6 : gF 29 6 = some (39, 9, 0, 11, 0, 0) := rfl
theorem gi_3_0 : gF 3 0 = some (2, 1, 1, 0, 0, 0) := rfl
theorem gi_3_1 : gF 3 1 = some (40, 4, 0, 16, 0, 0) := rfl
theorem gi_3_13 : gF 3 13 = some (37, 17, 0, 0, 0, 0) := rfl
theorem gi_3_17 : gF 3 17 = some (79, 18, 0, 0, 0, 0) := rfl
theorem gi_3_4 : gF 3 4 = some (2, 5, 1, 0, 0, 0) := rfl
theorem gi_3_5 : gF 3 5 = some (7, 6, 0, 0, 0, 0) := rfl
theorem gi_3_6 : gF 3 6 = some (50, 9, 0, 1, 0, 0) := rfl
theorem gi_3_9 : gF 3 9 = some (47, 12, 0, 16, 0, 0) := rfl
theorem gi_30_0 : gF 30 0 = some (2, 1, 1, 0, 0, 0) := rfl
theorem gi_30_10 : gF 30 10 = some (79, 11, 0, 0, 0, 0) := rfl
theorem gi_30_11 : gF 30 11 = some (7, 12, 0, 0, 0, 0) := rfl
theorem gi_30_12 : gF 30 12 = some (2, 13, 1, 0, 0, 0) := rfl
theorem gi_30_14 : gF 30 14 = some (10, 15, 0, 0, 0, 0) := rfl
theorem gi_30_15 : gF 30 15 = some (2, 16, 2, 0, 0, 0) := rfl
theorem gi_30_16 : gF 30 16 = some (73, 19, 30, 2, 0, 0) := rfl
theorem gi_30_19 : gF 30 19 = some (39, 22, 0, 24, 0, 0) := rfl
theorem gi_30_2 : gF 30 2 = some (49, 5, 0, 11, 0, 0) := rfl
theorem gi_30_23 : gF 30 23 = some (79, 24, 0, 0, 0, 0) := rfl
theorem gi_30_24 : gF 30 24 = some (2, 25, 1, 0, 0, 0) := rfl
theorem gi_30_26 : gF 30 26 = some (45, 29, 0, 33, 0, 0) := rfl
theorem gi_30_30 : gF 30 30 = some (37, 35, 0, 0, 0, 0) := rfl
theorem gi_30_35 : gF 30 35 = some (3, 36, 3, 0, 0, 0) := rfl
theorem gi_30_37 : gF 30 37 = some (3, 39, 4, 0, 0, 0) := rfl
theorem gi_30_39 : gF 30 39 = some (2, 41, 4, 0, 0, 0) := rfl
theorem gi_30_41 : gF 30 41 = some (2, 42, 3, 0, 0, 0) := rfl
theorem gi_30_42 : gF 30 42 = some (47, 45, 0, 98, 0, 0) := rfl
theorem gi_30_45 : gF 30 45 = some (7, 46, 0, 0, 0, 0) := rfl
theorem gi_30_46 : gF 30 46 = some (73, 49, 33, 0, 0, 0) := rfl
theorem gi_30_49 : gF 30 49 = some (74, 52, 37, 1, 0, 0) := rfl
theorem gi_30_5 : gF 30 5 = some (7, 6, 0, 0, 0, 0) := rfl
theorem gi_30_52 : gF 30 52 = some (2, 53, 1, 0, 0, 0) := rfl
theorem gi_30_53 : gF 30 53 = some (45, 56, 0, 98, 0, 0) := rfl
theorem gi_30_56 : gF 30 56 = some (7, 57, 0, 0, 0, 0) := rfl
theorem gi_30_57 : gF 30 57 = some (73, 60, 33, 0, 0, 0) := rfl
theorem gi_30_6 : gF 30 6 = some (2, 7, 2, 0, 0, 0) := rfl
theorem gi_30_60 : gF 30 60 = some (3, 62, 5, 0, 0, 0) := rfl
theorem gi_30_62 : gF 30 62 = some (7, 63, 0, 0, 0, 0) := rfl
theorem gi_30_63 : gF 30 63 = some (34, 64, 0, 0, 0, 0) := rfl
theorem gi_30_64 : gF 30 64 = some (50, 67, 3, 2, 0, 0) := rfl
theorem gi_30_68 : gF 30 68 = some (10, 69, 0, 0, 0, 0) := rfl
theorem gi_30_69 : gF 30 69 = some (53, 72, 3, 2, 0, 0) := rfl
theorem gi_30_7 : gF 30 7 = some (73, 10, 31, 1, 0, 0) := rfl
theorem gi_30_72 : gF 30 72 = some (7, 73, 0, 0, 0, 0) := rfl
theorem gi_30_73 : gF 30 73 = some (2, 74, 1, 0, 0, 0) := rfl
theorem gi_30_75 : gF 30 75 = some (10, 76, 0, 0, 0, 0) := rfl
theorem gi_30_76 : gF 30 76 = some (2, 77, 2, 0, 0, 0) := rfl
theorem gi_30_77 : gF 30 77 = some (73, 80, 30, 2, 0, 0) := rfl
theorem gi_30_80 : gF 30 80 = some (39, 83, 0, 85, 0, 0) := rfl
theorem gi_30_84 : gF 30 84 = some (79, 85, 0, 0, 0, 0) := rfl
theorem gi_30_85 : gF 30 85 = some (7, 86, 0, 0, 0, 0) := rfl
theorem gi_30_86 : gF 30 86 = some (2, 88, 5, 0, 0, 0) := rfl
theorem gi_30_89 : gF 30 89 = some (73, 92, 34, 2, 0, 0) := rfl
theorem gi_30_92 : gF 30 92 = some (8, 95, 4, 0, 1, 0) := rfl
theorem gi_30_95 : gF 30 95 = some (37, 39, 0, 0, 0, 0) := rfl
theorem gi_30_99 : gF 30 99 = some (79, 100, 0, 0, 0, 0) := rfl
theorem gi_31_0 : gF 31 0 = some (7, 1, 0, 0, 0, 0) := rfl
theorem gi_31_1 : gF 31 1 = some (73, 4, 33, 0, 0, 0) := rfl
theorem gi_31_102 : gF 31 102 = some (44, 105, 0, 107, 0, 0) := rfl
theorem gi_31_106 : gF 31 106 = some (79, 107, 0, 0, 0, 0) := rfl
theorem gi_31_107 : gF 31 107 = some (7, 108, 0, 0, 0, 0) := rfl
theorem gi_31_108 : gF 31 108 = some (34, 109, 0, 0, 0, 0) := rfl
theorem gi_31_109 : gF 31 109 = some (50, 112, 3, 2, 0, 0) := rfl
theorem gi_31_113 : gF 31 113 = some (10, 114, 0, 0, 0, 0) := rfl
theorem gi_31_114 : gF 31 114 = some (53, 117, 3, 2, 0, 0) := rfl
theorem gi_31_118 : gF 31 118 = some (79, 119, 0, 0, 0, 0) := rfl
theorem gi_31_119 : gF 31 119 = some (7, 120, 0, 0, 0, 0) := rfl
theorem gi_31_12 : gF 31 12 = some (7, 13, 0, 0, 0, 0) := rfl
theorem gi_31_120 : gF 31 120 = some (2, 121, 1, 0, 0, 0) := rfl
theorem gi_31_122 : gF 31 122 = some (10, 123, 0, 0, 0, 0) := rfl
theorem gi_31_123 : gF 31 123 = some (73, 126, 31, 1, 0, 0) := rfl
theorem gi_31_126 : gF 31 126 = some (39, 129, 0, 131, 0, 0) := rfl
theorem gi_31_13 : gF 31 13 = some (73, 16, 32, 0, 0, 0) := rfl
theorem gi_31_130 : gF 31 130 = some (79, 131, 0, 0, 0, 0) := rfl
theorem gi_31_131 : gF 31 131 = some (7, 132, 0, 0, 0, 0) := rfl
theorem gi_31_132 : gF 31 132 = some (2, 133, 2, 0, 0, 0) := rfl
theorem gi_31_135 : gF 31 135 = some (45, 138, 0, 143, 0, 0) := rfl
theorem gi_31_140 : gF 31 140 = some (37, 144, 0, 0, 0, 0) := rfl
theorem gi_31_143 : gF 31 143 = some (2, 144, 2, 0, 0, 0) := rfl
theorem gi_31_145 : gF 31 145 = some (73, 148, 34, 2, 0, 0) := rfl
theorem gi_31_149 : gF 31 149 = some (79, 150, 0, 0, 0, 0) := rfl
theorem gi_31_17 : gF 31 17 = some (79, 18, 0, 0, 0, 0) := rfl
theorem gi_31_18 : gF 31 18 = some (2, 19, 2, 0, 0, 0) := rfl
theorem gi_31_19 : gF 31 19 = some (74, 22, 36, 1, 0, 0) := rfl
theorem gi_31_22 : gF 31 22 = some (38, 25, 0, 43, 0, 0) := rfl
theorem gi_31_25 : gF 31 25 = some (7, 26, 0, 0, 0, 0) := rfl
theorem gi_31_26 : gF 31 26 = some (34, 27, 0, 0, 0, 0) := rfl
theorem gi_31_27 : gF 31 27 = some (50, 30, 3, 2, 0, 0) := rfl
theorem gi_31_31 : gF 31 31 = some (10, 32, 0, 0, 0, 0) := rfl
theorem gi_31_32 : gF 31 32 = some (53, 35, 3, 2, 0, 0) := rfl
theorem gi_31_35 : gF 31 35 = some (7, 36, 0, 0, 0, 0) := rfl
theorem gi_31_36 : gF 31 36 = some (2, 37, 2, 0, 0, 0) := rfl
theorem gi_31_38 : gF 31 38 = some (73, 41, 34, 2, 0, 0) := rfl
theorem gi_31_4 : gF 31 4 = some (3, 5, 2, 0, 0, 0) := rfl
theorem gi_31_42 : gF 31 42 = some (79, 43, 0, 0, 0, 0) := rfl
theorem gi_31_43 : gF 31 43 = some (2, 44, 2, 0, 0, 0) := rfl
theorem gi_31_46 : gF 31 46 = some (44, 49, 0, 61, 0, 0) := rfl
theorem gi_31_49 : gF 31 49 = some (2, 50, 2, 0, 0, 0) := rfl
theorem gi_31_5 : gF 31 5 = some (2, 6, 2, 0, 0, 0) := rfl
theorem gi_31_52 : gF 31 52 = some (44, 55, 0, 61, 0, 0) := rfl
theorem gi_31_55 : gF 31 55 = some (2, 56, 2, 0, 0, 0) := rfl
theorem gi_31_58 : gF 31 58 = some (45, 61, 0, 67, 0, 0) := rfl
theorem gi_31_6 : gF 31 6 = some (74, 9, 35, 1, 0, 0) := rfl
theorem gi_31_61 : gF 31 61 = some (2, 62, 1, 0, 0, 0) := rfl
theorem gi_31_64 : gF 31 64 = some (46, 67, 0, 69, 0, 0) := rfl
theorem gi_31_68 : gF 31 68 = some (79, 69, 0, 0, 0, 0) := rfl
theorem gi_31_69 : gF 31 69 = some (7, 70, 0, 0, 0, 0) := rfl
theorem gi_31_70 : gF 31 70 = some (34, 71, 0, 0, 0, 0) := rfl
theorem gi_31_71 : gF 31 71 = some (50, 74, 3, 2, 0, 0) := rfl
theorem gi_31_75 : gF 31 75 = some (10, 76, 0, 0, 0, 0) := rfl
theorem gi_31_76 : gF 31 76 = some (53, 79, 3, 2, 0, 0) := rfl
theorem gi_31_79 : gF 31 79 = some (2, 80, 2, 0, 0, 0) := rfl
theorem gi_31_82 : gF 31 82 = some (45, 85, 0, 119, 0, 0) := rfl
theorem gi_31_85 : gF 31 85 = some (7, 86, 0, 0, 0, 0) := rfl
theorem gi_31_87 : gF 31 87 = some (2, 88, 1, 0, 0, 0) := rfl
theorem gi_31_89 : gF 31 89 = some (10, 90, 0, 0, 0, 0) := rfl
theorem gi_31_9 : gF 31 9 = some (38, 12, 0, 18, 0, 0) := rfl
theorem gi_31_90 : gF 31 90 = some (73, 93, 30, 2, 0, 0) := rfl
theorem gi_31_93 : gF 31 93 = some (38, 96, 0, 105, 0, 0) := rfl
theorem gi_31_96 : gF 31 96 = some (7, 97, 0, 0, 0, 0) := rfl
theorem gi_31_97 : gF 31 97 = some (73, 100, 33, 0, 0, 0) := rfl
theorem gi_32_1 : gF 32 1 = some (3, 2, 1, 0, 0, 0) := rfl
theorem gi_32_10 : gF 32 10 = some (73, 13, 33, 0, 0, 0) := rfl
theorem gi_32_13 : gF 32 13 = some (74, 16, 35, 1, 0, 0) := rfl
theorem gi_32_16 : gF 32 16 = some (38, 19, 0, 48, 0, 0) := rfl
theorem gi_32_19 : gF 32 19 = some (2, 20, 1, 0, 0, 0) := rfl
theorem gi_32_22 : gF 32 22 = some (12, 23, 0, 0, 0, 0) := rfl
theorem gi_32_23 : gF 32 23 = some (7, 24, 0, 0, 0, 0) := rfl
theorem gi_32_24 : gF 32 24 = some (73, 27, 33, 0, 0, 0) := rfl
theorem gi_32_27 : gF 32 27 = some (10, 28, 0, 0, 0, 0) := rfl
theorem gi_32_3 : gF 32 3 = some (3, 4, 2, 0, 0, 0) := rfl
theorem gi_32_30 : gF 32 30 = some (11, 31, 0, 0, 0, 0) := rfl
theorem gi_32_31 : gF 32 31 = some (3, 32, 1, 0, 0, 0) := rfl
theorem gi_32_32 : gF 32 32 = some (7, 33, 0, 0, 0, 0) := rfl
theorem gi_32_33 : gF 32 33 = some (34, 34, 0, 0, 0, 0) := rfl
theorem gi_32_34 : gF 32 34 = some (50, 37, 3, 2, 0, 0) := rfl
theorem gi_32_38 : gF 32 38 = some (10, 39, 0, 0, 0, 0) := rfl
theorem gi_32_39 : gF 32 39 = some (53, 42, 3, 2, 0, 0) := rfl
theorem gi_32_4 : gF 32 4 = some (2, 5, 2, 0, 0, 0) := rfl
theorem gi_32_42 : gF 32 42 = some (8, 45, 2, 0, 1, 0) := rfl
theorem gi_32_45 : gF 32 45 = some (37, 4, 0, 0, 0, 0) := rfl
theorem gi_32_48 : gF 32 48 = some (7, 49, 0, 0, 0, 0) := rfl
theorem gi_32_51 : gF 32 51 = some (2, 52, 1, 0, 0, 0) := rfl
theorem gi_32_52 : gF 32 52 = some (73, 55, 34, 2, 0, 0) := rfl
theorem gi_32_55 : gF 32 55 = some (81, 56, 0, 0, 0, 0) := rfl
theorem gi_32_6 : gF 32 6 = some (47, 9, 0, 48, 0, 0) := rfl
theorem gi_32_9 : gF 32 9 = some (7, 10, 0, 0, 0, 0) := rfl
theorem gi_33_0 : gF 33 0 = some (7, 1, 0, 0, 0, 0) := rfl
theorem gi_33_1 : gF 33 1 = some (50, 4, 3, 2, 0, 0) := rfl
theorem gi_33_11 : gF 33 11 = some (7, 12, 0, 0, 0, 0) := rfl
theorem gi_33_12 : gF 33 12 = some (52, 15, 3, 0, 0, 0) := rfl
theorem gi_33_15 : gF 33 15 = some (7, 16, 0, 0, 0, 0) := rfl
theorem gi_33_16 : gF 33 16 = some (50, 19, 3, 2, 0, 0) := rfl
theorem gi_33_19 : gF 33 19 = some (58, 20, 0, 0, 0, 0) := rfl
theorem gi_33_20 : gF 33 20 = some (37, 24, 0, 0, 0, 0) := rfl
theorem gi_33_24 : gF 33 24 = some (79, 25, 0, 0, 0, 0) := rfl
theorem gi_33_4 : gF 33 4 = some (7, 5, 0, 0, 0, 0) := rfl
theorem gi_33_5 : gF 33 5 = some (50, 8, 3, 1, 0, 0) := rfl
theorem gi_33_8 : gF 33 8 = some (47, 11, 0, 23, 0, 0) := rfl
theorem gi_34_0 : gF 34 0 = some (7, 1, 0, 0, 0, 0) := rfl
theorem gi_34_1 : gF 34 1 = some (50, 4, 3, 8, 0, 0) := rfl
theorem gi_34_10 : gF 34 10 = some (7, 11, 0, 0, 0, 0) := rfl
theorem gi_34_11 : gF 34 11 = some (52, 14, 3, 6, 0, 0) := rfl
theorem gi_34_14 : gF 34 14 = some (7, 15, 0, 0, 0, 0) := rfl
theorem gi_34_15 : gF 34 15 = some (50, 18, 3, 8, 0, 0) := rfl
theorem gi_34_18 : gF 34 18 = some (2, 19, 1, 0, 0, 0) := rfl
theorem gi_34_19 : gF 34 19 = some (64, 20, 0, 0, 0, 0) := rfl
theorem gi_34_20 : gF 34 20 = some (7, 21, 0, 0, 0, 0) := rfl
theorem gi_34_21 : gF 34 21 = some (52, 24, 3, 7, 0, 0) := rfl
theorem gi_34_24 : gF 34 24 = some (7, 25, 0, 0, 0, 0) := rfl
theorem gi_34_25 : gF 34 25 = some (50, 28, 3, 8, 0, 0) := rfl
theorem gi_34_28 : gF 34 28 = some (2, 29, 2, 0, 0, 0) := rfl
theorem gi_34_29 : gF 34 29 = some (64, 30, 0, 0, 0, 0) := rfl
theorem gi_34_30 : gF 34 30 = some (7, 31, 0, 0, 0, 0) := rfl
theorem gi_34_31 : gF 34 31 = some (34, 32, 0, 0, 0, 0) := rfl
theorem gi_34_32 : gF 34 32 = some (50, 35, 3, 8, 0, 0) := rfl
theorem gi_34_36 : gF 34 36 = some (10, 37, 0, 0, 0, 0) := rfl
theorem gi_34_37 : gF 34 37 = some (53, 40, 3, 8, 0, 0) := rfl
theorem gi_34_40 : gF 34 40 = some (81, 41, 0, 0, 0, 0) := rfl
theorem gi_34_6 : gF 34 6 = some (46, 9, 0, 10, 0, 0) := rfl
theorem gi_34_9 : gF 34 9 = some (81, 10, 0, 0, 0, 0) := rfl
theorem gi_35_17 : gF 35 17 = some (79, 18, 0, 0, 0, 0) := rfl
theorem gi_36_37 : gF 36 37 = some (37, 41, 0, 0, 0, 0) := rfl
theorem gi_36_41 : gF 36 41 = some (79, 42, 0, 0, 0, 0) := rfl
theorem gi_37_101 : gF 37 101 = some (79, 102, 0, 0, 0, 0) := rfl
theorem gi_37_97 : gF 37 97 = some (79, 98, 0, 0, 0, 0) := rfl
theorem gi_37_99 : gF 37 99 = some (79, 100, 0, 0, 0, 0) := rfl
theorem gi_38_0 : gF 38 0 = some (7, 1, 0, 0, 0, 0) := rfl
theorem gi_38_1 : gF 38 1 = some (50, 4, 3, 5, 0, 0) := rfl
theorem gi_38_103 : gF 38 103 = some (45, 106, 0, 111, 0, 0) := rfl
theorem gi_38_106 : gF 38 106 = some (7, 107, 0, 0, 0, 0) := rfl
theorem gi_38_107 : gF 38 107 = some (73, 110, 43, 0, 0, 0) := rfl
theorem gi_38_110 : gF 38 110 = some (79, 111, 0, 0, 0, 0) := rfl
theorem gi_38_111 : gF 38 111 = some (2, 113, 9, 0, 0, 0) := rfl
theorem gi_38_115 : gF 38 115 = some (45, 118, 0, 135, 0, 0) := rfl
theorem gi_38_118 : gF 38 118 = some (7, 119, 0, 0, 0, 0) := rfl
theorem gi_38_119 : gF 38 119 = some (73, 122, 43, 0, 0, 0) := rfl
theorem gi_38_122 : gF 38 122 = some (39, 125, 0, 129, 0, 0) := rfl
theorem gi_38_126 : gF 38 126 = some (37, 130, 0, 0, 0, 0) := rfl
theorem gi_38_130 : gF 38 130 = some (3, 132, 7, 0, 0, 0) := rfl
theorem gi_38_132 : gF 38 132 = some (37, 148, 0, 0, 0, 0) := rfl
theorem gi_38_135 : gF 38 135 = some (7, 136, 0, 0, 0, 0) := rfl
theorem gi_38_136 : gF 38 136 = some (2, 138, 9, 0, 0, 0) := rfl
theorem gi_38_138 : gF 38 138 = some (7, 139, 0, 0, 0, 0) := rfl
theorem gi_38_139 : gF 38 139 = some (52, 142, 3, 4, 0, 0) := rfl
theorem gi_38_142 : gF 38 142 = some (2, 144, 8, 0, 0, 0) := rfl
theorem gi_38_144 : gF 38 144 = some (58, 145, 0, 0, 0, 0) := rfl
theorem gi_38_145 : gF 38 145 = some (73, 148, 40, 2, 0, 0) := rfl
theorem gi_38_148 : gF 38 148 = some (8, 151, 8, 0, 1, 0) := rfl
theorem gi_38_15 : gF 38 15 = some (7, 16, 0, 0, 0, 0) := rfl
theorem gi_38_151 : gF 38 151 = some (37, 59, 0, 0, 0, 0) := rfl
theorem gi_38_16 : gF 38 16 = some (2, 17, 1, 0, 0, 0) := rfl
theorem gi_38_17 : gF 38 17 = some (53, 20, 3, 11, 0, 0) := rfl
theorem gi_38_20 : gF 38 20 = some (7, 21, 0, 0, 0, 0) := rfl
theorem gi_38_21 : gF 38 21 = some (2, 22, 2, 0, 0, 0) := rfl
theorem gi_38_22 : gF 38 22 = some (53, 25, 3, 12, 0, 0) := rfl
theorem gi_38_25 : gF 38 25 = some (7, 26, 0, 0, 0, 0) := rfl
theorem gi_38_26 : gF 38 26 = some (2, 27, 3, 0, 0, 0) := rfl
theorem gi_38_27 : gF 38 27 = some (53, 30, 3, 13, 0, 0) := rfl
theorem gi_38_30 : gF 38 30 = some (7, 31, 0, 0, 0, 0) := rfl
theorem gi_38_31 : gF 38 31 = some (2, 33, 4, 0, 0, 0) := rfl
theorem gi_38_33 : gF 38 33 = some (53, 36, 3, 14, 0, 0) := rfl
theorem gi_38_36 : gF 38 36 = some (7, 37, 0, 0, 0, 0) := rfl
theorem gi_38_37 : gF 38 37 = some (2, 39, 5, 0, 0, 0) := rfl
theorem gi_38_39 : gF 38 39 = some (53, 42, 3, 15, 0, 0) := rfl
theorem gi_38_4 : gF 38 4 = some (39, 7, 0, 15, 0, 0) := rfl
theorem gi_38_42 : gF 38 42 = some (7, 43, 0, 0, 0, 0) := rfl
theorem gi_38_43 : gF 38 43 = some (2, 45, 6, 0, 0, 0) := rfl
theorem gi_38_45 : gF 38 45 = some (53, 48, 3, 16, 0, 0) := rfl
theorem gi_38_48 : gF 38 48 = some (7, 49, 0, 0, 0, 0) := rfl
theorem gi_38_50 : gF 38 50 = some (53, 53, 3, 10, 0, 0) := rfl
theorem gi_38_54 : gF 38 54 = some (3, 56, 7, 0, 0, 0) := rfl
theorem gi_38_57 : gF 38 57 = some (3, 59, 8, 0, 0, 0) := rfl
theorem gi_38_59 : gF 38 59 = some (2, 61, 8, 0, 0, 0) := rfl
theorem gi_38_61 : gF 38 61 = some (7, 62, 0, 0, 0, 0) := rfl
theorem gi_38_62 : gF 38 62 = some (50, 65, 3, 5, 0, 0) := rfl
theorem gi_38_65 : gF 38 65 = some (47, 68, 0, 154, 0, 0) := rfl
theorem gi_38_68 : gF 38 68 = some (7, 69, 0, 0, 0, 0) := rfl
theorem gi_38_69 : gF 38 69 = some (52, 72, 3, 3, 0, 0) := rfl
theorem gi_38_72 : gF 38 72 = some (2, 74, 8, 0, 0, 0) := rfl
theorem gi_38_74 : gF 38 74 = some (58, 75, 0, 0, 0, 0) := rfl
theorem gi_38_75 : gF 38 75 = some (3, 77, 9, 0, 0, 0) := rfl
theorem gi_38_77 : gF 38 77 = some (2, 79, 7, 0, 0, 0) := rfl
theorem gi_38_79 : gF 38 79 = some (38, 82, 0, 99, 0, 0) := rfl
theorem gi_38_82 : gF 38 82 = some (2, 84, 9, 0, 0, 0) := rfl
theorem gi_38_86 : gF 38 86 = some (44, 89, 0, 93, 0, 0) := rfl
theorem gi_38_90 : gF 38 90 = some (37, 94, 0, 0, 0, 0) := rfl
theorem gi_38_94 : gF 38 94 = some (3, 96, 7, 0, 0, 0) := rfl
theorem gi_38_96 : gF 38 96 = some (37, 148, 0, 0, 0, 0) := rfl
theorem gi_38_99 : gF 38 99 = some (2, 101, 9, 0, 0, 0) := rfl
theorem gi_4_18 : gF 4 18 = some (79, 19, 0, 0, 0, 0) := rfl
theorem gi_4_5 : gF 4 5 = some (38, 8, 0, 17, 0, 0) := rfl
theorem gi_40_0 : gF 40 0 = some (2, 1, 1, 0, 0, 0) := rfl
theorem gi_40_1 : gF 40 1 = some (82, 189, 0, 0, 0, 0) := rfl
theorem gi_40_171 : gF 40 171 = some (73, 174, 42, 1, 0, 0) := rfl
theorem gi_40_174 : gF 40 174 = some (37, 211, 0, 0, 0, 0) := rfl
theorem gi_40_189 : gF 40 189 = some (7, 190, 0, 0, 0, 0) := rfl
theorem gi_40_190 : gF 40 190 = some (73, 193, 43, 0, 0, 0) := rfl
theorem gi_40_193 : gF 40 193 = some (3, 194, 3, 0, 0, 0) := rfl
theorem gi_40_194 : gF 40 194 = some (7, 195, 0, 0, 0, 0) := rfl
theorem gi_40_195 : gF 40 195 = some (73, 198, 43, 0, 0, 0) := rfl
theorem gi_40_198 : gF 40 198 = some (3, 200, 4, 0, 0, 0) := rfl
theorem gi_40_200 : gF 40 200 = some (7, 201, 0, 0, 0, 0) := rfl
theorem gi_40_201 : gF 40 201 = some (2, 202, 1, 0, 0, 0) := rfl
theorem gi_40_202 : gF 40 202 = some (2, 204, 4, 0, 0, 0) := rfl
theorem gi_40_204 : gF 40 204 = some (2, 205, 3, 0, 0, 0) := rfl
theorem gi_40_205 : gF 40 205 = some (74, 208, 41, 3, 0, 0) := rfl
theorem gi_40_208 : gF 40 208 = some (73, 211, 42, 1, 0, 0) := rfl
theorem gi_40_211 : gF 40 211 = some (81, 212, 0, 0, 0, 0) := rfl
theorem gi_41_0 : gF 41 0 = some (2, 1, 0, 0, 0, 0) := rfl
theorem gi_41_1 : gF 41 1 = some (82, 189, 0, 0, 0, 0) := rfl
theorem gi_41_101 : gF 41 101 = some (37, 105, 0, 0, 0, 0) := rfl
theorem gi_41_105 : gF 41 105 = some (79, 106, 0, 0, 0, 0) := rfl
theorem gi_41_119 : gF 41 119 = some (79, 120, 0, 0, 0, 0) := rfl
theorem gi_41_130 : gF 41 130 = some (79, 131, 0, 0, 0, 0) := rfl
theorem gi_41_141 : gF 41 141 = some (79, 142, 0, 0, 0, 0) := rfl
theorem gi_41_152 : gF 41 152 = some (79, 153, 0, 0, 0, 0) := rfl
theorem gi_41_176 : gF 41 176 = some (79, 177, 0, 0, 0, 0) := rfl
theorem gi_41_188 : gF 41 188 = some (79, 189, 0, 0, 0, 0) := rfl
theorem gi_46_0 : gF 46 0 = some (7, 1, 0, 0, 0, 0) := rfl
theorem gi_46_1 : gF 46 1 = some (7, 2, 0, 0, 0, 0) := rfl
theorem gi_46_11 : gF 46 11 = some (10, 12, 0, 0, 0, 0) := rfl
theorem gi_46_12 : gF 46 12 = some (53, 15, 4, 2, 0, 0) := rfl
theorem gi_46_15 : gF 46 15 = some (81, 16, 0, 0, 0, 0) := rfl
theorem gi_46_2 : gF 46 2 = some (50, 5, 4, 2, 0, 0) := rfl
theorem gi_46_7 : gF 46 7 = some (12, 8, 0, 0, 0, 0) := rfl
theorem gi_48_12 : gF 48 12 = some (47, 15, 0, 44, 0, 0) := rfl
theorem gi_48_15 : gF 48 15 = some (2, 16, 2, 0, 0, 0) := rfl
theorem gi_48_16 : gF 48 16 = some (39, 19, 0, 44, 0, 0) := rfl
theorem gi_48_37 : gF 48 37 = some (3, 38, 2, 0, 0, 0) := rfl
theorem gi_48_38 : gF 48 38 = some (8, 41, 3, 0, 1, 0) := rfl
theorem gi_48_4 : gF 48 4 = some (2, 5, 3, 0, 0, 0) := rfl
theorem gi_48_41 : gF 48 41 = some (37, 4, 0, 0, 0, 0) := rfl
theorem gi_48_44 : gF 48 44 = some (81, 45, 0, 0, 0, 0) := rfl
theorem gi_48_5 : gF 48 5 = some (7, 6, 0, 0, 0, 0) := rfl
theorem gi_48_6 : gF 48 6 = some (52, 9, 4, 1, 0, 0) := rfl
theorem gi_48_9 : gF 48 9 = some (50, 12, 8, 8, 0, 0) := rfl
theorem gi_52_21 : gF 52 21 = some (79, 22, 0, 0, 0, 0) := rfl
theorem gi_53_10 : gF 53 10 = some (81, 11, 0, 0, 0, 0) := rfl
theorem gi_53_108 : gF 53 108 = some (7, 109, 0, 0, 0, 0) := rfl
theorem gi_53_109 : gF 53 109 = some (52, 112, 5, 1, 0, 0) := rfl
theorem gi_53_112 : gF 53 112 = some (2, 113, 1, 0, 0, 0) := rfl
theorem gi_53_113 : gF 53 113 = some (2, 115, 6, 0, 0, 0) := rfl
theorem gi_53_115 : gF 53 115 = some (64, 116, 0, 0, 0, 0) := rfl
theorem gi_53_116 : gF 53 116 = some (7, 117, 0, 0, 0, 0) := rfl
theorem gi_53_117 : gF 53 117 = some (2, 118, 1, 0, 0, 0) := rfl
theorem gi_53_119 : gF 53 119 = some (10, 120, 0, 0, 0, 0) := rfl
theorem gi_53_120 : gF 53 120 = some (2, 121, 2, 0, 0, 0) := rfl
theorem gi_53_122 : gF 53 122 = some (2, 124, 6, 0, 0, 0) := rfl
theorem gi_53_124 : gF 53 124 = some (16, 125, 0, 0, 0, 0) := rfl
theorem gi_53_126 : gF 53 126 = some (15, 127, 0, 0, 0, 0) := rfl
theorem gi_53_127 : gF 53 127 = some (13, 128, 0, 0, 0, 0) := rfl
theorem gi_53_128 : gF 53 128 = some (2, 130, 6, 0, 0, 0) := rfl
theorem gi_53_130 : gF 53 130 = some (2, 132, 7, 0, 0, 0) := rfl
theorem gi_53_132 : gF 53 132 = some (2, 134, 5, 0, 0, 0) := rfl
theorem gi_53_134 : gF 53 134 = some (2, 136, 8, 0, 0, 0) := rfl
theorem gi_53_136 : gF 53 136 = some (10, 137, 0, 0, 0, 0) := rfl
theorem gi_53_137 : gF 53 137 = some (2, 139, 9, 0, 0, 0) := rfl
theorem gi_53_139 : gF 53 139 = some (11, 140, 0, 0, 0, 0) := rfl
theorem gi_53_140 : gF 53 140 = some (73, 143, 53, 5, 0, 0) := rfl
theorem gi_53_143 : gF 53 143 = some (8, 146, 6, 0, 1, 0) := rfl
theorem gi_53_146 : gF 53 146 = some (37, 21, 0, 0, 0, 0) := rfl
theorem gi_56_115 : gF 56 115 = some (8, 118, 11, 0, 1, 0) := rfl
theorem gi_56_118 : gF 56 118 = some (37, 62, 0, 0, 0, 0) := rfl
theorem gi_57_29 : gF 57 29 = some (6, 31, 5, 0, 0, 0) := rfl
theorem gi_57_31 : gF 57 31 = some (7, 32, 0, 0, 0, 0) := rfl
theorem gi_57_32 : gF 57 32 = some (51, 35, 6, 1, 0, 0) := rfl
theorem gi_57_35 : gF 57 35 = some (33, 36, 0, 0, 0, 0) := rfl
theorem gi_57_36 : gF 57 36 = some (41, 39, 0, 50, 0, 0) := rfl
theorem gi_57_39 : gF 57 39 = some (7, 40, 0, 0, 0, 0) := rfl
theorem gi_57_40 : gF 57 40 = some (6, 42, 5, 0, 0, 0) := rfl
theorem gi_57_42 : gF 57 42 = some (54, 45, 6, 1, 0, 0) := rfl
theorem gi_57_45 : gF 57 45 = some (7, 46, 0, 0, 0, 0) := rfl
theorem gi_57_47 : gF 57 47 = some (53, 50, 6, 2, 0, 0) := rfl
theorem gi_57_50 : gF 57 50 = some (81, 51, 0, 0, 0, 0) := rfl
theorem gi_58_63 : gF 58 63 = some (8, 66, 4, 0, 1, 0) := rfl
theorem gi_58_66 : gF 58 66 = some (37, 21, 0, 0, 0, 0) := rfl
theorem gi_58_69 : gF 58 69 = some (2, 70, 2, 0, 0, 0) := rfl
theorem gi_58_70 : gF 58 70 = some (79, 71, 0, 0, 0, 0) := rfl
theorem gi_59_18 : gF 59 18 = some (79, 19, 0, 0, 0, 0) := rfl
theorem gi_6_28 : gF 6 28 = some (79, 29, 0, 0, 0, 0) := rfl
theorem gi_61_0 : gF 61 0 = some (2, 1, 0, 0, 0, 0) := rfl
theorem gi_61_1 : gF 61 1 = some (40, 4, 0, 13, 0, 0) := rfl
theorem gi_61_10 : gF 61 10 = some (37, 14, 0, 0, 0, 0) := rfl
theorem gi_61_14 : gF 61 14 = some (79, 15, 0, 0, 0, 0) := rfl
theorem gi_61_4 : gF 61 4 = some (2, 5, 0, 0, 0, 0) := rfl
theorem gi_61_6 : gF 61 6 = some (48, 9, 0, 13, 0, 0) := rfl
theorem gi_62_0 : gF 62 0 = some (7, 1, 0, 0, 0, 0) := rfl
theorem gi_62_1 : gF 62 1 = some (50, 4, 7, 0, 0, 0) := rfl
theorem gi_62_12 : gF 62 12 = some (79, 13, 0, 0, 0, 0) := rfl
theorem gi_62_4 : gF 62 4 = some (39, 7, 0, 11, 0, 0) := rfl
theorem gi_62_8 : gF 62 8 = some (37, 12, 0, 0, 0, 0) := rfl
theorem gi_63_0 : gF 63 0 = some (7, 1, 0, 0, 0, 0) := rfl
theorem gi_63_1 : gF 63 1 = some (50, 4, 7, 0, 0, 0) := rfl
theorem gi_63_13 : gF 63 13 = some (79, 14, 0, 0, 0, 0) := rfl
theorem gi_63_5 : gF 63 5 = some (45, 8, 0, 12, 0, 0) := rfl
theorem gi_64_0 : gF 64 0 = some (7, 1, 0, 0, 0, 0) := rfl
theorem gi_64_1 : gF 64 1 = some (50, 4, 7, 0, 0, 0) := rfl
theorem gi_64_12 : gF 64 12 = some (39, 15, 0, 19, 0, 0) := rfl
theorem gi_64_16 : gF 64 16 = some (37, 20, 0, 0, 0, 0) := rfl
theorem gi_64_20 : gF 64 20 = some (79, 21, 0, 0, 0, 0) := rfl
theorem gi_64_5 : gF 64 5 = some (45, 8, 0, 19, 0, 0) := rfl
theorem gi_64_8 : gF 64 8 = some (7, 9, 0, 0, 0, 0) := rfl
theorem gi_64_9 : gF 64 9 = some (50, 12, 7, 2, 0, 0) := rfl
theorem gi_65_0 : gF 65 0 = some (7, 1, 0, 0, 0, 0) := rfl
theorem gi_65_1 : gF 65 1 = some (50, 4, 7, 0, 0, 0) := rfl
theorem gi_65_13 : gF 65 13 = some (45, 16, 0, 31, 0, 0) := rfl
theorem gi_65_32 : gF 65 32 = some (79, 33, 0, 0, 0, 0) := rfl
theorem gi_65_5 : gF 65 5 = some (45, 8, 0, 31, 0, 0) := rfl
theorem gi_65_8 : gF 65 8 = some (7, 9, 1, 0, 0, 0) := rfl
theorem gi_65_9 : gF 65 9 = some (50, 12, 7, 0, 0, 0) := rfl
theorem gi_66_0 : gF 66 0 = some (7, 1, 0, 0, 0, 0) := rfl
theorem gi_66_10 : gF 66 10 = some (81, 11, 0, 0, 0, 0) := rfl
theorem gi_66_2 : gF 66 2 = some (53, 5, 7, 0, 0, 0) := rfl
theorem gi_66_5 : gF 66 5 = some (7, 6, 0, 0, 0, 0) := rfl
theorem gi_66_7 : gF 66 7 = some (53, 10, 7, 3, 0, 0) := rfl
theorem gi_67_0 : gF 67 0 = some (7, 1, 0, 0, 0, 0) := rfl
theorem gi_67_10 : gF 67 10 = some (7, 11, 0, 0, 0, 0) := rfl
theorem gi_67_12 : gF 67 12 = some (53, 15, 7, 3, 0, 0) := rfl
theorem gi_67_15 : gF 67 15 = some (81, 16, 0, 0, 0, 0) := rfl
theorem gi_67_2 : gF 67 2 = some (53, 5, 7, 0, 0, 0) := rfl
theorem gi_67_5 : gF 67 5 = some (7, 6, 0, 0, 0, 0) := rfl
theorem gi_67_6 : gF 67 6 = some (2, 7, 1, 0, 0, 0) := rfl
theorem gi_67_7 : gF 67 7 = some (53, 10, 7, 1, 0, 0) := rfl
theorem gi_68_0 : gF 68 0 = some (7, 1, 0, 0, 0, 0) := rfl
theorem gi_68_10 : gF 68 10 = some (7, 11, 0, 0, 0, 0) := rfl
theorem gi_68_11 : gF 68 11 = some (2, 12, 2, 0, 0, 0) := rfl
theorem gi_68_12 : gF 68 12 = some (53, 15, 7, 3, 0, 0) := rfl
theorem gi_68_16 : gF 68 16 = some (3, 17, 3, 0, 0, 0) := rfl
theorem gi_68_2 : gF 68 2 = some (53, 5, 7, 0, 0, 0) := rfl
theorem gi_68_36 : gF 68 36 = some (81, 37, 0, 0, 0, 0) := rfl
theorem gi_68_5 : gF 68 5 = some (7, 6, 0, 0, 0, 0) := rfl
theorem gi_68_6 : gF 68 6 = some (2, 7, 1, 0, 0, 0) := rfl
theorem gi_68_7 : gF 68 7 = some (53, 10, 7, 2, 0, 0) := rfl
theorem gi_69_0 : gF 69 0 = some (7, 1, 0, 0, 0, 0) := rfl
theorem gi_69_1 : gF 69 1 = some (50, 4, 7, 0, 0, 0) := rfl
theorem gi_69_10 : gF 69 10 = some (7, 11, 0, 0, 0, 0) := rfl
theorem gi_69_11 : gF 69 11 = some (73, 14, 64, 0, 0, 0) := rfl
theorem gi_69_14 : gF 69 14 = some (38, 17, 0, 21, 0, 0) := rfl
theorem gi_69_18 : gF 69 18 = some (37, 23, 0, 0, 0, 0) := rfl
theorem gi_69_23 : gF 69 23 = some (79, 24, 0, 0, 0, 0) := rfl
theorem gi_69_4 : gF 69 4 = some (39, 7, 0, 10, 0, 0) := rfl
theorem gi_69_9 : gF 69 9 = some (79, 10, 0, 0, 0, 0) := rfl
theorem gi_7_0 : gF 7 0 = some (7, 1, 0, 0, 0, 0) := rfl
theorem gi_7_10 : gF 7 10 = some (38, 13, 0, 22, 0, 0) := rfl
theorem gi_7_13 : gF 7 13 = some (2, 14, 2, 0, 0, 0) := rfl
theorem gi_7_14 : gF 7 14 = some (40, 17, 0, 22, 0, 0) := rfl
theorem gi_7_17 : gF 7 17 = some (2, 18, 2, 0, 0, 0) := rfl
theorem gi_7_19 : gF 7 19 = some (46, 22, 0, 24, 0, 0) := rfl
theorem gi_7_2 : gF 7 2 = some (53, 5, 0, 3, 0, 0) := rfl
theorem gi_7_23 : gF 7 23 = some (79, 24, 0, 0, 0, 0) := rfl
theorem gi_7_24 : gF 7 24 = some (7, 25, 0, 0, 0, 0) := rfl
theorem gi_7_25 : gF 7 25 = some (2, 26, 1, 0, 0, 0) := rfl
theorem gi_7_26 : gF 7 26 = some (53, 29, 0, 4, 0, 0) := rfl
theorem gi_7_29 : gF 7 29 = some (7, 30, 0, 0, 0, 0) := rfl
theorem gi_7_30 : gF 7 30 = some (7, 31, 0, 0, 0, 0) := rfl
theorem gi_7_31 : gF 7 31 = some (52, 34, 0, 0, 0, 0) := rfl
theorem gi_7_34 : gF 7 34 = some (2, 35, 1, 0, 0, 0) := rfl
theorem gi_7_35 : gF 7 35 = some (58, 36, 0, 0, 0, 0) := rfl
theorem gi_7_36 : gF 7 36 = some (53, 39, 0, 5, 0, 0) := rfl
theorem gi_7_39 : gF 7 39 = some (7, 40, 0, 0, 0, 0) := rfl
theorem gi_7_40 : gF 7 40 = some (2, 41, 2, 0, 0, 0) := rfl
theorem gi_7_41 : gF 7 41 = some (2, 42, 3, 0, 0, 0) := rfl
theorem gi_7_43 : gF 7 43 = some (73, 46, 8, 3, 0, 0) := rfl
theorem gi_7_46 : gF 7 46 = some (79, 47, 0, 0, 0, 0) := rfl
theorem gi_7_5 : gF 7 5 = some (7, 6, 0, 0, 0, 0) := rfl
theorem gi_7_6 : gF 7 6 = some (2, 7, 1, 0, 0, 0) := rfl
theorem gi_7_7 : gF 7 7 = some (73, 10, 3, 1, 0, 0) := rfl
theorem gi_70_0 : gF 70 0 = some (7, 1, 0, 0, 0, 0) := rfl
theorem gi_70_1 : gF 70 1 = some (50, 4, 7, 0, 0, 0) := rfl
theorem gi_70_10 : gF 70 10 = some (7, 11, 0, 0, 0, 0) := rfl
theorem gi_70_11 : gF 70 11 = some (50, 14, 7, 0, 0, 0) := rfl
theorem gi_70_15 : gF 70 15 = some (44, 18, 0, 21, 0, 0) := rfl
theorem gi_70_20 : gF 70 20 = some (79, 21, 0, 0, 0, 0) := rfl
theorem gi_70_21 : gF 70 21 = some (2, 22, 1, 0, 0, 0) := rfl
theorem gi_70_22 : gF 70 22 = some (40, 25, 0, 37, 0, 0) := rfl
theorem gi_70_25 : gF 70 25 = some (2, 26, 1, 0, 0, 0) := rfl
theorem gi_70_26 : gF 70 26 = some (7, 27, 0, 0, 0, 0) := rfl
theorem gi_70_27 : gF 70 27 = some (50, 30, 7, 3, 0, 0) := rfl
theorem gi_70_30 : gF 70 30 = some (47, 33, 0, 37, 0, 0) := rfl
theorem gi_70_34 : gF 70 34 = some (37, 39, 0, 0, 0, 0) := rfl
theorem gi_70_39 : gF 70 39 = some (79, 40, 0, 0, 0, 0) := rfl
theorem gi_70_4 : gF 70 4 = some (39, 7, 0, 10, 0, 0) := rfl
theorem gi_70_9 : gF 70 9 = some (79, 10, 0, 0, 0, 0) := rfl
theorem gi_71_0 : gF 71 0 = some (2, 1, 1, 0, 0, 0) := rfl
theorem gi_71_1 : gF 71 1 = some (40, 4, 0, 22, 0, 0) := rfl
theorem gi_71_10 : gF 71 10 = some (50, 13, 7, 3, 0, 0) := rfl
theorem gi_71_13 : gF 71 13 = some (2, 14, 2, 0, 0, 0) := rfl
theorem gi_71_14 : gF 71 14 = some (11, 15, 0, 0, 0, 0) := rfl
theorem gi_71_15 : gF 71 15 = some (48, 18, 0, 22, 0, 0) := rfl
theorem gi_71_19 : gF 71 19 = some (37, 23, 0, 0, 0, 0) := rfl
theorem gi_71_23 : gF 71 23 = some (79, 24, 0, 0, 0, 0) := rfl
theorem gi_71_4 : gF 71 4 = some (2, 5, 2, 0, 0, 0) := rfl
theorem gi_71_5 : gF 71 5 = some (40, 8, 0, 22, 0, 0) := rfl
theorem gi_71_8 : gF 71 8 = some (2, 9, 1, 0, 0, 0) := rfl
theorem gi_71_9 : gF 71 9 = some (7, 10, 0, 0, 0, 0) := rfl
theorem gi_72_0 : gF 72 0 = some (2, 1, 1, 0, 0, 0) := rfl
theorem gi_72_1 : gF 72 1 = some (40, 4, 0, 21, 0, 0) := rfl
theorem gi_72_12 : gF 72 12 = some (7, 13, 0, 0, 0, 0) := rfl
theorem gi_72_13 : gF 72 13 = some (52, 16, 7, 4, 0, 0) := rfl
theorem gi_72_16 : gF 72 16 = some (2, 17, 1, 0, 0, 0) := rfl
theorem gi_72_17 : gF 72 17 = some (59, 18, 0, 0, 0, 0) := rfl
theorem gi_72_18 : gF 72 18 = some (37, 22, 0, 0, 0, 0) := rfl
theorem gi_72_22 : gF 72 22 = some (80, 23, 0, 0, 0, 0) := rfl
theorem gi_72_4 : gF 72 4 = some (2, 5, 1, 0, 0, 0) := rfl
theorem gi_72_5 : gF 72 5 = some (7, 6, 0, 0, 0, 0) := rfl
theorem gi_72_6 : gF 72 6 = some (50, 9, 7, 3, 0, 0) := rfl
theorem gi_72_9 : gF 72 9 = some (47, 12, 0, 21, 0, 0) := rfl
theorem gi_73_0 : gF 73 0 = some (2, 1, 1, 0, 0, 0) := rfl
theorem gi_73_1 : gF 73 1 = some (40, 4, 0, 23, 0, 0) := rfl
theorem gi_73_12 : gF 73 12 = some (7, 13, 0, 0, 0, 0) := rfl
theorem gi_73_13 : gF 73 13 = some (52, 16, 7, 4, 0, 0) := rfl
theorem gi_73_16 : gF 73 16 = some (2, 17, 1, 0, 0, 0) := rfl
theorem gi_73_17 : gF 73 17 = some (7, 18, 0, 0, 0, 0) := rfl
theorem gi_73_18 : gF 73 18 = some (6, 19, 2, 0, 0, 0) := rfl
theorem gi_73_19 : gF 73 19 = some (73, 22, 74, 1, 0, 0) := rfl
theorem gi_73_22 : gF 73 22 = some (65, 23, 0, 0, 0, 0) := rfl
theorem gi_73_23 : gF 73 23 = some (81, 24, 0, 0, 0, 0) := rfl
theorem gi_73_4 : gF 73 4 = some (2, 5, 1, 0, 0, 0) := rfl
theorem gi_73_5 : gF 73 5 = some (7, 6, 0, 0, 0, 0) := rfl
theorem gi_73_6 : gF 73 6 = some (50, 9, 7, 3, 0, 0) := rfl
theorem gi_73_9 : gF 73 9 = some (47, 12, 0, 23, 0, 0) := rfl
theorem gi_74_0 : gF 74 0 = some (7, 1, 0, 0, 0, 0) := rfl
theorem gi_74_1 : gF 74 1 = some (50, 4, 7, 2, 0, 0) := rfl
theorem gi_74_4 : gF 74 4 = some (82, 66, 0, 0, 0, 0) := rfl
theorem gi_74_40 : gF 74 40 = some (6, 41, 1, 0, 0, 0) := rfl
theorem gi_74_41 : gF 74 41 = some (30, 42, 0, 0, 0, 0) := rfl
theorem gi_74_42 : gF 74 42 = some (31, 43, 0, 0, 0, 0) := rfl
theorem gi_74_43 : gF 74 43 = some (29, 44, 0, 0, 0, 0) := rfl
theorem gi_74_44 : gF 74 44 = some (80, 45, 0, 0, 0, 0) := rfl
theorem gi_74_45 : gF 74 45 = some (6, 46, 1, 0, 0, 0) := rfl
theorem gi_74_46 : gF 74 46 = some (30, 47, 0, 0, 0, 0) := rfl
theorem gi_74_47 : gF 74 47 = some (32, 48, 0, 0, 0, 0) := rfl
theorem gi_74_48 : gF 74 48 = some (29, 49, 0, 0, 0, 0) := rfl
theorem gi_74_49 : gF 74 49 = some (80, 50, 0, 0, 0, 0) := rfl
theorem gi_74_50 : gF 74 50 = some (6, 51, 1, 0, 0, 0) := rfl
theorem gi_74_51 : gF 74 51 = some (30, 52, 0, 0, 0, 0) := rfl
theorem gi_74_52 : gF 74 52 = some (29, 53, 0, 0, 0, 0) := rfl
theorem gi_74_53 : gF 74 53 = some (80, 54, 0, 0, 0, 0) := rfl
theorem gi_74_54 : gF 74 54 = some (6, 55, 1, 0, 0, 0) := rfl
theorem gi_74_55 : gF 74 55 = some (1, 56, 0, 0, 0, 0) := rfl
theorem gi_74_56 : gF 74 56 = some (33, 57, 0, 0, 0, 0) := rfl
theorem gi_74_57 : gF 74 57 = some (38, 60, 0, 64, 0, 0) := rfl
theorem gi_74_60 : gF 74 60 = some (1, 61, 0, 0, 0, 1) := rfl
theorem gi_74_61 : gF 74 61 = some (37, 65, 0, 0, 0, 0) := rfl
theorem gi_74_64 : gF 74 64 = some (1, 65, 0, 0, 0, 0) := rfl
theorem gi_74_65 : gF 74 65 = some (80, 66, 0, 0, 0, 0) := rfl
theorem gi_74_66 : gF 74 66 = some (6, 67, 1, 0, 0, 0) := rfl
theorem gi_74_67 : gF 74 67 = some (80, 68, 0, 0, 0, 0) := rfl
theorem gi_75_1 : gF 75 1 = some (3, 2, 3, 0, 0, 0) := rfl
theorem gi_75_29 : gF 75 29 = some (8, 32, 4, 0, 1, 0) := rfl
theorem gi_75_3 : gF 75 3 = some (3, 5, 4, 0, 0, 0) := rfl
theorem gi_75_32 : gF 75 32 = some (37, 5, 0, 0, 0, 0) := rfl
theorem gi_75_35 : gF 75 35 = some (2, 36, 3, 0, 0, 0) := rfl
theorem gi_75_36 : gF 75 36 = some (79, 37, 0, 0, 0, 0) := rfl
theorem gi_77_0 : gF 77 0 = some (7, 1, 0, 0, 0, 0) := rfl
theorem gi_77_1 : gF 77 1 = some (2, 2, 1, 0, 0, 0) := rfl
theorem gi_77_2 : gF 77 2 = some (53, 5, 8, 12, 0, 0) := rfl
theorem gi_77_5 : gF 77 5 = some (81, 6, 0, 0, 0, 0) := rfl
theorem gi_78_0 : gF 78 0 = some (7, 1, 1, 0, 0, 0) := rfl
theorem gi_78_1 : gF 78 1 = some (73, 4, 69, 0, 0, 0) := rfl
theorem gi_78_10 : gF 78 10 = some (79, 11, 0, 0, 0, 0) := rfl
theorem gi_78_20 : gF 78 20 = some (2, 22, 4, 0, 0, 0) := rfl
theorem gi_78_23 : gF 78 23 = some (10, 24, 0, 0, 0, 0) := rfl
theorem gi_78_24 : gF 78 24 = some (7, 25, 1, 0, 0, 0) := rfl
theorem gi_78_25 : gF 78 25 = some (50, 28, 7, 3, 0, 0) := rfl
theorem gi_78_28 : gF 78 28 = some (47, 31, 0, 62, 0, 0) := rfl
theorem gi_78_31 : gF 78 31 = some (2, 32, 3, 0, 0, 0) := rfl
theorem gi_78_32 : gF 78 32 = some (38, 35, 0, 62, 0, 0) := rfl
theorem gi_78_4 : gF 78 4 = some (3, 5, 2, 0, 0, 0) := rfl
theorem gi_78_5 : gF 78 5 = some (2, 6, 2, 0, 0, 0) := rfl
theorem gi_78_55 : gF 78 55 = some (3, 56, 3, 0, 0, 0) := rfl
theorem gi_78_56 : gF 78 56 = some (8, 59, 4, 0, 2, 0) := rfl
theorem gi_78_59 : gF 78 59 = some (37, 20, 0, 0, 0, 0) := rfl
theorem gi_78_6 : gF 78 6 = some (41, 9, 0, 11, 0, 0) := rfl
theorem gi_78_63 : gF 78 63 = some (79, 64, 0, 0, 0, 0) := rfl
theorem gi_78_9 : gF 78 9 = some (2, 10, 2, 0, 0, 0) := rfl
theorem gi_79_21 : gF 79 21 = some (38, 24, 0, 35, 0, 0) := rfl
theorem gi_79_36 : gF 79 36 = some (64, 37, 0, 0, 0, 0) := rfl
theorem gi_79_37 : gF 79 37 = some (7, 38, 0, 0, 0, 0) := rfl
theorem gi_79_38 : gF 79 38 = some (52, 41, 8, 2, 0, 0) := rfl
theorem gi_79_41 : gF 79 41 = some (2, 42, 1, 0, 0, 0) := rfl
theorem gi_79_43 : gF 79 43 = some (64, 44, 0, 0, 0, 0) := rfl
theorem gi_79_44 : gF 79 44 = some (8, 47, 1, 0, 1, 0) := rfl
theorem gi_79_47 : gF 79 47 = some (37, 2, 0, 0, 0, 0) := rfl
theorem gi_79_84 : gF 79 84 = some (53, 87, 8, 13, 0, 0) := rfl
theorem gi_79_87 : gF 79 87 = some (81, 88, 0, 0, 0, 0) := rfl
theorem gi_8_0 : gF 8 0 = some (7, 1, 0, 0, 0, 0) := rfl
theorem gi_8_1 : gF 8 1 = some (7, 2, 0, 0, 0, 0) := rfl
theorem gi_8_11 : gF 8 11 = some (79, 12, 0, 0, 0, 0) := rfl
theorem gi_8_2 : gF 8 2 = some (50, 5, 0, 5, 0, 0) := rfl
theorem gi_8_5 : gF 8 5 = some (2, 6, 1, 0, 0, 0) := rfl
theorem gi_8_6 : gF 8 6 = some (2, 7, 2, 0, 0, 0) := rfl
theorem gi_8_7 : gF 8 7 = some (2, 8, 3, 0, 0, 0) := rfl
theorem gi_8_8 : gF 8 8 = some (73, 11, 9, 4, 0, 0) := rfl
theorem gi_80_15 : gF 80 15 = some (38, 18, 0, 27, 0, 0) := rfl
theorem gi_80_221 : gF 80 221 = some (8, 224, 4, 0, 1, 0) := rfl
theorem gi_80_224 : gF 80 224 = some (37, 116, 0, 0, 0, 0) := rfl
theorem gi_80_28 : gF 80 28 = some (79, 29, 0, 0, 0, 0) := rfl
theorem gi_80_8 : gF 80 8 = some (38, 11, 0, 27, 0, 0) := rfl
theorem gi_81_32 : gF 81 32 = some (8, 35, 3, 0, 1, 0) := rfl
theorem gi_81_35 : gF 81 35 = some (37, 7, 0, 0, 0, 0) := rfl
theorem gi_84_64 : gF 84 64 = some (3, 66, 5, 0, 0, 0) := rfl
theorem gi_84_66 : gF 84 66 = some (2, 67, 2, 0, 0, 0) := rfl
theorem gi_84_67 : gF 84 67 = some (2, 69, 5, 0, 0, 0) := rfl
theorem gi_84_69 : gF 84 69 = some (11, 70, 0, 0, 0, 0) := rfl
theorem gi_84_70 : gF 84 70 = some (2, 71, 1, 0, 0, 0) := rfl
theorem gi_84_71 : gF 84 71 = some (47, 74, 0, 76, 0, 0) := rfl
theorem gi_84_74 : gF 84 74 = some (2, 75, 3, 0, 0, 0) := rfl
theorem gi_84_75 : gF 84 75 = some (79, 76, 0, 0, 0, 0) := rfl
theorem gi_84_76 : gF 84 76 = some (2, 78, 5, 0, 0, 0) := rfl
theorem gi_84_78 : gF 84 78 = some (3, 79, 2, 0, 0, 0) := rfl
theorem gi_84_79 : gF 84 79 = some (8, 82, 3, 0, 1, 0) := rfl
theorem gi_84_82 : gF 84 82 = some (37, 12, 0, 0, 0, 0) := rfl
theorem gi_86_0 : gF 86 0 = some (2, 1, 0, 0, 0, 0) := rfl
theorem gi_86_1 : gF 86 1 = some (40, 4, 0, 32, 0, 0) := rfl
theorem gi_86_10 : gF 86 10 = some (2, 11, 1, 0, 0, 0) := rfl
theorem gi_86_11 : gF 86 11 = some (57, 14, 2, 0, 0, 0) := rfl
theorem gi_86_14 : gF 86 14 = some (2, 15, 0, 0, 0, 0) := rfl
theorem gi_86_15 : gF 86 15 = some (58, 16, 0, 0, 0, 0) := rfl
theorem gi_86_16 : gF 86 16 = some (46, 19, 0, 32, 0, 0) := rfl
theorem gi_86_19 : gF 86 19 = some (2, 20, 1, 0, 0, 0) := rfl
theorem gi_86_20 : gF 86 20 = some (57, 23, 3, 0, 0, 0) := rfl
theorem gi_86_23 : gF 86 23 = some (2, 24, 0, 0, 0, 0) := rfl
theorem gi_86_24 : gF 86 24 = some (58, 25, 0, 0, 0, 0) := rfl
theorem gi_86_25 : gF 86 25 = some (48, 28, 0, 32, 0, 0) := rfl
theorem gi_86_29 : gF 86 29 = some (37, 33, 0, 0, 0, 0) := rfl
theorem gi_86_33 : gF 86 33 = some (79, 34, 0, 0, 0, 0) := rfl
theorem gi_86_4 : gF 86 4 = some (2, 5, 0, 0, 0, 0) := rfl
theorem gi_86_7 : gF 86 7 = some (47, 10, 0, 32, 0, 0) := rfl
theorem gi_87_0 : gF 87 0 = some (2, 1, 1, 0, 0, 0) := rfl
theorem gi_87_1 : gF 87 1 = some (40, 4, 0, 16, 0, 0) := rfl
theorem gi_87_13 : gF 87 13 = some (37, 17, 0, 0, 0, 0) := rfl
theorem gi_87_17 : gF 87 17 = some (79, 18, 0, 0, 0, 0) := rfl
theorem gi_87_4 : gF 87 4 = some (2, 5, 1, 0, 0, 0) := rfl
theorem gi_87_5 : gF 87 5 = some (7, 6, 0, 0, 0, 0) := rfl
theorem gi_87_6 : gF 87 6 = some (50, 9, 9, 2, 0, 0) := rfl
theorem gi_87_9 : gF 87 9 = some (47, 12, 0, 16, 0, 0) := rfl
theorem gi_88_0 : gF 88 0 = some (7, 1, 0, 0, 0, 0) := rfl
theorem gi_88_1 : gF 88 1 = some (2, 2, 1, 0, 0, 0) := rfl
theorem gi_88_10 : gF 88 10 = some (37, 14, 0, 0, 0, 0) := rfl
theorem gi_88_14 : gF 88 14 = some (79, 15, 0, 0, 0, 0) := rfl
theorem gi_88_2 : gF 88 2 = some (2, 3, 2, 0, 0, 0) := rfl
theorem gi_88_3 : gF 88 3 = some (73, 6, 89, 2, 0, 0) := rfl
theorem gi_88_6 : gF 88 6 = some (40, 9, 0, 13, 0, 0) := rfl
theorem gi_89_0 : gF 89 0 = some (2, 1, 2, 0, 0, 0) := rfl
theorem gi_89_1 : gF 89 1 = some (40, 4, 0, 10, 0, 0) := rfl
theorem gi_89_11 : gF 89 11 = some (79, 12, 0, 0, 0, 0) := rfl
theorem gi_89_12 : gF 89 12 = some (2, 13, 2, 0, 0, 0) := rfl
theorem gi_89_14 : gF 89 14 = some (47, 17, 0, 35, 0, 0) := rfl
theorem gi_89_17 : gF 89 17 = some (7, 18, 0, 0, 0, 0) := rfl
theorem gi_89_18 : gF 89 18 = some (2, 19, 1, 0, 0, 0) := rfl
theorem gi_89_19 : gF 89 19 = some (73, 22, 87, 1, 0, 0) := rfl
theorem gi_89_22 : gF 89 22 = some (38, 25, 0, 33, 0, 0) := rfl
theorem gi_89_25 : gF 89 25 = some (2, 26, 1, 0, 0, 0) := rfl
theorem gi_89_27 : gF 89 27 = some (12, 28, 0, 0, 0, 0) := rfl
theorem gi_89_28 : gF 89 28 = some (2, 29, 2, 0, 0, 0) := rfl
theorem gi_89_29 : gF 89 29 = some (10, 30, 0, 0, 0, 0) := rfl
theorem gi_89_30 : gF 89 30 = some (37, 34, 0, 0, 0, 0) := rfl
theorem gi_89_34 : gF 89 34 = some (79, 35, 0, 0, 0, 0) := rfl
theorem gi_89_35 : gF 89 35 = some (2, 36, 1, 0, 0, 0) := rfl
theorem gi_89_36 : gF 89 36 = some (39, 39, 0, 46, 0, 0) := rfl
theorem gi_89_4 : gF 89 4 = some (2, 5, 2, 0, 0, 0) := rfl
theorem gi_89_41 : gF 89 41 = some (2, 42, 2, 0, 0, 0) := rfl
theorem gi_89_42 : gF 89 42 = some (10, 43, 0, 0, 0, 0) := rfl
theorem gi_89_43 : gF 89 43 = some (37, 47, 0, 0, 0, 0) := rfl
theorem gi_89_47 : gF 89 47 = some (79, 48, 0, 0, 0, 0) := rfl
theorem gi_89_7 : gF 89 7 = some (46, 10, 0, 12, 0, 0) := rfl
theorem gi_9_0 : gF 9 0 = some (2, 1, 1, 0, 0, 0) := rfl
theorem gi_9_1 : gF 9 1 = some (3, 3, 5, 0, 0, 0) := rfl
theorem gi_9_10 : gF 9 10 = some (47, 13, 0, 48, 0, 0) := rfl
theorem gi_9_100 : gF 9 100 = some (7, 101, 0, 0, 0, 0) := rfl
theorem gi_9_101 : gF 9 101 = some (2, 103, 6, 0, 0, 0) := rfl
theorem gi_9_103 : gF 9 103 = some (57, 106, 5, 0, 0, 0) := rfl
theorem gi_9_106 : gF 9 106 = some (2, 108, 5, 0, 0, 0) := rfl
theorem gi_9_108 : gF 9 108 = some (58, 109, 0, 0, 0, 0) := rfl
theorem gi_9_109 : gF 9 109 = some (2, 110, 3, 0, 0, 0) := rfl
theorem gi_9_110 : gF 9 110 = some (2, 112, 4, 0, 0, 0) := rfl
theorem gi_9_113 : gF 9 113 = some (10, 114, 0, 0, 0, 0) := rfl
theorem gi_9_114 : gF 9 114 = some (73, 117, 12, 4, 0, 0) := rfl
theorem gi_9_117 : gF 9 117 = some (79, 118, 0, 0, 0, 0) := rfl
theorem gi_9_13 : gF 9 13 = some (2, 15, 5, 0, 0, 0) := rfl
theorem gi_9_15 : gF 9 15 = some (74, 18, 1, 1, 0, 0) := rfl
theorem gi_9_18 : gF 9 18 = some (38, 21, 0, 48, 0, 0) := rfl
theorem gi_9_21 : gF 9 21 = some (57, 24, 4, 0, 0, 0) := rfl
theorem gi_9_24 : gF 9 24 = some (2, 26, 5, 0, 0, 0) := rfl
theorem gi_9_27 : gF 9 27 = some (12, 28, 0, 0, 0, 0) := rfl
theorem gi_9_28 : gF 9 28 = some (2, 29, 2, 0, 0, 0) := rfl
theorem gi_9_29 : gF 9 29 = some (10, 30, 0, 0, 0, 0) := rfl
theorem gi_9_30 : gF 9 30 = some (58, 31, 0, 0, 0, 0) := rfl
theorem gi_9_31 : gF 9 31 = some (39, 34, 0, 48, 0, 0) := rfl
theorem gi_9_34 : gF 9 34 = some (57, 37, 5, 0, 0, 0) := rfl
theorem gi_9_37 : gF 9 37 = some (2, 39, 5, 0, 0, 0) := rfl
theorem gi_9_39 : gF 9 39 = some (58, 40, 0, 0, 0, 0) := rfl
theorem gi_9_4 : gF 9 4 = some (3, 6, 6, 0, 0, 0) := rfl
theorem gi_9_40 : gF 9 40 = some (3, 42, 5, 0, 0, 0) := rfl
theorem gi_9_42 : gF 9 42 = some (8, 45, 6, 0, 1, 0) := rfl
theorem gi_9_45 : gF 9 45 = some (37, 6, 0, 0, 0, 0) := rfl
theorem gi_9_48 : gF 9 48 = some (2, 50, 5, 0, 0, 0) := rfl
theorem gi_9_50 : gF 9 50 = some (74, 53, 1, 1, 0, 0) := rfl
theorem gi_9_53 : gF 9 53 = some (38, 56, 0, 63, 0, 0) := rfl
theorem gi_9_56 : gF 9 56 = some (2, 58, 4, 0, 0, 0) := rfl
theorem gi_9_6 : gF 9 6 = some (2, 8, 6, 0, 0, 0) := rfl
theorem gi_9_60 : gF 9 60 = some (46, 63, 0, 65, 0, 0) := rfl
theorem gi_9_65 : gF 9 65 = some (57, 68, 4, 0, 0, 0) := rfl
theorem gi_9_68 : gF 9 68 = some (2, 70, 5, 0, 0, 0) := rfl
theorem gi_9_71 : gF 9 71 = some (12, 72, 0, 0, 0, 0) := rfl
theorem gi_9_72 : gF 9 72 = some (2, 73, 2, 0, 0, 0) := rfl
theorem gi_9_73 : gF 9 73 = some (10, 74, 0, 0, 0, 0) := rfl
theorem gi_9_74 : gF 9 74 = some (58, 75, 0, 0, 0, 0) := rfl
theorem gi_9_75 : gF 9 75 = some (3, 77, 6, 0, 0, 0) := rfl
theorem gi_9_77 : gF 9 77 = some (7, 78, 0, 0, 0, 0) := rfl
theorem gi_9_78 : gF 9 78 = some (2, 80, 6, 0, 0, 0) := rfl
theorem gi_9_80 : gF 9 80 = some (73, 83, 10, 1, 0, 0) := rfl
theorem gi_9_83 : gF 9 83 = some (2, 85, 5, 0, 0, 0) := rfl
theorem gi_9_85 : gF 9 85 = some (39, 88, 0, 100, 0, 0) := rfl
theorem gi_9_88 : gF 9 88 = some (7, 89, 0, 0, 0, 0) := rfl
theorem gi_9_89 : gF 9 89 = some (2, 91, 6, 0, 0, 0) := rfl
theorem gi_9_91 : gF 9 91 = some (2, 92, 3, 0, 0, 0) := rfl
theorem gi_9_92 : gF 9 92 = some (2, 94, 4, 0, 0, 0) := rfl
theorem gi_9_95 : gF 9 95 = some (10, 96, 0, 0, 0, 0) := rfl
theorem gi_9_96 : gF 9 96 = some (73, 99, 11, 3, 0, 0) := rfl
theorem gi_9_99 : gF 9 99 = some (79, 100, 0, 0, 0, 0) := rfl
theorem gi_90_12 : gF 90 12 = some (37, 21, 0, 0, 0, 0) := rfl
theorem gi_90_15 : gF 90 15 = some (7, 16, 0, 0, 0, 0) := rfl
theorem gi_90_16 : gF 90 16 = some (52, 19, 9, 1, 0, 0) := rfl
theorem gi_90_19 : gF 90 19 = some (2, 20, 3, 0, 0, 0) := rfl
theorem gi_90_20 : gF 90 20 = some (58, 21, 0, 0, 0, 0) := rfl
theorem gi_90_21 : gF 90 21 = some (79, 22, 0, 0, 0, 0) := rfl
theorem gi_90_6 : gF 90 6 = some (3, 7, 3, 0, 0, 0) := rfl
theorem gi_90_7 : gF 90 7 = some (2, 8, 3, 0, 0, 0) := rfl
theorem gi_90_8 : gF 90 8 = some (41, 11, 0, 15, 0, 0) := rfl
theorem gi_91_0 : gF 91 0 = some (7, 1, 0, 0, 0, 0) := rfl
theorem gi_91_1 : gF 91 1 = some (2, 2, 1, 0, 0, 0) := rfl
theorem gi_91_10 : gF 91 10 = some (40, 13, 0, 21, 0, 0) := rfl
theorem gi_91_13 : gF 91 13 = some (7, 14, 0, 0, 0, 0) := rfl
theorem gi_91_14 : gF 91 14 = some (52, 17, 9, 1, 0, 0) := rfl
theorem gi_91_17 : gF 91 17 = some (2, 19, 4, 0, 0, 0) := rfl
theorem gi_91_19 : gF 91 19 = some (2, 20, 3, 0, 0, 0) := rfl
theorem gi_91_2 : gF 91 2 = some (2, 3, 2, 0, 0, 0) := rfl
theorem gi_91_20 : gF 91 20 = some (64, 21, 0, 0, 0, 0) := rfl
theorem gi_91_21 : gF 91 21 = some (81, 22, 0, 0, 0, 0) := rfl
theorem gi_91_3 : gF 91 3 = some (73, 6, 89, 2, 0, 0) := rfl
theorem gi_91_6 : gF 91 6 = some (3, 8, 4, 0, 0, 0) := rfl
theorem gi_91_8 : gF 91 8 = some (2, 10, 4, 0, 0, 0) := rfl
theorem gi_92_0 : gF 92 0 = some (7, 1, 0, 0, 0, 0) := rfl
theorem gi_92_1 : gF 92 1 = some (50, 4, 9, 2, 0, 0) := rfl
theorem gi_92_12 : gF 92 12 = some (10, 13, 0, 0, 0, 0) := rfl
theorem gi_92_13 : gF 92 13 = some (53, 16, 9, 2, 0, 0) := rfl
theorem gi_92_16 : gF 92 16 = some (7, 17, 0, 0, 0, 0) := rfl
theorem gi_92_17 : gF 92 17 = some (2, 19, 4, 0, 0, 0) := rfl
theorem gi_92_20 : gF 92 20 = some (2, 21, 1, 0, 0, 0) := rfl
theorem gi_92_21 : gF 92 21 = some (73, 24, 91, 3, 0, 0) := rfl
theorem gi_92_24 : gF 92 24 = some (7, 25, 0, 0, 0, 0) := rfl
theorem gi_92_25 : gF 92 25 = some (2, 27, 4, 0, 0, 0) := rfl
theorem gi_92_28 : gF 92 28 = some (2, 29, 2, 0, 0, 0) := rfl
theorem gi_92_29 : gF 92 29 = some (73, 32, 91, 3, 0, 0) := rfl
theorem gi_92_32 : gF 92 32 = some (7, 33, 0, 0, 0, 0) := rfl
theorem gi_92_33 : gF 92 33 = some (2, 35, 4, 0, 0, 0) := rfl
theorem gi_92_36 : gF 92 36 = some (2, 37, 3, 0, 0, 0) := rfl
theorem gi_92_37 : gF 92 37 = some (73, 40, 91, 3, 0, 0) := rfl
theorem gi_92_4 : gF 92 4 = some (3, 6, 4, 0, 0, 0) := rfl
theorem gi_92_40 : gF 92 40 = some (7, 41, 0, 0, 0, 0) := rfl
theorem gi_92_41 : gF 92 41 = some (2, 43, 4, 0, 0, 0) := rfl
theorem gi_92_44 : gF 92 44 = some (57, 47, 1, 0, 0, 0) := rfl
theorem gi_92_48 : gF 92 48 = some (58, 49, 0, 0, 0, 0) := rfl
theorem gi_92_49 : gF 92 49 = some (73, 52, 91, 3, 0, 0) := rfl
theorem gi_92_52 : gF 92 52 = some (7, 53, 0, 0, 0, 0) := rfl
theorem gi_92_53 : gF 92 53 = some (2, 55, 4, 0, 0, 0) := rfl
theorem gi_92_56 : gF 92 56 = some (57, 59, 1, 0, 0, 0) := rfl
theorem gi_92_6 : gF 92 6 = some (7, 7, 0, 0, 0, 0) := rfl
theorem gi_92_60 : gF 92 60 = some (58, 61, 0, 0, 0, 0) := rfl
theorem gi_92_61 : gF 92 61 = some (73, 64, 91, 3, 0, 0) := rfl
theorem gi_92_64 : gF 92 64 = some (2, 66, 4, 0, 0, 0) := rfl
theorem gi_92_66 : gF 92 66 = some (79, 67, 0, 0, 0, 0) := rfl
theorem gi_92_7 : gF 92 7 = some (34, 8, 0, 0, 0, 0) := rfl
theorem gi_92_8 : gF 92 8 = some (50, 11, 9, 2, 0, 0) := rfl
theorem gi_96_24 : gF 96 24 = some (79, 25, 0, 0, 0, 0) := rfl
theorem gi_97_24 : gF 97 24 = some (79, 25, 0, 0, 0, 0) := rfl
theorem gp_1_10 : gF 1 10 = some (0, 11, 0, 0, Int32.ofInt 1, 0) := rfl
theorem gp_1_14 : gF 1 14 = some (0, 15, 0, 0, Int32.ofInt 0, 0) := rfl
theorem gp_1_5 : gF 1 5 = some (0, 7, 0, 0, Int32.ofInt 8, 0) := rfl
theorem gp_10_24 : gF 10 24 = some (0, 25, 0, 0, Int32.ofInt 1, 0) := rfl
theorem gp_10_4 : gF 10 4 = some (0, 6, 0, 0, Int32.ofInt 24, 0) := rfl
theorem gp_101_15 : gF 101 15 = some (0, 16, 0, 0, Int32.ofInt (-1), 0) := rfl
theorem gp_101_24 : gF 101 24 = some (0, 26, 0, 0, Int32.ofInt 8, 0) := rfl
theorem gp_101_29 : gF 101 29 = some (0, 31, 0, 0, Int32.ofInt (-3), 0) := rfl
theorem gp_101_37 : gF 101 37 = some (0, 39, 0, 0, Int32.ofInt 100, 0) := rfl
theorem gp_101_41 : gF 101 41 = some (0, 43, 0, 0, Int32.ofInt 100, 0) := rfl
theorem gp_101_7 : gF 101 7 = some (0, 8, 0, 0, Int32.ofInt 2, 0) := rfl
theorem gp_102_13 : gF 102 13 = some (0, 15, 0, 0, Int32.ofInt 8, 0) := rfl
theorem gp_102_18 : gF 102 18 = some (0, 19, 0, 0, Int32.ofInt (-1), 0) := rfl
theorem gp_102_36 : gF 102 36 = some (0, 37, 0, 0, Int32.ofInt 0, 0) := rfl
theorem gp_102_46 : gF 102 46 = some (0, 48, 0, 0, Int32.ofInt (-12), 0) := rfl
theorem gp_102_49 : gF 102 49 = some (0, 50, 0, 0, Int32.ofInt 0, 0) := rfl
theorem gp_102_8 : gF 102 8 = some (0, 9, 0, 0, Int32.ofInt 1, 0) := rfl
theorem gp_103_112 : gF 103 112 = some (0, 113, 0, 0, Int32.ofInt 1, 0) := rfl
theorem gp_103_27 : gF 103 27 = some (0, 29, 0, 0, Int32.ofInt 8, 0) := rfl
theorem gp_103_32 : gF 103 32 = some (0, 33, 0, 0, Int32.ofInt 0, 0) := rfl
theorem gp_103_50 : gF 103 50 = some (0, 51, 0, 0, Int32.ofInt 1, 0) := rfl
theorem gp_103_61 : gF 103 61 = some (0, 62, 0, 0, Int32.ofInt 2, 0) := rfl
theorem gp_103_69 : gF 103 69 = some (0, 70, 0, 0, Int32.ofInt 0, 0) := rfl
theorem gp_103_78 : gF 103 78 = some (0, 79, 0, 0, Int32.ofInt 1, 0) := rfl
theorem gp_103_87 : gF 103 87 = some (0, 88, 0, 0, Int32.ofInt 2, 0) := rfl
theorem gp_103_96 : gF 103 96 = some (0, 97, 0, 0, Int32.ofInt 0, 0) := rfl
theorem gp_104_20 : gF 104 20 = some (0, 21, 0, 0, Int32.ofInt (-1), 0) := rfl
theorem gp_105_1 : gF 105 1 = some (0, 3, 0, 0, Int32.ofInt 14, 0) := rfl
theorem gp_105_23 : gF 105 23 = some (0, 24, 0, 0, Int32.ofInt (-1), 0) := rfl
theorem gp_105_26 : gF 105 26 = some (0, 28, 0, 0, Int32.ofInt 14, 0) := rfl
theorem gp_105_7 : gF 105 7 = some (0, 9, 0, 0, Int32.ofInt 15, 0) := rfl
theorem gp_105_77 : gF 105 77 = some (0, 78, 0, 0, Int32.ofInt (-1), 0) := rfl
theorem gp_106_11 : gF 106 11 = some (0, 12, 0, 0, Int32.ofInt (-1), 0) := rfl
theorem gp_106_34 : gF 106 34 = some (0, 36, 0, 0, Int32.ofInt (-3), 0) := rfl
theorem gp_106_5 : gF 106 5 = some (0, 8, 0, 0, Int32.ofInt 255, 0) := rfl
theorem gp_108_16 : gF 108 16 = some (0, 18, 0, 0, Int32.ofInt 1000000, 0) := rfl
theorem gp_108_21 : gF 108 21 = some (0, 22, 0, 0, Int32.ofInt (-1), 0) := rfl
theorem gp_108_29 : gF 108 29 = some (0, 32, 0, 0, Int32.ofInt 1000, 0) := rfl
theorem gp_108_34 : gF 108 34 = some (0, 37, 0, 0, Int32.ofInt 1000, 0) := rfl
theorem gp_109_24 : gF 109 24 = some (0, 25, 0, 0, Int32.ofInt (-1), 0) := rfl
theorem gp_109_61 : gF 109 61 = some (0, 62, 0, 0, Int32.ofInt (-1), 0) := rfl
theorem gp_109_74 : gF 109 74 = some (0, 76, 0, 0, Int32.ofInt (-2), 0) := rfl
theorem gp_109_8 : gF 109 8 = some (0, 10, 0, 0, Int32.ofInt (-3), 0) := rfl
theorem gp_11_52 : gF 11 52 = some (0, 53, 0, 0, Int32.ofInt 1, 0) := rfl
theorem gp_11_63 : gF 11 63 = some (0, 64, 0, 0, Int32.ofInt 2, 0) := rfl
theorem gp_11_64 : gF 11 64 = some (0, 65, 0, 0, Int32.ofInt 1, 0) := rfl
theorem gp_11_72 : gF 11 72 = some (0, 73, 0, 0, Int32.ofInt 0, 0) := rfl
theorem gp_11_78 : gF 11 78 = some (0, 79, 0, 0, Int32.ofInt 2, 0) := rfl
theorem gp_110_14 : gF 110 14 = some (0, 15, 0, 0, Int32.ofInt (-1), 0) := rfl
theorem gp_110_74 : gF 110 74 = some (0, 75, 0, 0, Int32.ofInt 0, 0) := rfl
theorem gp_111_12 : gF 111 12 = some (0, 14, 0, 0, Int32.ofInt 1000000, 0) := rfl
theorem gp_111_17 : gF 111 17 = some (0, 18, 0, 0, Int32.ofInt (-1), 0) := rfl
theorem gp_112_21 : gF 112 21 = some (0, 22, 0, 0, Int32.ofInt (-1), 0) := rfl
theorem gp_112_46 : gF 112 46 = some (0, 48, 0, 0, Int32.ofInt (-2), 0) := rfl
theorem gp_112_50 : gF 112 50 = some (0, 52, 0, 0, Int32.ofInt (-2), 0) := rfl
theorem gp_112_54 : gF 112 54 = some (0, 55, 0, 0, Int32.ofInt 0, 0) := rfl
theorem gp_113_12 : gF 113 12 = some (0, 14, 0, 0, Int32.ofInt 1000000, 0) := rfl
theorem gp_113_17 : gF 113 17 = some (0, 18, 0, 0, Int32.ofInt (-1), 0) := rfl
theorem gp_113_49 : gF 113 49 = some (0, 51, 0, 0, Int32.ofInt (-2), 0) := rfl
theorem gp_114_25 : gF 114 25 = some (0, 26, 0, 0, Int32.ofInt (-1), 0) := rfl
theorem gp_114_29 : gF 114 29 = some (0, 30, 0, 0, Int32.ofInt (-1), 0) := rfl
theorem gp_114_43 : gF 114 43 = some (0, 45, 0, 0, Int32.ofInt (-2), 0) := rfl
theorem gp_114_48 : gF 114 48 = some (0, 50, 0, 0, Int32.ofInt 6, 0) := rfl
theorem gp_114_5 : gF 114 5 = some (0, 6, 0, 0, Int32.ofInt 1, 0) := rfl
theorem gp_114_53 : gF 114 53 = some (0, 55, 0, 0, Int32.ofInt (-5), 0) := rfl
theorem gp_115_118 : gF 115 118 = some (0, 120, 0, 0, Int32.ofInt 100, 0) := rfl
theorem gp_115_12 : gF 115 12 = some (0, 14, 0, 0, Int32.ofInt 1000000, 0) := rfl
theorem gp_115_138 : gF 115 138 = some (0, 139, 0, 0, Int32.ofInt 1, 0) := rfl
theorem gp_115_24 : gF 115 24 = some (0, 25, 0, 0, Int32.ofInt (-1), 0) := rfl
theorem gp_115_49 : gF 115 49 = some (0, 50, 0, 0, Int32.ofInt 0, 0) := rfl
theorem gp_115_52 : gF 115 52 = some (0, 53, 0, 0, Int32.ofInt 0, 0) := rfl
theorem gp_115_55 : gF 115 55 = some (0, 56, 0, 0, Int32.ofInt 0, 0) := rfl
theorem gp_115_82 : gF 115 82 = some (0, 84, 0, 0, Int32.ofInt 100, 0) := rfl
theorem gp_116_12 : gF 116 12 = some (0, 14, 0, 0, Int32.ofInt 99, 0) := rfl
theorem gp_116_17 : gF 116 17 = some (0, 18, 0, 0, Int32.ofInt (-1), 0) := rfl
theorem gp_116_19 : gF 116 19 = some (0, 20, 0, 0, Int32.ofInt 0, 0) := rfl
theorem gp_116_21 : gF 116 21 = some (0, 22, 0, 0, Int32.ofInt 0, 0) := rfl
theorem gp_116_41 : gF 116 41 = some (0, 43, 0, 0, Int32.ofInt 100, 0) := rfl
theorem gp_116_45 : gF 116 45 = some (0, 47, 0, 0, Int32.ofInt 100, 0) := rfl
theorem gp_116_58 : gF 116 58 = some (0, 59, 0, 0, Int32.ofInt 1, 0) := rfl
theorem gp_117_51 : gF 117 51 = some (0, 53, 0, 0, Int32.ofInt (-2), 0) := rfl
theorem gp_117_54 : gF 117 54 = some (0, 56, 0, 0, Int32.ofInt 12, 0) := rfl
theorem gp_117_7 : gF 117 7 = some (0, 8, 0, 0, Int32.ofInt (-1), 0) := rfl
theorem gp_118_17 : gF 118 17 = some (0, 18, 0, 0, Int32.ofInt (-1), 0) := rfl
theorem gp_118_28 : gF 118 28 = some (0, 29, 0, 0, Int32.ofInt 0, 0) := rfl
theorem gp_118_29 : gF 118 29 = some (0, 31, 0, 0, Int32.ofInt 11, 0) := rfl
theorem gp_118_5 : gF 118 5 = some (0, 7, 0, 0, Int32.ofInt 20, 0) := rfl
theorem gp_119_1 : gF 119 1 = some (0, 2, 0, 0, Int32.ofInt 1, 0) := rfl
theorem gp_119_11 : gF 119 11 = some (0, 12, 0, 0, Int32.ofInt (-1), 0) := rfl
theorem gp_119_6 : gF 119 6 = some (0, 8, 0, 0, Int32.ofInt 20, 0) := rfl
theorem gp_12_101 : gF 12 101 = some (0, 102, 0, 0, Int32.ofInt 3, 0) := rfl
theorem gp_12_106 : gF 12 106 = some (0, 107, 0, 0, Int32.ofInt 1, 0) := rfl
theorem gp_12_117 : gF 12 117 = some (0, 118, 0, 0, Int32.ofInt 2, 0) := rfl
theorem gp_12_124 : gF 12 124 = some (0, 125, 0, 0, Int32.ofInt 3, 0) := rfl
theorem gp_12_129 : gF 12 129 = some (0, 130, 0, 0, Int32.ofInt 1, 0) := rfl
theorem gp_12_131 : gF 12 131 = some (0, 132, 0, 0, Int32.ofInt 1, 0) := rfl
theorem gp_12_141 : gF 12 141 = some (0, 142, 0, 0, Int32.ofInt 3, 0) := rfl
theorem gp_12_148 : gF 12 148 = some (0, 149, 0, 0, Int32.ofInt 5, 0) := rfl
theorem gp_12_153 : gF 12 153 = some (0, 154, 0, 0, Int32.ofInt 2, 0) := rfl
theorem gp_12_165 : gF 12 165 = some (0, 166, 0, 0, Int32.ofInt 0, 0) := rfl
theorem gp_12_166 : gF 12 166 = some (0, 167, 0, 0, Int32.ofInt 2, 0) := rfl
theorem gp_12_176 : gF 12 176 = some (0, 177, 0, 0, Int32.ofInt 3, 0) := rfl
theorem gp_12_183 : gF 12 183 = some (0, 184, 0, 0, Int32.ofInt 1, 0) := rfl
theorem gp_12_188 : gF 12 188 = some (0, 189, 0, 0, Int32.ofInt 0, 0) := rfl
theorem gp_12_195 : gF 12 195 = some (0, 196, 0, 0, Int32.ofInt 2, 0) := rfl
theorem gp_12_200 : gF 12 200 = some (0, 201, 0, 0, Int32.ofInt 1, 0) := rfl
theorem gp_12_212 : gF 12 212 = some (0, 213, 0, 0, Int32.ofInt 2, 0) := rfl
theorem gp_12_213 : gF 12 213 = some (0, 214, 0, 0, Int32.ofInt 2, 0) := rfl
theorem gp_12_223 : gF 12 223 = some (0, 224, 0, 0, Int32.ofInt 0, 0) := rfl
theorem gp_12_230 : gF 12 230 = some (0, 231, 0, 0, Int32.ofInt 1, 0) := rfl
theorem gp_12_94 : gF 12 94 = some (0, 95, 0, 0, Int32.ofInt 0, 0) := rfl
theorem gp_120_101 : gF 120 101 = some (0, 102, 0, 0, Int32.ofInt 0, 0) := rfl
theorem gp_120_105 : gF 120 105 = some (0, 106, 0, 0, Int32.ofInt 1, 0) := rfl
theorem gp_120_12 : gF 120 12 = some (0, 13, 0, 0, Int32.ofInt 2, 0) := rfl
theorem gp_120_16 : gF 120 16 = some (0, 17, 0, 0, Int32.ofInt (-1), 0) := rfl
theorem gp_120_71 : gF 120 71 = some (0, 72, 0, 0, Int32.ofInt 2, 0) := rfl
theorem gp_120_91 : gF 120 91 = some (0, 93, 0, 0, Int32.ofInt (-2), 0) := rfl
theorem gp_121_11 : gF 121 11 = some (0, 12, 0, 0, Int32.ofInt (-1), 0) := rfl
theorem gp_121_17 : gF 121 17 = some (0, 18, 0, 0, Int32.ofInt 0, 0) := rfl
theorem gp_121_18 : gF 121 18 = some (0, 20, 0, 0, Int32.ofInt 12, 0) := rfl
theorem gp_121_28 : gF 121 28 = some (0, 29, 0, 0, Int32.ofInt 0, 0) := rfl
theorem gp_121_29 : gF 121 29 = some (0, 31, 0, 0, Int32.ofInt 13, 0) := rfl
theorem gp_121_35 : gF 121 35 = some (0, 36, 0, 0, Int32.ofInt 0, 0) := rfl
theorem gp_121_38 : gF 121 38 = some (0, 39, 0, 0, Int32.ofInt 0, 0) := rfl
theorem gp_121_41 : gF 121 41 = some (0, 42, 0, 0, Int32.ofInt 0, 0) := rfl
theorem gp_121_44 : gF 121 44 = some (0, 45, 0, 0, Int32.ofInt 0, 0) := rfl
theorem gp_121_49 : gF 121 49 = some (0, 52, 0, 0, Int32.ofInt 10000, 0) := rfl
theorem gp_121_5 : gF 121 5 = some (0, 8, 0, 0, Int32.ofInt 9999, 0) := rfl
theorem gp_122_14 : gF 122 14 = some (0, 15, 0, 0, Int32.ofInt (-1), 0) := rfl
theorem gp_122_16 : gF 122 16 = some (0, 18, 0, 0, Int32.ofInt (-2), 0) := rfl
theorem gp_122_19 : gF 122 19 = some (0, 20, 0, 0, Int32.ofInt 0, 0) := rfl
theorem gp_122_22 : gF 122 22 = some (0, 23, 0, 0, Int32.ofInt 0, 0) := rfl
theorem gp_122_42 : gF 122 42 = some (0, 44, 0, 0, Int32.ofInt 100, 0) := rfl
theorem gp_122_46 : gF 122 46 = some (0, 48, 0, 0, Int32.ofInt 100, 0) := rfl
theorem gp_123_13 : gF 123 13 = some (0, 15, 0, 0, Int32.ofInt 30, 0) := rfl
theorem gp_123_26 : gF 123 26 = some (0, 27, 0, 0, Int32.ofInt (-1), 0) := rfl
theorem gp_123_8 : gF 123 8 = some (0, 9, 0, 0, Int32.ofInt 1, 0) := rfl
theorem gp_124_11 : gF 124 11 = some (0, 12, 0, 0, Int32.ofInt (-1), 0) := rfl
theorem gp_124_38 : gF 124 38 = some (0, 41, 0, 0, Int32.ofInt 999, 0) := rfl
theorem gp_124_44 : gF 124 44 = some (0, 46, 0, 0, Int32.ofInt (-5), 0) := rfl
theorem gp_125_28 : gF 125 28 = some (0, 31, 0, 0, Int32.ofInt 999, 0) := rfl
theorem gp_125_34 : gF 125 34 = some (0, 36, 0, 0, Int32.ofInt (-5), 0) := rfl
theorem gp_125_7 : gF 125 7 = some (0, 8, 0, 0, Int32.ofInt (-1), 0) := rfl
theorem gp_126_22 : gF 126 22 = some (0, 23, 0, 0, Int32.ofInt (-1), 0) := rfl
theorem gp_128_103 : gF 128 103 = some (0, 104, 0, 0, Int32.ofInt (-1), 0) := rfl
theorem gp_128_90 : gF 128 90 = some (0, 92, 0, 0, Int32.ofInt (-2), 0) := rfl
theorem gp_129_12 : gF 129 12 = some (0, 13, 0, 0, Int32.ofInt 1, 0) := rfl
theorem gp_130_7 : gF 130 7 = some (0, 9, 0, 0, Int32.ofInt (-5), 0) := rfl
theorem gp_131_20 : gF 131 20 = some (0, 22, 0, 0, Int32.ofInt (-5), 0) := rfl
theorem gp_132_28 : gF 132 28 = some (0, 30, 0, 0, Int32.ofInt (-5), 0) := rfl
theorem gp_133_7 : gF 133 7 = some (0, 8, 0, 0, Int32.ofInt (-1), 0) := rfl
theorem gp_136_23 : gF 136 23 = some (0, 24, 0, 0, Int32.ofInt (-1), 0) := rfl
theorem gp_136_26 : gF 136 26 = some (0, 27, 0, 0, Int32.ofInt (-1), 0) := rfl
theorem gp_136_52 : gF 136 52 = some (0, 53, 0, 0, Int32.ofInt 1, 0) := rfl
theorem gp_136_8 : gF 136 8 = some (0, 9, 0, 0, Int32.ofInt (-1), 0) := rfl
theorem gp_137_15 : gF 137 15 = some (0, 17, 0, 0, Int32.ofInt 60, 0) := rfl
theorem gp_137_20 : gF 137 20 = some (0, 21, 0, 0, Int32.ofInt (-1), 0) := rfl
theorem gp_137_26 : gF 137 26 = some (0, 28, 0, 0, Int32.ofInt (-14), 0) := rfl
theorem gp_137_40 : gF 137 40 = some (0, 41, 0, 0, Int32.ofInt 1, 0) := rfl
theorem gp_138_40 : gF 138 40 = some (0, 41, 0, 0, Int32.ofInt 1, 0) := rfl
theorem gp_138_7 : gF 138 7 = some (0, 8, 0, 0, Int32.ofInt (-1), 0) := rfl
theorem gp_14_4 : gF 14 4 = some (0, 6, 0, 0, Int32.ofInt 40, 0) := rfl
theorem gp_14_59 : gF 14 59 = some (0, 60, 0, 0, Int32.ofInt 1, 0) := rfl
theorem gp_140_14 : gF 140 14 = some (0, 15, 0, 0, Int32.ofInt (-1), 0) := rfl
theorem gp_140_48 : gF 140 48 = some (0, 50, 0, 0, Int32.ofInt (-11), 0) := rfl
theorem gp_140_61 : gF 140 61 = some (0, 63, 0, 0, Int32.ofInt (-12), 0) := rfl
theorem gp_140_92 : gF 140 92 = some (0, 94, 0, 0, Int32.ofInt (-13), 0) := rfl
theorem gp_141_14 : gF 141 14 = some (0, 15, 0, 0, Int32.ofInt (-1), 0) := rfl
theorem gp_141_30 : gF 141 30 = some (0, 32, 0, 0, Int32.ofInt (-11), 0) := rfl
theorem gp_141_40 : gF 141 40 = some (0, 42, 0, 0, Int32.ofInt (-12), 0) := rfl
theorem gp_141_70 : gF 141 70 = some (0, 72, 0, 0, Int32.ofInt (-12), 0) := rfl
theorem gp_142_76 : gF 142 76 = some (0, 77, 0, 0, Int32.ofInt (-1), 0) := rfl
theorem gp_143_10 : gF 143 10 = some (0, 11, 0, 0, Int32.ofInt 1, 0) := rfl
theorem gp_143_14 : gF 143 14 = some (0, 15, 0, 0, Int32.ofInt 0, 0) := rfl
theorem gp_143_5 : gF 143 5 = some (0, 7, 0, 0, Int32.ofInt 6, 0) := rfl
theorem gp_144_11 : gF 144 11 = some (0, 12, 0, 0, Int32.ofInt 1, 0) := rfl
theorem gp_144_15 : gF 144 15 = some (0, 16, 0, 0, Int32.ofInt 0, 0) := rfl
theorem gp_144_5 : gF 144 5 = some (0, 8, 0, 0, Int32.ofInt 10000, 0) := rfl
theorem gp_145_1 : gF 145 1 = some (0, 2, 0, 0, Int32.ofInt 1, 0) := rfl
theorem gp_145_11 : gF 145 11 = some (0, 12, 0, 0, Int32.ofInt 1, 0) := rfl
theorem gp_145_15 : gF 145 15 = some (0, 16, 0, 0, Int32.ofInt 0, 0) := rfl
theorem gp_145_6 : gF 145 6 = some (0, 8, 0, 0, Int32.ofInt 99, 0) := rfl
theorem gp_146_13 : gF 146 13 = some (0, 14, 0, 0, Int32.ofInt 0, 0) := rfl
theorem gp_146_5 : gF 146 5 = some (0, 6, 0, 0, Int32.ofInt 1, 0) := rfl
theorem gp_146_9 : gF 146 9 = some (0, 10, 0, 0, Int32.ofInt 1, 0) := rfl
theorem gp_148_10 : gF 148 10 = some (0, 11, 0, 0, Int32.ofInt 1, 0) := rfl
theorem gp_148_14 : gF 148 14 = some (0, 15, 0, 0, Int32.ofInt 0, 0) := rfl
theorem gp_15_1 : gF 15 1 = some (0, 3, 0, 0, Int32.ofInt 39, 0) := rfl
theorem gp_15_10 : gF 15 10 = some (0, 11, 0, 0, Int32.ofInt 1, 0) := rfl
theorem gp_15_15 : gF 15 15 = some (0, 16, 0, 0, Int32.ofInt 0, 0) := rfl
theorem gp_15_27 : gF 15 27 = some (0, 28, 0, 0, Int32.ofInt 1, 0) := rfl
theorem gp_15_32 : gF 15 32 = some (0, 33, 0, 0, Int32.ofInt 0, 0) := rfl
theorem gp_15_44 : gF 15 44 = some (0, 45, 0, 0, Int32.ofInt 1, 0) := rfl
theorem gp_15_49 : gF 15 49 = some (0, 50, 0, 0, Int32.ofInt 0, 0) := rfl
theorem gp_15_61 : gF 15 61 = some (0, 62, 0, 0, Int32.ofInt 1, 0) := rfl
theorem gp_15_66 : gF 15 66 = some (0, 67, 0, 0, Int32.ofInt 0, 0) := rfl
theorem gp_150_0 : gF 150 0 = some (0, 1, 0, 0, Int32.ofInt 0, 0) := rfl
theorem gp_150_13 : gF 150 13 = some (0, 14, 0, 0, Int32.ofInt 1, 0) := rfl
theorem gp_151_1 : gF 151 1 = some (0, 2, 0, 0, Int32.ofInt 0, 0) := rfl
theorem gp_151_6 : gF 151 6 = some (0, 7, 0, 0, Int32.ofInt 1, 0) := rfl
theorem gp_152_38 : gF 152 38 = some (0, 39, 0, 0, Int32.ofInt 5, 0) := rfl
theorem gp_152_48 : gF 152 48 = some (0, 49, 0, 0, Int32.ofInt 0, 0) := rfl
theorem gp_152_58 : gF 152 58 = some (0, 59, 0, 0, Int32.ofInt 0, 0) := rfl
theorem gp_152_68 : gF 152 68 = some (0, 69, 0, 0, Int32.ofInt 0, 0) := rfl
theorem gp_152_75 : gF 152 75 = some (0, 76, 0, 0, Int32.ofInt 1, 0) := rfl
theorem gp_152_84 : gF 152 84 = some (0, 85, 0, 0, Int32.ofInt 1, 0) := rfl
theorem gp_153_1 : gF 153 1 = some (0, 2, 0, 0, Int32.ofInt 0, 0) := rfl
theorem gp_153_12 : gF 153 12 = some (0, 13, 0, 0, Int32.ofInt 0, 0) := rfl
theorem gp_153_13 : gF 153 13 = some (0, 15, 0, 0, Int32.ofInt 99, 0) := rfl
theorem gp_153_2 : gF 153 2 = some (0, 5, 0, 0, Int32.ofInt 9999, 0) := rfl
theorem gp_153_21 : gF 153 21 = some (0, 22, 0, 0, Int32.ofInt (-1), 0) := rfl
theorem gp_153_27 : gF 153 27 = some (0, 29, 0, 0, Int32.ofInt 8, 0) := rfl
theorem gp_153_32 : gF 153 32 = some (0, 34, 0, 0, Int32.ofInt (-3), 0) := rfl
theorem gp_153_39 : gF 153 39 = some (0, 41, 0, 0, Int32.ofInt 100, 0) := rfl
theorem gp_153_43 : gF 153 43 = some (0, 45, 0, 0, Int32.ofInt 100, 0) := rfl
theorem gp_154_102 : gF 154 102 = some (0, 104, 0, 0, Int32.ofInt 8, 0) := rfl
theorem gp_154_110 : gF 154 110 = some (0, 112, 0, 0, Int32.ofInt 60, 0) := rfl
theorem gp_154_128 : gF 154 128 = some (0, 129, 0, 0, Int32.ofInt 0, 0) := rfl
theorem gp_154_129 : gF 154 129 = some (0, 131, 0, 0, Int32.ofInt 99, 0) := rfl
theorem gp_154_143 : gF 154 143 = some (0, 144, 0, 0, Int32.ofInt 1, 0) := rfl
theorem gp_154_147 : gF 154 147 = some (0, 148, 0, 0, Int32.ofInt 0, 0) := rfl
theorem gp_154_148 : gF 154 148 = some (0, 150, 0, 0, Int32.ofInt 99, 0) := rfl
theorem gp_154_162 : gF 154 162 = some (0, 163, 0, 0, Int32.ofInt 2, 0) := rfl
theorem gp_154_166 : gF 154 166 = some (0, 167, 0, 0, Int32.ofInt 0, 0) := rfl
theorem gp_154_167 : gF 154 167 = some (0, 169, 0, 0, Int32.ofInt 99, 0) := rfl
theorem gp_154_17 : gF 154 17 = some (0, 18, 0, 0, Int32.ofInt (-1), 0) := rfl
theorem gp_154_193 : gF 154 193 = some (0, 194, 0, 0, Int32.ofInt 1, 0) := rfl
theorem gp_154_203 : gF 154 203 = some (0, 204, 0, 0, Int32.ofInt 2, 0) := rfl
theorem gp_154_25 : gF 154 25 = some (0, 26, 0, 0, Int32.ofInt (-1), 0) := rfl
theorem gp_154_35 : gF 154 35 = some (0, 37, 0, 0, Int32.ofInt (-2), 0) := rfl
theorem gp_154_40 : gF 154 40 = some (0, 42, 0, 0, Int32.ofInt (-12), 0) := rfl
theorem gp_154_49 : gF 154 49 = some (0, 50, 0, 0, Int32.ofInt (-1), 0) := rfl
theorem gp_154_53 : gF 154 53 = some (0, 54, 0, 0, Int32.ofInt 0, 0) := rfl
theorem gp_154_55 : gF 154 55 = some (0, 56, 0, 0, Int32.ofInt 0, 0) := rfl
theorem gp_154_66 : gF 154 66 = some (0, 67, 0, 0, Int32.ofInt 3, 0) := rfl
theorem gp_154_8 : gF 154 8 = some (0, 9, 0, 0, Int32.ofInt 1, 0) := rfl
theorem gp_154_9 : gF 154 9 = some (0, 11, 0, 0, Int32.ofInt 8, 0) := rfl
theorem gp_155_76 : gF 155 76 = some (0, 77, 0, 0, Int32.ofInt 5, 0) := rfl
theorem gp_156_91 : gF 156 91 = some (0, 92, 0, 0, Int32.ofInt 5, 0) := rfl
theorem gp_157_116 : gF 157 116 = some (0, 117, 0, 0, Int32.ofInt 1, 0) := rfl
theorem gp_157_167 : gF 157 167 = some (0, 168, 0, 0, Int32.ofInt 1, 0) := rfl
theorem gp_157_18 : gF 157 18 = some (0, 19, 0, 0, Int32.ofInt 0, 0) := rfl
theorem gp_157_26 : gF 157 26 = some (0, 28, 0, 0, Int32.ofInt 40, 0) := rfl
theorem gp_157_31 : gF 157 31 = some (0, 32, 0, 0, Int32.ofInt 1, 0) := rfl
theorem gp_157_36 : gF 157 36 = some (0, 38, 0, 0, Int32.ofInt 40, 0) := rfl
theorem gp_157_47 : gF 157 47 = some (0, 48, 0, 0, Int32.ofInt 1, 0) := rfl
theorem gp_157_63 : gF 157 63 = some (0, 64, 0, 0, Int32.ofInt 1, 0) := rfl
theorem gp_157_79 : gF 157 79 = some (0, 80, 0, 0, Int32.ofInt 1, 0) := rfl
theorem gp_157_95 : gF 157 95 = some (0, 96, 0, 0, Int32.ofInt 1, 0) := rfl
theorem gp_158_15 : gF 158 15 = some (0, 16, 0, 0, Int32.ofInt 1, 0) := rfl
theorem gp_158_25 : gF 158 25 = some (0, 26, 0, 0, Int32.ofInt 1, 0) := rfl
theorem gp_158_7 : gF 158 7 = some (0, 9, 0, 0, Int32.ofInt (-5), 0) := rfl
theorem gp_159_46 : gF 159 46 = some (0, 47, 0, 0, Int32.ofInt 1, 0) := rfl
theorem gp_159_56 : gF 159 56 = some (0, 57, 0, 0, Int32.ofInt 1, 0) := rfl
theorem gp_159_7 : gF 159 7 = some (0, 9, 0, 0, Int32.ofInt (-5), 0) := rfl
theorem gp_16_14 : gF 16 14 = some (0, 15, 0, 0, Int32.ofInt 1, 0) := rfl
theorem gp_16_53 : gF 16 53 = some (0, 54, 0, 0, Int32.ofInt 1, 0) := rfl
theorem gp_16_7 : gF 16 7 = some (0, 8, 0, 0, Int32.ofInt 0, 0) := rfl
theorem gp_160_1 : gF 160 1 = some (0, 2, 0, 0, Int32.ofInt 0, 0) := rfl
theorem gp_160_18 : gF 160 18 = some (0, 19, 0, 0, Int32.ofInt 5, 0) := rfl
theorem gp_160_19 : gF 160 19 = some (0, 21, 0, 0, Int32.ofInt 13, 0) := rfl
theorem gp_160_2 : gF 160 2 = some (0, 3, 0, 0, Int32.ofInt 4, 0) := rfl
theorem gp_160_31 : gF 160 31 = some (0, 32, 0, 0, Int32.ofInt 1, 0) := rfl
theorem gp_160_35 : gF 160 35 = some (0, 36, 0, 0, Int32.ofInt 0, 0) := rfl
theorem gp_161_103 : gF 161 103 = some (0, 104, 0, 0, Int32.ofInt 0, 0) := rfl
theorem gp_161_104 : gF 161 104 = some (0, 107, 0, 0, Int32.ofInt 9999, 0) := rfl
theorem gp_161_112 : gF 161 112 = some (0, 113, 0, 0, Int32.ofInt 0, 0) := rfl
theorem gp_161_113 : gF 161 113 = some (0, 115, 0, 0, Int32.ofInt 12, 0) := rfl
theorem gp_161_120 : gF 161 120 = some (0, 121, 0, 0, Int32.ofInt 0, 0) := rfl
theorem gp_161_121 : gF 161 121 = some (0, 124, 0, 0, Int32.ofInt 9999, 0) := rfl
theorem gp_161_129 : gF 161 129 = some (0, 130, 0, 0, Int32.ofInt 1, 0) := rfl
theorem gp_161_130 : gF 161 130 = some (0, 132, 0, 0, Int32.ofInt 99, 0) := rfl
theorem gp_161_137 : gF 161 137 = some (0, 138, 0, 0, Int32.ofInt 1, 0) := rfl
theorem gp_161_138 : gF 161 138 = some (0, 140, 0, 0, Int32.ofInt 99, 0) := rfl
theorem gp_161_145 : gF 161 145 = some (0, 146, 0, 0, Int32.ofInt 0, 0) := rfl
theorem gp_161_146 : gF 161 146 = some (0, 148, 0, 0, Int32.ofInt 99, 0) := rfl
theorem gp_161_61 : gF 161 61 = some (0, 62, 0, 0, Int32.ofInt 0, 0) := rfl
theorem gp_161_62 : gF 161 62 = some (0, 64, 0, 0, Int32.ofInt 9, 0) := rfl
theorem gp_161_69 : gF 161 69 = some (0, 70, 0, 0, Int32.ofInt 0, 0) := rfl
theorem gp_161_70 : gF 161 70 = some (0, 72, 0, 0, Int32.ofInt 9, 0) := rfl
theorem gp_161_77 : gF 161 77 = some (0, 78, 0, 0, Int32.ofInt 0, 0) := rfl
theorem gp_161_78 : gF 161 78 = some (0, 81, 0, 0, Int32.ofInt 999, 0) := rfl
theorem gp_161_86 : gF 161 86 = some (0, 87, 0, 0, Int32.ofInt 1, 0) := rfl
theorem gp_161_87 : gF 161 87 = some (0, 89, 0, 0, Int32.ofInt 99, 0) := rfl
theorem gp_161_94 : gF 161 94 = some (0, 95, 0, 0, Int32.ofInt 0, 0) := rfl
theorem gp_161_95 : gF 161 95 = some (0, 98, 0, 0, Int32.ofInt 9999, 0) := rfl
theorem gp_162_27 : gF 162 27 = some (0, 28, 0, 0, Int32.ofInt (-1), 0) := rfl
theorem gp_163_1 : gF 163 1 = some (0, 3, 0, 0, Int32.ofInt 14, 0) := rfl
theorem gp_163_19 : gF 163 19 = some (0, 20, 0, 0, Int32.ofInt (-1), 0) := rfl
theorem gp_163_24 : gF 163 24 = some (0, 26, 0, 0, Int32.ofInt 14, 0) := rfl
theorem gp_163_3 : gF 163 3 = some (0, 5, 0, 0, Int32.ofInt 15, 0) := rfl
theorem gp_163_63 : gF 163 63 = some (0, 64, 0, 0, Int32.ofInt (-1), 0) := rfl
theorem gp_164_1 : gF 164 1 = some (0, 2, 0, 0, Int32.ofInt 0, 0) := rfl
theorem gp_164_11 : gF 164 11 = some (0, 12, 0, 0, Int32.ofInt (-1), 0) := rfl
theorem gp_164_17 : gF 164 17 = some (0, 19, 0, 0, Int32.ofInt 120, 0) := rfl
theorem gp_164_2 : gF 164 2 = some (0, 5, 0, 0, Int32.ofInt 255, 0) := rfl
theorem gp_164_22 : gF 164 22 = some (0, 24, 0, 0, Int32.ofInt (-3), 0) := rfl
theorem gp_164_41 : gF 164 41 = some (0, 42, 0, 0, Int32.ofInt 1, 0) := rfl
theorem gp_165_23 : gF 165 23 = some (0, 24, 0, 0, Int32.ofInt (-1), 0) := rfl
theorem gp_167_19 : gF 167 19 = some (0, 22, 0, 0, Int32.ofInt 130, 0) := rfl
theorem gp_167_34 : gF 167 34 = some (0, 35, 0, 0, Int32.ofInt 1, 0) := rfl
theorem gp_167_4 : gF 167 4 = some (0, 7, 0, 0, Int32.ofInt 130, 0) := rfl
theorem gp_168_72 : gF 168 72 = some (0, 73, 0, 0, Int32.ofInt 0, 0) := rfl
theorem gp_168_74 : gF 168 74 = some (0, 75, 0, 0, Int32.ofInt 1, 0) := rfl
theorem gp_168_76 : gF 168 76 = some (0, 77, 0, 0, Int32.ofInt 2, 0) := rfl
theorem gp_168_78 : gF 168 78 = some (0, 79, 0, 0, Int32.ofInt 3, 0) := rfl
theorem gp_168_80 : gF 168 80 = some (0, 81, 0, 0, Int32.ofInt 4, 0) := rfl
theorem gp_168_82 : gF 168 82 = some (0, 83, 0, 0, Int32.ofInt 5, 0) := rfl
theorem gp_168_84 : gF 168 84 = some (0, 85, 0, 0, Int32.ofInt (-1), 0) := rfl
theorem gp_169_13 : gF 169 13 = some (0, 14, 0, 0, Int32.ofInt 0, 0) := rfl
theorem gp_169_20 : gF 169 20 = some (0, 21, 0, 0, Int32.ofInt 1, 0) := rfl
theorem gp_169_30 : gF 169 30 = some (0, 31, 0, 0, Int32.ofInt 1, 0) := rfl
theorem gp_169_35 : gF 169 35 = some (0, 36, 0, 0, Int32.ofInt 1, 0) := rfl
theorem gp_169_4 : gF 169 4 = some (0, 6, 0, 0, Int32.ofInt 6, 0) := rfl
theorem gp_17_11 : gF 17 11 = some (0, 12, 0, 0, Int32.ofInt 0, 0) := rfl
theorem gp_17_52 : gF 17 52 = some (0, 53, 0, 0, Int32.ofInt 1, 0) := rfl
theorem gp_17_57 : gF 17 57 = some (0, 58, 0, 0, Int32.ofInt 1, 0) := rfl
theorem gp_170_0 : gF 170 0 = some (0, 1, 0, 0, Int32.ofInt 0, 0) := rfl
theorem gp_170_13 : gF 170 13 = some (0, 15, 0, 0, Int32.ofInt 48, 0) := rfl
theorem gp_170_15 : gF 170 15 = some (0, 17, 0, 0, Int32.ofInt 57, 0) := rfl
theorem gp_170_2 : gF 170 2 = some (0, 3, 0, 0, Int32.ofInt 0, 0) := rfl
theorem gp_170_23 : gF 170 23 = some (0, 25, 0, 0, Int32.ofInt 10, 0) := rfl
theorem gp_170_32 : gF 170 32 = some (0, 34, 0, 0, Int32.ofInt 48, 0) := rfl
theorem gp_170_44 : gF 170 44 = some (0, 45, 0, 0, Int32.ofInt 1, 0) := rfl
theorem gp_170_5 : gF 170 5 = some (0, 6, 0, 0, Int32.ofInt 4, 0) := rfl
theorem gp_170_60 : gF 170 60 = some (0, 62, 0, 0, Int32.ofInt 48, 0) := rfl
theorem gp_170_62 : gF 170 62 = some (0, 64, 0, 0, Int32.ofInt 57, 0) := rfl
theorem gp_170_75 : gF 170 75 = some (0, 76, 0, 0, Int32.ofInt 1, 0) := rfl
theorem gp_171_117 : gF 171 117 = some (0, 119, 0, 0, Int32.ofInt 41, 0) := rfl
theorem gp_171_13 : gF 171 13 = some (0, 14, 0, 0, Int32.ofInt 2, 0) := rfl
theorem gp_171_132 : gF 171 132 = some (0, 133, 0, 0, Int32.ofInt 1, 0) := rfl
theorem gp_171_142 : gF 171 142 = some (0, 143, 0, 0, Int32.ofInt 1, 0) := rfl
theorem gp_171_26 : gF 171 26 = some (0, 27, 0, 0, Int32.ofInt 1, 0) := rfl
theorem gp_171_35 : gF 171 35 = some (0, 37, 0, 0, Int32.ofInt 33, 0) := rfl
theorem gp_171_41 : gF 171 41 = some (0, 43, 0, 0, Int32.ofInt 45, 0) := rfl
theorem gp_171_63 : gF 171 63 = some (0, 64, 0, 0, Int32.ofInt 1, 0) := rfl
theorem gp_171_70 : gF 171 70 = some (0, 72, 0, 0, Int32.ofInt 33, 0) := rfl
theorem gp_171_75 : gF 171 75 = some (0, 76, 0, 0, Int32.ofInt 3, 0) := rfl
theorem gp_171_79 : gF 171 79 = some (0, 80, 0, 0, Int32.ofInt 4, 0) := rfl
theorem gp_171_80 : gF 171 80 = some (0, 81, 0, 0, Int32.ofInt 0, 0) := rfl
theorem gp_171_88 : gF 171 88 = some (0, 90, 0, 0, Int32.ofInt 40, 0) := rfl
theorem gp_172_15 : gF 172 15 = some (0, 17, 0, 0, Int32.ofInt 42, 0) := rfl
theorem gp_172_24 : gF 172 24 = some (0, 26, 0, 0, Int32.ofInt 47, 0) := rfl
theorem gp_172_33 : gF 172 33 = some (0, 35, 0, 0, Int32.ofInt 37, 0) := rfl
theorem gp_172_48 : gF 172 48 = some (0, 49, 0, 0, Int32.ofInt 1, 0) := rfl
theorem gp_172_59 : gF 172 59 = some (0, 60, 0, 0, Int32.ofInt 0, 0) := rfl
theorem gp_173_15 : gF 173 15 = some (0, 17, 0, 0, Int32.ofInt 43, 0) := rfl
theorem gp_173_24 : gF 173 24 = some (0, 26, 0, 0, Int32.ofInt 45, 0) := rfl
theorem gp_173_39 : gF 173 39 = some (0, 40, 0, 0, Int32.ofInt 1, 0) := rfl
theorem gp_173_50 : gF 173 50 = some (0, 51, 0, 0, Int32.ofInt 0, 0) := rfl
theorem gp_174_17 : gF 174 17 = some (0, 19, 0, 0, Int32.ofInt 60, 0) := rfl
theorem gp_174_23 : gF 174 23 = some (0, 25, 0, 0, Int32.ofInt 61, 0) := rfl
theorem gp_174_29 : gF 174 29 = some (0, 31, 0, 0, Int32.ofInt 62, 0) := rfl
theorem gp_174_40 : gF 174 40 = some (0, 41, 0, 0, Int32.ofInt 1, 0) := rfl
theorem gp_174_51 : gF 174 51 = some (0, 52, 0, 0, Int32.ofInt 0, 0) := rfl
theorem gp_175_15 : gF 175 15 = some (0, 17, 0, 0, Int32.ofInt 38, 0) := rfl
theorem gp_175_25 : gF 175 25 = some (0, 26, 0, 0, Int32.ofInt 1, 0) := rfl
theorem gp_175_35 : gF 175 35 = some (0, 37, 0, 0, Int32.ofInt 38, 0) := rfl
theorem gp_175_37 : gF 175 37 = some (0, 38, 0, 0, Int32.ofInt 0, 0) := rfl
theorem gp_176_15 : gF 176 15 = some (0, 17, 0, 0, Int32.ofInt 124, 0) := rfl
theorem gp_176_25 : gF 176 25 = some (0, 26, 0, 0, Int32.ofInt 1, 0) := rfl
theorem gp_176_35 : gF 176 35 = some (0, 37, 0, 0, Int32.ofInt 124, 0) := rfl
theorem gp_176_37 : gF 176 37 = some (0, 38, 0, 0, Int32.ofInt 0, 0) := rfl
theorem gp_177_0 : gF 177 0 = some (0, 2, 0, 0, Int32.ofInt 61, 0) := rfl
theorem gp_177_36 : gF 177 36 = some (0, 38, 0, 0, Int32.ofInt 63, 0) := rfl
theorem gp_177_46 : gF 177 46 = some (0, 47, 0, 0, Int32.ofInt 1, 0) := rfl
theorem gp_177_6 : gF 177 6 = some (0, 7, 0, 0, Int32.ofInt 1, 0) := rfl
theorem gp_177_81 : gF 177 81 = some (0, 82, 0, 0, Int32.ofInt 1, 0) := rfl
theorem gp_177_84 : gF 177 84 = some (0, 85, 0, 0, Int32.ofInt 1, 0) := rfl
theorem gp_178_1 : gF 178 1 = some (0, 2, 0, 0, Int32.ofInt 0, 0) := rfl
theorem gp_178_103 : gF 178 103 = some (0, 104, 0, 0, Int32.ofInt 0, 0) := rfl
theorem gp_178_11 : gF 178 11 = some (0, 12, 0, 0, Int32.ofInt 0, 0) := rfl
theorem gp_178_117 : gF 178 117 = some (0, 120, 0, 0, Int32.ofInt 130, 0) := rfl
theorem gp_178_128 : gF 178 128 = some (0, 131, 0, 0, Int32.ofInt 130, 0) := rfl
theorem gp_178_139 : gF 178 139 = some (0, 142, 0, 0, Int32.ofInt 130, 0) := rfl
theorem gp_178_150 : gF 178 150 = some (0, 153, 0, 0, Int32.ofInt 130, 0) := rfl
theorem gp_178_16 : gF 178 16 = some (0, 17, 0, 0, Int32.ofInt 0, 0) := rfl
theorem gp_178_172 : gF 178 172 = some (0, 173, 0, 0, Int32.ofInt 1, 0) := rfl
theorem gp_178_175 : gF 178 175 = some (0, 176, 0, 0, Int32.ofInt 0, 0) := rfl
theorem gp_178_191 : gF 178 191 = some (0, 193, 0, 0, Int32.ofInt 61, 0) := rfl
theorem gp_178_201 : gF 178 201 = some (0, 203, 0, 0, Int32.ofInt 61, 0) := rfl
theorem gp_178_211 : gF 178 211 = some (0, 213, 0, 0, Int32.ofInt 61, 0) := rfl
theorem gp_178_221 : gF 178 221 = some (0, 223, 0, 0, Int32.ofInt 61, 0) := rfl
theorem gp_178_233 : gF 178 233 = some (0, 234, 0, 0, Int32.ofInt (-1), 0) := rfl
theorem gp_178_24 : gF 178 24 = some (0, 25, 0, 0, Int32.ofInt 1, 0) := rfl
theorem gp_178_25 : gF 178 25 = some (0, 26, 0, 0, Int32.ofInt 0, 0) := rfl
theorem gp_178_42 : gF 178 42 = some (0, 44, 0, 0, Int32.ofInt 59, 0) := rfl
theorem gp_178_52 : gF 178 52 = some (0, 53, 0, 0, Int32.ofInt 1, 0) := rfl
theorem gp_178_6 : gF 178 6 = some (0, 7, 0, 0, Int32.ofInt (-1), 0) := rfl
theorem gp_178_87 : gF 178 87 = some (0, 88, 0, 0, Int32.ofInt 0, 0) := rfl
theorem gp_179_136 : gF 179 136 = some (0, 137, 0, 0, Int32.ofInt 0, 0) := rfl
theorem gp_179_141 : gF 179 141 = some (0, 142, 0, 0, Int32.ofInt (-1), 0) := rfl
theorem gp_179_159 : gF 179 159 = some (0, 160, 0, 0, Int32.ofInt (-1), 0) := rfl
theorem gp_179_163 : gF 179 163 = some (0, 164, 0, 0, Int32.ofInt 0, 0) := rfl
theorem gp_179_176 : gF 179 176 = some (0, 177, 0, 0, Int32.ofInt 1, 0) := rfl
theorem gp_179_180 : gF 179 180 = some (0, 181, 0, 0, Int32.ofInt 0, 0) := rfl
theorem gp_179_187 : gF 179 187 = some (0, 188, 0, 0, Int32.ofInt 1, 0) := rfl
theorem gp_179_191 : gF 179 191 = some (0, 192, 0, 0, Int32.ofInt 0, 0) := rfl
theorem gp_179_198 : gF 179 198 = some (0, 199, 0, 0, Int32.ofInt 1, 0) := rfl
theorem gp_179_202 : gF 179 202 = some (0, 203, 0, 0, Int32.ofInt 0, 0) := rfl
theorem gp_179_212 : gF 179 212 = some (0, 213, 0, 0, Int32.ofInt 1, 0) := rfl
theorem gp_179_216 : gF 179 216 = some (0, 217, 0, 0, Int32.ofInt 0, 0) := rfl
theorem gp_179_226 : gF 179 226 = some (0, 227, 0, 0, Int32.ofInt 1, 0) := rfl
theorem gp_179_230 : gF 179 230 = some (0, 231, 0, 0, Int32.ofInt 0, 0) := rfl
theorem gp_180_0 : gF 180 0 = some (0, 1, 0, 0, Int32.ofInt 0, 0) := rfl
theorem gp_180_106 : gF 180 106 = some (0, 107, 0, 0, Int32.ofInt 1, 0) := rfl
theorem gp_180_112 : gF 180 112 = some (0, 113, 0, 0, Int32.ofInt 1, 0) := rfl
theorem gp_180_116 : gF 180 116 = some (0, 117, 0, 0, Int32.ofInt 0, 0) := rfl
theorem gp_180_123 : gF 180 123 = some (0, 124, 0, 0, Int32.ofInt 4, 0) := rfl
theorem gp_180_133 : gF 180 133 = some (0, 134, 0, 0, Int32.ofInt 1, 0) := rfl
theorem gp_180_14 : gF 180 14 = some (0, 17, 0, 0, Int32.ofInt 130, 0) := rfl
theorem gp_180_141 : gF 180 141 = some (0, 142, 0, 0, Int32.ofInt 1, 0) := rfl
theorem gp_180_158 : gF 180 158 = some (0, 159, 0, 0, Int32.ofInt 1, 0) := rfl
theorem gp_180_168 : gF 180 168 = some (0, 169, 0, 0, Int32.ofInt 1, 0) := rfl
theorem gp_180_192 : gF 180 192 = some (0, 193, 0, 0, Int32.ofInt 0, 0) := rfl
theorem gp_180_3 : gF 180 3 = some (0, 6, 0, 0, Int32.ofInt 130, 0) := rfl
theorem gp_180_35 : gF 180 35 = some (0, 36, 0, 0, Int32.ofInt 1, 0) := rfl
theorem gp_180_41 : gF 180 41 = some (0, 42, 0, 0, Int32.ofInt 2, 0) := rfl
theorem gp_180_53 : gF 180 53 = some (0, 54, 0, 0, Int32.ofInt 1, 0) := rfl
theorem gp_180_88 : gF 180 88 = some (0, 89, 0, 0, Int32.ofInt 3, 0) := rfl
theorem gp_180_98 : gF 180 98 = some (0, 99, 0, 0, Int32.ofInt 1, 0) := rfl
theorem gp_181_0 : gF 181 0 = some (0, 1, 0, 0, Int32.ofInt 0, 0) := rfl
theorem gp_181_2 : gF 181 2 = some (0, 4, 0, 0, Int32.ofInt 61, 0) := rfl
theorem gp_181_78 : gF 181 78 = some (0, 79, 0, 0, Int32.ofInt 0, 0) := rfl
theorem gp_181_8 : gF 181 8 = some (0, 10, 0, 0, Int32.ofInt 61, 0) := rfl
theorem gp_182_10 : gF 182 10 = some (0, 12, 0, 0, Int32.ofInt (-100), 0) := rfl
theorem gp_182_16 : gF 182 16 = some (0, 17, 0, 0, Int32.ofInt 1, 0) := rfl
theorem gp_182_20 : gF 182 20 = some (0, 21, 0, 0, Int32.ofInt 1, 0) := rfl
theorem gp_183_103 : gF 183 103 = some (0, 104, 0, 0, Int32.ofInt 3, 0) := rfl
theorem gp_183_110 : gF 183 110 = some (0, 111, 0, 0, Int32.ofInt 4, 0) := rfl
theorem gp_183_118 : gF 183 118 = some (0, 119, 0, 0, Int32.ofInt 5, 0) := rfl
theorem gp_183_122 : gF 183 122 = some (0, 123, 0, 0, Int32.ofInt 0, 0) := rfl
theorem gp_183_133 : gF 183 133 = some (0, 134, 0, 0, Int32.ofInt 0, 0) := rfl
theorem gp_183_139 : gF 183 139 = some (0, 141, 0, 0, Int32.ofInt 12, 0) := rfl
theorem gp_183_14 : gF 183 14 = some (0, 15, 0, 0, Int32.ofInt 1, 0) := rfl
theorem gp_183_144 : gF 183 144 = some (0, 146, 0, 0, Int32.ofInt 12, 0) := rfl
theorem gp_183_21 : gF 183 21 = some (0, 22, 0, 0, Int32.ofInt 0, 0) := rfl
theorem gp_183_4 : gF 183 4 = some (0, 5, 0, 0, Int32.ofInt 1, 0) := rfl
theorem gp_183_54 : gF 183 54 = some (0, 55, 0, 0, Int32.ofInt 1, 0) := rfl
theorem gp_183_58 : gF 183 58 = some (0, 59, 0, 0, Int32.ofInt 0, 0) := rfl
theorem gp_183_72 : gF 183 72 = some (0, 73, 0, 0, Int32.ofInt 0, 0) := rfl
theorem gp_183_84 : gF 183 84 = some (0, 85, 0, 0, Int32.ofInt 1, 0) := rfl
theorem gp_183_96 : gF 183 96 = some (0, 97, 0, 0, Int32.ofInt 2, 0) := rfl
theorem gp_184_10 : gF 184 10 = some (0, 12, 0, 0, Int32.ofInt 999999, 0) := rfl
theorem gp_184_21 : gF 184 21 = some (0, 24, 0, 0, Int32.ofInt 1000, 0) := rfl
theorem gp_184_26 : gF 184 26 = some (0, 29, 0, 0, Int32.ofInt 1000, 0) := rfl
theorem gp_184_36 : gF 184 36 = some (0, 37, 0, 0, Int32.ofInt (-1), 0) := rfl
theorem gp_184_9 : gF 184 9 = some (0, 10, 0, 0, Int32.ofInt 0, 0) := rfl
theorem gp_185_4 : gF 185 4 = some (0, 5, 0, 0, Int32.ofInt 0, 0) := rfl
theorem gp_185_7 : gF 185 7 = some (0, 8, 0, 0, Int32.ofInt 0, 0) := rfl
theorem gp_186_4 : gF 186 4 = some (0, 5, 0, 0, Int32.ofInt 0, 0) := rfl
theorem gp_186_8 : gF 186 8 = some (0, 10, 0, 0, Int32.ofInt 1000000, 0) := rfl
theorem gp_187_36 : gF 187 36 = some (0, 37, 0, 0, Int32.ofInt 0, 0) := rfl
theorem gp_187_49 : gF 187 49 = some (0, 50, 0, 0, Int32.ofInt 0, 0) := rfl
theorem gp_187_5 : gF 187 5 = some (0, 6, 0, 0, Int32.ofInt 0, 0) := rfl
theorem gp_187_59 : gF 187 59 = some (0, 60, 0, 0, Int32.ofInt (-1), 0) := rfl
theorem gp_187_64 : gF 187 64 = some (0, 65, 0, 0, Int32.ofInt 0, 0) := rfl
theorem gp_187_69 : gF 187 69 = some (0, 70, 0, 0, Int32.ofInt 0, 0) := rfl
theorem gp_188_53 : gF 188 53 = some (0, 54, 0, 0, Int32.ofInt 2, 0) := rfl
theorem gp_188_56 : gF 188 56 = some (0, 57, 0, 0, Int32.ofInt 1, 0) := rfl
theorem gp_188_62 : gF 188 62 = some (0, 63, 0, 0, Int32.ofInt 2, 0) := rfl
theorem gp_188_7 : gF 188 7 = some (0, 8, 0, 0, Int32.ofInt 0, 0) := rfl
theorem gp_189_22 : gF 189 22 = some (0, 24, 0, 0, Int32.ofInt 12, 0) := rfl
theorem gp_189_50 : gF 189 50 = some (0, 51, 0, 0, Int32.ofInt 1, 0) := rfl
theorem gp_189_6 : gF 189 6 = some (0, 8, 0, 0, Int32.ofInt 12, 0) := rfl
theorem gp_19_15 : gF 19 15 = some (0, 16, 0, 0, Int32.ofInt 1, 0) := rfl
theorem gp_190_12 : gF 190 12 = some (0, 15, 0, 0, Int32.ofInt 999, 0) := rfl
theorem gp_190_18 : gF 190 18 = some (0, 19, 0, 0, Int32.ofInt 1, 0) := rfl
theorem gp_190_22 : gF 190 22 = some (0, 23, 0, 0, Int32.ofInt 0, 0) := rfl
theorem gp_191_19 : gF 191 19 = some (0, 20, 0, 0, Int32.ofInt 0, 0) := rfl
theorem gp_191_49 : gF 191 49 = some (0, 50, 0, 0, Int32.ofInt 1, 0) := rfl
theorem gp_192_10 : gF 192 10 = some (0, 12, 0, 0, Int32.ofInt (-11), 0) := rfl
theorem gp_192_21 : gF 192 21 = some (0, 23, 0, 0, Int32.ofInt (-2), 0) := rfl
theorem gp_192_26 : gF 192 26 = some (0, 27, 0, 0, Int32.ofInt 0, 0) := rfl
theorem gp_192_30 : gF 192 30 = some (0, 32, 0, 0, Int32.ofInt (-12), 0) := rfl
theorem gp_192_6 : gF 192 6 = some (0, 7, 0, 0, Int32.ofInt (-1), 0) := rfl
theorem gp_193_4 : gF 193 4 = some (0, 6, 0, 0, Int32.ofInt 60, 0) := rfl
theorem gp_194_0 : gF 194 0 = some (0, 1, 0, 0, Int32.ofInt 2, 0) := rfl
theorem gp_194_14 : gF 194 14 = some (0, 15, 0, 0, Int32.ofInt 0, 0) := rfl
theorem gp_194_18 : gF 194 18 = some (0, 19, 0, 0, Int32.ofInt 2, 0) := rfl
theorem gp_194_27 : gF 194 27 = some (0, 28, 0, 0, Int32.ofInt 2, 0) := rfl
theorem gp_194_3 : gF 194 3 = some (0, 4, 0, 0, Int32.ofInt 1, 0) := rfl
theorem gp_194_30 : gF 194 30 = some (0, 31, 0, 0, Int32.ofInt 1, 0) := rfl
theorem gp_194_47 : gF 194 47 = some (0, 48, 0, 0, Int32.ofInt 1, 0) := rfl
theorem gp_194_48 : gF 194 48 = some (0, 50, 0, 0, Int32.ofInt 99, 0) := rfl
theorem gp_194_66 : gF 194 66 = some (0, 67, 0, 0, Int32.ofInt 1, 0) := rfl
theorem gp_194_70 : gF 194 70 = some (0, 71, 0, 0, Int32.ofInt 0, 0) := rfl
theorem gp_195_12 : gF 195 12 = some (0, 13, 0, 0, Int32.ofInt 0, 0) := rfl
theorem gp_195_16 : gF 195 16 = some (0, 18, 0, 0, Int32.ofInt (-2), 0) := rfl
theorem gp_195_21 : gF 195 21 = some (0, 22, 0, 0, Int32.ofInt 0, 0) := rfl
theorem gp_195_40 : gF 195 40 = some (0, 41, 0, 0, Int32.ofInt 2, 0) := rfl
theorem gp_195_48 : gF 195 48 = some (0, 49, 0, 0, Int32.ofInt 2, 0) := rfl
theorem gp_195_51 : gF 195 51 = some (0, 52, 0, 0, Int32.ofInt 1, 0) := rfl
theorem gp_196_14 : gF 196 14 = some (0, 15, 0, 0, Int32.ofInt 1, 0) := rfl
theorem gp_196_22 : gF 196 22 = some (0, 23, 0, 0, Int32.ofInt (-1), 0) := rfl
theorem gp_196_40 : gF 196 40 = some (0, 42, 0, 0, Int32.ofInt 60, 0) := rfl
theorem gp_196_47 : gF 196 47 = some (0, 49, 0, 0, Int32.ofInt (-3), 0) := rfl
theorem gp_196_57 : gF 196 57 = some (0, 59, 0, 0, Int32.ofInt (-2), 0) := rfl
theorem gp_196_70 : gF 196 70 = some (0, 71, 0, 0, Int32.ofInt (-1), 0) := rfl
theorem gp_196_8 : gF 196 8 = some (0, 10, 0, 0, Int32.ofInt (-3), 0) := rfl
theorem gp_197_5 : gF 197 5 = some (0, 6, 0, 0, Int32.ofInt 0, 0) := rfl
theorem gp_198_0 : gF 198 0 = some (0, 2, 0, 0, Int32.ofInt (-2), 0) := rfl
theorem gp_198_3 : gF 198 3 = some (0, 4, 0, 0, Int32.ofInt 0, 0) := rfl
theorem gp_198_5 : gF 198 5 = some (0, 6, 0, 0, Int32.ofInt 0, 0) := rfl
theorem gp_199_16 : gF 199 16 = some (0, 17, 0, 0, Int32.ofInt (-1), 0) := rfl
theorem gp_199_34 : gF 199 34 = some (0, 36, 0, 0, Int32.ofInt 60, 0) := rfl
theorem gp_199_55 : gF 199 55 = some (0, 56, 0, 0, Int32.ofInt 0, 0) := rfl
theorem gp_199_8 : gF 199 8 = some (0, 9, 0, 0, Int32.ofInt 0, 0) := rfl
theorem gp_199_9 : gF 199 9 = some (0, 10, 0, 0, Int32.ofInt 1, 0) := rfl
theorem gp_2_2 : gF 2 2 = some (0, 3, 0, 0, Int32.ofInt 0, 0) := rfl
theorem gp_2_22 : gF 2 22 = some (0, 23, 0, 0, Int32.ofInt 1, 0) := rfl
theorem gp_2_36 : gF 2 36 = some (0, 37, 0, 0, Int32.ofInt 0, 0) := rfl
theorem gp_2_5 : gF 2 5 = some (0, 7, 0, 0, Int32.ofInt 8, 0) := rfl
theorem gp_200_17 : gF 200 17 = some (0, 18, 0, 0, Int32.ofInt (-1), 0) := rfl
theorem gp_200_40 : gF 200 40 = some (0, 42, 0, 0, Int32.ofInt 60, 0) := rfl
theorem gp_200_47 : gF 200 47 = some (0, 48, 0, 0, Int32.ofInt 0, 0) := rfl
theorem gp_200_8 : gF 200 8 = some (0, 9, 0, 0, Int32.ofInt 0, 0) := rfl
theorem gp_200_9 : gF 200 9 = some (0, 11, 0, 0, Int32.ofInt 1000000, 0) := rfl
theorem gp_201_15 : gF 201 15 = some (0, 16, 0, 0, Int32.ofInt 0, 0) := rfl
theorem gp_201_30 : gF 201 30 = some (0, 31, 0, 0, Int32.ofInt 0, 0) := rfl
theorem gp_202_18 : gF 202 18 = some (0, 19, 0, 0, Int32.ofInt 0, 0) := rfl
theorem gp_202_19 : gF 202 19 = some (0, 20, 0, 0, Int32.ofInt 1, 0) := rfl
theorem gp_202_26 : gF 202 26 = some (0, 27, 0, 0, Int32.ofInt (-1), 0) := rfl
theorem gp_202_44 : gF 202 44 = some (0, 46, 0, 0, Int32.ofInt 60, 0) := rfl
theorem gp_202_50 : gF 202 50 = some (0, 52, 0, 0, Int32.ofInt (-2), 0) := rfl
theorem gp_202_54 : gF 202 54 = some (0, 56, 0, 0, Int32.ofInt (-2), 0) := rfl
theorem gp_202_58 : gF 202 58 = some (0, 59, 0, 0, Int32.ofInt 0, 0) := rfl
theorem gp_202_8 : gF 202 8 = some (0, 9, 0, 0, Int32.ofInt 1, 0) := rfl
theorem gp_202_9 : gF 202 9 = some (0, 11, 0, 0, Int32.ofInt 99, 0) := rfl
theorem gp_203_17 : gF 203 17 = some (0, 18, 0, 0, Int32.ofInt (-1), 0) := rfl
theorem gp_203_35 : gF 203 35 = some (0, 37, 0, 0, Int32.ofInt 60, 0) := rfl
theorem gp_203_48 : gF 203 48 = some (0, 50, 0, 0, Int32.ofInt (-2), 0) := rfl
theorem gp_203_51 : gF 203 51 = some (0, 52, 0, 0, Int32.ofInt 0, 0) := rfl
theorem gp_203_54 : gF 203 54 = some (0, 56, 0, 0, Int32.ofInt 99, 0) := rfl
theorem gp_203_65 : gF 203 65 = some (0, 68, 0, 0, Int32.ofInt 999, 0) := rfl
theorem gp_203_8 : gF 203 8 = some (0, 9, 0, 0, Int32.ofInt 0, 0) := rfl
theorem gp_203_88 : gF 203 88 = some (0, 89, 0, 0, Int32.ofInt 0, 0) := rfl
theorem gp_203_9 : gF 203 9 = some (0, 11, 0, 0, Int32.ofInt 999999, 0) := rfl
theorem gp_204_5 : gF 204 5 = some (0, 6, 0, 0, Int32.ofInt 0, 0) := rfl
theorem gp_204_67 : gF 204 67 = some (0, 68, 0, 0, Int32.ofInt 0, 0) := rfl
theorem gp_204_9 : gF 204 9 = some (0, 10, 0, 0, Int32.ofInt 0, 0) := rfl
theorem gp_205_13 : gF 205 13 = some (0, 14, 0, 0, Int32.ofInt 0, 0) := rfl
theorem gp_205_29 : gF 205 29 = some (0, 30, 0, 0, Int32.ofInt 1, 0) := rfl
theorem gp_205_38 : gF 205 38 = some (0, 39, 0, 0, Int32.ofInt 1, 0) := rfl
theorem gp_205_40 : gF 205 40 = some (0, 41, 0, 0, Int32.ofInt 1, 0) := rfl
theorem gp_205_58 : gF 205 58 = some (0, 59, 0, 0, Int32.ofInt 1, 0) := rfl
theorem gp_205_64 : gF 205 64 = some (0, 65, 0, 0, Int32.ofInt 1, 0) := rfl
theorem gp_206_1 : gF 206 1 = some (0, 2, 0, 0, Int32.ofInt 0, 0) := rfl
theorem gp_206_17 : gF 206 17 = some (0, 18, 0, 0, Int32.ofInt 1, 0) := rfl
theorem gp_206_18 : gF 206 18 = some (0, 20, 0, 0, Int32.ofInt 99, 0) := rfl
theorem gp_206_2 : gF 206 2 = some (0, 3, 0, 0, Int32.ofInt 1, 0) := rfl
theorem gp_206_27 : gF 206 27 = some (0, 28, 0, 0, Int32.ofInt (-1), 0) := rfl
theorem gp_206_31 : gF 206 31 = some (0, 32, 0, 0, Int32.ofInt (-1), 0) := rfl
theorem gp_206_37 : gF 206 37 = some (0, 39, 0, 0, Int32.ofInt 6, 0) := rfl
theorem gp_206_42 : gF 206 42 = some (0, 44, 0, 0, Int32.ofInt (-5), 0) := rfl
theorem gp_206_46 : gF 206 46 = some (0, 47, 0, 0, Int32.ofInt (-1), 0) := rfl
theorem gp_206_52 : gF 206 52 = some (0, 53, 0, 0, Int32.ofInt 0, 0) := rfl
theorem gp_206_53 : gF 206 53 = some (0, 54, 0, 0, Int32.ofInt 0, 0) := rfl
theorem gp_206_8 : gF 206 8 = some (0, 9, 0, 0, Int32.ofInt 1, 0) := rfl
theorem gp_206_86 : gF 206 86 = some (0, 88, 0, 0, Int32.ofInt (-2), 0) := rfl
theorem gp_207_100 : gF 207 100 = some (0, 102, 0, 0, Int32.ofInt 100, 0) := rfl
theorem gp_207_12 : gF 207 12 = some (0, 14, 0, 0, Int32.ofInt 100, 0) := rfl
theorem gp_207_15 : gF 207 15 = some (0, 18, 0, 0, Int32.ofInt 9999, 0) := rfl
theorem gp_207_22 : gF 207 22 = some (0, 23, 0, 0, Int32.ofInt 0, 0) := rfl
theorem gp_207_23 : gF 207 23 = some (0, 24, 0, 0, Int32.ofInt 1, 0) := rfl
theorem gp_207_30 : gF 207 30 = some (0, 31, 0, 0, Int32.ofInt (-1), 0) := rfl
theorem gp_207_48 : gF 207 48 = some (0, 50, 0, 0, Int32.ofInt 60, 0) := rfl
theorem gp_207_55 : gF 207 55 = some (0, 56, 0, 0, Int32.ofInt 0, 0) := rfl
theorem gp_207_58 : gF 207 58 = some (0, 59, 0, 0, Int32.ofInt 0, 0) := rfl
theorem gp_207_61 : gF 207 61 = some (0, 62, 0, 0, Int32.ofInt 1, 0) := rfl
theorem gp_207_85 : gF 207 85 = some (0, 87, 0, 0, Int32.ofInt 100, 0) := rfl
theorem gp_208_20 : gF 208 20 = some (0, 22, 0, 0, Int32.ofInt 100, 0) := rfl
theorem gp_208_7 : gF 208 7 = some (0, 9, 0, 0, Int32.ofInt 100, 0) := rfl
theorem gp_209_1 : gF 209 1 = some (0, 2, 0, 0, Int32.ofInt 0, 0) := rfl
theorem gp_209_12 : gF 209 12 = some (0, 13, 0, 0, Int32.ofInt 0, 0) := rfl
theorem gp_209_13 : gF 209 13 = some (0, 15, 0, 0, Int32.ofInt 99, 0) := rfl
theorem gp_209_2 : gF 209 2 = some (0, 5, 0, 0, Int32.ofInt 9999, 0) := rfl
theorem gp_209_21 : gF 209 21 = some (0, 22, 0, 0, Int32.ofInt (-1), 0) := rfl
theorem gp_209_23 : gF 209 23 = some (0, 24, 0, 0, Int32.ofInt 0, 0) := rfl
theorem gp_209_25 : gF 209 25 = some (0, 26, 0, 0, Int32.ofInt 0, 0) := rfl
theorem gp_209_49 : gF 209 49 = some (0, 50, 0, 0, Int32.ofInt 1, 0) := rfl
theorem gp_21_20 : gF 21 20 = some (0, 21, 0, 0, Int32.ofInt 0, 0) := rfl
theorem gp_21_23 : gF 21 23 = some (0, 25, 0, 0, Int32.ofInt 8, 0) := rfl
theorem gp_21_33 : gF 21 33 = some (0, 34, 0, 0, Int32.ofInt 0, 0) := rfl
theorem gp_21_46 : gF 21 46 = some (0, 48, 0, 0, Int32.ofInt 1000000, 0) := rfl
theorem gp_21_54 : gF 21 54 = some (0, 55, 0, 0, Int32.ofInt 1, 0) := rfl
theorem gp_210_25 : gF 210 25 = some (0, 27, 0, 0, Int32.ofInt 60, 0) := rfl
theorem gp_210_45 : gF 210 45 = some (0, 47, 0, 0, Int32.ofInt (-2), 0) := rfl
theorem gp_210_50 : gF 210 50 = some (0, 52, 0, 0, Int32.ofInt 12, 0) := rfl
theorem gp_210_7 : gF 210 7 = some (0, 8, 0, 0, Int32.ofInt (-1), 0) := rfl
theorem gp_212_17 : gF 212 17 = some (0, 18, 0, 0, Int32.ofInt 1, 0) := rfl
theorem gp_212_28 : gF 212 28 = some (0, 29, 0, 0, Int32.ofInt 3, 0) := rfl
theorem gp_212_41 : gF 212 41 = some (0, 42, 0, 0, Int32.ofInt 4, 0) := rfl
theorem gp_212_62 : gF 212 62 = some (0, 63, 0, 0, Int32.ofInt 0, 0) := rfl
theorem gp_212_7 : gF 212 7 = some (0, 9, 0, 0, Int32.ofInt 6, 0) := rfl
theorem gp_212_72 : gF 212 72 = some (0, 73, 0, 0, Int32.ofInt 1, 0) := rfl
theorem gp_212_76 : gF 212 76 = some (0, 77, 0, 0, Int32.ofInt 2, 0) := rfl
theorem gp_213_100 : gF 213 100 = some (0, 101, 0, 0, Int32.ofInt 1, 0) := rfl
theorem gp_213_11 : gF 213 11 = some (0, 12, 0, 0, Int32.ofInt 0, 0) := rfl
theorem gp_213_110 : gF 213 110 = some (0, 111, 0, 0, Int32.ofInt 1, 0) := rfl
theorem gp_213_118 : gF 213 118 = some (0, 119, 0, 0, Int32.ofInt 3, 0) := rfl
theorem gp_213_127 : gF 213 127 = some (0, 128, 0, 0, Int32.ofInt 4, 0) := rfl
theorem gp_213_14 : gF 213 14 = some (0, 15, 0, 0, Int32.ofInt 1, 0) := rfl
theorem gp_213_17 : gF 213 17 = some (0, 19, 0, 0, Int32.ofInt 20, 0) := rfl
theorem gp_213_31 : gF 213 31 = some (0, 32, 0, 0, Int32.ofInt 5, 0) := rfl
theorem gp_213_39 : gF 213 39 = some (0, 40, 0, 0, Int32.ofInt 1, 0) := rfl
theorem gp_213_4 : gF 213 4 = some (0, 5, 0, 0, Int32.ofInt 0, 0) := rfl
theorem gp_213_43 : gF 213 43 = some (0, 45, 0, 0, Int32.ofInt 12, 0) := rfl
theorem gp_213_49 : gF 213 49 = some (0, 50, 0, 0, Int32.ofInt 5, 0) := rfl
theorem gp_213_58 : gF 213 58 = some (0, 59, 0, 0, Int32.ofInt 1, 0) := rfl
theorem gp_213_90 : gF 213 90 = some (0, 92, 0, 0, Int32.ofInt 6, 0) := rfl
theorem gp_214_1 : gF 214 1 = some (0, 2, 0, 0, Int32.ofInt 0, 0) := rfl
theorem gp_214_11 : gF 214 11 = some (0, 12, 0, 0, Int32.ofInt 0, 0) := rfl
theorem gp_214_12 : gF 214 12 = some (0, 13, 0, 0, Int32.ofInt 1, 0) := rfl
theorem gp_214_19 : gF 214 19 = some (0, 20, 0, 0, Int32.ofInt (-1), 0) := rfl
theorem gp_214_2 : gF 214 2 = some (0, 4, 0, 0, Int32.ofInt 20, 0) := rfl
theorem gp_214_43 : gF 214 43 = some (0, 44, 0, 0, Int32.ofInt 0, 0) := rfl
theorem gp_215_1 : gF 215 1 = some (0, 2, 0, 0, Int32.ofInt 1, 0) := rfl
theorem gp_215_10 : gF 215 10 = some (0, 11, 0, 0, Int32.ofInt (-1), 0) := rfl
theorem gp_215_16 : gF 215 16 = some (0, 18, 0, 0, Int32.ofInt 6, 0) := rfl
theorem gp_215_2 : gF 215 2 = some (0, 4, 0, 0, Int32.ofInt 20, 0) := rfl
theorem gp_215_20 : gF 215 20 = some (0, 22, 0, 0, Int32.ofInt (-2), 0) := rfl
theorem gp_215_23 : gF 215 23 = some (0, 26, 0, 0, Int32.ofInt 9999, 0) := rfl
theorem gp_215_41 : gF 215 41 = some (0, 43, 0, 0, Int32.ofInt 6, 0) := rfl
theorem gp_215_71 : gF 215 71 = some (0, 73, 0, 0, Int32.ofInt 6, 0) := rfl
theorem gp_216_102 : gF 216 102 = some (0, 103, 0, 0, Int32.ofInt 2, 0) := rfl
theorem gp_216_121 : gF 216 121 = some (0, 123, 0, 0, Int32.ofInt (-2), 0) := rfl
theorem gp_216_132 : gF 216 132 = some (0, 133, 0, 0, Int32.ofInt 0, 0) := rfl
theorem gp_216_136 : gF 216 136 = some (0, 137, 0, 0, Int32.ofInt 1, 0) := rfl
theorem gp_216_16 : gF 216 16 = some (0, 17, 0, 0, Int32.ofInt (-1), 0) := rfl
theorem gp_216_32 : gF 216 32 = some (0, 33, 0, 0, Int32.ofInt 0, 0) := rfl
theorem gp_216_34 : gF 216 34 = some (0, 35, 0, 0, Int32.ofInt 0, 0) := rfl
theorem gp_216_37 : gF 216 37 = some (0, 38, 0, 0, Int32.ofInt 0, 0) := rfl
theorem gp_216_71 : gF 216 71 = some (0, 72, 0, 0, Int32.ofInt 1, 0) := rfl
theorem gp_216_8 : gF 216 8 = some (0, 9, 0, 0, Int32.ofInt 0, 0) := rfl
theorem gp_216_9 : gF 216 9 = some (0, 10, 0, 0, Int32.ofInt 2, 0) := rfl
theorem gp_217_1 : gF 217 1 = some (0, 2, 0, 0, Int32.ofInt 0, 0) := rfl
theorem gp_217_11 : gF 217 11 = some (0, 12, 0, 0, Int32.ofInt (-1), 0) := rfl
theorem gp_217_13 : gF 217 13 = some (0, 14, 0, 0, Int32.ofInt 0, 0) := rfl
theorem gp_217_15 : gF 217 15 = some (0, 16, 0, 0, Int32.ofInt 0, 0) := rfl
theorem gp_217_17 : gF 217 17 = some (0, 18, 0, 0, Int32.ofInt 0, 0) := rfl
theorem gp_217_2 : gF 217 2 = some (0, 5, 0, 0, Int32.ofInt 9999, 0) := rfl
theorem gp_217_30 : gF 217 30 = some (0, 32, 0, 0, Int32.ofInt 7, 0) := rfl
theorem gp_217_75 : gF 217 75 = some (0, 77, 0, 0, Int32.ofInt 8, 0) := rfl
theorem gp_218_1 : gF 218 1 = some (0, 2, 0, 0, Int32.ofInt 0, 0) := rfl
theorem gp_218_12 : gF 218 12 = some (0, 13, 0, 0, Int32.ofInt 0, 0) := rfl
theorem gp_218_13 : gF 218 13 = some (0, 14, 0, 0, Int32.ofInt 1, 0) := rfl
theorem gp_218_2 : gF 218 2 = some (0, 5, 0, 0, Int32.ofInt 9999, 0) := rfl
theorem gp_218_20 : gF 218 20 = some (0, 21, 0, 0, Int32.ofInt (-1), 0) := rfl
theorem gp_218_29 : gF 218 29 = some (0, 31, 0, 0, Int32.ofInt (-2), 0) := rfl
theorem gp_218_32 : gF 218 32 = some (0, 33, 0, 0, Int32.ofInt 0, 0) := rfl
theorem gp_218_34 : gF 218 34 = some (0, 35, 0, 0, Int32.ofInt 1, 0) := rfl
theorem gp_219_2 : gF 219 2 = some (0, 3, 0, 0, Int32.ofInt 0, 0) := rfl
theorem gp_22_0 : gF 22 0 = some (0, 1, 0, 0, Int32.ofInt 0, 0) := rfl
theorem gp_22_2 : gF 22 2 = some (0, 3, 0, 0, Int32.ofInt 0, 0) := rfl
theorem gp_22_37 : gF 22 37 = some (0, 38, 0, 0, Int32.ofInt 0, 0) := rfl
theorem gp_22_44 : gF 22 44 = some (0, 45, 0, 0, Int32.ofInt 0, 0) := rfl
theorem gp_22_5 : gF 22 5 = some (0, 7, 0, 0, Int32.ofInt 8, 0) := rfl
theorem gp_22_62 : gF 22 62 = some (0, 63, 0, 0, Int32.ofInt 0, 0) := rfl
theorem gp_22_71 : gF 22 71 = some (0, 72, 0, 0, Int32.ofInt 0, 0) := rfl
theorem gp_22_78 : gF 22 78 = some (0, 79, 0, 0, Int32.ofInt 0, 0) := rfl
theorem gp_22_82 : gF 22 82 = some (0, 83, 0, 0, Int32.ofInt (-1), 0) := rfl
theorem gp_220_147 : gF 220 147 = some (0, 148, 0, 0, Int32.ofInt (-1), 0) := rfl
theorem gp_220_22 : gF 220 22 = some (0, 23, 0, 0, Int32.ofInt 2, 0) := rfl
theorem gp_220_32 : gF 220 32 = some (0, 33, 0, 0, Int32.ofInt 2, 0) := rfl
theorem gp_220_35 : gF 220 35 = some (0, 36, 0, 0, Int32.ofInt 1, 0) := rfl
theorem gp_220_5 : gF 220 5 = some (0, 6, 0, 0, Int32.ofInt 0, 0) := rfl
theorem gp_220_55 : gF 220 55 = some (0, 56, 0, 0, Int32.ofInt 0, 0) := rfl
theorem gp_220_76 : gF 220 76 = some (0, 79, 0, 0, Int32.ofInt 1103515245, 0) := rfl
theorem gp_220_80 : gF 220 80 = some (0, 83, 0, 0, Int32.ofInt 12345, 0) := rfl
theorem gp_220_9 : gF 220 9 = some (0, 10, 0, 0, Int32.ofInt 0, 0) := rfl
theorem gp_220_91 : gF 220 91 = some (0, 93, 0, 0, Int32.ofInt 8, 0) := rfl
theorem gp_220_94 : gF 220 94 = some (0, 96, 0, 0, Int32.ofInt 12, 0) := rfl
theorem gp_221_114 : gF 221 114 = some (0, 115, 0, 0, Int32.ofInt (-1), 0) := rfl
theorem gp_221_19 : gF 221 19 = some (0, 20, 0, 0, Int32.ofInt 0, 0) := rfl
theorem gp_221_20 : gF 221 20 = some (0, 21, 0, 0, Int32.ofInt 1, 0) := rfl
theorem gp_221_27 : gF 221 27 = some (0, 28, 0, 0, Int32.ofInt (-1), 0) := rfl
theorem gp_221_48 : gF 221 48 = some (0, 49, 0, 0, Int32.ofInt 0, 0) := rfl
theorem gp_221_51 : gF 221 51 = some (0, 52, 0, 0, Int32.ofInt 0, 0) := rfl
theorem gp_221_60 : gF 221 60 = some (0, 61, 0, 0, Int32.ofInt 0, 0) := rfl
theorem gp_221_74 : gF 221 74 = some (0, 77, 0, 0, Int32.ofInt 1103515245, 0) := rfl
theorem gp_221_78 : gF 221 78 = some (0, 81, 0, 0, Int32.ofInt 12345, 0) := rfl
theorem gp_221_8 : gF 221 8 = some (0, 9, 0, 0, Int32.ofInt 1, 0) := rfl
theorem gp_221_9 : gF 221 9 = some (0, 11, 0, 0, Int32.ofInt 30, 0) := rfl
theorem gp_221_90 : gF 221 90 = some (0, 91, 0, 0, Int32.ofInt (-1), 0) := rfl
theorem gp_221_99 : gF 221 99 = some (0, 100, 0, 0, Int32.ofInt 4, 0) := rfl
theorem gp_222_0 : gF 222 0 = some (0, 1, 0, 0, Int32.ofInt 0, 0) := rfl
theorem gp_223_24 : gF 223 24 = some (0, 27, 0, 0, Int32.ofInt 999, 0) := rfl
theorem gp_223_30 : gF 223 30 = some (0, 32, 0, 0, Int32.ofInt (-5), 0) := rfl
theorem gp_223_56 : gF 223 56 = some (0, 57, 0, 0, Int32.ofInt 0, 0) := rfl
theorem gp_223_59 : gF 223 59 = some (0, 60, 0, 0, Int32.ofInt 1, 0) := rfl
theorem gp_223_8 : gF 223 8 = some (0, 9, 0, 0, Int32.ofInt (-1), 0) := rfl
theorem gp_224_1 : gF 224 1 = some (0, 2, 0, 0, Int32.ofInt 1, 0) := rfl
theorem gp_224_10 : gF 224 10 = some (0, 11, 0, 0, Int32.ofInt (-1), 0) := rfl
theorem gp_224_120 : gF 224 120 = some (0, 121, 0, 0, Int32.ofInt 1, 0) := rfl
theorem gp_224_130 : gF 224 130 = some (0, 131, 0, 0, Int32.ofInt 2, 0) := rfl
theorem gp_224_2 : gF 224 2 = some (0, 4, 0, 0, Int32.ofInt 99, 0) := rfl
theorem gp_224_25 : gF 224 25 = some (0, 28, 0, 0, Int32.ofInt 999, 0) := rfl
theorem gp_224_31 : gF 224 31 = some (0, 33, 0, 0, Int32.ofInt (-5), 0) := rfl
theorem gp_224_38 : gF 224 38 = some (0, 39, 0, 0, Int32.ofInt 0, 0) := rfl
theorem gp_224_40 : gF 224 40 = some (0, 41, 0, 0, Int32.ofInt 0, 0) := rfl
theorem gp_225_17 : gF 225 17 = some (0, 18, 0, 0, Int32.ofInt 0, 0) := rfl
theorem gp_225_37 : gF 225 37 = some (0, 39, 0, 0, Int32.ofInt 1000000, 0) := rfl
theorem gp_225_42 : gF 225 42 = some (0, 43, 0, 0, Int32.ofInt 0, 0) := rfl
theorem gp_225_54 : gF 225 54 = some (0, 55, 0, 0, Int32.ofInt 3, 0) := rfl
theorem gp_225_57 : gF 225 57 = some (0, 58, 0, 0, Int32.ofInt 1, 0) := rfl
theorem gp_225_8 : gF 225 8 = some (0, 9, 0, 0, Int32.ofInt (-1), 0) := rfl
theorem gp_226_33 : gF 226 33 = some (0, 34, 0, 0, Int32.ofInt 0, 0) := rfl
theorem gp_226_4 : gF 226 4 = some (0, 5, 0, 0, Int32.ofInt 0, 0) := rfl
theorem gp_226_51 : gF 226 51 = some (0, 52, 0, 0, Int32.ofInt 0, 0) := rfl
theorem gp_226_6 : gF 226 6 = some (0, 7, 0, 0, Int32.ofInt 0, 0) := rfl
theorem gp_226_63 : gF 226 63 = some (0, 64, 0, 0, Int32.ofInt 0, 0) := rfl
theorem gp_226_67 : gF 226 67 = some (0, 68, 0, 0, Int32.ofInt (-1), 0) := rfl
theorem gp_227_10 : gF 227 10 = some (0, 11, 0, 0, Int32.ofInt 5, 0) := rfl
theorem gp_227_21 : gF 227 21 = some (0, 23, 0, 0, Int32.ofInt (-2), 0) := rfl
theorem gp_227_32 : gF 227 32 = some (0, 33, 0, 0, Int32.ofInt 1, 0) := rfl
theorem gp_227_33 : gF 227 33 = some (0, 34, 0, 0, Int32.ofInt 4, 0) := rfl
theorem gp_227_45 : gF 227 45 = some (0, 46, 0, 0, Int32.ofInt 1, 0) := rfl
theorem gp_227_51 : gF 227 51 = some (0, 52, 0, 0, Int32.ofInt (-1), 0) := rfl
theorem gp_228_1 : gF 228 1 = some (0, 2, 0, 0, Int32.ofInt 1, 0) := rfl
theorem gp_228_29 : gF 228 29 = some (0, 30, 0, 0, Int32.ofInt 0, 0) := rfl
theorem gp_228_69 : gF 228 69 = some (0, 70, 0, 0, Int32.ofInt 0, 0) := rfl
theorem gp_228_72 : gF 228 72 = some (0, 73, 0, 0, Int32.ofInt 4, 0) := rfl
theorem gp_229_26 : gF 229 26 = some (0, 27, 0, 0, Int32.ofInt 0, 0) := rfl
theorem gp_229_58 : gF 229 58 = some (0, 59, 0, 0, Int32.ofInt 0, 0) := rfl
theorem gp_229_7 : gF 229 7 = some (0, 9, 0, 0, Int32.ofInt (-5), 0) := rfl
theorem gp_229_82 : gF 229 82 = some (0, 83, 0, 0, Int32.ofInt 0, 0) := rfl
theorem gp_229_90 : gF 229 90 = some (0, 91, 0, 0, Int32.ofInt 0, 0) := rfl
theorem gp_229_93 : gF 229 93 = some (0, 94, 0, 0, Int32.ofInt 4, 0) := rfl
theorem gp_23_10 : gF 23 10 = some (0, 12, 0, 0, Int32.ofInt 8, 0) := rfl
theorem gp_23_19 : gF 23 19 = some (0, 20, 0, 0, Int32.ofInt 0, 0) := rfl
theorem gp_23_24 : gF 23 24 = some (0, 25, 0, 0, Int32.ofInt 0, 0) := rfl
theorem gp_23_25 : gF 23 25 = some (0, 27, 0, 0, Int32.ofInt 8, 0) := rfl
theorem gp_23_4 : gF 23 4 = some (0, 5, 0, 0, Int32.ofInt 0, 0) := rfl
theorem gp_23_9 : gF 23 9 = some (0, 10, 0, 0, Int32.ofInt 0, 0) := rfl
theorem gp_230_1 : gF 230 1 = some (0, 2, 0, 0, Int32.ofInt 0, 0) := rfl
theorem gp_230_6 : gF 230 6 = some (0, 7, 0, 0, Int32.ofInt 1, 0) := rfl
theorem gp_231_24 : gF 231 24 = some (0, 25, 0, 0, Int32.ofInt 1, 0) := rfl
theorem gp_231_4 : gF 231 4 = some (0, 6, 0, 0, Int32.ofInt 24, 0) := rfl
theorem gp_232_13 : gF 232 13 = some (0, 15, 0, 0, Int32.ofInt 24, 0) := rfl
theorem gp_232_27 : gF 232 27 = some (0, 28, 0, 0, Int32.ofInt (-1), 0) := rfl
theorem gp_233_1 : gF 233 1 = some (0, 2, 0, 0, Int32.ofInt 0, 0) := rfl
theorem gp_233_10 : gF 233 10 = some (0, 11, 0, 0, Int32.ofInt (-1), 0) := rfl
theorem gp_233_16 : gF 233 16 = some (0, 18, 0, 0, Int32.ofInt 50, 0) := rfl
theorem gp_233_2 : gF 233 2 = some (0, 4, 0, 0, Int32.ofInt 7, 0) := rfl
theorem gp_233_21 : gF 233 21 = some (0, 23, 0, 0, Int32.ofInt (-3), 0) := rfl
theorem gp_233_39 : gF 233 39 = some (0, 40, 0, 0, Int32.ofInt 1, 0) := rfl
theorem gp_233_48 : gF 233 48 = some (0, 49, 0, 0, Int32.ofInt 1, 0) := rfl
theorem gp_234_10 : gF 234 10 = some (0, 11, 0, 0, Int32.ofInt 1, 0) := rfl
theorem gp_234_15 : gF 234 15 = some (0, 16, 0, 0, Int32.ofInt 4, 0) := rfl
theorem gp_234_20 : gF 234 20 = some (0, 21, 0, 0, Int32.ofInt 2, 0) := rfl
theorem gp_234_25 : gF 234 25 = some (0, 26, 0, 0, Int32.ofInt 3, 0) := rfl
theorem gp_234_30 : gF 234 30 = some (0, 31, 0, 0, Int32.ofInt 5, 0) := rfl
theorem gp_234_35 : gF 234 35 = some (0, 36, 0, 0, Int32.ofInt 3, 0) := rfl
theorem gp_234_40 : gF 234 40 = some (0, 41, 0, 0, Int32.ofInt 5, 0) := rfl
theorem gp_234_45 : gF 234 45 = some (0, 47, 0, 0, Int32.ofInt 6, 0) := rfl
theorem gp_234_51 : gF 234 51 = some (0, 53, 0, 0, Int32.ofInt 7, 0) := rfl
theorem gp_234_56 : gF 234 56 = some (0, 57, 0, 0, Int32.ofInt 1, 0) := rfl
theorem gp_234_60 : gF 234 60 = some (0, 61, 0, 0, Int32.ofInt 0, 0) := rfl
theorem gp_235_1 : gF 235 1 = some (0, 2, 0, 0, Int32.ofInt 1, 0) := rfl
theorem gp_236_1 : gF 236 1 = some (0, 3, 0, 0, Int32.ofInt 70, 0) := rfl
theorem gp_236_12 : gF 236 12 = some (0, 13, 0, 0, Int32.ofInt 2, 0) := rfl
theorem gp_237_14 : gF 237 14 = some (0, 16, 0, 0, Int32.ofInt 20, 0) := rfl
theorem gp_237_25 : gF 237 25 = some (0, 26, 0, 0, Int32.ofInt 3, 0) := rfl
theorem gp_237_34 : gF 237 34 = some (0, 36, 0, 0, Int32.ofInt 7, 0) := rfl
theorem gp_237_40 : gF 237 40 = some (0, 42, 0, 0, Int32.ofInt 81, 0) := rfl
theorem gp_237_51 : gF 237 51 = some (0, 52, 0, 0, Int32.ofInt 1, 0) := rfl
theorem gp_237_6 : gF 237 6 = some (0, 7, 0, 0, Int32.ofInt 1, 0) := rfl
theorem gp_237_60 : gF 237 60 = some (0, 62, 0, 0, Int32.ofInt 6, 0) := rfl
theorem gp_238_1 : gF 238 1 = some (0, 3, 0, 0, Int32.ofInt 10, 0) := rfl
theorem gp_238_12 : gF 238 12 = some (0, 13, 0, 0, Int32.ofInt 2, 0) := rfl
theorem gp_239_1 : gF 239 1 = some (0, 3, 0, 0, Int32.ofInt 30, 0) := rfl
theorem gp_240_14 : gF 240 14 = some (0, 16, 0, 0, Int32.ofInt 41, 0) := rfl
theorem gp_240_22 : gF 240 22 = some (0, 23, 0, 0, Int32.ofInt 1, 0) := rfl
theorem gp_240_34 : gF 240 34 = some (0, 36, 0, 0, Int32.ofInt 7, 0) := rfl
theorem gp_240_40 : gF 240 40 = some (0, 42, 0, 0, Int32.ofInt 80, 0) := rfl
theorem gp_240_55 : gF 240 55 = some (0, 56, 0, 0, Int32.ofInt 2, 0) := rfl
theorem gp_240_6 : gF 240 6 = some (0, 7, 0, 0, Int32.ofInt 3, 0) := rfl
theorem gp_240_67 : gF 240 67 = some (0, 68, 0, 0, Int32.ofInt 2, 0) := rfl
theorem gp_241_1 : gF 241 1 = some (0, 3, 0, 0, Int32.ofInt 11, 0) := rfl
theorem gp_242_1 : gF 242 1 = some (0, 3, 0, 0, Int32.ofInt 40, 0) := rfl
theorem gp_242_12 : gF 242 12 = some (0, 13, 0, 0, Int32.ofInt 3, 0) := rfl
theorem gp_243_11 : gF 243 11 = some (0, 13, 0, 0, Int32.ofInt 60, 0) := rfl
theorem gp_243_26 : gF 243 26 = some (0, 27, 0, 0, Int32.ofInt 2, 0) := rfl
theorem gp_243_38 : gF 243 38 = some (0, 39, 0, 0, Int32.ofInt 3, 0) := rfl
theorem gp_243_6 : gF 243 6 = some (0, 7, 0, 0, Int32.ofInt 5, 0) := rfl
theorem gp_244_1 : gF 244 1 = some (0, 2, 0, 0, Int32.ofInt 2, 0) := rfl
theorem gp_244_15 : gF 244 15 = some (0, 16, 0, 0, Int32.ofInt 1, 0) := rfl
theorem gp_245_11 : gF 245 11 = some (0, 13, 0, 0, Int32.ofInt 50, 0) := rfl
theorem gp_245_22 : gF 245 22 = some (0, 23, 0, 0, Int32.ofInt 5, 0) := rfl
theorem gp_245_31 : gF 245 31 = some (0, 32, 0, 0, Int32.ofInt 5, 0) := rfl
theorem gp_245_36 : gF 245 36 = some (0, 38, 0, 0, Int32.ofInt 61, 0) := rfl
theorem gp_245_47 : gF 245 47 = some (0, 48, 0, 0, Int32.ofInt 1, 0) := rfl
theorem gp_245_6 : gF 245 6 = some (0, 7, 0, 0, Int32.ofInt 4, 0) := rfl
theorem gp_246_1 : gF 246 1 = some (0, 2, 0, 0, Int32.ofInt 0, 0) := rfl
theorem gp_246_14 : gF 246 14 = some (0, 15, 0, 0, Int32.ofInt 0, 0) := rfl
theorem gp_246_15 : gF 246 15 = some (0, 16, 0, 0, Int32.ofInt 3, 0) := rfl
theorem gp_246_22 : gF 246 22 = some (0, 23, 0, 0, Int32.ofInt 0, 0) := rfl
theorem gp_246_38 : gF 246 38 = some (0, 39, 0, 0, Int32.ofInt 1, 0) := rfl
theorem gp_246_52 : gF 246 52 = some (0, 53, 0, 0, Int32.ofInt 2, 0) := rfl
theorem gp_247_61 : gF 247 61 = some (0, 62, 0, 0, Int32.ofInt (-1), 0) := rfl
theorem gp_248_1 : gF 248 1 = some (0, 2, 0, 0, Int32.ofInt 0, 0) := rfl
theorem gp_248_2 : gF 248 2 = some (0, 3, 0, 0, Int32.ofInt 5, 0) := rfl
theorem gp_249_20 : gF 249 20 = some (0, 21, 0, 0, Int32.ofInt (-1), 0) := rfl
theorem gp_249_29 : gF 249 29 = some (0, 30, 0, 0, Int32.ofInt 1, 0) := rfl
theorem gp_249_8 : gF 249 8 = some (0, 9, 0, 0, Int32.ofInt (-1), 0) := rfl
theorem gp_25_26 : gF 25 26 = some (0, 27, 0, 0, Int32.ofInt 1, 0) := rfl
theorem gp_25_31 : gF 25 31 = some (0, 32, 0, 0, Int32.ofInt 1, 0) := rfl
theorem gp_25_4 : gF 25 4 = some (0, 6, 0, 0, Int32.ofInt 120, 0) := rfl
theorem gp_25_9 : gF 25 9 = some (0, 10, 0, 0, Int32.ofInt 0, 0) := rfl
theorem gp_250_17 : gF 250 17 = some (0, 19, 0, 0, Int32.ofInt 60, 0) := rfl
theorem gp_250_22 : gF 250 22 = some (0, 23, 0, 0, Int32.ofInt (-1), 0) := rfl
theorem gp_250_28 : gF 250 28 = some (0, 30, 0, 0, Int32.ofInt (-14), 0) := rfl
theorem gp_250_36 : gF 250 36 = some (0, 38, 0, 0, Int32.ofInt (-2), 0) := rfl
theorem gp_250_48 : gF 250 48 = some (0, 50, 0, 0, Int32.ofInt 60, 0) := rfl
theorem gp_250_56 : gF 250 56 = some (0, 58, 0, 0, Int32.ofInt 60, 0) := rfl
theorem gp_250_60 : gF 250 60 = some (0, 62, 0, 0, Int32.ofInt 60, 0) := rfl
theorem gp_250_8 : gF 250 8 = some (0, 9, 0, 0, Int32.ofInt 0, 0) := rfl
theorem gp_250_80 : gF 250 80 = some (0, 81, 0, 0, Int32.ofInt 1, 0) := rfl
theorem gp_250_9 : gF 250 9 = some (0, 10, 0, 0, Int32.ofInt 4, 0) := rfl
theorem gp_251_15 : gF 251 15 = some (0, 16, 0, 0, Int32.ofInt (-1), 0) := rfl
theorem gp_251_19 : gF 251 19 = some (0, 21, 0, 0, Int32.ofInt (-11), 0) := rfl
theorem gp_251_31 : gF 251 31 = some (0, 33, 0, 0, Int32.ofInt (-12), 0) := rfl
theorem gp_251_35 : gF 251 35 = some (0, 36, 0, 0, Int32.ofInt 0, 0) := rfl
theorem gp_251_42 : gF 251 42 = some (0, 43, 0, 0, Int32.ofInt 1, 0) := rfl
theorem gp_251_50 : gF 251 50 = some (0, 51, 0, 0, Int32.ofInt 0, 0) := rfl
theorem gp_251_54 : gF 251 54 = some (0, 56, 0, 0, Int32.ofInt (-13), 0) := rfl
theorem gp_251_7 : gF 251 7 = some (0, 8, 0, 0, Int32.ofInt (-1), 0) := rfl
theorem gp_252_16 : gF 252 16 = some (0, 18, 0, 0, Int32.ofInt (-2), 0) := rfl
theorem gp_252_31 : gF 252 31 = some (0, 33, 0, 0, Int32.ofInt 60, 0) := rfl
theorem gp_252_51 : gF 252 51 = some (0, 52, 0, 0, Int32.ofInt 1, 0) := rfl
theorem gp_252_64 : gF 252 64 = some (0, 65, 0, 0, Int32.ofInt 2, 0) := rfl
theorem gp_252_76 : gF 252 76 = some (0, 77, 0, 0, Int32.ofInt 3, 0) := rfl
theorem gp_252_96 : gF 252 96 = some (0, 97, 0, 0, Int32.ofInt 1, 0) := rfl
theorem gp_253_19 : gF 253 19 = some (0, 21, 0, 0, Int32.ofInt 60, 0) := rfl
theorem gp_254_107 : gF 254 107 = some (0, 109, 0, 0, Int32.ofInt (-13), 0) := rfl
theorem gp_254_110 : gF 254 110 = some (0, 111, 0, 0, Int32.ofInt 0, 0) := rfl
theorem gp_254_130 : gF 254 130 = some (0, 132, 0, 0, Int32.ofInt 60, 0) := rfl
theorem gp_254_14 : gF 254 14 = some (0, 15, 0, 0, Int32.ofInt (-1), 0) := rfl
theorem gp_254_147 : gF 254 147 = some (0, 148, 0, 0, Int32.ofInt 0, 0) := rfl
theorem gp_254_161 : gF 254 161 = some (0, 163, 0, 0, Int32.ofInt 60, 0) := rfl
theorem gp_254_22 : gF 254 22 = some (0, 23, 0, 0, Int32.ofInt (-1), 0) := rfl
theorem gp_254_32 : gF 254 32 = some (0, 33, 0, 0, Int32.ofInt (-1), 0) := rfl
theorem gp_254_36 : gF 254 36 = some (0, 38, 0, 0, Int32.ofInt (-11), 0) := rfl
theorem gp_254_63 : gF 254 63 = some (0, 65, 0, 0, Int32.ofInt (-12), 0) := rfl
theorem gp_255_17 : gF 255 17 = some (0, 18, 0, 0, Int32.ofInt (-1), 0) := rfl
theorem gp_255_25 : gF 255 25 = some (0, 26, 0, 0, Int32.ofInt (-1), 0) := rfl
theorem gp_255_29 : gF 255 29 = some (0, 31, 0, 0, Int32.ofInt (-11), 0) := rfl
theorem gp_255_73 : gF 255 73 = some (0, 75, 0, 0, Int32.ofInt (-12), 0) := rfl
theorem gp_255_8 : gF 255 8 = some (0, 9, 0, 0, Int32.ofInt 0, 0) := rfl
theorem gp_255_9 : gF 255 9 = some (0, 11, 0, 0, Int32.ofInt 7, 0) := rfl
theorem gp_256_11 : gF 256 11 = some (0, 14, 0, 0, Int32.ofInt 858993459, 0) := rfl
theorem gp_256_16 : gF 256 16 = some (0, 17, 0, 0, Int32.ofInt 2, 0) := rfl
theorem gp_256_18 : gF 256 18 = some (0, 21, 0, 0, Int32.ofInt 858993459, 0) := rfl
theorem gp_256_2 : gF 256 2 = some (0, 3, 0, 0, Int32.ofInt 1, 0) := rfl
theorem gp_256_26 : gF 256 26 = some (0, 27, 0, 0, Int32.ofInt 4, 0) := rfl
theorem gp_256_29 : gF 256 29 = some (0, 32, 0, 0, Int32.ofInt 252645135, 0) := rfl
theorem gp_256_36 : gF 256 36 = some (0, 38, 0, 0, Int32.ofInt 8, 0) := rfl
theorem gp_256_4 : gF 256 4 = some (0, 7, 0, 0, Int32.ofInt 1431655765, 0) := rfl
theorem gp_256_43 : gF 256 43 = some (0, 45, 0, 0, Int32.ofInt 16, 0) := rfl
theorem gp_256_49 : gF 256 49 = some (0, 51, 0, 0, Int32.ofInt 63, 0) := rfl
theorem gp_26_14 : gF 26 14 = some (0, 15, 0, 0, Int32.ofInt 0, 0) := rfl
theorem gp_26_22 : gF 26 22 = some (0, 23, 0, 0, Int32.ofInt 1, 0) := rfl
theorem gp_26_26 : gF 26 26 = some (0, 28, 0, 0, Int32.ofInt (-100), 0) := rfl
theorem gp_28_1 : gF 28 1 = some (0, 2, 0, 0, Int32.ofInt 0, 0) := rfl
theorem gp_28_10 : gF 28 10 = some (0, 11, 0, 0, Int32.ofInt 0, 0) := rfl
theorem gp_28_13 : gF 28 13 = some (0, 15, 0, 0, Int32.ofInt 120, 0) := rfl
theorem gp_28_25 : gF 28 25 = some (0, 26, 0, 0, Int32.ofInt 0, 0) := rfl
theorem gp_28_28 : gF 28 28 = some (0, 30, 0, 0, Int32.ofInt 59, 0) := rfl
theorem gp_28_30 : gF 28 30 = some (0, 31, 0, 0, Int32.ofInt 0, 0) := rfl
theorem gp_28_45 : gF 28 45 = some (0, 46, 0, 0, Int32.ofInt 1, 0) := rfl
theorem gp_28_51 : gF 28 51 = some (0, 53, 0, 0, Int32.ofInt 59, 0) := rfl
theorem gp_28_56 : gF 28 56 = some (0, 57, 0, 0, Int32.ofInt 0, 0) := rfl
theorem gp_28_6 : gF 28 6 = some (0, 7, 0, 0, Int32.ofInt 0, 0) := rfl
theorem gp_28_63 : gF 28 63 = some (0, 64, 0, 0, Int32.ofInt 1, 0) := rfl
theorem gp_29_1 : gF 29 1 = some (0, 2, 0, 0, Int32.ofInt 0, 0) := rfl
theorem gp_29_15 : gF 29 15 = some (0, 17, 0, 0, Int32.ofInt 63, 0) := rfl
theorem gp_29_2 : gF 29 2 = some (0, 3, 0, 0, Int32.ofInt 0, 0) := rfl
theorem gp_29_20 : gF 29 20 = some (0, 21, 0, 0, Int32.ofInt 1, 0) := rfl
theorem gp_29_27 : gF 29 27 = some (0, 28, 0, 0, Int32.ofInt 1, 0) := rfl
theorem gp_29_33 : gF 29 33 = some (0, 35, 0, 0, Int32.ofInt 63, 0) := rfl
theorem gp_29_35 : gF 29 35 = some (0, 36, 0, 0, Int32.ofInt 0, 0) := rfl
theorem gp_29_40 : gF 29 40 = some (0, 41, 0, 0, Int32.ofInt 0, 0) := rfl
theorem gp_29_41 : gF 29 41 = some (0, 42, 0, 0, Int32.ofInt 0, 0) := rfl
theorem gp_29_9 : gF 29 9 = some (0, 10, 0, 0, Int32.ofInt 0, 0) := rfl
theorem gp_3_12 : gF 3 12 = some (0, 13, 0, 0, Int32.ofInt 1, 0) := rfl
theorem gp_3_16 : gF 3 16 = some (0, 17, 0, 0, Int32.ofInt 0, 0) := rfl
theorem gp_30_1 : gF 30 1 = some (0, 2, 0, 0, Int32.ofInt 4, 0) := rfl
theorem gp_30_13 : gF 30 13 = some (0, 14, 0, 0, Int32.ofInt 1, 0) := rfl
theorem gp_30_22 : gF 30 22 = some (0, 23, 0, 0, Int32.ofInt 0, 0) := rfl
theorem gp_30_25 : gF 30 25 = some (0, 26, 0, 0, Int32.ofInt 2, 0) := rfl
theorem gp_30_29 : gF 30 29 = some (0, 30, 0, 0, Int32.ofInt 1, 0) := rfl
theorem gp_30_33 : gF 30 33 = some (0, 35, 0, 0, Int32.ofInt 120, 0) := rfl
theorem gp_30_36 : gF 30 36 = some (0, 37, 0, 0, Int32.ofInt 0, 0) := rfl
theorem gp_30_67 : gF 30 67 = some (0, 68, 0, 0, Int32.ofInt 1, 0) := rfl
theorem gp_30_74 : gF 30 74 = some (0, 75, 0, 0, Int32.ofInt 1, 0) := rfl
theorem gp_30_83 : gF 30 83 = some (0, 84, 0, 0, Int32.ofInt 0, 0) := rfl
theorem gp_30_88 : gF 30 88 = some (0, 89, 0, 0, Int32.ofInt 0, 0) := rfl
theorem gp_30_98 : gF 30 98 = some (0, 99, 0, 0, Int32.ofInt 1, 0) := rfl
theorem gp_31_100 : gF 31 100 = some (0, 102, 0, 0, Int32.ofInt 41, 0) := rfl
theorem gp_31_105 : gF 31 105 = some (0, 106, 0, 0, Int32.ofInt 0, 0) := rfl
theorem gp_31_112 : gF 31 112 = some (0, 113, 0, 0, Int32.ofInt 1, 0) := rfl
theorem gp_31_117 : gF 31 117 = some (0, 118, 0, 0, Int32.ofInt 1, 0) := rfl
theorem gp_31_121 : gF 31 121 = some (0, 122, 0, 0, Int32.ofInt 1, 0) := rfl
theorem gp_31_129 : gF 31 129 = some (0, 130, 0, 0, Int32.ofInt 0, 0) := rfl
theorem gp_31_133 : gF 31 133 = some (0, 135, 0, 0, Int32.ofInt 45, 0) := rfl
theorem gp_31_138 : gF 31 138 = some (0, 140, 0, 0, Int32.ofInt 95, 0) := rfl
theorem gp_31_144 : gF 31 144 = some (0, 145, 0, 0, Int32.ofInt 0, 0) := rfl
theorem gp_31_148 : gF 31 148 = some (0, 149, 0, 0, Int32.ofInt 1, 0) := rfl
theorem gp_31_16 : gF 31 16 = some (0, 17, 0, 0, Int32.ofInt 1, 0) := rfl
theorem gp_31_30 : gF 31 30 = some (0, 31, 0, 0, Int32.ofInt 1, 0) := rfl
theorem gp_31_37 : gF 31 37 = some (0, 38, 0, 0, Int32.ofInt 0, 0) := rfl
theorem gp_31_41 : gF 31 41 = some (0, 42, 0, 0, Int32.ofInt 1, 0) := rfl
theorem gp_31_44 : gF 31 44 = some (0, 46, 0, 0, Int32.ofInt 40, 0) := rfl
theorem gp_31_50 : gF 31 50 = some (0, 52, 0, 0, Int32.ofInt 33, 0) := rfl
theorem gp_31_56 : gF 31 56 = some (0, 58, 0, 0, Int32.ofInt 45, 0) := rfl
theorem gp_31_62 : gF 31 62 = some (0, 64, 0, 0, Int32.ofInt 6, 0) := rfl
theorem gp_31_67 : gF 31 67 = some (0, 68, 0, 0, Int32.ofInt 0, 0) := rfl
theorem gp_31_74 : gF 31 74 = some (0, 75, 0, 0, Int32.ofInt 1, 0) := rfl
theorem gp_31_80 : gF 31 80 = some (0, 82, 0, 0, Int32.ofInt 40, 0) := rfl
theorem gp_31_86 : gF 31 86 = some (0, 87, 0, 0, Int32.ofInt 0, 0) := rfl
theorem gp_31_88 : gF 31 88 = some (0, 89, 0, 0, Int32.ofInt 1, 0) := rfl
theorem gp_32_0 : gF 32 0 = some (0, 1, 0, 0, Int32.ofInt 0, 0) := rfl
theorem gp_32_2 : gF 32 2 = some (0, 3, 0, 0, Int32.ofInt 0, 0) := rfl
theorem gp_32_20 : gF 32 20 = some (0, 22, 0, 0, Int32.ofInt 10, 0) := rfl
theorem gp_32_28 : gF 32 28 = some (0, 30, 0, 0, Int32.ofInt 48, 0) := rfl
theorem gp_32_37 : gF 32 37 = some (0, 38, 0, 0, Int32.ofInt 1, 0) := rfl
theorem gp_32_49 : gF 32 49 = some (0, 51, 0, 0, Int32.ofInt 48, 0) := rfl
theorem gp_32_5 : gF 32 5 = some (0, 6, 0, 0, Int32.ofInt 4, 0) := rfl
theorem gp_33_23 : gF 33 23 = some (0, 24, 0, 0, Int32.ofInt (-1), 0) := rfl
theorem gp_34_35 : gF 34 35 = some (0, 36, 0, 0, Int32.ofInt 1, 0) := rfl
theorem gp_34_4 : gF 34 4 = some (0, 6, 0, 0, Int32.ofInt 121, 0) := rfl
theorem gp_35_1 : gF 35 1 = some (0, 3, 0, 0, Int32.ofInt 48, 0) := rfl
theorem gp_35_12 : gF 35 12 = some (0, 13, 0, 0, Int32.ofInt 1, 0) := rfl
theorem gp_35_16 : gF 35 16 = some (0, 17, 0, 0, Int32.ofInt 0, 0) := rfl
theorem gp_35_7 : gF 35 7 = some (0, 9, 0, 0, Int32.ofInt 57, 0) := rfl
theorem gp_36_1 : gF 36 1 = some (0, 3, 0, 0, Int32.ofInt 104, 0) := rfl
theorem gp_36_13 : gF 36 13 = some (0, 15, 0, 0, Int32.ofInt 107, 0) := rfl
theorem gp_36_19 : gF 36 19 = some (0, 21, 0, 0, Int32.ofInt 109, 0) := rfl
theorem gp_36_25 : gF 36 25 = some (0, 27, 0, 0, Int32.ofInt 99, 0) := rfl
theorem gp_36_31 : gF 36 31 = some (0, 33, 0, 0, Int32.ofInt 112, 0) := rfl
theorem gp_36_36 : gF 36 36 = some (0, 37, 0, 0, Int32.ofInt 1, 0) := rfl
theorem gp_36_40 : gF 36 40 = some (0, 41, 0, 0, Int32.ofInt 0, 0) := rfl
theorem gp_36_7 : gF 36 7 = some (0, 9, 0, 0, Int32.ofInt 100, 0) := rfl
theorem gp_37_100 : gF 37 100 = some (0, 101, 0, 0, Int32.ofInt 4, 0) := rfl
theorem gp_37_102 : gF 37 102 = some (0, 103, 0, 0, Int32.ofInt (-1), 0) := rfl
theorem gp_37_92 : gF 37 92 = some (0, 93, 0, 0, Int32.ofInt 0, 0) := rfl
theorem gp_37_94 : gF 37 94 = some (0, 95, 0, 0, Int32.ofInt 1, 0) := rfl
theorem gp_37_96 : gF 37 96 = some (0, 97, 0, 0, Int32.ofInt 2, 0) := rfl
theorem gp_37_98 : gF 37 98 = some (0, 99, 0, 0, Int32.ofInt 3, 0) := rfl
theorem gp_38_101 : gF 38 101 = some (0, 103, 0, 0, Int32.ofInt 59, 0) := rfl
theorem gp_38_113 : gF 38 113 = some (0, 115, 0, 0, Int32.ofInt 63, 0) := rfl
theorem gp_38_125 : gF 38 125 = some (0, 126, 0, 0, Int32.ofInt 1, 0) := rfl
theorem gp_38_129 : gF 38 129 = some (0, 130, 0, 0, Int32.ofInt 0, 0) := rfl
theorem gp_38_49 : gF 38 49 = some (0, 50, 0, 0, Int32.ofInt 0, 0) := rfl
theorem gp_38_53 : gF 38 53 = some (0, 54, 0, 0, Int32.ofInt 0, 0) := rfl
theorem gp_38_56 : gF 38 56 = some (0, 57, 0, 0, Int32.ofInt 0, 0) := rfl
theorem gp_38_84 : gF 38 84 = some (0, 86, 0, 0, Int32.ofInt 59, 0) := rfl
theorem gp_38_89 : gF 38 89 = some (0, 90, 0, 0, Int32.ofInt 1, 0) := rfl
theorem gp_38_93 : gF 38 93 = some (0, 94, 0, 0, Int32.ofInt 0, 0) := rfl
theorem gp_4_17 : gF 4 17 = some (0, 18, 0, 0, Int32.ofInt (-1), 0) := rfl
theorem gp_40_166 : gF 40 166 = some (0, 167, 0, 0, Int32.ofInt 1, 0) := rfl
theorem gp_40_170 : gF 40 170 = some (0, 171, 0, 0, Int32.ofInt 0, 0) := rfl
theorem gp_41_100 : gF 41 100 = some (0, 101, 0, 0, Int32.ofInt 1, 0) := rfl
theorem gp_41_104 : gF 41 104 = some (0, 105, 0, 0, Int32.ofInt 0, 0) := rfl
theorem gp_41_114 : gF 41 114 = some (0, 115, 0, 0, Int32.ofInt 1, 0) := rfl
theorem gp_41_118 : gF 41 118 = some (0, 119, 0, 0, Int32.ofInt 0, 0) := rfl
theorem gp_41_125 : gF 41 125 = some (0, 126, 0, 0, Int32.ofInt 1, 0) := rfl
theorem gp_41_129 : gF 41 129 = some (0, 130, 0, 0, Int32.ofInt 0, 0) := rfl
theorem gp_41_136 : gF 41 136 = some (0, 137, 0, 0, Int32.ofInt 1, 0) := rfl
theorem gp_41_140 : gF 41 140 = some (0, 141, 0, 0, Int32.ofInt 0, 0) := rfl
theorem gp_41_147 : gF 41 147 = some (0, 148, 0, 0, Int32.ofInt 1, 0) := rfl
theorem gp_41_151 : gF 41 151 = some (0, 152, 0, 0, Int32.ofInt 0, 0) := rfl
theorem gp_41_169 : gF 41 169 = some (0, 170, 0, 0, Int32.ofInt 0, 0) := rfl
theorem gp_41_181 : gF 41 181 = some (0, 182, 0, 0, Int32.ofInt 0, 0) := rfl
theorem gp_42_25 : gF 42 25 = some (0, 26, 0, 0, Int32.ofInt 1, 0) := rfl
theorem gp_42_4 : gF 42 4 = some (0, 6, 0, 0, Int32.ofInt 121, 0) := rfl
theorem gp_43_14 : gF 43 14 = some (0, 15, 0, 0, Int32.ofInt 1, 0) := rfl
theorem gp_45_11 : gF 45 11 = some (0, 12, 0, 0, Int32.ofInt 0, 0) := rfl
theorem gp_45_15 : gF 45 15 = some (0, 16, 0, 0, Int32.ofInt 0, 0) := rfl
theorem gp_45_6 : gF 45 6 = some (0, 7, 0, 0, Int32.ofInt 0, 0) := rfl
theorem gp_46_5 : gF 46 5 = some (0, 7, 0, 0, Int32.ofInt 1103515245, 0) := rfl
theorem gp_46_8 : gF 46 8 = some (0, 11, 0, 0, Int32.ofInt 12345, 0) := rfl
theorem gp_47_16 : gF 47 16 = some (0, 18, 0, 0, Int32.ofInt (-2), 0) := rfl
theorem gp_47_23 : gF 47 23 = some (0, 24, 0, 0, Int32.ofInt 4, 0) := rfl
theorem gp_47_28 : gF 47 28 = some (0, 29, 0, 0, Int32.ofInt 0, 0) := rfl
theorem gp_47_46 : gF 47 46 = some (0, 47, 0, 0, Int32.ofInt 2, 0) := rfl
theorem gp_48_0 : gF 48 0 = some (0, 1, 0, 0, Int32.ofInt 0, 0) := rfl
theorem gp_48_2 : gF 48 2 = some (0, 3, 0, 0, Int32.ofInt 0, 0) := rfl
theorem gp_49_0 : gF 49 0 = some (0, 1, 0, 0, Int32.ofInt 0, 0) := rfl
theorem gp_49_35 : gF 49 35 = some (0, 37, 0, 0, Int32.ofInt 8, 0) := rfl
theorem gp_49_38 : gF 49 38 = some (0, 40, 0, 0, Int32.ofInt 12, 0) := rfl
theorem gp_49_77 : gF 49 77 = some (0, 78, 0, 0, Int32.ofInt 1, 0) := rfl
theorem gp_49_92 : gF 49 92 = some (0, 93, 0, 0, Int32.ofInt 1, 0) := rfl
theorem gp_5_27 : gF 5 27 = some (0, 28, 0, 0, Int32.ofInt 1, 0) := rfl
theorem gp_5_36 : gF 5 36 = some (0, 37, 0, 0, Int32.ofInt 1, 0) := rfl
theorem gp_5_4 : gF 5 4 = some (0, 6, 0, 0, Int32.ofInt 50, 0) := rfl
theorem gp_5_9 : gF 5 9 = some (0, 11, 0, 0, Int32.ofInt (-3), 0) := rfl
theorem gp_51_11 : gF 51 11 = some (0, 12, 0, 0, Int32.ofInt 0, 0) := rfl
theorem gp_51_13 : gF 51 13 = some (0, 14, 0, 0, Int32.ofInt 0, 0) := rfl
theorem gp_51_14 : gF 51 14 = some (0, 15, 0, 0, Int32.ofInt 0, 0) := rfl
theorem gp_51_15 : gF 51 15 = some (0, 16, 0, 0, Int32.ofInt 0, 0) := rfl
theorem gp_51_6 : gF 51 6 = some (0, 7, 0, 0, Int32.ofInt (-1), 0) := rfl
theorem gp_52_19 : gF 52 19 = some (0, 21, 0, 0, Int32.ofInt (-2), 0) := rfl
theorem gp_52_5 : gF 52 5 = some (0, 7, 0, 0, Int32.ofInt 6, 0) := rfl
theorem gp_53_118 : gF 53 118 = some (0, 119, 0, 0, Int32.ofInt 1, 0) := rfl
theorem gp_53_12 : gF 53 12 = some (0, 14, 0, 0, Int32.ofInt 6, 0) := rfl
theorem gp_53_121 : gF 53 121 = some (0, 122, 0, 0, Int32.ofInt 1, 0) := rfl
theorem gp_53_125 : gF 53 125 = some (0, 126, 0, 0, Int32.ofInt (-1), 0) := rfl
theorem gp_53_18 : gF 53 18 = some (0, 19, 0, 0, Int32.ofInt 0, 0) := rfl
theorem gp_53_23 : gF 53 23 = some (0, 25, 0, 0, Int32.ofInt 8, 0) := rfl
theorem gp_53_32 : gF 53 32 = some (0, 33, 0, 0, Int32.ofInt 1, 0) := rfl
theorem gp_53_77 : gF 53 77 = some (0, 80, 0, 0, Int32.ofInt 999, 0) := rfl
theorem gp_53_95 : gF 53 95 = some (0, 96, 0, 0, Int32.ofInt 0, 0) := rfl
theorem gp_54_18 : gF 54 18 = some (0, 19, 0, 0, Int32.ofInt 0, 0) := rfl
theorem gp_54_23 : gF 54 23 = some (0, 24, 0, 0, Int32.ofInt 0, 0) := rfl
theorem gp_54_24 : gF 54 24 = some (0, 26, 0, 0, Int32.ofInt 6, 0) := rfl
theorem gp_56_23 : gF 56 23 = some (0, 24, 0, 0, Int32.ofInt 0, 0) := rfl
theorem gp_56_24 : gF 56 24 = some (0, 26, 0, 0, Int32.ofInt 9, 0) := rfl
theorem gp_56_37 : gF 56 37 = some (0, 38, 0, 0, Int32.ofInt 0, 0) := rfl
theorem gp_56_38 : gF 56 38 = some (0, 40, 0, 0, Int32.ofInt 10, 0) := rfl
theorem gp_56_55 : gF 56 55 = some (0, 56, 0, 0, Int32.ofInt 0, 0) := rfl
theorem gp_56_59 : gF 56 59 = some (0, 60, 0, 0, Int32.ofInt 0, 0) := rfl
theorem gp_56_7 : gF 56 7 = some (0, 8, 0, 0, Int32.ofInt 0, 0) := rfl
theorem gp_56_8 : gF 56 8 = some (0, 10, 0, 0, Int32.ofInt 8, 0) := rfl
theorem gp_57_25 : gF 57 25 = some (0, 26, 0, 0, Int32.ofInt 1, 0) := rfl
theorem gp_57_46 : gF 57 46 = some (0, 47, 0, 0, Int32.ofInt 2, 0) := rfl
theorem gp_57_6 : gF 57 6 = some (0, 7, 0, 0, Int32.ofInt 0, 0) := rfl
theorem gp_58_12 : gF 58 12 = some (0, 13, 0, 0, Int32.ofInt 0, 0) := rfl
theorem gp_58_14 : gF 58 14 = some (0, 17, 0, 0, Int32.ofInt 9999, 0) := rfl
theorem gp_58_18 : gF 58 18 = some (0, 19, 0, 0, Int32.ofInt 0, 0) := rfl
theorem gp_58_2 : gF 58 2 = some (0, 3, 0, 0, Int32.ofInt 0, 0) := rfl
theorem gp_58_23 : gF 58 23 = some (0, 25, 0, 0, Int32.ofInt 20, 0) := rfl
theorem gp_58_36 : gF 58 36 = some (0, 37, 0, 0, Int32.ofInt 1, 0) := rfl
theorem gp_58_38 : gF 58 38 = some (0, 39, 0, 0, Int32.ofInt 2, 0) := rfl
theorem gp_58_60 : gF 58 60 = some (0, 61, 0, 0, Int32.ofInt 1, 0) := rfl
theorem gp_58_9 : gF 58 9 = some (0, 11, 0, 0, Int32.ofInt (-2), 0) := rfl
theorem gp_59_13 : gF 59 13 = some (0, 14, 0, 0, Int32.ofInt 1, 0) := rfl
theorem gp_59_17 : gF 59 17 = some (0, 18, 0, 0, Int32.ofInt 0, 0) := rfl
theorem gp_6_13 : gF 6 13 = some (0, 15, 0, 0, Int32.ofInt 24, 0) := rfl
theorem gp_6_27 : gF 6 27 = some (0, 28, 0, 0, Int32.ofInt (-1), 0) := rfl
theorem gp_61_13 : gF 61 13 = some (0, 14, 0, 0, Int32.ofInt 0, 0) := rfl
theorem gp_61_5 : gF 61 5 = some (0, 6, 0, 0, Int32.ofInt 4, 0) := rfl
theorem gp_61_9 : gF 61 9 = some (0, 10, 0, 0, Int32.ofInt 1, 0) := rfl
theorem gp_62_11 : gF 62 11 = some (0, 12, 0, 0, Int32.ofInt 0, 0) := rfl
theorem gp_62_7 : gF 62 7 = some (0, 8, 0, 0, Int32.ofInt 1, 0) := rfl
theorem gp_63_12 : gF 63 12 = some (0, 13, 0, 0, Int32.ofInt 0, 0) := rfl
theorem gp_63_4 : gF 63 4 = some (0, 5, 0, 0, Int32.ofInt 1, 0) := rfl
theorem gp_63_8 : gF 63 8 = some (0, 9, 0, 0, Int32.ofInt 1, 0) := rfl
theorem gp_64_15 : gF 64 15 = some (0, 16, 0, 0, Int32.ofInt 1, 0) := rfl
theorem gp_64_19 : gF 64 19 = some (0, 20, 0, 0, Int32.ofInt 0, 0) := rfl
theorem gp_64_4 : gF 64 4 = some (0, 5, 0, 0, Int32.ofInt 2, 0) := rfl
theorem gp_65_12 : gF 65 12 = some (0, 13, 0, 0, Int32.ofInt 2, 0) := rfl
theorem gp_65_27 : gF 65 27 = some (0, 28, 0, 0, Int32.ofInt 1, 0) := rfl
theorem gp_65_31 : gF 65 31 = some (0, 32, 0, 0, Int32.ofInt 0, 0) := rfl
theorem gp_65_4 : gF 65 4 = some (0, 5, 0, 0, Int32.ofInt 2, 0) := rfl
theorem gp_66_1 : gF 66 1 = some (0, 2, 0, 0, Int32.ofInt 0, 0) := rfl
theorem gp_66_6 : gF 66 6 = some (0, 7, 0, 0, Int32.ofInt 0, 0) := rfl
theorem gp_67_1 : gF 67 1 = some (0, 2, 0, 0, Int32.ofInt 1, 0) := rfl
theorem gp_67_11 : gF 67 11 = some (0, 12, 0, 0, Int32.ofInt 0, 0) := rfl
theorem gp_68_1 : gF 68 1 = some (0, 2, 0, 0, Int32.ofInt 2, 0) := rfl
theorem gp_68_15 : gF 68 15 = some (0, 16, 0, 0, Int32.ofInt 0, 0) := rfl
theorem gp_68_18 : gF 68 18 = some (0, 20, 0, 0, Int32.ofInt 60, 0) := rfl
theorem gp_69_17 : gF 69 17 = some (0, 18, 0, 0, Int32.ofInt 0, 0) := rfl
theorem gp_69_21 : gF 69 21 = some (0, 23, 0, 0, Int32.ofInt (-12), 0) := rfl
theorem gp_69_7 : gF 69 7 = some (0, 9, 0, 0, Int32.ofInt (-11), 0) := rfl
theorem gp_7_1 : gF 7 1 = some (0, 2, 0, 0, Int32.ofInt 0, 0) := rfl
theorem gp_7_18 : gF 7 18 = some (0, 19, 0, 0, Int32.ofInt 4, 0) := rfl
theorem gp_7_22 : gF 7 22 = some (0, 23, 0, 0, Int32.ofInt 0, 0) := rfl
theorem gp_7_42 : gF 7 42 = some (0, 43, 0, 0, Int32.ofInt 0, 0) := rfl
theorem gp_70_14 : gF 70 14 = some (0, 15, 0, 0, Int32.ofInt 2, 0) := rfl
theorem gp_70_18 : gF 70 18 = some (0, 20, 0, 0, Int32.ofInt (-12), 0) := rfl
theorem gp_70_33 : gF 70 33 = some (0, 34, 0, 0, Int32.ofInt 0, 0) := rfl
theorem gp_70_37 : gF 70 37 = some (0, 39, 0, 0, Int32.ofInt (-13), 0) := rfl
theorem gp_70_7 : gF 70 7 = some (0, 9, 0, 0, Int32.ofInt (-11), 0) := rfl
theorem gp_71_18 : gF 71 18 = some (0, 19, 0, 0, Int32.ofInt 1, 0) := rfl
theorem gp_71_22 : gF 71 22 = some (0, 23, 0, 0, Int32.ofInt 0, 0) := rfl
theorem gp_75_0 : gF 75 0 = some (0, 1, 0, 0, Int32.ofInt 0, 0) := rfl
theorem gp_75_2 : gF 75 2 = some (0, 3, 0, 0, Int32.ofInt 0, 0) := rfl
theorem gp_78_15 : gF 78 15 = some (0, 16, 0, 0, Int32.ofInt 1, 0) := rfl
theorem gp_78_17 : gF 78 17 = some (0, 18, 0, 0, Int32.ofInt 0, 0) := rfl
theorem gp_78_22 : gF 78 22 = some (0, 23, 0, 0, Int32.ofInt 1, 0) := rfl
theorem gp_78_46 : gF 78 46 = some (0, 47, 0, 0, Int32.ofInt 1, 0) := rfl
theorem gp_78_62 : gF 78 62 = some (0, 63, 0, 0, Int32.ofInt 0, 0) := rfl
theorem gp_79_0 : gF 79 0 = some (0, 1, 0, 0, Int32.ofInt 0, 0) := rfl
theorem gp_79_3 : gF 79 3 = some (0, 5, 0, 0, Int32.ofInt 8, 0) := rfl
theorem gp_79_35 : gF 79 35 = some (0, 36, 0, 0, Int32.ofInt 0, 0) := rfl
theorem gp_79_42 : gF 79 42 = some (0, 43, 0, 0, Int32.ofInt 0, 0) := rfl
theorem gp_79_51 : gF 79 51 = some (0, 52, 0, 0, Int32.ofInt 0, 0) := rfl
theorem gp_79_56 : gF 79 56 = some (0, 57, 0, 0, Int32.ofInt 0, 0) := rfl
theorem gp_79_61 : gF 79 61 = some (0, 62, 0, 0, Int32.ofInt 0, 0) := rfl
theorem gp_79_66 : gF 79 66 = some (0, 67, 0, 0, Int32.ofInt (-1), 0) := rfl
theorem gp_79_78 : gF 79 78 = some (0, 79, 0, 0, Int32.ofInt 0, 0) := rfl
theorem gp_79_82 : gF 79 82 = some (0, 84, 0, 0, Int32.ofInt (-2), 0) := rfl
theorem gp_80_113 : gF 80 113 = some (0, 114, 0, 0, Int32.ofInt 0, 0) := rfl
theorem gp_80_126 : gF 80 126 = some (0, 127, 0, 0, Int32.ofInt 1, 0) := rfl
theorem gp_80_182 : gF 80 182 = some (0, 183, 0, 0, Int32.ofInt 1, 0) := rfl
theorem gp_80_190 : gF 80 190 = some (0, 191, 0, 0, Int32.ofInt 1, 0) := rfl
theorem gp_80_22 : gF 80 22 = some (0, 24, 0, 0, Int32.ofInt 30, 0) := rfl
theorem gp_80_245 : gF 80 245 = some (0, 246, 0, 0, Int32.ofInt 1, 0) := rfl
theorem gp_80_250 : gF 80 250 = some (0, 251, 0, 0, Int32.ofInt 1, 0) := rfl
theorem gp_80_27 : gF 80 27 = some (0, 28, 0, 0, Int32.ofInt 0, 0) := rfl
theorem gp_80_50 : gF 80 50 = some (0, 53, 0, 0, Int32.ofInt 999, 0) := rfl
theorem gp_80_56 : gF 80 56 = some (0, 57, 0, 0, Int32.ofInt 0, 0) := rfl
theorem gp_81_0 : gF 81 0 = some (0, 2, 0, 0, Int32.ofInt (-2), 0) := rfl
theorem gp_81_3 : gF 81 3 = some (0, 4, 0, 0, Int32.ofInt 0, 0) := rfl
theorem gp_81_5 : gF 81 5 = some (0, 6, 0, 0, Int32.ofInt 0, 0) := rfl
theorem gp_81_8 : gF 81 8 = some (0, 10, 0, 0, Int32.ofInt 8, 0) := rfl
theorem gp_82_11 : gF 82 11 = some (0, 13, 0, 0, Int32.ofInt 8, 0) := rfl
theorem gp_82_8 : gF 82 8 = some (0, 9, 0, 0, Int32.ofInt 0, 0) := rfl
theorem gp_83_30 : gF 83 30 = some (0, 33, 0, 0, Int32.ofInt 999, 0) := rfl
theorem gp_83_41 : gF 83 41 = some (0, 43, 0, 0, Int32.ofInt (-2), 0) := rfl
theorem gp_83_69 : gF 83 69 = some (0, 72, 0, 0, Int32.ofInt 1000, 0) := rfl
theorem gp_84_10 : gF 84 10 = some (0, 11, 0, 0, Int32.ofInt 0, 0) := rfl
theorem gp_84_13 : gF 84 13 = some (0, 15, 0, 0, Int32.ofInt 99, 0) := rfl
theorem gp_84_28 : gF 84 28 = some (0, 31, 0, 0, Int32.ofInt 999, 0) := rfl
theorem gp_84_42 : gF 84 42 = some (0, 43, 0, 0, Int32.ofInt 1, 0) := rfl
theorem gp_86_28 : gF 86 28 = some (0, 29, 0, 0, Int32.ofInt 1, 0) := rfl
theorem gp_86_32 : gF 86 32 = some (0, 33, 0, 0, Int32.ofInt 0, 0) := rfl
theorem gp_86_5 : gF 86 5 = some (0, 7, 0, 0, Int32.ofInt 14, 0) := rfl
theorem gp_87_12 : gF 87 12 = some (0, 13, 0, 0, Int32.ofInt 1, 0) := rfl
theorem gp_87_16 : gF 87 16 = some (0, 17, 0, 0, Int32.ofInt 0, 0) := rfl
theorem gp_88_13 : gF 88 13 = some (0, 14, 0, 0, Int32.ofInt 0, 0) := rfl
theorem gp_88_9 : gF 88 9 = some (0, 10, 0, 0, Int32.ofInt 1, 0) := rfl
theorem gp_89_10 : gF 89 10 = some (0, 11, 0, 0, Int32.ofInt (-1), 0) := rfl
theorem gp_89_13 : gF 89 13 = some (0, 14, 0, 0, Int32.ofInt 5, 0) := rfl
theorem gp_89_26 : gF 89 26 = some (0, 27, 0, 0, Int32.ofInt 5, 0) := rfl
theorem gp_89_33 : gF 89 33 = some (0, 34, 0, 0, Int32.ofInt (-1), 0) := rfl
theorem gp_89_39 : gF 89 39 = some (0, 41, 0, 0, Int32.ofInt 40, 0) := rfl
theorem gp_89_46 : gF 89 46 = some (0, 47, 0, 0, Int32.ofInt (-1), 0) := rfl
theorem gp_89_5 : gF 89 5 = some (0, 7, 0, 0, Int32.ofInt 14, 0) := rfl
theorem gp_9_112 : gF 9 112 = some (0, 113, 0, 0, Int32.ofInt 1, 0) := rfl
theorem gp_9_26 : gF 9 26 = some (0, 27, 0, 0, Int32.ofInt 4, 0) := rfl
theorem gp_9_3 : gF 9 3 = some (0, 4, 0, 0, Int32.ofInt 0, 0) := rfl
theorem gp_9_58 : gF 9 58 = some (0, 60, 0, 0, Int32.ofInt 40, 0) := rfl
theorem gp_9_70 : gF 9 70 = some (0, 71, 0, 0, Int32.ofInt 4, 0) := rfl
theorem gp_9_8 : gF 9 8 = some (0, 10, 0, 0, Int32.ofInt 8, 0) := rfl
theorem gp_9_94 : gF 9 94 = some (0, 95, 0, 0, Int32.ofInt 1, 0) := rfl
theorem gp_90_11 : gF 90 11 = some (0, 12, 0, 0, Int32.ofInt 0, 0) := rfl
theorem gp_92_11 : gF 92 11 = some (0, 12, 0, 0, Int32.ofInt 1, 0) := rfl
theorem gp_92_19 : gF 92 19 = some (0, 20, 0, 0, Int32.ofInt 0, 0) := rfl
theorem gp_92_27 : gF 92 27 = some (0, 28, 0, 0, Int32.ofInt 1, 0) := rfl
theorem gp_92_35 : gF 92 35 = some (0, 36, 0, 0, Int32.ofInt 2, 0) := rfl
theorem gp_92_43 : gF 92 43 = some (0, 44, 0, 0, Int32.ofInt 3, 0) := rfl
theorem gp_92_47 : gF 92 47 = some (0, 48, 0, 0, Int32.ofInt 3, 0) := rfl
theorem gp_92_55 : gF 92 55 = some (0, 56, 0, 0, Int32.ofInt 4, 0) := rfl
theorem gp_92_59 : gF 92 59 = some (0, 60, 0, 0, Int32.ofInt 4, 0) := rfl
theorem gp_93_14 : gF 93 14 = some (0, 15, 0, 0, Int32.ofInt 1, 0) := rfl
theorem gp_93_3 : gF 93 3 = some (0, 4, 0, 0, Int32.ofInt 0, 0) := rfl
theorem gp_94_0 : gF 94 0 = some (0, 1, 0, 0, Int32.ofInt 0, 0) := rfl
theorem gp_94_15 : gF 94 15 = some (0, 16, 0, 0, Int32.ofInt 1, 0) := rfl
theorem gp_94_25 : gF 94 25 = some (0, 26, 0, 0, Int32.ofInt 1, 0) := rfl
theorem gp_94_27 : gF 94 27 = some (0, 28, 0, 0, Int32.ofInt 0, 0) := rfl
theorem gp_94_28 : gF 94 28 = some (0, 30, 0, 0, Int32.ofInt 7, 0) := rfl
theorem gp_94_43 : gF 94 43 = some (0, 44, 0, 0, Int32.ofInt 1, 0) := rfl
theorem gp_94_9 : gF 94 9 = some (0, 10, 0, 0, Int32.ofInt 0, 0) := rfl
theorem gp_95_1 : gF 95 1 = some (0, 2, 0, 0, Int32.ofInt 0, 0) := rfl
theorem gp_95_2 : gF 95 2 = some (0, 3, 0, 0, Int32.ofInt 5, 0) := rfl
theorem gp_95_20 : gF 95 20 = some (0, 21, 0, 0, Int32.ofInt 2, 0) := rfl
theorem gp_95_7 : gF 95 7 = some (0, 8, 0, 0, Int32.ofInt 0, 0) := rfl
theorem gp_96_13 : gF 96 13 = some (0, 15, 0, 0, Int32.ofInt 1000000, 0) := rfl
theorem gp_96_17 : gF 96 17 = some (0, 18, 0, 0, Int32.ofInt 2, 0) := rfl
theorem gp_96_9 : gF 96 9 = some (0, 10, 0, 0, Int32.ofInt 0, 0) := rfl
theorem gp_97_13 : gF 97 13 = some (0, 15, 0, 0, Int32.ofInt 1000000, 0) := rfl
theorem gp_97_16 : gF 97 16 = some (0, 17, 0, 0, Int32.ofInt 0, 0) := rfl
theorem gp_97_17 : gF 97 17 = some (0, 18, 0, 0, Int32.ofInt 5, 0) := rfl
theorem gp_97_9 : gF 97 9 = some (0, 10, 0, 0, Int32.ofInt 0, 0) := rfl
theorem gp_98_0 : gF 98 0 = some (0, 1, 0, 0, Int32.ofInt 0, 0) := rfl
theorem gp_98_2 : gF 98 2 = some (0, 3, 0, 0, Int32.ofInt 0, 0) := rfl
theorem gp_98_21 : gF 98 21 = some (0, 22, 0, 0, Int32.ofInt 3, 0) := rfl
theorem gp_98_27 : gF 98 27 = some (0, 28, 0, 0, Int32.ofInt 4, 0) := rfl
theorem gp_98_3 : gF 98 3 = some (0, 5, 0, 0, Int32.ofInt 6, 0) := rfl
theorem gp_98_41 : gF 98 41 = some (0, 42, 0, 0, Int32.ofInt 0, 0) := rfl
theorem gp_98_42 : gF 98 42 = some (0, 44, 0, 0, Int32.ofInt 12, 0) := rfl
theorem gp_99_19 : gF 99 19 = some (0, 21, 0, 0, Int32.ofInt 12, 0) := rfl
theorem gp_99_3 : gF 99 3 = some (0, 4, 0, 0, Int32.ofInt 0, 0) := rfl
theorem gp_99_38 : gF 99 38 = some (0, 40, 0, 0, Int32.ofInt 12, 0) := rfl
theorem gr_1 : gRt 1 = some .boolean := rfl
theorem gr_10 : gRt 10 = none := rfl
theorem gr_101 : gRt 101 = some .int := rfl
theorem gr_102 : gRt 102 = some .int := rfl
theorem gr_103 : gRt 103 = some .boolean := rfl
theorem gr_104 : gRt 104 = some .int := rfl
theorem gr_105 : gRt 105 = some .int := rfl
theorem gr_106 : gRt 106 = some .int := rfl
theorem gr_108 : gRt 108 = some .int := rfl
theorem gr_109 : gRt 109 = some .int := rfl
theorem gr_11 : gRt 11 = some .int := rfl
theorem gr_110 : gRt 110 = some .int := rfl
theorem gr_111 : gRt 111 = some .int := rfl
theorem gr_112 : gRt 112 = some .int := rfl
theorem gr_113 : gRt 113 = some .int := rfl
theorem gr_114 : gRt 114 = some .int := rfl
theorem gr_115 : gRt 115 = some .int := rfl
theorem gr_116 : gRt 116 = some .int := rfl
theorem gr_117 : gRt 117 = some .int := rfl
theorem gr_118 : gRt 118 = some .int := rfl
theorem gr_119 : gRt 119 = some .int := rfl
theorem gr_12 : gRt 12 = some .int := rfl
theorem gr_120 : gRt 120 = some .int := rfl
theorem gr_121 : gRt 121 = some .int := rfl
theorem gr_122 : gRt 122 = some .int := rfl
theorem gr_123 : gRt 123 = some .int := rfl
theorem gr_124 : gRt 124 = some .int := rfl
theorem gr_125 : gRt 125 = some .int := rfl
theorem gr_126 : gRt 126 = some .int := rfl
theorem gr_127 : gRt 127 = some .int := rfl
theorem gr_128 : gRt 128 = some .int := rfl
theorem gr_129 : gRt 129 = some .int := rfl
theorem gr_130 : gRt 130 = some .int := rfl
theorem gr_131 : gRt 131 = some .int := rfl
theorem gr_132 : gRt 132 = some .int := rfl
theorem gr_133 : gRt 133 = some .int := rfl
theorem gr_134 : gRt 134 = some .int := rfl
theorem gr_135 : gRt 135 = some .int := rfl
theorem gr_136 : gRt 136 = some .int := rfl
theorem gr_137 : gRt 137 = some .int := rfl
theorem gr_138 : gRt 138 = some .int := rfl
theorem gr_139 : gRt 139 = some .long := rfl
theorem gr_14 : gRt 14 = none := rfl
theorem gr_140 : gRt 140 = some .int := rfl
theorem gr_141 : gRt 141 = some .int := rfl
theorem gr_142 : gRt 142 = some .int := rfl
theorem gr_143 : gRt 143 = some .boolean := rfl
theorem gr_144 : gRt 144 = some .boolean := rfl
theorem gr_145 : gRt 145 = some .boolean := rfl
theorem gr_146 : gRt 146 = some .boolean := rfl
theorem gr_148 : gRt 148 = some .boolean := rfl
theorem gr_149 : gRt 149 = some .int := rfl
theorem gr_15 : gRt 15 = none := rfl
theorem gr_150 : gRt 150 = some .int := rfl
theorem gr_151 : gRt 151 = some .boolean := rfl
theorem gr_152 : gRt 152 = some .int := rfl
theorem gr_153 : gRt 153 = some .int := rfl
theorem gr_154 : gRt 154 = some .int := rfl
theorem gr_155 : gRt 155 = some .int := rfl
theorem gr_156 : gRt 156 = none := rfl
theorem gr_157 : gRt 157 = some .int := rfl
theorem gr_158 : gRt 158 = some .int := rfl
theorem gr_159 : gRt 159 = some .int := rfl
theorem gr_16 : gRt 16 = some .boolean := rfl
theorem gr_160 : gRt 160 = some .boolean := rfl
theorem gr_161 : gRt 161 = some .boolean := rfl
theorem gr_162 : gRt 162 = some .int := rfl
theorem gr_163 : gRt 163 = some .int := rfl
theorem gr_164 : gRt 164 = some .int := rfl
theorem gr_165 : gRt 165 = some .int := rfl
theorem gr_166 : gRt 166 = none := rfl
theorem gr_167 : gRt 167 = none := rfl
theorem gr_168 : gRt 168 = some .int := rfl
theorem gr_169 : gRt 169 = some .boolean := rfl
theorem gr_17 : gRt 17 = some .boolean := rfl
theorem gr_170 : gRt 170 = none := rfl
theorem gr_171 : gRt 171 = none := rfl
theorem gr_172 : gRt 172 = none := rfl
theorem gr_173 : gRt 173 = none := rfl
theorem gr_174 : gRt 174 = none := rfl
theorem gr_175 : gRt 175 = none := rfl
theorem gr_176 : gRt 176 = none := rfl
theorem gr_177 : gRt 177 = none := rfl
theorem gr_178 : gRt 178 = some .int := rfl
theorem gr_179 : gRt 179 = some .int := rfl
theorem gr_180 : gRt 180 = some .int := rfl
theorem gr_181 : gRt 181 = some .int := rfl
theorem gr_182 : gRt 182 = some .int := rfl
theorem gr_183 : gRt 183 = some .int := rfl
theorem gr_184 : gRt 184 = some .int := rfl
theorem gr_185 : gRt 185 = some .int := rfl
theorem gr_186 : gRt 186 = some .int := rfl
theorem gr_187 : gRt 187 = none := rfl
theorem gr_188 : gRt 188 = some .int := rfl
theorem gr_189 : gRt 189 = some .int := rfl
theorem gr_19 : gRt 19 = none := rfl
theorem gr_190 : gRt 190 = some .boolean := rfl
theorem gr_192 : gRt 192 = some .int := rfl
theorem gr_193 : gRt 193 = some .int := rfl
theorem gr_194 : gRt 194 = some .boolean := rfl
theorem gr_195 : gRt 195 = some .int := rfl
theorem gr_196 : gRt 196 = some .int := rfl
theorem gr_199 : gRt 199 = some .int := rfl
theorem gr_2 : gRt 2 = some .boolean := rfl
theorem gr_20 : gRt 20 = some .int := rfl
theorem gr_200 : gRt 200 = some .int := rfl
theorem gr_201 : gRt 201 = some .int := rfl
theorem gr_202 : gRt 202 = some .int := rfl
theorem gr_203 : gRt 203 = some .int := rfl
theorem gr_204 : gRt 204 = none := rfl
theorem gr_205 : gRt 205 = none := rfl
theorem gr_206 : gRt 206 = some .int := rfl
theorem gr_207 : gRt 207 = some .int := rfl
theorem gr_208 : gRt 208 = some .int := rfl
theorem gr_209 : gRt 209 = some .int := rfl
theorem gr_21 : gRt 21 = some .int := rfl
theorem gr_210 : gRt 210 = some .int := rfl
theorem gr_211 : gRt 211 = some .long := rfl
theorem gr_212 : gRt 212 = some .int := rfl
theorem gr_213 : gRt 213 = none := rfl
theorem gr_214 : gRt 214 = some .int := rfl
theorem gr_215 : gRt 215 = some .int := rfl
theorem gr_216 : gRt 216 = some .int := rfl
theorem gr_217 : gRt 217 = some .int := rfl
theorem gr_218 : gRt 218 = some .int := rfl
theorem gr_219 : gRt 219 = some .int := rfl
theorem gr_22 : gRt 22 = some .int := rfl
theorem gr_220 : gRt 220 = some .int := rfl
theorem gr_221 : gRt 221 = some .int := rfl
theorem gr_222 : gRt 222 = none := rfl
theorem gr_223 : gRt 223 = some .int := rfl
theorem gr_224 : gRt 224 = some .int := rfl
theorem gr_225 : gRt 225 = some .int := rfl
theorem gr_226 : gRt 226 = some .int := rfl
theorem gr_227 : gRt 227 = some .int := rfl
theorem gr_228 : gRt 228 = some .int := rfl
theorem gr_229 : gRt 229 = some .int := rfl
theorem gr_23 : gRt 23 = none := rfl
theorem gr_230 : gRt 230 = some .boolean := rfl
theorem gr_231 : gRt 231 = none := rfl
theorem gr_232 : gRt 232 = some .int := rfl
theorem gr_233 : gRt 233 = some .int := rfl
theorem gr_234 : gRt 234 = some .boolean := rfl
theorem gr_235 : gRt 235 = some .int := rfl
theorem gr_236 : gRt 236 = some .int := rfl
theorem gr_237 : gRt 237 = some .int := rfl
theorem gr_238 : gRt 238 = some .int := rfl
theorem gr_239 : gRt 239 = some .int := rfl
theorem gr_240 : gRt 240 = some .int := rfl
theorem gr_241 : gRt 241 = some .int := rfl
theorem gr_242 : gRt 242 = some .int := rfl
theorem gr_243 : gRt 243 = some .int := rfl
theorem gr_244 : gRt 244 = some .int := rfl
theorem gr_245 : gRt 245 = some .int := rfl
theorem gr_246 : gRt 246 = some .int := rfl
theorem gr_247 : gRt 247 = some .int := rfl
theorem gr_248 : gRt 248 = some .boolean := rfl
theorem gr_249 : gRt 249 = some .int := rfl
theorem gr_25 : gRt 25 = some .boolean := rfl
theorem gr_250 : gRt 250 = some .int := rfl
theorem gr_251 : gRt 251 = some .int := rfl
theorem gr_252 : gRt 252 = some .int := rfl
theorem gr_253 : gRt 253 = some .long := rfl
theorem gr_254 : gRt 254 = some .int := rfl
theorem gr_255 : gRt 255 = some .int := rfl
theorem gr_256 : gRt 256 = some .int := rfl
theorem gr_26 : gRt 26 = some .int := rfl
theorem gr_27 : gRt 27 = none := rfl
theorem gr_28 : gRt 28 = some .boolean := rfl
theorem gr_29 : gRt 29 = some .boolean := rfl
theorem gr_3 : gRt 3 = some .boolean := rfl
theorem gr_30 : gRt 30 = some .boolean := rfl
theorem gr_31 : gRt 31 = some .boolean := rfl
theorem gr_32 : gRt 32 = none := rfl
theorem gr_33 : gRt 33 = some .int := rfl
theorem gr_34 : gRt 34 = none := rfl
theorem gr_35 : gRt 35 = some .boolean := rfl
theorem gr_36 : gRt 36 = some .boolean := rfl
theorem gr_37 : gRt 37 = some .int := rfl
theorem gr_38 : gRt 38 = some .int := rfl
theorem gr_4 : gRt 4 = some .int := rfl
theorem gr_40 : gRt 40 = none := rfl
theorem gr_41 : gRt 41 = some .int := rfl
theorem gr_42 : gRt 42 = none := rfl
theorem gr_43 : gRt 43 = some .int := rfl
theorem gr_46 : gRt 46 = none := rfl
theorem gr_47 : gRt 47 = some .int := rfl
theorem gr_48 : gRt 48 = none := rfl
theorem gr_49 : gRt 49 = some .boolean := rfl
theorem gr_5 : gRt 5 = some .int := rfl
theorem gr_51 : gRt 51 = none := rfl
theorem gr_52 : gRt 52 = some .int := rfl
theorem gr_53 : gRt 53 = none := rfl
theorem gr_54 : gRt 54 = none := rfl
theorem gr_56 : gRt 56 = none := rfl
theorem gr_57 : gRt 57 = none := rfl
theorem gr_58 : gRt 58 = some .int := rfl
theorem gr_59 : gRt 59 = some .boolean := rfl
theorem gr_6 : gRt 6 = some .int := rfl
theorem gr_61 : gRt 61 = some .boolean := rfl
theorem gr_62 : gRt 62 = some .boolean := rfl
theorem gr_63 : gRt 63 = some .boolean := rfl
theorem gr_64 : gRt 64 = some .boolean := rfl
theorem gr_65 : gRt 65 = some .boolean := rfl
theorem gr_66 : gRt 66 = none := rfl
theorem gr_67 : gRt 67 = none := rfl
theorem gr_68 : gRt 68 = none := rfl
theorem gr_69 : gRt 69 = some .int := rfl
theorem gr_7 : gRt 7 = some .int := rfl
theorem gr_70 : gRt 70 = some .int := rfl
theorem gr_71 : gRt 71 = some .boolean := rfl
theorem gr_72 : gRt 72 = some .long := rfl
theorem gr_73 : gRt 73 = none := rfl
theorem gr_74 : gRt 74 = some .long := rfl
theorem gr_75 : gRt 75 = some .int := rfl
theorem gr_77 : gRt 77 = none := rfl
theorem gr_78 : gRt 78 = some .int := rfl
theorem gr_79 : gRt 79 = none := rfl
theorem gr_8 : gRt 8 = some .int := rfl
theorem gr_80 : gRt 80 = some .boolean := rfl
theorem gr_83 : gRt 83 = some .int := rfl
theorem gr_84 : gRt 84 = some .int := rfl
theorem gr_86 : gRt 86 = some .boolean := rfl
theorem gr_87 : gRt 87 = some .boolean := rfl
theorem gr_88 : gRt 88 = some .boolean := rfl
theorem gr_89 : gRt 89 = some .int := rfl
theorem gr_9 : gRt 9 = some .int := rfl
theorem gr_90 : gRt 90 = some .int := rfl
theorem gr_91 : gRt 91 = none := rfl
theorem gr_92 : gRt 92 = some .int := rfl
theorem gr_93 : gRt 93 = some .int := rfl
theorem gr_94 : gRt 94 = some .int := rfl
theorem gr_95 : gRt 95 = some .int := rfl
theorem gr_96 : gRt 96 = some .int := rfl
theorem gr_97 : gRt 97 = some .int := rfl
theorem gr_98 : gRt 98 = some .int := rfl
theorem gr_99 : gRt 99 = some .int := rfl
theorem go_14 : gOwn 14 = 1 := rfl
theorem gc_14_RIIII {r0 : Nat} {x1 : Int} {x2 : Int} {x3 : Int} {x4 : Int} : (gLay [.ref r0, zi x1, zi x2, zi x3, zi x4]).length ≤ gMx 14 ∧ gEn 14 [.ref r0, zi x1, zi x2, zi x3, zi x4] = [some (.ref r0), some (zi x1), some (zi x2), some (zi x3), some (zi x4)] := ⟨Nat.le_of_ble_eq_true rfl, rfl⟩
theorem go_15 : gOwn 15 = 1 := rfl
theorem gc_15_R {r0 : Nat} : (gLay [.ref r0]).length ≤ gMx 15 ∧ gEn 15 [.ref r0] = [some (.ref r0)] := ⟨Nat.le_of_ble_eq_true rfl, rfl⟩
theorem go_151 : gOwn 151 = 11 := rfl
theorem gc_151_RI {r0 : Nat} {x1 : Int} : (gLay [.ref r0, zi x1]).length ≤ gMx 151 ∧ gEn 151 [.ref r0, zi x1] = [some (.ref r0), some (zi x1)] := ⟨Nat.le_of_ble_eq_true rfl, rfl⟩
theorem go_152 : gOwn 152 = 11 := rfl
theorem gc_152_RIII {r0 : Nat} {x1 : Int} {x2 : Int} {x3 : Int} : (gLay [.ref r0, zi x1, zi x2, zi x3]).length ≤ gMx 152 ∧ gEn 152 [.ref r0, zi x1, zi x2, zi x3] = [some (.ref r0), some (zi x1), some (zi x2), some (zi x3)] := ⟨Nat.le_of_ble_eq_true rfl, rfl⟩
theorem go_156 : gOwn 156 = 11 := rfl
theorem gc_156_RIII {r0 : Nat} {x1 : Int} {x2 : Int} {x3 : Int} : (gLay [.ref r0, zi x1, zi x2, zi x3]).length ≤ gMx 156 ∧ gEn 156 [.ref r0, zi x1, zi x2, zi x3] = [some (.ref r0), some (zi x1), some (zi x2), some (zi x3)] := ⟨Nat.le_of_ble_eq_true rfl, rfl⟩
theorem go_16 : gOwn 16 = 1 := rfl
theorem gc_16_R {r0 : Nat} : (gLay [.ref r0]).length ≤ gMx 16 ∧ gEn 16 [.ref r0] = [some (.ref r0)] := ⟨Nat.le_of_ble_eq_true rfl, rfl⟩
theorem go_166 : gOwn 166 = 11 := rfl
theorem gc_166_R {r0 : Nat} : (gLay [.ref r0]).length ≤ gMx 166 ∧ gEn 166 [.ref r0] = [some (.ref r0)] := ⟨Nat.le_of_ble_eq_true rfl, rfl⟩
theorem go_169 : gOwn 169 = 11 := rfl
theorem gc_169_R {r0 : Nat} : (gLay [.ref r0]).length ≤ gMx 169 ∧ gEn 169 [.ref r0] = [some (.ref r0)] := ⟨Nat.le_of_ble_eq_true rfl, rfl⟩
theorem go_17 : gOwn 17 = 1 := rfl
theorem gc_17_R {r0 : Nat} : (gLay [.ref r0]).length ≤ gMx 17 ∧ gEn 17 [.ref r0] = [some (.ref r0)] := ⟨Nat.le_of_ble_eq_true rfl, rfl⟩
theorem go_19 : gOwn 19 = 2 := rfl
theorem gc_19_RII {r0 : Nat} {x1 : Int} {x2 : Int} : (gLay [.ref r0, zi x1, zi x2]).length ≤ gMx 19 ∧ gEn 19 [.ref r0, zi x1, zi x2] = [some (.ref r0), some (zi x1), some (zi x2)] := ⟨Nat.le_of_ble_eq_true rfl, rfl⟩
theorem go_190 : gOwn 190 = 11 := rfl
theorem gc_190_RII {r0 : Nat} {x1 : Int} {x2 : Int} : (gLay [.ref r0, zi x1, zi x2]).length ≤ gMx 190 ∧ gEn 190 [.ref r0, zi x1, zi x2] = [some (.ref r0), some (zi x1), some (zi x2)] := ⟨Nat.le_of_ble_eq_true rfl, rfl⟩
theorem go_192 : gOwn 192 = 11 := rfl
theorem gc_192_RI {r0 : Nat} {x1 : Int} : (gLay [.ref r0, zi x1]).length ≤ gMx 192 ∧ gEn 192 [.ref r0, zi x1] = [some (.ref r0), some (zi x1)] := ⟨Nat.le_of_ble_eq_true rfl, rfl⟩
theorem go_193 : gOwn 193 = 11 := rfl
theorem gc_193_RII {r0 : Nat} {x1 : Int} {x2 : Int} : (gLay [.ref r0, zi x1, zi x2]).length ≤ gMx 193 ∧ gEn 193 [.ref r0, zi x1, zi x2] = [some (.ref r0), some (zi x1), some (zi x2)] := ⟨Nat.le_of_ble_eq_true rfl, rfl⟩
theorem go_211 : gOwn 211 = 11 := rfl
theorem gc_211_RII {r0 : Nat} {x1 : Int} {x2 : Int} : (gLay [.ref r0, zi x1, zi x2]).length ≤ gMx 211 ∧ gEn 211 [.ref r0, zi x1, zi x2] = [some (.ref r0), some (zi x1), some (zi x2)] := ⟨Nat.le_of_ble_eq_true rfl, rfl⟩
theorem go_23 : gOwn 23 = 2 := rfl
theorem gc_23_RR {r0 : Nat} {r1 : Nat} : (gLay [.ref r0, .ref r1]).length ≤ gMx 23 ∧ gEn 23 [.ref r0, .ref r1] = [some (.ref r0), some (.ref r1)] := ⟨Nat.le_of_ble_eq_true rfl, rfl⟩
theorem go_230 : gOwn 230 = 11 := rfl
theorem gc_230_RI {r0 : Nat} {x1 : Int} : (gLay [.ref r0, zi x1]).length ≤ gMx 230 ∧ gEn 230 [.ref r0, zi x1] = [some (.ref r0), some (zi x1)] := ⟨Nat.le_of_ble_eq_true rfl, rfl⟩
theorem go_235 : gOwn 235 = 11 := rfl
theorem gc_235_RII {r0 : Nat} {x1 : Int} {x2 : Int} : (gLay [.ref r0, zi x1, zi x2]).length ≤ gMx 235 ∧ gEn 235 [.ref r0, zi x1, zi x2] = [some (.ref r0), some (zi x1), some (zi x2)] := ⟨Nat.le_of_ble_eq_true rfl, rfl⟩
theorem go_236 : gOwn 236 = 11 := rfl
theorem gc_236_RII {r0 : Nat} {x1 : Int} {x2 : Int} : (gLay [.ref r0, zi x1, zi x2]).length ≤ gMx 236 ∧ gEn 236 [.ref r0, zi x1, zi x2] = [some (.ref r0), some (zi x1), some (zi x2)] := ⟨Nat.le_of_ble_eq_true rfl, rfl⟩
theorem go_237 : gOwn 237 = 11 := rfl
theorem gc_237_RII {r0 : Nat} {x1 : Int} {x2 : Int} : (gLay [.ref r0, zi x1, zi x2]).length ≤ gMx 237 ∧ gEn 237 [.ref r0, zi x1, zi x2] = [some (.ref r0), some (zi x1), some (zi x2)] := ⟨Nat.le_of_ble_eq_true rfl, rfl⟩
theorem go_238 : gOwn 238 = 11 := rfl
theorem gc_238_RII {r0 : Nat} {x1 : Int} {x2 : Int} : (gLay [.ref r0, zi x1, zi x2]).length ≤ gMx 238 ∧ gEn 238 [.ref r0, zi x1, zi x2] = [some (.ref r0), some (zi x1), some (zi x2)] := ⟨Nat.le_of_ble_eq_true rfl, rfl⟩
theorem go_239 : gOwn 239 = 11 := rfl
theorem gc_239_RII {r0 : Nat} {x1 : Int} {x2 : Int} : (gLay [.ref r0, zi x1, zi x2]).length ≤ gMx 239 ∧ gEn 239 [.ref r0, zi x1, zi x2] = [some (.ref r0), some (zi x1), some (zi x2)] := ⟨Nat.le_of_ble_eq_true rfl, rfl⟩
theorem go_241 : gOwn 241 = 11 := rfl
theorem gc_241_RII {r0 : Nat} {x1 : Int} {x2 : Int} : (gLay [.ref r0, zi x1, zi x2]).length ≤ gMx 241 ∧ gEn 241 [.ref r0, zi x1, zi x2] = [some (.ref r0), some (zi x1), some (zi x2)] := ⟨Nat.le_of_ble_eq_true rfl, rfl⟩
theorem go_242 : gOwn 242 = 11 := rfl
theorem gc_242_RII {r0 : Nat} {x1 : Int} {x2 : Int} : (gLay [.ref r0, zi x1, zi x2]).length ≤ gMx 242 ∧ gEn 242 [.ref r0, zi x1, zi x2] = [some (.ref r0), some (zi x1), some (zi x2)] := ⟨Nat.le_of_ble_eq_true rfl, rfl⟩
theorem go_245 : gOwn 245 = 11 := rfl
theorem gc_245_RII {r0 : Nat} {x1 : Int} {x2 : Int} : (gLay [.ref r0, zi x1, zi x2]).length ≤ gMx 245 ∧ gEn 245 [.ref r0, zi x1, zi x2] = [some (.ref r0), some (zi x1), some (zi x2)] := ⟨Nat.le_of_ble_eq_true rfl, rfl⟩
theorem go_25 : gOwn 25 = 3 := rfl
theorem gc_25_RI {r0 : Nat} {x1 : Int} : (gLay [.ref r0, zi x1]).length ≤ gMx 25 ∧ gEn 25 [.ref r0, zi x1] = [some (.ref r0), some (zi x1)] := ⟨Nat.le_of_ble_eq_true rfl, rfl⟩
theorem go_251 : gOwn 251 = 11 := rfl
theorem gc_251_RII {r0 : Nat} {x1 : Int} {x2 : Int} : (gLay [.ref r0, zi x1, zi x2]).length ≤ gMx 251 ∧ gEn 251 [.ref r0, zi x1, zi x2] = [some (.ref r0), some (zi x1), some (zi x2)] := ⟨Nat.le_of_ble_eq_true rfl, rfl⟩
theorem go_3 : gOwn 3 = 0 := rfl
theorem gc_3_RI {r0 : Nat} {x1 : Int} : (gLay [.ref r0, zi x1]).length ≤ gMx 3 ∧ gEn 3 [.ref r0, zi x1] = [some (.ref r0), some (zi x1)] := ⟨Nat.le_of_ble_eq_true rfl, rfl⟩
theorem go_4 : gOwn 4 = 0 := rfl
theorem gc_4_RI {r0 : Nat} {x1 : Int} : (gLay [.ref r0, zi x1]).length ≤ gMx 4 ∧ gEn 4 [.ref r0, zi x1] = [some (.ref r0), some (zi x1)] := ⟨Nat.le_of_ble_eq_true rfl, rfl⟩
theorem go_46 : gOwn 46 = 4 := rfl
theorem gc_46_R {r0 : Nat} : (gLay [.ref r0]).length ≤ gMx 46 ∧ gEn 46 [.ref r0] = [some (.ref r0)] := ⟨Nat.le_of_ble_eq_true rfl, rfl⟩
theorem go_5 : gOwn 5 = 0 := rfl
theorem gc_5_RI {r0 : Nat} {x1 : Int} : (gLay [.ref r0, zi x1]).length ≤ gMx 5 ∧ gEn 5 [.ref r0, zi x1] = [some (.ref r0), some (zi x1)] := ⟨Nat.le_of_ble_eq_true rfl, rfl⟩
theorem go_51 : gOwn 51 = 5 := rfl
theorem gc_51_RII {r0 : Nat} {x1 : Int} {x2 : Int} : (gLay [.ref r0, zi x1, zi x2]).length ≤ gMx 51 ∧ gEn 51 [.ref r0, zi x1, zi x2] = [some (.ref r0), some (zi x1), some (zi x2)] := ⟨Nat.le_of_ble_eq_true rfl, rfl⟩
theorem go_52 : gOwn 52 = 5 := rfl
theorem gc_52_RI {r0 : Nat} {x1 : Int} : (gLay [.ref r0, zi x1]).length ≤ gMx 52 ∧ gEn 52 [.ref r0, zi x1] = [some (.ref r0), some (zi x1)] := ⟨Nat.le_of_ble_eq_true rfl, rfl⟩
theorem go_54 : gOwn 54 = 5 := rfl
theorem gc_54_RI {r0 : Nat} {x1 : Int} : (gLay [.ref r0, zi x1]).length ≤ gMx 54 ∧ gEn 54 [.ref r0, zi x1] = [some (.ref r0), some (zi x1)] := ⟨Nat.le_of_ble_eq_true rfl, rfl⟩
theorem go_6 : gOwn 6 = 0 := rfl
theorem gc_6_RI {r0 : Nat} {x1 : Int} : (gLay [.ref r0, zi x1]).length ≤ gMx 6 ∧ gEn 6 [.ref r0, zi x1] = [some (.ref r0), some (zi x1)] := ⟨Nat.le_of_ble_eq_true rfl, rfl⟩
theorem go_66 : gOwn 66 = 7 := rfl
theorem gc_66_R {r0 : Nat} : (gLay [.ref r0]).length ≤ gMx 66 ∧ gEn 66 [.ref r0] = [some (.ref r0)] := ⟨Nat.le_of_ble_eq_true rfl, rfl⟩
theorem go_67 : gOwn 67 = 7 := rfl
theorem gc_67_RI {r0 : Nat} {x1 : Int} : (gLay [.ref r0, zi x1]).length ≤ gMx 67 ∧ gEn 67 [.ref r0, zi x1] = [some (.ref r0), some (zi x1)] := ⟨Nat.le_of_ble_eq_true rfl, rfl⟩
theorem go_7 : gOwn 7 = 0 := rfl
theorem gc_7_RIII {r0 : Nat} {x1 : Int} {x2 : Int} {x3 : Int} : (gLay [.ref r0, zi x1, zi x2, zi x3]).length ≤ gMx 7 ∧ gEn 7 [.ref r0, zi x1, zi x2, zi x3] = [some (.ref r0), some (zi x1), some (zi x2), some (zi x3)] := ⟨Nat.le_of_ble_eq_true rfl, rfl⟩
theorem go_70 : gOwn 70 = 7 := rfl
theorem gc_70_RI {r0 : Nat} {x1 : Int} : (gLay [.ref r0, zi x1]).length ≤ gMx 70 ∧ gEn 70 [.ref r0, zi x1] = [some (.ref r0), some (zi x1)] := ⟨Nat.le_of_ble_eq_true rfl, rfl⟩
theorem go_72 : gOwn 72 = 7 := rfl
theorem gc_72_RI {r0 : Nat} {x1 : Int} : (gLay [.ref r0, zi x1]).length ≤ gMx 72 ∧ gEn 72 [.ref r0, zi x1] = [some (.ref r0), some (zi x1)] := ⟨Nat.le_of_ble_eq_true rfl, rfl⟩
theorem go_77 : gOwn 77 = 8 := rfl
theorem gc_77_RI {r0 : Nat} {x1 : Int} : (gLay [.ref r0, zi x1]).length ≤ gMx 77 ∧ gEn 77 [.ref r0, zi x1] = [some (.ref r0), some (zi x1)] := ⟨Nat.le_of_ble_eq_true rfl, rfl⟩
theorem go_8 : gOwn 8 = 0 := rfl
theorem gc_8_RIII {r0 : Nat} {x1 : Int} {x2 : Int} {x3 : Int} : (gLay [.ref r0, zi x1, zi x2, zi x3]).length ≤ gMx 8 ∧ gEn 8 [.ref r0, zi x1, zi x2, zi x3] = [some (.ref r0), some (zi x1), some (zi x2), some (zi x3)] := ⟨Nat.le_of_ble_eq_true rfl, rfl⟩
theorem go_87 : gOwn 87 = 9 := rfl
theorem gc_87_RI {r0 : Nat} {x1 : Int} : (gLay [.ref r0, zi x1]).length ≤ gMx 87 ∧ gEn 87 [.ref r0, zi x1] = [some (.ref r0), some (zi x1)] := ⟨Nat.le_of_ble_eq_true rfl, rfl⟩
theorem go_89 : gOwn 89 = 9 := rfl
theorem gc_89_RII {r0 : Nat} {x1 : Int} {x2 : Int} : (gLay [.ref r0, zi x1, zi x2]).length ≤ gMx 89 ∧ gEn 89 [.ref r0, zi x1, zi x2] = [some (.ref r0), some (zi x1), some (zi x2)] := ⟨Nat.le_of_ble_eq_true rfl, rfl⟩
theorem gc_1_I {x0 : Int} : (gLay [zi x0]).length ≤ gMx 1 ∧ gEn 1 [zi x0] = [some (zi x0)] := ⟨Nat.le_of_ble_eq_true rfl, rfl⟩
theorem gc_143_I {x0 : Int} : (gLay [zi x0]).length ≤ gMx 143 ∧ gEn 143 [zi x0] = [some (zi x0)] := ⟨Nat.le_of_ble_eq_true rfl, rfl⟩
theorem gc_144_I {x0 : Int} : (gLay [zi x0]).length ≤ gMx 144 ∧ gEn 144 [zi x0] = [some (zi x0)] := ⟨Nat.le_of_ble_eq_true rfl, rfl⟩
theorem gc_145_I {x0 : Int} : (gLay [zi x0]).length ≤ gMx 145 ∧ gEn 145 [zi x0] = [some (zi x0)] := ⟨Nat.le_of_ble_eq_true rfl, rfl⟩
theorem gc_146_I {x0 : Int} : (gLay [zi x0]).length ≤ gMx 146 ∧ gEn 146 [zi x0] = [some (zi x0)] := ⟨Nat.le_of_ble_eq_true rfl, rfl⟩
theorem gc_148_III {x0 : Int} {x1 : Int} {x2 : Int} : (gLay [zi x0, zi x1, zi x2]).length ≤ gMx 148 ∧ gEn 148 [zi x0, zi x1, zi x2] = [some (zi x0), some (zi x1), some (zi x2)] := ⟨Nat.le_of_ble_eq_true rfl, rfl⟩
theorem gc_248_I {x0 : Int} : (gLay [zi x0]).length ≤ gMx 248 ∧ gEn 248 [zi x0] = [some (zi x0)] := ⟨Nat.le_of_ble_eq_true rfl, rfl⟩
theorem gc_61_I {x0 : Int} : (gLay [zi x0]).length ≤ gMx 61 ∧ gEn 61 [zi x0] = [some (zi x0)] := ⟨Nat.le_of_ble_eq_true rfl, rfl⟩
theorem gc_86_II {x0 : Int} {x1 : Int} : (gLay [zi x0, zi x1]).length ≤ gMx 86 ∧ gEn 86 [zi x0, zi x1] = [some (zi x0), some (zi x1)] := ⟨Nat.le_of_ble_eq_true rfl, rfl⟩
theorem z_pushJ {X : Nat × (Nat → Int32)} {d k pc nx : Nat} {ls : List (Option Value)} {st : List Value} {J M : zA} {R : zR} {P : zP} {z : Int} (h0 : gF k pc = some (0, nx, 0, 0, Int32.ofInt z, 0)) (kk : zW X d k nx (ls) (zi z :: st) J M R P) : zW X d k pc (ls) (st) J M R P := w_pushI h0 kk
theorem z_bret0 {X : Nat × (Nat → Int32)} {d k pc nx : Nat} {ls : List (Option Value)} {J M : zA} {R : zR} {P : zP} (h0 : gF k pc = some (79, nx, 0, 0, 0, 0)) (h1 : gRt k = some .boolean) (hP : P (some (zi 0)) J M R) : zW X d k pc ls [zi 0] J M R P := z_bret h0 h1 (Or.inl rfl) hP
theorem z_bret1 {X : Nat × (Nat → Int32)} {d k pc nx : Nat} {ls : List (Option Value)} {J M : zA} {R : zR} {P : zP} (h0 : gF k pc = some (79, nx, 0, 0, 0, 0)) (h1 : gRt k = some .boolean) (hP : P (some (zi 1)) J M R) : zW X d k pc ls [zi 1] J M R P := z_bret h0 h1 (Or.inr rfl) hP
theorem z_cV0 {X : Nat × (Nat → Int32)} {d k pc nx : Nat} {ls : List (Option Value)} {st : List Value} {J M : zA} {R : zR} {P : zP} {y b n0 c : Nat} {le : List (Option Value)} (h0 : gF k pc = some (73, nx, y, 0, 0, 0)) (hk : (gK 87)[b]? = some (c, n0)) (ho : gOwn y = c) (hc : (st.map fun v => v.category).sum ≤ 8) (hg : (gLay [.ref b]).length ≤ gMx y ∧ gEn y [.ref b] = le) (kk : zW X d y 0 (le) ([]) J M R (fun r J2 M2 R2 => zW X (d + 1) k nx (ls) (r.toList ++ st) J2 M2 R2 P)) : zW X (d + 1) k pc (ls) (.ref b :: st) J M R P := z_callVi (As := []) h0 rfl (by rw [ho]; exact hk) hc hg.1 hg.2 kk
theorem z_cS0 {X : Nat × (Nat → Int32)} {d k pc nx : Nat} {ls : List (Option Value)} {st : List Value} {J M : zA} {R : zR} {P : zP} {y : Nat} {le : List (Option Value)} (h0 : gF k pc = some (74, nx, y, 0, 0, 0)) (hc : (st.map fun v => v.category).sum ≤ 8) (hg : (gLay []).length ≤ gMx y ∧ gEn y [] = le) (kk : zW X d y 0 (le) ([]) J M R (fun r J2 M2 R2 => zW X (d + 1) k nx (ls) (r.toList ++ st) J2 M2 R2 P)) : zW X (d + 1) k pc (ls) (st) J M R P := z_callSi (As := []) h0 rfl hc hg.1 hg.2 kk
theorem z_cV1 {X : Nat × (Nat → Int32)} {d k pc nx : Nat} {ls : List (Option Value)} {st : List Value} {J M : zA} {R : zR} {P : zP} {y b n0 c : Nat} {a0 : Value} {le : List (Option Value)} (h0 : gF k pc = some (73, nx, y, 1, 0, 0)) (hk : (gK 87)[b]? = some (c, n0)) (ho : gOwn y = c) (hc : (st.map fun v => v.category).sum ≤ 8) (hg : (gLay [.ref b, a0]).length ≤ gMx y ∧ gEn y [.ref b, a0] = le) (kk : zW X d y 0 (le) ([]) J M R (fun r J2 M2 R2 => zW X (d + 1) k nx (ls) (r.toList ++ st) J2 M2 R2 P)) : zW X (d + 1) k pc (ls) (a0 :: .ref b :: st) J M R P := z_callVi (As := [a0]) h0 rfl (by rw [ho]; exact hk) hc hg.1 hg.2 kk
theorem z_cS1 {X : Nat × (Nat → Int32)} {d k pc nx : Nat} {ls : List (Option Value)} {st : List Value} {J M : zA} {R : zR} {P : zP} {y : Nat} {a0 : Value} {le : List (Option Value)} (h0 : gF k pc = some (74, nx, y, 1, 0, 0)) (hc : (st.map fun v => v.category).sum ≤ 8) (hg : (gLay [a0]).length ≤ gMx y ∧ gEn y [a0] = le) (kk : zW X d y 0 (le) ([]) J M R (fun r J2 M2 R2 => zW X (d + 1) k nx (ls) (r.toList ++ st) J2 M2 R2 P)) : zW X (d + 1) k pc (ls) (a0 :: st) J M R P := z_callSi (As := [a0]) h0 rfl hc hg.1 hg.2 kk
theorem z_cV2 {X : Nat × (Nat → Int32)} {d k pc nx : Nat} {ls : List (Option Value)} {st : List Value} {J M : zA} {R : zR} {P : zP} {y b n0 c : Nat} {a0 a1 : Value} {le : List (Option Value)} (h0 : gF k pc = some (73, nx, y, 2, 0, 0)) (hk : (gK 87)[b]? = some (c, n0)) (ho : gOwn y = c) (hc : (st.map fun v => v.category).sum ≤ 8) (hg : (gLay [.ref b, a0, a1]).length ≤ gMx y ∧ gEn y [.ref b, a0, a1] = le) (kk : zW X d y 0 (le) ([]) J M R (fun r J2 M2 R2 => zW X (d + 1) k nx (ls) (r.toList ++ st) J2 M2 R2 P)) : zW X (d + 1) k pc (ls) (a1 :: a0 :: .ref b :: st) J M R P := z_callVi (As := [a0, a1]) h0 rfl (by rw [ho]; exact hk) hc hg.1 hg.2 kk
theorem z_cS2 {X : Nat × (Nat → Int32)} {d k pc nx : Nat} {ls : List (Option Value)} {st : List Value} {J M : zA} {R : zR} {P : zP} {y : Nat} {a0 a1 : Value} {le : List (Option Value)} (h0 : gF k pc = some (74, nx, y, 2, 0, 0)) (hc : (st.map fun v => v.category).sum ≤ 8) (hg : (gLay [a0, a1]).length ≤ gMx y ∧ gEn y [a0, a1] = le) (kk : zW X d y 0 (le) ([]) J M R (fun r J2 M2 R2 => zW X (d + 1) k nx (ls) (r.toList ++ st) J2 M2 R2 P)) : zW X (d + 1) k pc (ls) (a1 :: a0 :: st) J M R P := z_callSi (As := [a0, a1]) h0 rfl hc hg.1 hg.2 kk
theorem z_cV3 {X : Nat × (Nat → Int32)} {d k pc nx : Nat} {ls : List (Option Value)} {st : List Value} {J M : zA} {R : zR} {P : zP} {y b n0 c : Nat} {a0 a1 a2 : Value} {le : List (Option Value)} (h0 : gF k pc = some (73, nx, y, 3, 0, 0)) (hk : (gK 87)[b]? = some (c, n0)) (ho : gOwn y = c) (hc : (st.map fun v => v.category).sum ≤ 8) (hg : (gLay [.ref b, a0, a1, a2]).length ≤ gMx y ∧ gEn y [.ref b, a0, a1, a2] = le) (kk : zW X d y 0 (le) ([]) J M R (fun r J2 M2 R2 => zW X (d + 1) k nx (ls) (r.toList ++ st) J2 M2 R2 P)) : zW X (d + 1) k pc (ls) (a2 :: a1 :: a0 :: .ref b :: st) J M R P := z_callVi (As := [a0, a1, a2]) h0 rfl (by rw [ho]; exact hk) hc hg.1 hg.2 kk
theorem z_cS3 {X : Nat × (Nat → Int32)} {d k pc nx : Nat} {ls : List (Option Value)} {st : List Value} {J M : zA} {R : zR} {P : zP} {y : Nat} {a0 a1 a2 : Value} {le : List (Option Value)} (h0 : gF k pc = some (74, nx, y, 3, 0, 0)) (hc : (st.map fun v => v.category).sum ≤ 8) (hg : (gLay [a0, a1, a2]).length ≤ gMx y ∧ gEn y [a0, a1, a2] = le) (kk : zW X d y 0 (le) ([]) J M R (fun r J2 M2 R2 => zW X (d + 1) k nx (ls) (r.toList ++ st) J2 M2 R2 P)) : zW X (d + 1) k pc (ls) (a2 :: a1 :: a0 :: st) J M R P := z_callSi (As := [a0, a1, a2]) h0 rfl hc hg.1 hg.2 kk
theorem z_cV4 {X : Nat × (Nat → Int32)} {d k pc nx : Nat} {ls : List (Option Value)} {st : List Value} {J M : zA} {R : zR} {P : zP} {y b n0 c : Nat} {a0 a1 a2 a3 : Value} {le : List (Option Value)} (h0 : gF k pc = some (73, nx, y, 4, 0, 0)) (hk : (gK 87)[b]? = some (c, n0)) (ho : gOwn y = c) (hc : (st.map fun v => v.category).sum ≤ 8) (hg : (gLay [.ref b, a0, a1, a2, a3]).length ≤ gMx y ∧ gEn y [.ref b, a0, a1, a2, a3] = le) (kk : zW X d y 0 (le) ([]) J M R (fun r J2 M2 R2 => zW X (d + 1) k nx (ls) (r.toList ++ st) J2 M2 R2 P)) : zW X (d + 1) k pc (ls) (a3 :: a2 :: a1 :: a0 :: .ref b :: st) J M R P := z_callVi (As := [a0, a1, a2, a3]) h0 rfl (by rw [ho]; exact hk) hc hg.1 hg.2 kk
theorem z_cS4 {X : Nat × (Nat → Int32)} {d k pc nx : Nat} {ls : List (Option Value)} {st : List Value} {J M : zA} {R : zR} {P : zP} {y : Nat} {a0 a1 a2 a3 : Value} {le : List (Option Value)} (h0 : gF k pc = some (74, nx, y, 4, 0, 0)) (hc : (st.map fun v => v.category).sum ≤ 8) (hg : (gLay [a0, a1, a2, a3]).length ≤ gMx y ∧ gEn y [a0, a1, a2, a3] = le) (kk : zW X d y 0 (le) ([]) J M R (fun r J2 M2 R2 => zW X (d + 1) k nx (ls) (r.toList ++ st) J2 M2 R2 P)) : zW X (d + 1) k pc (ls) (a3 :: a2 :: a1 :: a0 :: st) J M R P := z_callSi (As := [a0, a1, a2, a3]) h0 rfl hc hg.1 hg.2 kk
theorem z_cV5 {X : Nat × (Nat → Int32)} {d k pc nx : Nat} {ls : List (Option Value)} {st : List Value} {J M : zA} {R : zR} {P : zP} {y b n0 c : Nat} {a0 a1 a2 a3 a4 : Value} {le : List (Option Value)} (h0 : gF k pc = some (73, nx, y, 5, 0, 0)) (hk : (gK 87)[b]? = some (c, n0)) (ho : gOwn y = c) (hc : (st.map fun v => v.category).sum ≤ 8) (hg : (gLay [.ref b, a0, a1, a2, a3, a4]).length ≤ gMx y ∧ gEn y [.ref b, a0, a1, a2, a3, a4] = le) (kk : zW X d y 0 (le) ([]) J M R (fun r J2 M2 R2 => zW X (d + 1) k nx (ls) (r.toList ++ st) J2 M2 R2 P)) : zW X (d + 1) k pc (ls) (a4 :: a3 :: a2 :: a1 :: a0 :: .ref b :: st) J M R P := z_callVi (As := [a0, a1, a2, a3, a4]) h0 rfl (by rw [ho]; exact hk) hc hg.1 hg.2 kk
theorem z_cS5 {X : Nat × (Nat → Int32)} {d k pc nx : Nat} {ls : List (Option Value)} {st : List Value} {J M : zA} {R : zR} {P : zP} {y : Nat} {a0 a1 a2 a3 a4 : Value} {le : List (Option Value)} (h0 : gF k pc = some (74, nx, y, 5, 0, 0)) (hc : (st.map fun v => v.category).sum ≤ 8) (hg : (gLay [a0, a1, a2, a3, a4]).length ≤ gMx y ∧ gEn y [a0, a1, a2, a3, a4] = le) (kk : zW X d y 0 (le) ([]) J M R (fun r J2 M2 R2 => zW X (d + 1) k nx (ls) (r.toList ++ st) J2 M2 R2 P)) : zW X (d + 1) k pc (ls) (a4 :: a3 :: a2 :: a1 :: a0 :: st) J M R P := z_callSi (As := [a0, a1, a2, a3, a4]) h0 rfl hc hg.1 hg.2 kk
theorem z_cV6 {X : Nat × (Nat → Int32)} {d k pc nx : Nat} {ls : List (Option Value)} {st : List Value} {J M : zA} {R : zR} {P : zP} {y b n0 c : Nat} {a0 a1 a2 a3 a4 a5 : Value} {le : List (Option Value)} (h0 : gF k pc = some (73, nx, y, 6, 0, 0)) (hk : (gK 87)[b]? = some (c, n0)) (ho : gOwn y = c) (hc : (st.map fun v => v.category).sum ≤ 8) (hg : (gLay [.ref b, a0, a1, a2, a3, a4, a5]).length ≤ gMx y ∧ gEn y [.ref b, a0, a1, a2, a3, a4, a5] = le) (kk : zW X d y 0 (le) ([]) J M R (fun r J2 M2 R2 => zW X (d + 1) k nx (ls) (r.toList ++ st) J2 M2 R2 P)) : zW X (d + 1) k pc (ls) (a5 :: a4 :: a3 :: a2 :: a1 :: a0 :: .ref b :: st) J M R P := z_callVi (As := [a0, a1, a2, a3, a4, a5]) h0 rfl (by rw [ho]; exact hk) hc hg.1 hg.2 kk
theorem z_cS6 {X : Nat × (Nat → Int32)} {d k pc nx : Nat} {ls : List (Option Value)} {st : List Value} {J M : zA} {R : zR} {P : zP} {y : Nat} {a0 a1 a2 a3 a4 a5 : Value} {le : List (Option Value)} (h0 : gF k pc = some (74, nx, y, 6, 0, 0)) (hc : (st.map fun v => v.category).sum ≤ 8) (hg : (gLay [a0, a1, a2, a3, a4, a5]).length ≤ gMx y ∧ gEn y [a0, a1, a2, a3, a4, a5] = le) (kk : zW X d y 0 (le) ([]) J M R (fun r J2 M2 R2 => zW X (d + 1) k nx (ls) (r.toList ++ st) J2 M2 R2 P)) : zW X (d + 1) k pc (ls) (a5 :: a4 :: a3 :: a2 :: a1 :: a0 :: st) J M R P := z_callSi (As := [a0, a1, a2, a3, a4, a5]) h0 rfl hc hg.1 hg.2 kk
theorem gk_0 : (gK 87)[0]? = some (10, 0) := rfl
theorem gk_1 : (gK 87)[1]? = some (3, 0) := rfl
theorem gk_2 : (gK 87)[2]? = some (12, 120) := rfl
theorem gk_3 : (gK 87)[3]? = some (12, 121) := rfl
theorem gk_4 : (gK 87)[4]? = some (12, 121) := rfl
theorem gk_5 : (gK 87)[5]? = some (12, 121) := rfl
theorem gk_6 : (gK 87)[6]? = some (12, 121) := rfl
theorem gk_7 : (gK 87)[7]? = some (12, 121) := rfl
theorem gk_8 : (gK 87)[8]? = some (9, 0) := rfl
theorem gk_9 : (gK 87)[9]? = some (12, 54) := rfl
theorem gk_10 : (gK 87)[10]? = some (8, 0) := rfl
theorem gk_11 : (gK 87)[11]? = some (12, 8) := rfl
theorem gk_12 : (gK 87)[12]? = some (12, 8) := rfl
theorem gk_13 : (gK 87)[13]? = some (12, 30) := rfl
theorem gk_14 : (gK 87)[14]? = some (12, 30) := rfl
theorem gk_15 : (gK 87)[15]? = some (12, 30) := rfl
theorem gk_16 : (gK 87)[16]? = some (12, 30) := rfl
theorem gk_17 : (gK 87)[17]? = some (12, 30) := rfl
theorem gk_18 : (gK 87)[18]? = some (5, 0) := rfl
theorem gk_19 : (gK 87)[19]? = some (12, 6) := rfl
theorem gk_20 : (gK 87)[20]? = some (12, 6) := rfl
theorem gk_21 : (gK 87)[21]? = some (4, 0) := rfl
theorem gk_22 : (gK 87)[22]? = some (6, 0) := rfl
theorem gk_23 : (gK 87)[23]? = some (2, 0) := rfl
theorem gk_24 : (gK 87)[24]? = some (12, 8) := rfl
theorem gk_25 : (gK 87)[25]? = some (12, 8) := rfl
theorem gk_26 : (gK 87)[26]? = some (2, 0) := rfl
theorem gk_27 : (gK 87)[27]? = some (12, 8) := rfl
theorem gk_28 : (gK 87)[28]? = some (12, 8) := rfl
theorem gk_29 : (gK 87)[29]? = some (1, 0) := rfl
theorem gk_30 : (gK 87)[30]? = some (12, 40) := rfl
theorem gk_31 : (gK 87)[31]? = some (12, 40) := rfl
theorem gk_32 : (gK 87)[32]? = some (12, 40) := rfl
theorem gk_33 : (gK 87)[33]? = some (12, 40) := rfl
theorem gk_34 : (gK 87)[34]? = some (0, 0) := rfl
theorem gk_35 : (gK 87)[35]? = some (12, 50) := rfl
theorem gk_36 : (gK 87)[36]? = some (12, 24) := rfl
theorem gk_37 : (gK 87)[37]? = some (16, 6) := rfl
theorem gk_38 : (gK 87)[38]? = some (7, 0) := rfl
theorem gk_39 : (gK 87)[39]? = some (13, 60) := rfl
theorem gk_40 : (gK 87)[40]? = some (7, 0) := rfl
theorem gk_41 : (gK 87)[41]? = some (13, 60) := rfl
theorem gk_42 : (gK 87)[42]? = some (7, 0) := rfl
theorem gk_43 : (gK 87)[43]? = some (13, 60) := rfl
theorem gk_44 : (gK 87)[44]? = some (7, 0) := rfl
theorem gk_45 : (gK 87)[45]? = some (13, 60) := rfl
theorem gk_46 : (gK 87)[46]? = some (7, 0) := rfl
theorem gk_47 : (gK 87)[47]? = some (13, 60) := rfl
theorem gk_48 : (gK 87)[48]? = some (7, 0) := rfl
theorem gk_49 : (gK 87)[49]? = some (13, 60) := rfl
theorem gk_50 : (gK 87)[50]? = some (11, 0) := rfl
theorem gk_51 : (gK 87)[51]? = some (12, 8) := rfl
theorem gk_52 : (gK 87)[52]? = some (12, 8) := rfl
theorem gk_53 : (gK 87)[53]? = some (12, 8) := rfl
theorem gk_54 : (gK 87)[54]? = some (12, 8) := rfl
theorem gk_55 : (gK 87)[55]? = some (12, 8) := rfl
theorem gk_56 : (gK 87)[56]? = some (12, 9) := rfl
theorem gk_57 : (gK 87)[57]? = some (12, 40) := rfl
theorem gk_58 : (gK 87)[58]? = some (12, 40) := rfl
theorem gk_59 : (gK 87)[59]? = some (12, 40) := rfl
theorem gk_60 : (gK 87)[60]? = some (12, 40) := rfl
theorem gk_61 : (gK 87)[61]? = some (14, 120) := rfl
theorem gk_62 : (gK 87)[62]? = some (14, 260) := rfl
theorem gk_63 : (gK 87)[63]? = some (12, 260) := rfl
theorem gk_64 : (gK 87)[64]? = some (12, 2) := rfl
theorem gk_65 : (gK 87)[65]? = some (15, 122) := rfl
theorem gk_66 : (gK 87)[66]? = some (15, 122) := rfl
theorem gk_67 : (gK 87)[67]? = some (12, 6) := rfl
theorem gk_68 : (gK 87)[68]? = some (12, 130) := rfl
theorem gk_69 : (gK 87)[69]? = some (12, 8) := rfl
theorem gk_70 : (gK 87)[70]? = some (12, 8) := rfl
theorem gk_71 : (gK 87)[71]? = some (12, 8) := rfl
theorem gk_72 : (gK 87)[72]? = some (12, 8) := rfl
theorem gk_73 : (gK 87)[73]? = some (13, 21) := rfl
theorem gk_74 : (gK 87)[74]? = some (13, 21) := rfl
theorem gk_75 : (gK 87)[75]? = some (12, 8) := rfl
theorem gk_76 : (gK 87)[76]? = some (12, 8) := rfl
theorem gk_77 : (gK 87)[77]? = some (12, 4) := rfl
theorem gk_78 : (gK 87)[78]? = some (12, 8) := rfl
theorem gk_79 : (gK 87)[79]? = some (12, 8) := rfl
theorem gk_80 : (gK 87)[80]? = some (12, 4) := rfl
theorem gk_81 : (gK 87)[81]? = some (12, 50) := rfl
theorem gk_82 : (gK 87)[82]? = some (12, 24) := rfl
theorem gk_83 : (gK 87)[83]? = some (12, 6) := rfl
theorem gk_84 : (gK 87)[84]? = some (12, 6) := rfl
theorem gk_85 : (gK 87)[85]? = some (13, 360) := rfl
theorem gk_86 : (gK 87)[86]? = some (13, 60) := rfl
theorem zrn_20 : -2147483648 ≤ ((-20) : Int) ∧ ((-20) : Int) < 2147483648 := by decide
theorem zrn_19 : -2147483648 ≤ ((-19) : Int) ∧ ((-19) : Int) < 2147483648 := by decide
theorem zrn_18 : -2147483648 ≤ ((-18) : Int) ∧ ((-18) : Int) < 2147483648 := by decide
theorem zrn_17 : -2147483648 ≤ ((-17) : Int) ∧ ((-17) : Int) < 2147483648 := by decide
theorem zrn_16 : -2147483648 ≤ ((-16) : Int) ∧ ((-16) : Int) < 2147483648 := by decide
theorem zrn_15 : -2147483648 ≤ ((-15) : Int) ∧ ((-15) : Int) < 2147483648 := by decide
theorem zrn_14 : -2147483648 ≤ ((-14) : Int) ∧ ((-14) : Int) < 2147483648 := by decide
theorem zrn_13 : -2147483648 ≤ ((-13) : Int) ∧ ((-13) : Int) < 2147483648 := by decide
theorem zrn_12 : -2147483648 ≤ ((-12) : Int) ∧ ((-12) : Int) < 2147483648 := by decide
theorem zrn_11 : -2147483648 ≤ ((-11) : Int) ∧ ((-11) : Int) < 2147483648 := by decide
theorem zrn_10 : -2147483648 ≤ ((-10) : Int) ∧ ((-10) : Int) < 2147483648 := by decide
theorem zrn_9 : -2147483648 ≤ ((-9) : Int) ∧ ((-9) : Int) < 2147483648 := by decide
theorem zrn_8 : -2147483648 ≤ ((-8) : Int) ∧ ((-8) : Int) < 2147483648 := by decide
theorem zrn_7 : -2147483648 ≤ ((-7) : Int) ∧ ((-7) : Int) < 2147483648 := by decide
theorem zrn_6 : -2147483648 ≤ ((-6) : Int) ∧ ((-6) : Int) < 2147483648 := by decide
theorem zrn_5 : -2147483648 ≤ ((-5) : Int) ∧ ((-5) : Int) < 2147483648 := by decide
theorem zrn_4 : -2147483648 ≤ ((-4) : Int) ∧ ((-4) : Int) < 2147483648 := by decide
theorem zrn_3 : -2147483648 ≤ ((-3) : Int) ∧ ((-3) : Int) < 2147483648 := by decide
theorem zrn_2 : -2147483648 ≤ ((-2) : Int) ∧ ((-2) : Int) < 2147483648 := by decide
theorem zrn_1 : -2147483648 ≤ ((-1) : Int) ∧ ((-1) : Int) < 2147483648 := by decide
theorem zr_0 : -2147483648 ≤ (0 : Int) ∧ (0 : Int) < 2147483648 := by decide
theorem zr_1 : -2147483648 ≤ (1 : Int) ∧ (1 : Int) < 2147483648 := by decide
theorem zr_2 : -2147483648 ≤ (2 : Int) ∧ (2 : Int) < 2147483648 := by decide
theorem zr_3 : -2147483648 ≤ (3 : Int) ∧ (3 : Int) < 2147483648 := by decide
theorem zr_4 : -2147483648 ≤ (4 : Int) ∧ (4 : Int) < 2147483648 := by decide
theorem zr_5 : -2147483648 ≤ (5 : Int) ∧ (5 : Int) < 2147483648 := by decide
theorem zr_6 : -2147483648 ≤ (6 : Int) ∧ (6 : Int) < 2147483648 := by decide
theorem zr_7 : -2147483648 ≤ (7 : Int) ∧ (7 : Int) < 2147483648 := by decide
theorem zr_8 : -2147483648 ≤ (8 : Int) ∧ (8 : Int) < 2147483648 := by decide
theorem zr_9 : -2147483648 ≤ (9 : Int) ∧ (9 : Int) < 2147483648 := by decide
theorem zr_10 : -2147483648 ≤ (10 : Int) ∧ (10 : Int) < 2147483648 := by decide
theorem zr_11 : -2147483648 ≤ (11 : Int) ∧ (11 : Int) < 2147483648 := by decide
theorem zr_12 : -2147483648 ≤ (12 : Int) ∧ (12 : Int) < 2147483648 := by decide
theorem zr_13 : -2147483648 ≤ (13 : Int) ∧ (13 : Int) < 2147483648 := by decide
theorem zr_14 : -2147483648 ≤ (14 : Int) ∧ (14 : Int) < 2147483648 := by decide
theorem zr_15 : -2147483648 ≤ (15 : Int) ∧ (15 : Int) < 2147483648 := by decide
theorem zr_16 : -2147483648 ≤ (16 : Int) ∧ (16 : Int) < 2147483648 := by decide
theorem zr_17 : -2147483648 ≤ (17 : Int) ∧ (17 : Int) < 2147483648 := by decide
theorem zr_18 : -2147483648 ≤ (18 : Int) ∧ (18 : Int) < 2147483648 := by decide
theorem zr_19 : -2147483648 ≤ (19 : Int) ∧ (19 : Int) < 2147483648 := by decide
theorem zr_20 : -2147483648 ≤ (20 : Int) ∧ (20 : Int) < 2147483648 := by decide
theorem zr_21 : -2147483648 ≤ (21 : Int) ∧ (21 : Int) < 2147483648 := by decide
theorem zr_22 : -2147483648 ≤ (22 : Int) ∧ (22 : Int) < 2147483648 := by decide
theorem zr_23 : -2147483648 ≤ (23 : Int) ∧ (23 : Int) < 2147483648 := by decide
theorem zr_24 : -2147483648 ≤ (24 : Int) ∧ (24 : Int) < 2147483648 := by decide
theorem zr_25 : -2147483648 ≤ (25 : Int) ∧ (25 : Int) < 2147483648 := by decide
theorem zr_26 : -2147483648 ≤ (26 : Int) ∧ (26 : Int) < 2147483648 := by decide
theorem zr_27 : -2147483648 ≤ (27 : Int) ∧ (27 : Int) < 2147483648 := by decide
theorem zr_28 : -2147483648 ≤ (28 : Int) ∧ (28 : Int) < 2147483648 := by decide
theorem zr_29 : -2147483648 ≤ (29 : Int) ∧ (29 : Int) < 2147483648 := by decide
theorem zr_30 : -2147483648 ≤ (30 : Int) ∧ (30 : Int) < 2147483648 := by decide
theorem zr_31 : -2147483648 ≤ (31 : Int) ∧ (31 : Int) < 2147483648 := by decide
theorem zr_32 : -2147483648 ≤ (32 : Int) ∧ (32 : Int) < 2147483648 := by decide
theorem zr_33 : -2147483648 ≤ (33 : Int) ∧ (33 : Int) < 2147483648 := by decide
theorem zr_34 : -2147483648 ≤ (34 : Int) ∧ (34 : Int) < 2147483648 := by decide
theorem zr_35 : -2147483648 ≤ (35 : Int) ∧ (35 : Int) < 2147483648 := by decide
theorem zr_36 : -2147483648 ≤ (36 : Int) ∧ (36 : Int) < 2147483648 := by decide
theorem zr_37 : -2147483648 ≤ (37 : Int) ∧ (37 : Int) < 2147483648 := by decide
theorem zr_38 : -2147483648 ≤ (38 : Int) ∧ (38 : Int) < 2147483648 := by decide
theorem zr_39 : -2147483648 ≤ (39 : Int) ∧ (39 : Int) < 2147483648 := by decide
theorem zr_40 : -2147483648 ≤ (40 : Int) ∧ (40 : Int) < 2147483648 := by decide
theorem zr_41 : -2147483648 ≤ (41 : Int) ∧ (41 : Int) < 2147483648 := by decide
theorem zr_42 : -2147483648 ≤ (42 : Int) ∧ (42 : Int) < 2147483648 := by decide
theorem zr_43 : -2147483648 ≤ (43 : Int) ∧ (43 : Int) < 2147483648 := by decide
theorem zr_44 : -2147483648 ≤ (44 : Int) ∧ (44 : Int) < 2147483648 := by decide
theorem zr_45 : -2147483648 ≤ (45 : Int) ∧ (45 : Int) < 2147483648 := by decide
theorem zr_46 : -2147483648 ≤ (46 : Int) ∧ (46 : Int) < 2147483648 := by decide
theorem zr_47 : -2147483648 ≤ (47 : Int) ∧ (47 : Int) < 2147483648 := by decide
theorem zr_48 : -2147483648 ≤ (48 : Int) ∧ (48 : Int) < 2147483648 := by decide
theorem zr_49 : -2147483648 ≤ (49 : Int) ∧ (49 : Int) < 2147483648 := by decide
theorem zr_50 : -2147483648 ≤ (50 : Int) ∧ (50 : Int) < 2147483648 := by decide
theorem zr_51 : -2147483648 ≤ (51 : Int) ∧ (51 : Int) < 2147483648 := by decide
theorem zr_52 : -2147483648 ≤ (52 : Int) ∧ (52 : Int) < 2147483648 := by decide
theorem zr_53 : -2147483648 ≤ (53 : Int) ∧ (53 : Int) < 2147483648 := by decide
theorem zr_54 : -2147483648 ≤ (54 : Int) ∧ (54 : Int) < 2147483648 := by decide
theorem zr_55 : -2147483648 ≤ (55 : Int) ∧ (55 : Int) < 2147483648 := by decide
theorem zr_56 : -2147483648 ≤ (56 : Int) ∧ (56 : Int) < 2147483648 := by decide
theorem zr_57 : -2147483648 ≤ (57 : Int) ∧ (57 : Int) < 2147483648 := by decide
theorem zr_58 : -2147483648 ≤ (58 : Int) ∧ (58 : Int) < 2147483648 := by decide
theorem zr_59 : -2147483648 ≤ (59 : Int) ∧ (59 : Int) < 2147483648 := by decide
theorem zr_60 : -2147483648 ≤ (60 : Int) ∧ (60 : Int) < 2147483648 := by decide
theorem zr_61 : -2147483648 ≤ (61 : Int) ∧ (61 : Int) < 2147483648 := by decide
theorem zr_62 : -2147483648 ≤ (62 : Int) ∧ (62 : Int) < 2147483648 := by decide
theorem zr_63 : -2147483648 ≤ (63 : Int) ∧ (63 : Int) < 2147483648 := by decide
theorem zr_64 : -2147483648 ≤ (64 : Int) ∧ (64 : Int) < 2147483648 := by decide
theorem zr_65 : -2147483648 ≤ (65 : Int) ∧ (65 : Int) < 2147483648 := by decide
theorem zr_66 : -2147483648 ≤ (66 : Int) ∧ (66 : Int) < 2147483648 := by decide
theorem zr_67 : -2147483648 ≤ (67 : Int) ∧ (67 : Int) < 2147483648 := by decide
theorem zr_68 : -2147483648 ≤ (68 : Int) ∧ (68 : Int) < 2147483648 := by decide
theorem zr_69 : -2147483648 ≤ (69 : Int) ∧ (69 : Int) < 2147483648 := by decide
theorem zr_70 : -2147483648 ≤ (70 : Int) ∧ (70 : Int) < 2147483648 := by decide
theorem zr_71 : -2147483648 ≤ (71 : Int) ∧ (71 : Int) < 2147483648 := by decide
theorem zr_72 : -2147483648 ≤ (72 : Int) ∧ (72 : Int) < 2147483648 := by decide
theorem zr_73 : -2147483648 ≤ (73 : Int) ∧ (73 : Int) < 2147483648 := by decide
theorem zr_74 : -2147483648 ≤ (74 : Int) ∧ (74 : Int) < 2147483648 := by decide
theorem zr_75 : -2147483648 ≤ (75 : Int) ∧ (75 : Int) < 2147483648 := by decide
theorem zr_76 : -2147483648 ≤ (76 : Int) ∧ (76 : Int) < 2147483648 := by decide
theorem zr_77 : -2147483648 ≤ (77 : Int) ∧ (77 : Int) < 2147483648 := by decide
theorem zr_78 : -2147483648 ≤ (78 : Int) ∧ (78 : Int) < 2147483648 := by decide
theorem zr_79 : -2147483648 ≤ (79 : Int) ∧ (79 : Int) < 2147483648 := by decide
theorem zr_80 : -2147483648 ≤ (80 : Int) ∧ (80 : Int) < 2147483648 := by decide
theorem zr_81 : -2147483648 ≤ (81 : Int) ∧ (81 : Int) < 2147483648 := by decide
theorem zr_82 : -2147483648 ≤ (82 : Int) ∧ (82 : Int) < 2147483648 := by decide
theorem zr_83 : -2147483648 ≤ (83 : Int) ∧ (83 : Int) < 2147483648 := by decide
theorem zr_84 : -2147483648 ≤ (84 : Int) ∧ (84 : Int) < 2147483648 := by decide
theorem zr_85 : -2147483648 ≤ (85 : Int) ∧ (85 : Int) < 2147483648 := by decide
theorem zr_86 : -2147483648 ≤ (86 : Int) ∧ (86 : Int) < 2147483648 := by decide
theorem zr_87 : -2147483648 ≤ (87 : Int) ∧ (87 : Int) < 2147483648 := by decide
theorem zr_88 : -2147483648 ≤ (88 : Int) ∧ (88 : Int) < 2147483648 := by decide
theorem zr_89 : -2147483648 ≤ (89 : Int) ∧ (89 : Int) < 2147483648 := by decide
theorem zr_90 : -2147483648 ≤ (90 : Int) ∧ (90 : Int) < 2147483648 := by decide
theorem zr_91 : -2147483648 ≤ (91 : Int) ∧ (91 : Int) < 2147483648 := by decide
theorem zr_92 : -2147483648 ≤ (92 : Int) ∧ (92 : Int) < 2147483648 := by decide
theorem zr_93 : -2147483648 ≤ (93 : Int) ∧ (93 : Int) < 2147483648 := by decide
theorem zr_94 : -2147483648 ≤ (94 : Int) ∧ (94 : Int) < 2147483648 := by decide
theorem zr_95 : -2147483648 ≤ (95 : Int) ∧ (95 : Int) < 2147483648 := by decide
theorem zr_96 : -2147483648 ≤ (96 : Int) ∧ (96 : Int) < 2147483648 := by decide
theorem zr_97 : -2147483648 ≤ (97 : Int) ∧ (97 : Int) < 2147483648 := by decide
theorem zr_98 : -2147483648 ≤ (98 : Int) ∧ (98 : Int) < 2147483648 := by decide
theorem zr_99 : -2147483648 ≤ (99 : Int) ∧ (99 : Int) < 2147483648 := by decide
theorem zr_100 : -2147483648 ≤ (100 : Int) ∧ (100 : Int) < 2147483648 := by decide
theorem zr_101 : -2147483648 ≤ (101 : Int) ∧ (101 : Int) < 2147483648 := by decide
theorem zr_102 : -2147483648 ≤ (102 : Int) ∧ (102 : Int) < 2147483648 := by decide
theorem zr_103 : -2147483648 ≤ (103 : Int) ∧ (103 : Int) < 2147483648 := by decide
theorem zr_104 : -2147483648 ≤ (104 : Int) ∧ (104 : Int) < 2147483648 := by decide
theorem zr_105 : -2147483648 ≤ (105 : Int) ∧ (105 : Int) < 2147483648 := by decide
theorem zr_106 : -2147483648 ≤ (106 : Int) ∧ (106 : Int) < 2147483648 := by decide
theorem zr_107 : -2147483648 ≤ (107 : Int) ∧ (107 : Int) < 2147483648 := by decide
theorem zr_108 : -2147483648 ≤ (108 : Int) ∧ (108 : Int) < 2147483648 := by decide
theorem zr_109 : -2147483648 ≤ (109 : Int) ∧ (109 : Int) < 2147483648 := by decide
theorem zr_110 : -2147483648 ≤ (110 : Int) ∧ (110 : Int) < 2147483648 := by decide
theorem zr_111 : -2147483648 ≤ (111 : Int) ∧ (111 : Int) < 2147483648 := by decide
theorem zr_112 : -2147483648 ≤ (112 : Int) ∧ (112 : Int) < 2147483648 := by decide
theorem zr_113 : -2147483648 ≤ (113 : Int) ∧ (113 : Int) < 2147483648 := by decide
theorem zr_114 : -2147483648 ≤ (114 : Int) ∧ (114 : Int) < 2147483648 := by decide
theorem zr_115 : -2147483648 ≤ (115 : Int) ∧ (115 : Int) < 2147483648 := by decide
theorem zr_116 : -2147483648 ≤ (116 : Int) ∧ (116 : Int) < 2147483648 := by decide
theorem zr_117 : -2147483648 ≤ (117 : Int) ∧ (117 : Int) < 2147483648 := by decide
theorem zr_118 : -2147483648 ≤ (118 : Int) ∧ (118 : Int) < 2147483648 := by decide
theorem zr_119 : -2147483648 ≤ (119 : Int) ∧ (119 : Int) < 2147483648 := by decide
theorem zr_120 : -2147483648 ≤ (120 : Int) ∧ (120 : Int) < 2147483648 := by decide
theorem zr_121 : -2147483648 ≤ (121 : Int) ∧ (121 : Int) < 2147483648 := by decide
theorem zr_122 : -2147483648 ≤ (122 : Int) ∧ (122 : Int) < 2147483648 := by decide
theorem zr_123 : -2147483648 ≤ (123 : Int) ∧ (123 : Int) < 2147483648 := by decide
theorem zr_124 : -2147483648 ≤ (124 : Int) ∧ (124 : Int) < 2147483648 := by decide
theorem zr_125 : -2147483648 ≤ (125 : Int) ∧ (125 : Int) < 2147483648 := by decide
theorem zr_126 : -2147483648 ≤ (126 : Int) ∧ (126 : Int) < 2147483648 := by decide
theorem zr_127 : -2147483648 ≤ (127 : Int) ∧ (127 : Int) < 2147483648 := by decide
theorem zr_128 : -2147483648 ≤ (128 : Int) ∧ (128 : Int) < 2147483648 := by decide
theorem zr_129 : -2147483648 ≤ (129 : Int) ∧ (129 : Int) < 2147483648 := by decide
theorem zr_130 : -2147483648 ≤ (130 : Int) ∧ (130 : Int) < 2147483648 := by decide
theorem zr_131 : -2147483648 ≤ (131 : Int) ∧ (131 : Int) < 2147483648 := by decide
theorem zr_132 : -2147483648 ≤ (132 : Int) ∧ (132 : Int) < 2147483648 := by decide
theorem zr_133 : -2147483648 ≤ (133 : Int) ∧ (133 : Int) < 2147483648 := by decide
theorem zr_134 : -2147483648 ≤ (134 : Int) ∧ (134 : Int) < 2147483648 := by decide
theorem zr_135 : -2147483648 ≤ (135 : Int) ∧ (135 : Int) < 2147483648 := by decide
theorem zr_136 : -2147483648 ≤ (136 : Int) ∧ (136 : Int) < 2147483648 := by decide
theorem zr_137 : -2147483648 ≤ (137 : Int) ∧ (137 : Int) < 2147483648 := by decide
theorem zr_138 : -2147483648 ≤ (138 : Int) ∧ (138 : Int) < 2147483648 := by decide
theorem zr_139 : -2147483648 ≤ (139 : Int) ∧ (139 : Int) < 2147483648 := by decide
theorem zr_140 : -2147483648 ≤ (140 : Int) ∧ (140 : Int) < 2147483648 := by decide
theorem zr_141 : -2147483648 ≤ (141 : Int) ∧ (141 : Int) < 2147483648 := by decide
theorem zr_142 : -2147483648 ≤ (142 : Int) ∧ (142 : Int) < 2147483648 := by decide
theorem zr_143 : -2147483648 ≤ (143 : Int) ∧ (143 : Int) < 2147483648 := by decide
theorem zr_144 : -2147483648 ≤ (144 : Int) ∧ (144 : Int) < 2147483648 := by decide
theorem zr_145 : -2147483648 ≤ (145 : Int) ∧ (145 : Int) < 2147483648 := by decide
theorem zr_146 : -2147483648 ≤ (146 : Int) ∧ (146 : Int) < 2147483648 := by decide
theorem zr_147 : -2147483648 ≤ (147 : Int) ∧ (147 : Int) < 2147483648 := by decide
theorem zr_148 : -2147483648 ≤ (148 : Int) ∧ (148 : Int) < 2147483648 := by decide
theorem zr_149 : -2147483648 ≤ (149 : Int) ∧ (149 : Int) < 2147483648 := by decide
theorem zr_150 : -2147483648 ≤ (150 : Int) ∧ (150 : Int) < 2147483648 := by decide
theorem zr_151 : -2147483648 ≤ (151 : Int) ∧ (151 : Int) < 2147483648 := by decide
theorem zr_152 : -2147483648 ≤ (152 : Int) ∧ (152 : Int) < 2147483648 := by decide
theorem zr_153 : -2147483648 ≤ (153 : Int) ∧ (153 : Int) < 2147483648 := by decide
theorem zr_154 : -2147483648 ≤ (154 : Int) ∧ (154 : Int) < 2147483648 := by decide
theorem zr_155 : -2147483648 ≤ (155 : Int) ∧ (155 : Int) < 2147483648 := by decide
theorem zr_156 : -2147483648 ≤ (156 : Int) ∧ (156 : Int) < 2147483648 := by decide
theorem zr_157 : -2147483648 ≤ (157 : Int) ∧ (157 : Int) < 2147483648 := by decide
theorem zr_158 : -2147483648 ≤ (158 : Int) ∧ (158 : Int) < 2147483648 := by decide
theorem zr_159 : -2147483648 ≤ (159 : Int) ∧ (159 : Int) < 2147483648 := by decide
theorem zr_160 : -2147483648 ≤ (160 : Int) ∧ (160 : Int) < 2147483648 := by decide
theorem zr_161 : -2147483648 ≤ (161 : Int) ∧ (161 : Int) < 2147483648 := by decide
theorem zr_162 : -2147483648 ≤ (162 : Int) ∧ (162 : Int) < 2147483648 := by decide
theorem zr_163 : -2147483648 ≤ (163 : Int) ∧ (163 : Int) < 2147483648 := by decide
theorem zr_164 : -2147483648 ≤ (164 : Int) ∧ (164 : Int) < 2147483648 := by decide
theorem zr_165 : -2147483648 ≤ (165 : Int) ∧ (165 : Int) < 2147483648 := by decide
theorem zr_166 : -2147483648 ≤ (166 : Int) ∧ (166 : Int) < 2147483648 := by decide
theorem zr_167 : -2147483648 ≤ (167 : Int) ∧ (167 : Int) < 2147483648 := by decide
theorem zr_168 : -2147483648 ≤ (168 : Int) ∧ (168 : Int) < 2147483648 := by decide
theorem zr_169 : -2147483648 ≤ (169 : Int) ∧ (169 : Int) < 2147483648 := by decide
theorem zr_170 : -2147483648 ≤ (170 : Int) ∧ (170 : Int) < 2147483648 := by decide
theorem zr_171 : -2147483648 ≤ (171 : Int) ∧ (171 : Int) < 2147483648 := by decide
theorem zr_172 : -2147483648 ≤ (172 : Int) ∧ (172 : Int) < 2147483648 := by decide
theorem zr_173 : -2147483648 ≤ (173 : Int) ∧ (173 : Int) < 2147483648 := by decide
theorem zr_174 : -2147483648 ≤ (174 : Int) ∧ (174 : Int) < 2147483648 := by decide
theorem zr_175 : -2147483648 ≤ (175 : Int) ∧ (175 : Int) < 2147483648 := by decide
theorem zr_176 : -2147483648 ≤ (176 : Int) ∧ (176 : Int) < 2147483648 := by decide
theorem zr_177 : -2147483648 ≤ (177 : Int) ∧ (177 : Int) < 2147483648 := by decide
theorem zr_178 : -2147483648 ≤ (178 : Int) ∧ (178 : Int) < 2147483648 := by decide
theorem zr_179 : -2147483648 ≤ (179 : Int) ∧ (179 : Int) < 2147483648 := by decide
theorem zr_180 : -2147483648 ≤ (180 : Int) ∧ (180 : Int) < 2147483648 := by decide
theorem zr_181 : -2147483648 ≤ (181 : Int) ∧ (181 : Int) < 2147483648 := by decide
theorem zr_182 : -2147483648 ≤ (182 : Int) ∧ (182 : Int) < 2147483648 := by decide
theorem zr_183 : -2147483648 ≤ (183 : Int) ∧ (183 : Int) < 2147483648 := by decide
theorem zr_184 : -2147483648 ≤ (184 : Int) ∧ (184 : Int) < 2147483648 := by decide
theorem zr_185 : -2147483648 ≤ (185 : Int) ∧ (185 : Int) < 2147483648 := by decide
theorem zr_186 : -2147483648 ≤ (186 : Int) ∧ (186 : Int) < 2147483648 := by decide
theorem zr_187 : -2147483648 ≤ (187 : Int) ∧ (187 : Int) < 2147483648 := by decide
theorem zr_188 : -2147483648 ≤ (188 : Int) ∧ (188 : Int) < 2147483648 := by decide
theorem zr_189 : -2147483648 ≤ (189 : Int) ∧ (189 : Int) < 2147483648 := by decide
theorem zr_190 : -2147483648 ≤ (190 : Int) ∧ (190 : Int) < 2147483648 := by decide
theorem zr_191 : -2147483648 ≤ (191 : Int) ∧ (191 : Int) < 2147483648 := by decide
theorem zr_192 : -2147483648 ≤ (192 : Int) ∧ (192 : Int) < 2147483648 := by decide
theorem zr_193 : -2147483648 ≤ (193 : Int) ∧ (193 : Int) < 2147483648 := by decide
theorem zr_194 : -2147483648 ≤ (194 : Int) ∧ (194 : Int) < 2147483648 := by decide
theorem zr_195 : -2147483648 ≤ (195 : Int) ∧ (195 : Int) < 2147483648 := by decide
theorem zr_196 : -2147483648 ≤ (196 : Int) ∧ (196 : Int) < 2147483648 := by decide
theorem zr_197 : -2147483648 ≤ (197 : Int) ∧ (197 : Int) < 2147483648 := by decide
theorem zr_198 : -2147483648 ≤ (198 : Int) ∧ (198 : Int) < 2147483648 := by decide
theorem zr_199 : -2147483648 ≤ (199 : Int) ∧ (199 : Int) < 2147483648 := by decide
theorem zr_200 : -2147483648 ≤ (200 : Int) ∧ (200 : Int) < 2147483648 := by decide
theorem zr_201 : -2147483648 ≤ (201 : Int) ∧ (201 : Int) < 2147483648 := by decide
theorem zr_202 : -2147483648 ≤ (202 : Int) ∧ (202 : Int) < 2147483648 := by decide
theorem zr_203 : -2147483648 ≤ (203 : Int) ∧ (203 : Int) < 2147483648 := by decide
theorem zr_204 : -2147483648 ≤ (204 : Int) ∧ (204 : Int) < 2147483648 := by decide
theorem zr_205 : -2147483648 ≤ (205 : Int) ∧ (205 : Int) < 2147483648 := by decide
theorem zr_206 : -2147483648 ≤ (206 : Int) ∧ (206 : Int) < 2147483648 := by decide
theorem zr_207 : -2147483648 ≤ (207 : Int) ∧ (207 : Int) < 2147483648 := by decide
theorem zr_208 : -2147483648 ≤ (208 : Int) ∧ (208 : Int) < 2147483648 := by decide
theorem zr_209 : -2147483648 ≤ (209 : Int) ∧ (209 : Int) < 2147483648 := by decide
theorem zr_210 : -2147483648 ≤ (210 : Int) ∧ (210 : Int) < 2147483648 := by decide
theorem zr_211 : -2147483648 ≤ (211 : Int) ∧ (211 : Int) < 2147483648 := by decide
theorem zr_212 : -2147483648 ≤ (212 : Int) ∧ (212 : Int) < 2147483648 := by decide
theorem zr_213 : -2147483648 ≤ (213 : Int) ∧ (213 : Int) < 2147483648 := by decide
theorem zr_214 : -2147483648 ≤ (214 : Int) ∧ (214 : Int) < 2147483648 := by decide
theorem zr_215 : -2147483648 ≤ (215 : Int) ∧ (215 : Int) < 2147483648 := by decide
theorem zr_216 : -2147483648 ≤ (216 : Int) ∧ (216 : Int) < 2147483648 := by decide
theorem zr_217 : -2147483648 ≤ (217 : Int) ∧ (217 : Int) < 2147483648 := by decide
theorem zr_218 : -2147483648 ≤ (218 : Int) ∧ (218 : Int) < 2147483648 := by decide
theorem zr_219 : -2147483648 ≤ (219 : Int) ∧ (219 : Int) < 2147483648 := by decide
theorem zr_220 : -2147483648 ≤ (220 : Int) ∧ (220 : Int) < 2147483648 := by decide
theorem zr_221 : -2147483648 ≤ (221 : Int) ∧ (221 : Int) < 2147483648 := by decide
theorem zr_222 : -2147483648 ≤ (222 : Int) ∧ (222 : Int) < 2147483648 := by decide
theorem zr_223 : -2147483648 ≤ (223 : Int) ∧ (223 : Int) < 2147483648 := by decide
theorem zr_224 : -2147483648 ≤ (224 : Int) ∧ (224 : Int) < 2147483648 := by decide
theorem zr_225 : -2147483648 ≤ (225 : Int) ∧ (225 : Int) < 2147483648 := by decide
theorem zr_226 : -2147483648 ≤ (226 : Int) ∧ (226 : Int) < 2147483648 := by decide
theorem zr_227 : -2147483648 ≤ (227 : Int) ∧ (227 : Int) < 2147483648 := by decide
theorem zr_228 : -2147483648 ≤ (228 : Int) ∧ (228 : Int) < 2147483648 := by decide
theorem zr_229 : -2147483648 ≤ (229 : Int) ∧ (229 : Int) < 2147483648 := by decide
theorem zr_230 : -2147483648 ≤ (230 : Int) ∧ (230 : Int) < 2147483648 := by decide
theorem zr_231 : -2147483648 ≤ (231 : Int) ∧ (231 : Int) < 2147483648 := by decide
theorem zr_232 : -2147483648 ≤ (232 : Int) ∧ (232 : Int) < 2147483648 := by decide
theorem zr_233 : -2147483648 ≤ (233 : Int) ∧ (233 : Int) < 2147483648 := by decide
theorem zr_234 : -2147483648 ≤ (234 : Int) ∧ (234 : Int) < 2147483648 := by decide
theorem zr_235 : -2147483648 ≤ (235 : Int) ∧ (235 : Int) < 2147483648 := by decide
theorem zr_236 : -2147483648 ≤ (236 : Int) ∧ (236 : Int) < 2147483648 := by decide
theorem zr_237 : -2147483648 ≤ (237 : Int) ∧ (237 : Int) < 2147483648 := by decide
theorem zr_238 : -2147483648 ≤ (238 : Int) ∧ (238 : Int) < 2147483648 := by decide
theorem zr_239 : -2147483648 ≤ (239 : Int) ∧ (239 : Int) < 2147483648 := by decide
theorem zr_240 : -2147483648 ≤ (240 : Int) ∧ (240 : Int) < 2147483648 := by decide
theorem zr_241 : -2147483648 ≤ (241 : Int) ∧ (241 : Int) < 2147483648 := by decide
theorem zr_242 : -2147483648 ≤ (242 : Int) ∧ (242 : Int) < 2147483648 := by decide
theorem zr_243 : -2147483648 ≤ (243 : Int) ∧ (243 : Int) < 2147483648 := by decide
theorem zr_244 : -2147483648 ≤ (244 : Int) ∧ (244 : Int) < 2147483648 := by decide
theorem zr_245 : -2147483648 ≤ (245 : Int) ∧ (245 : Int) < 2147483648 := by decide
theorem zr_246 : -2147483648 ≤ (246 : Int) ∧ (246 : Int) < 2147483648 := by decide
theorem zr_247 : -2147483648 ≤ (247 : Int) ∧ (247 : Int) < 2147483648 := by decide
theorem zr_248 : -2147483648 ≤ (248 : Int) ∧ (248 : Int) < 2147483648 := by decide
theorem zr_249 : -2147483648 ≤ (249 : Int) ∧ (249 : Int) < 2147483648 := by decide
theorem zr_250 : -2147483648 ≤ (250 : Int) ∧ (250 : Int) < 2147483648 := by decide
theorem zr_251 : -2147483648 ≤ (251 : Int) ∧ (251 : Int) < 2147483648 := by decide
theorem zr_252 : -2147483648 ≤ (252 : Int) ∧ (252 : Int) < 2147483648 := by decide
theorem zr_253 : -2147483648 ≤ (253 : Int) ∧ (253 : Int) < 2147483648 := by decide
theorem zr_254 : -2147483648 ≤ (254 : Int) ∧ (254 : Int) < 2147483648 := by decide
theorem zr_255 : -2147483648 ≤ (255 : Int) ∧ (255 : Int) < 2147483648 := by decide
theorem z_iload0 {X : Nat × (Nat → Int32)} {d k pc nx : Nat} {t : List (Option Value)} {st : List Value} {J M : zA} {R : zR} {P : zP} {x : Int32} (h0 : gF k pc = some (2, nx, 0, 0, 0, 0)) (kk : zW X d k nx (some (.int x) :: t) (.int x :: st) J M R P) : zW X d k pc (some (.int x) :: t) st J M R P := z_iload h0 rfl kk
theorem z_iload1 {X : Nat × (Nat → Int32)} {d k pc nx : Nat} {a0 : Option Value} {t : List (Option Value)} {st : List Value} {J M : zA} {R : zR} {P : zP} {x : Int32} (h0 : gF k pc = some (2, nx, 1, 0, 0, 0)) (kk : zW X d k nx (a0 :: some (.int x) :: t) (.int x :: st) J M R P) : zW X d k pc (a0 :: some (.int x) :: t) st J M R P := z_iload h0 rfl kk
theorem z_iload2 {X : Nat × (Nat → Int32)} {d k pc nx : Nat} {a0 a1 : Option Value} {t : List (Option Value)} {st : List Value} {J M : zA} {R : zR} {P : zP} {x : Int32} (h0 : gF k pc = some (2, nx, 2, 0, 0, 0)) (kk : zW X d k nx (a0 :: a1 :: some (.int x) :: t) (.int x :: st) J M R P) : zW X d k pc (a0 :: a1 :: some (.int x) :: t) st J M R P := z_iload h0 rfl kk
theorem z_iload3 {X : Nat × (Nat → Int32)} {d k pc nx : Nat} {a0 a1 a2 : Option Value} {t : List (Option Value)} {st : List Value} {J M : zA} {R : zR} {P : zP} {x : Int32} (h0 : gF k pc = some (2, nx, 3, 0, 0, 0)) (kk : zW X d k nx (a0 :: a1 :: a2 :: some (.int x) :: t) (.int x :: st) J M R P) : zW X d k pc (a0 :: a1 :: a2 :: some (.int x) :: t) st J M R P := z_iload h0 rfl kk
theorem z_iload4 {X : Nat × (Nat → Int32)} {d k pc nx : Nat} {a0 a1 a2 a3 : Option Value} {t : List (Option Value)} {st : List Value} {J M : zA} {R : zR} {P : zP} {x : Int32} (h0 : gF k pc = some (2, nx, 4, 0, 0, 0)) (kk : zW X d k nx (a0 :: a1 :: a2 :: a3 :: some (.int x) :: t) (.int x :: st) J M R P) : zW X d k pc (a0 :: a1 :: a2 :: a3 :: some (.int x) :: t) st J M R P := z_iload h0 rfl kk
theorem z_iload5 {X : Nat × (Nat → Int32)} {d k pc nx : Nat} {a0 a1 a2 a3 a4 : Option Value} {t : List (Option Value)} {st : List Value} {J M : zA} {R : zR} {P : zP} {x : Int32} (h0 : gF k pc = some (2, nx, 5, 0, 0, 0)) (kk : zW X d k nx (a0 :: a1 :: a2 :: a3 :: a4 :: some (.int x) :: t) (.int x :: st) J M R P) : zW X d k pc (a0 :: a1 :: a2 :: a3 :: a4 :: some (.int x) :: t) st J M R P := z_iload h0 rfl kk
theorem z_iload6 {X : Nat × (Nat → Int32)} {d k pc nx : Nat} {a0 a1 a2 a3 a4 a5 : Option Value} {t : List (Option Value)} {st : List Value} {J M : zA} {R : zR} {P : zP} {x : Int32} (h0 : gF k pc = some (2, nx, 6, 0, 0, 0)) (kk : zW X d k nx (a0 :: a1 :: a2 :: a3 :: a4 :: a5 :: some (.int x) :: t) (.int x :: st) J M R P) : zW X d k pc (a0 :: a1 :: a2 :: a3 :: a4 :: a5 :: some (.int x) :: t) st J M R P := z_iload h0 rfl kk
theorem z_iload7 {X : Nat × (Nat → Int32)} {d k pc nx : Nat} {a0 a1 a2 a3 a4 a5 a6 : Option Value} {t : List (Option Value)} {st : List Value} {J M : zA} {R : zR} {P : zP} {x : Int32} (h0 : gF k pc = some (2, nx, 7, 0, 0, 0)) (kk : zW X d k nx (a0 :: a1 :: a2 :: a3 :: a4 :: a5 :: a6 :: some (.int x) :: t) (.int x :: st) J M R P) : zW X d k pc (a0 :: a1 :: a2 :: a3 :: a4 :: a5 :: a6 :: some (.int x) :: t) st J M R P := z_iload h0 rfl kk
theorem z_iload8 {X : Nat × (Nat → Int32)} {d k pc nx : Nat} {a0 a1 a2 a3 a4 a5 a6 a7 : Option Value} {t : List (Option Value)} {st : List Value} {J M : zA} {R : zR} {P : zP} {x : Int32} (h0 : gF k pc = some (2, nx, 8, 0, 0, 0)) (kk : zW X d k nx (a0 :: a1 :: a2 :: a3 :: a4 :: a5 :: a6 :: a7 :: some (.int x) :: t) (.int x :: st) J M R P) : zW X d k pc (a0 :: a1 :: a2 :: a3 :: a4 :: a5 :: a6 :: a7 :: some (.int x) :: t) st J M R P := z_iload h0 rfl kk
theorem z_iload9 {X : Nat × (Nat → Int32)} {d k pc nx : Nat} {a0 a1 a2 a3 a4 a5 a6 a7 a8 : Option Value} {t : List (Option Value)} {st : List Value} {J M : zA} {R : zR} {P : zP} {x : Int32} (h0 : gF k pc = some (2, nx, 9, 0, 0, 0)) (kk : zW X d k nx (a0 :: a1 :: a2 :: a3 :: a4 :: a5 :: a6 :: a7 :: a8 :: some (.int x) :: t) (.int x :: st) J M R P) : zW X d k pc (a0 :: a1 :: a2 :: a3 :: a4 :: a5 :: a6 :: a7 :: a8 :: some (.int x) :: t) st J M R P := z_iload h0 rfl kk
theorem z_iload10 {X : Nat × (Nat → Int32)} {d k pc nx : Nat} {a0 a1 a2 a3 a4 a5 a6 a7 a8 a9 : Option Value} {t : List (Option Value)} {st : List Value} {J M : zA} {R : zR} {P : zP} {x : Int32} (h0 : gF k pc = some (2, nx, 10, 0, 0, 0)) (kk : zW X d k nx (a0 :: a1 :: a2 :: a3 :: a4 :: a5 :: a6 :: a7 :: a8 :: a9 :: some (.int x) :: t) (.int x :: st) J M R P) : zW X d k pc (a0 :: a1 :: a2 :: a3 :: a4 :: a5 :: a6 :: a7 :: a8 :: a9 :: some (.int x) :: t) st J M R P := z_iload h0 rfl kk
theorem z_iload11 {X : Nat × (Nat → Int32)} {d k pc nx : Nat} {a0 a1 a2 a3 a4 a5 a6 a7 a8 a9 a10 : Option Value} {t : List (Option Value)} {st : List Value} {J M : zA} {R : zR} {P : zP} {x : Int32} (h0 : gF k pc = some (2, nx, 11, 0, 0, 0)) (kk : zW X d k nx (a0 :: a1 :: a2 :: a3 :: a4 :: a5 :: a6 :: a7 :: a8 :: a9 :: a10 :: some (.int x) :: t) (.int x :: st) J M R P) : zW X d k pc (a0 :: a1 :: a2 :: a3 :: a4 :: a5 :: a6 :: a7 :: a8 :: a9 :: a10 :: some (.int x) :: t) st J M R P := z_iload h0 rfl kk
theorem z_iload12 {X : Nat × (Nat → Int32)} {d k pc nx : Nat} {a0 a1 a2 a3 a4 a5 a6 a7 a8 a9 a10 a11 : Option Value} {t : List (Option Value)} {st : List Value} {J M : zA} {R : zR} {P : zP} {x : Int32} (h0 : gF k pc = some (2, nx, 12, 0, 0, 0)) (kk : zW X d k nx (a0 :: a1 :: a2 :: a3 :: a4 :: a5 :: a6 :: a7 :: a8 :: a9 :: a10 :: a11 :: some (.int x) :: t) (.int x :: st) J M R P) : zW X d k pc (a0 :: a1 :: a2 :: a3 :: a4 :: a5 :: a6 :: a7 :: a8 :: a9 :: a10 :: a11 :: some (.int x) :: t) st J M R P := z_iload h0 rfl kk
theorem z_aload0 {X : Nat × (Nat → Int32)} {d k pc nx : Nat} {t : List (Option Value)} {st : List Value} {J M : zA} {R : zR} {P : zP} {x : Nat} (h0 : gF k pc = some (7, nx, 0, 0, 0, 0)) (kk : zW X d k nx (some (.ref x) :: t) (.ref x :: st) J M R P) : zW X d k pc (some (.ref x) :: t) st J M R P := z_aload h0 rfl kk
theorem z_aload1 {X : Nat × (Nat → Int32)} {d k pc nx : Nat} {a0 : Option Value} {t : List (Option Value)} {st : List Value} {J M : zA} {R : zR} {P : zP} {x : Nat} (h0 : gF k pc = some (7, nx, 1, 0, 0, 0)) (kk : zW X d k nx (a0 :: some (.ref x) :: t) (.ref x :: st) J M R P) : zW X d k pc (a0 :: some (.ref x) :: t) st J M R P := z_aload h0 rfl kk
theorem z_aload2 {X : Nat × (Nat → Int32)} {d k pc nx : Nat} {a0 a1 : Option Value} {t : List (Option Value)} {st : List Value} {J M : zA} {R : zR} {P : zP} {x : Nat} (h0 : gF k pc = some (7, nx, 2, 0, 0, 0)) (kk : zW X d k nx (a0 :: a1 :: some (.ref x) :: t) (.ref x :: st) J M R P) : zW X d k pc (a0 :: a1 :: some (.ref x) :: t) st J M R P := z_aload h0 rfl kk
theorem z_aload3 {X : Nat × (Nat → Int32)} {d k pc nx : Nat} {a0 a1 a2 : Option Value} {t : List (Option Value)} {st : List Value} {J M : zA} {R : zR} {P : zP} {x : Nat} (h0 : gF k pc = some (7, nx, 3, 0, 0, 0)) (kk : zW X d k nx (a0 :: a1 :: a2 :: some (.ref x) :: t) (.ref x :: st) J M R P) : zW X d k pc (a0 :: a1 :: a2 :: some (.ref x) :: t) st J M R P := z_aload h0 rfl kk
theorem z_aload4 {X : Nat × (Nat → Int32)} {d k pc nx : Nat} {a0 a1 a2 a3 : Option Value} {t : List (Option Value)} {st : List Value} {J M : zA} {R : zR} {P : zP} {x : Nat} (h0 : gF k pc = some (7, nx, 4, 0, 0, 0)) (kk : zW X d k nx (a0 :: a1 :: a2 :: a3 :: some (.ref x) :: t) (.ref x :: st) J M R P) : zW X d k pc (a0 :: a1 :: a2 :: a3 :: some (.ref x) :: t) st J M R P := z_aload h0 rfl kk
theorem z_aload5 {X : Nat × (Nat → Int32)} {d k pc nx : Nat} {a0 a1 a2 a3 a4 : Option Value} {t : List (Option Value)} {st : List Value} {J M : zA} {R : zR} {P : zP} {x : Nat} (h0 : gF k pc = some (7, nx, 5, 0, 0, 0)) (kk : zW X d k nx (a0 :: a1 :: a2 :: a3 :: a4 :: some (.ref x) :: t) (.ref x :: st) J M R P) : zW X d k pc (a0 :: a1 :: a2 :: a3 :: a4 :: some (.ref x) :: t) st J M R P := z_aload h0 rfl kk
theorem z_aload6 {X : Nat × (Nat → Int32)} {d k pc nx : Nat} {a0 a1 a2 a3 a4 a5 : Option Value} {t : List (Option Value)} {st : List Value} {J M : zA} {R : zR} {P : zP} {x : Nat} (h0 : gF k pc = some (7, nx, 6, 0, 0, 0)) (kk : zW X d k nx (a0 :: a1 :: a2 :: a3 :: a4 :: a5 :: some (.ref x) :: t) (.ref x :: st) J M R P) : zW X d k pc (a0 :: a1 :: a2 :: a3 :: a4 :: a5 :: some (.ref x) :: t) st J M R P := z_aload h0 rfl kk
theorem z_aload7 {X : Nat × (Nat → Int32)} {d k pc nx : Nat} {a0 a1 a2 a3 a4 a5 a6 : Option Value} {t : List (Option Value)} {st : List Value} {J M : zA} {R : zR} {P : zP} {x : Nat} (h0 : gF k pc = some (7, nx, 7, 0, 0, 0)) (kk : zW X d k nx (a0 :: a1 :: a2 :: a3 :: a4 :: a5 :: a6 :: some (.ref x) :: t) (.ref x :: st) J M R P) : zW X d k pc (a0 :: a1 :: a2 :: a3 :: a4 :: a5 :: a6 :: some (.ref x) :: t) st J M R P := z_aload h0 rfl kk
theorem z_aload8 {X : Nat × (Nat → Int32)} {d k pc nx : Nat} {a0 a1 a2 a3 a4 a5 a6 a7 : Option Value} {t : List (Option Value)} {st : List Value} {J M : zA} {R : zR} {P : zP} {x : Nat} (h0 : gF k pc = some (7, nx, 8, 0, 0, 0)) (kk : zW X d k nx (a0 :: a1 :: a2 :: a3 :: a4 :: a5 :: a6 :: a7 :: some (.ref x) :: t) (.ref x :: st) J M R P) : zW X d k pc (a0 :: a1 :: a2 :: a3 :: a4 :: a5 :: a6 :: a7 :: some (.ref x) :: t) st J M R P := z_aload h0 rfl kk
theorem z_aload9 {X : Nat × (Nat → Int32)} {d k pc nx : Nat} {a0 a1 a2 a3 a4 a5 a6 a7 a8 : Option Value} {t : List (Option Value)} {st : List Value} {J M : zA} {R : zR} {P : zP} {x : Nat} (h0 : gF k pc = some (7, nx, 9, 0, 0, 0)) (kk : zW X d k nx (a0 :: a1 :: a2 :: a3 :: a4 :: a5 :: a6 :: a7 :: a8 :: some (.ref x) :: t) (.ref x :: st) J M R P) : zW X d k pc (a0 :: a1 :: a2 :: a3 :: a4 :: a5 :: a6 :: a7 :: a8 :: some (.ref x) :: t) st J M R P := z_aload h0 rfl kk
theorem z_aload10 {X : Nat × (Nat → Int32)} {d k pc nx : Nat} {a0 a1 a2 a3 a4 a5 a6 a7 a8 a9 : Option Value} {t : List (Option Value)} {st : List Value} {J M : zA} {R : zR} {P : zP} {x : Nat} (h0 : gF k pc = some (7, nx, 10, 0, 0, 0)) (kk : zW X d k nx (a0 :: a1 :: a2 :: a3 :: a4 :: a5 :: a6 :: a7 :: a8 :: a9 :: some (.ref x) :: t) (.ref x :: st) J M R P) : zW X d k pc (a0 :: a1 :: a2 :: a3 :: a4 :: a5 :: a6 :: a7 :: a8 :: a9 :: some (.ref x) :: t) st J M R P := z_aload h0 rfl kk
theorem z_aload11 {X : Nat × (Nat → Int32)} {d k pc nx : Nat} {a0 a1 a2 a3 a4 a5 a6 a7 a8 a9 a10 : Option Value} {t : List (Option Value)} {st : List Value} {J M : zA} {R : zR} {P : zP} {x : Nat} (h0 : gF k pc = some (7, nx, 11, 0, 0, 0)) (kk : zW X d k nx (a0 :: a1 :: a2 :: a3 :: a4 :: a5 :: a6 :: a7 :: a8 :: a9 :: a10 :: some (.ref x) :: t) (.ref x :: st) J M R P) : zW X d k pc (a0 :: a1 :: a2 :: a3 :: a4 :: a5 :: a6 :: a7 :: a8 :: a9 :: a10 :: some (.ref x) :: t) st J M R P := z_aload h0 rfl kk
theorem z_aload12 {X : Nat × (Nat → Int32)} {d k pc nx : Nat} {a0 a1 a2 a3 a4 a5 a6 a7 a8 a9 a10 a11 : Option Value} {t : List (Option Value)} {st : List Value} {J M : zA} {R : zR} {P : zP} {x : Nat} (h0 : gF k pc = some (7, nx, 12, 0, 0, 0)) (kk : zW X d k nx (a0 :: a1 :: a2 :: a3 :: a4 :: a5 :: a6 :: a7 :: a8 :: a9 :: a10 :: a11 :: some (.ref x) :: t) (.ref x :: st) J M R P) : zW X d k pc (a0 :: a1 :: a2 :: a3 :: a4 :: a5 :: a6 :: a7 :: a8 :: a9 :: a10 :: a11 :: some (.ref x) :: t) st J M R P := z_aload h0 rfl kk
theorem z_lload0 {X : Nat × (Nat → Int32)} {d k pc nx : Nat} {t : List (Option Value)} {st : List Value} {J M : zA} {R : zR} {P : zP} {x : Int64} (h0 : gF k pc = some (6, nx, 0, 0, 0, 0)) (kk : zW X d k nx (some (.long x) :: t) (.long x :: st) J M R P) : zW X d k pc (some (.long x) :: t) st J M R P := z_lload h0 rfl kk
theorem z_lload1 {X : Nat × (Nat → Int32)} {d k pc nx : Nat} {a0 : Option Value} {t : List (Option Value)} {st : List Value} {J M : zA} {R : zR} {P : zP} {x : Int64} (h0 : gF k pc = some (6, nx, 1, 0, 0, 0)) (kk : zW X d k nx (a0 :: some (.long x) :: t) (.long x :: st) J M R P) : zW X d k pc (a0 :: some (.long x) :: t) st J M R P := z_lload h0 rfl kk
theorem z_lload2 {X : Nat × (Nat → Int32)} {d k pc nx : Nat} {a0 a1 : Option Value} {t : List (Option Value)} {st : List Value} {J M : zA} {R : zR} {P : zP} {x : Int64} (h0 : gF k pc = some (6, nx, 2, 0, 0, 0)) (kk : zW X d k nx (a0 :: a1 :: some (.long x) :: t) (.long x :: st) J M R P) : zW X d k pc (a0 :: a1 :: some (.long x) :: t) st J M R P := z_lload h0 rfl kk
theorem z_lload3 {X : Nat × (Nat → Int32)} {d k pc nx : Nat} {a0 a1 a2 : Option Value} {t : List (Option Value)} {st : List Value} {J M : zA} {R : zR} {P : zP} {x : Int64} (h0 : gF k pc = some (6, nx, 3, 0, 0, 0)) (kk : zW X d k nx (a0 :: a1 :: a2 :: some (.long x) :: t) (.long x :: st) J M R P) : zW X d k pc (a0 :: a1 :: a2 :: some (.long x) :: t) st J M R P := z_lload h0 rfl kk
theorem z_lload4 {X : Nat × (Nat → Int32)} {d k pc nx : Nat} {a0 a1 a2 a3 : Option Value} {t : List (Option Value)} {st : List Value} {J M : zA} {R : zR} {P : zP} {x : Int64} (h0 : gF k pc = some (6, nx, 4, 0, 0, 0)) (kk : zW X d k nx (a0 :: a1 :: a2 :: a3 :: some (.long x) :: t) (.long x :: st) J M R P) : zW X d k pc (a0 :: a1 :: a2 :: a3 :: some (.long x) :: t) st J M R P := z_lload h0 rfl kk
theorem z_lload5 {X : Nat × (Nat → Int32)} {d k pc nx : Nat} {a0 a1 a2 a3 a4 : Option Value} {t : List (Option Value)} {st : List Value} {J M : zA} {R : zR} {P : zP} {x : Int64} (h0 : gF k pc = some (6, nx, 5, 0, 0, 0)) (kk : zW X d k nx (a0 :: a1 :: a2 :: a3 :: a4 :: some (.long x) :: t) (.long x :: st) J M R P) : zW X d k pc (a0 :: a1 :: a2 :: a3 :: a4 :: some (.long x) :: t) st J M R P := z_lload h0 rfl kk
theorem z_lload6 {X : Nat × (Nat → Int32)} {d k pc nx : Nat} {a0 a1 a2 a3 a4 a5 : Option Value} {t : List (Option Value)} {st : List Value} {J M : zA} {R : zR} {P : zP} {x : Int64} (h0 : gF k pc = some (6, nx, 6, 0, 0, 0)) (kk : zW X d k nx (a0 :: a1 :: a2 :: a3 :: a4 :: a5 :: some (.long x) :: t) (.long x :: st) J M R P) : zW X d k pc (a0 :: a1 :: a2 :: a3 :: a4 :: a5 :: some (.long x) :: t) st J M R P := z_lload h0 rfl kk
theorem z_lload7 {X : Nat × (Nat → Int32)} {d k pc nx : Nat} {a0 a1 a2 a3 a4 a5 a6 : Option Value} {t : List (Option Value)} {st : List Value} {J M : zA} {R : zR} {P : zP} {x : Int64} (h0 : gF k pc = some (6, nx, 7, 0, 0, 0)) (kk : zW X d k nx (a0 :: a1 :: a2 :: a3 :: a4 :: a5 :: a6 :: some (.long x) :: t) (.long x :: st) J M R P) : zW X d k pc (a0 :: a1 :: a2 :: a3 :: a4 :: a5 :: a6 :: some (.long x) :: t) st J M R P := z_lload h0 rfl kk
theorem z_lload8 {X : Nat × (Nat → Int32)} {d k pc nx : Nat} {a0 a1 a2 a3 a4 a5 a6 a7 : Option Value} {t : List (Option Value)} {st : List Value} {J M : zA} {R : zR} {P : zP} {x : Int64} (h0 : gF k pc = some (6, nx, 8, 0, 0, 0)) (kk : zW X d k nx (a0 :: a1 :: a2 :: a3 :: a4 :: a5 :: a6 :: a7 :: some (.long x) :: t) (.long x :: st) J M R P) : zW X d k pc (a0 :: a1 :: a2 :: a3 :: a4 :: a5 :: a6 :: a7 :: some (.long x) :: t) st J M R P := z_lload h0 rfl kk
theorem z_lload9 {X : Nat × (Nat → Int32)} {d k pc nx : Nat} {a0 a1 a2 a3 a4 a5 a6 a7 a8 : Option Value} {t : List (Option Value)} {st : List Value} {J M : zA} {R : zR} {P : zP} {x : Int64} (h0 : gF k pc = some (6, nx, 9, 0, 0, 0)) (kk : zW X d k nx (a0 :: a1 :: a2 :: a3 :: a4 :: a5 :: a6 :: a7 :: a8 :: some (.long x) :: t) (.long x :: st) J M R P) : zW X d k pc (a0 :: a1 :: a2 :: a3 :: a4 :: a5 :: a6 :: a7 :: a8 :: some (.long x) :: t) st J M R P := z_lload h0 rfl kk
theorem z_lload10 {X : Nat × (Nat → Int32)} {d k pc nx : Nat} {a0 a1 a2 a3 a4 a5 a6 a7 a8 a9 : Option Value} {t : List (Option Value)} {st : List Value} {J M : zA} {R : zR} {P : zP} {x : Int64} (h0 : gF k pc = some (6, nx, 10, 0, 0, 0)) (kk : zW X d k nx (a0 :: a1 :: a2 :: a3 :: a4 :: a5 :: a6 :: a7 :: a8 :: a9 :: some (.long x) :: t) (.long x :: st) J M R P) : zW X d k pc (a0 :: a1 :: a2 :: a3 :: a4 :: a5 :: a6 :: a7 :: a8 :: a9 :: some (.long x) :: t) st J M R P := z_lload h0 rfl kk
theorem z_lload11 {X : Nat × (Nat → Int32)} {d k pc nx : Nat} {a0 a1 a2 a3 a4 a5 a6 a7 a8 a9 a10 : Option Value} {t : List (Option Value)} {st : List Value} {J M : zA} {R : zR} {P : zP} {x : Int64} (h0 : gF k pc = some (6, nx, 11, 0, 0, 0)) (kk : zW X d k nx (a0 :: a1 :: a2 :: a3 :: a4 :: a5 :: a6 :: a7 :: a8 :: a9 :: a10 :: some (.long x) :: t) (.long x :: st) J M R P) : zW X d k pc (a0 :: a1 :: a2 :: a3 :: a4 :: a5 :: a6 :: a7 :: a8 :: a9 :: a10 :: some (.long x) :: t) st J M R P := z_lload h0 rfl kk
theorem z_lload12 {X : Nat × (Nat → Int32)} {d k pc nx : Nat} {a0 a1 a2 a3 a4 a5 a6 a7 a8 a9 a10 a11 : Option Value} {t : List (Option Value)} {st : List Value} {J M : zA} {R : zR} {P : zP} {x : Int64} (h0 : gF k pc = some (6, nx, 12, 0, 0, 0)) (kk : zW X d k nx (a0 :: a1 :: a2 :: a3 :: a4 :: a5 :: a6 :: a7 :: a8 :: a9 :: a10 :: a11 :: some (.long x) :: t) (.long x :: st) J M R P) : zW X d k pc (a0 :: a1 :: a2 :: a3 :: a4 :: a5 :: a6 :: a7 :: a8 :: a9 :: a10 :: a11 :: some (.long x) :: t) st J M R P := z_lload h0 rfl kk
