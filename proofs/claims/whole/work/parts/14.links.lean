theorem ftc_0_11 : ft 0 11 = some (0, 1) := by decide +kernel
theorem ftc_0_15 : ft 0 15 = some (0, 2) := by decide +kernel
theorem ftc_0_18 : ft 0 18 = some (0, 3) := by decide +kernel
theorem ftc_0_26 : ft 0 26 = some (0, 4) := by decide +kernel
theorem ftc_0_30 : ft 0 30 = some (0, 0) := by decide +kernel
theorem ftc_0_34 : ft 0 34 = some (0, 7) := by decide +kernel
theorem ftc_0_38 : ft 0 38 = some (0, 5) := by decide +kernel
theorem ftc_0_53 : ft 0 53 = some (0, 6) := by decide +kernel
theorem ftc_0_67 : ft 0 67 = some (4, 1) := by decide +kernel
theorem ftc_1_9 : ft 1 9 = some (1, 0) := by decide +kernel
theorem ftc_1_28 : ft 1 28 = some (10, 3) := by decide +kernel
theorem ftc_2_11 : ft 2 11 = some (2, 1) := by decide +kernel
theorem ftc_2_15 : ft 2 15 = some (2, 2) := by decide +kernel
theorem ftc_2_18 : ft 2 18 = some (2, 3) := by decide +kernel
theorem ftc_2_22 : ft 2 22 = some (2, 4) := by decide +kernel
theorem ftc_2_25 : ft 2 25 = some (2, 5) := by decide +kernel
theorem ftc_2_29 : ft 2 29 = some (2, 6) := by decide +kernel
theorem ftc_2_32 : ft 2 32 = some (2, 7) := by decide +kernel
theorem ftc_2_35 : ft 2 35 = some (2, 0) := by decide +kernel
theorem ftc_2_47 : ft 2 47 = some (2, 9) := by decide +kernel
theorem ftc_2_51 : ft 2 51 = some (2, 10) := by decide +kernel
theorem ftc_2_54 : ft 2 54 = some (2, 12) := by decide +kernel
theorem ftc_2_61 : ft 2 61 = some (2, 8) := by decide +kernel
theorem ftc_2_68 : ft 2 68 = some (2, 11) := by decide +kernel
theorem ftc_2_118 : ft 2 118 = some (10, 3) := by decide +kernel
theorem ftc_3_11 : ft 3 11 = some (3, 2) := by decide +kernel
theorem ftc_3_15 : ft 3 15 = some (3, 3) := by decide +kernel
theorem ftc_3_18 : ft 3 18 = some (3, 0) := by decide +kernel
theorem ftc_3_22 : ft 3 22 = some (3, 1) := by decide +kernel
theorem ftc_4_14 : ft 4 14 = some (4, 0) := by decide +kernel
theorem ftc_4_20 : ft 4 20 = some (4, 1) := by decide +kernel
theorem ftc_4_25 : ft 4 25 = some (4, 2) := by decide +kernel
theorem ftc_4_28 : ft 4 28 = some (4, 3) := by decide +kernel
theorem ftc_4_33 : ft 4 33 = some (4, 4) := by decide +kernel
theorem ftc_4_38 : ft 4 38 = some (4, 5) := by decide +kernel
theorem ftc_4_41 : ft 4 41 = some (4, 6) := by decide +kernel
theorem ftc_4_46 : ft 4 46 = some (4, 7) := by decide +kernel
theorem ftc_4_51 : ft 4 51 = some (4, 8) := by decide +kernel
theorem ftc_4_54 : ft 4 54 = some (4, 9) := by decide +kernel
theorem ftc_4_65 : ft 4 65 = some (10, 3) := by decide +kernel
theorem ftc_5_9 : ft 5 9 = some (5, 0) := by decide +kernel
theorem ftc_5_15 : ft 5 15 = some (10, 3) := by decide +kernel
theorem ftc_5_25 : ft 5 25 = some (5, 1) := by decide +kernel
theorem ftc_5_28 : ft 5 28 = some (5, 2) := by decide +kernel
theorem ftc_5_31 : ft 5 31 = some (5, 3) := by decide +kernel
theorem ftc_5_34 : ft 5 34 = some (5, 4) := by decide +kernel
theorem ftc_5_37 : ft 5 37 = some (5, 5) := by decide +kernel
theorem ftc_5_40 : ft 5 40 = some (5, 6) := by decide +kernel
theorem ftc_5_43 : ft 5 43 = some (5, 7) := by decide +kernel
theorem ftc_6_18 : ft 6 18 = some (6, 3) := by decide +kernel
theorem ftc_6_22 : ft 6 22 = some (6, 4) := by decide +kernel
theorem ftc_6_26 : ft 6 26 = some (6, 5) := by decide +kernel
theorem ftc_6_29 : ft 6 29 = some (6, 6) := by decide +kernel
theorem ftc_6_33 : ft 6 33 = some (6, 0) := by decide +kernel
theorem ftc_6_37 : ft 6 37 = some (6, 1) := by decide +kernel
theorem ftc_6_41 : ft 6 41 = some (6, 2) := by decide +kernel
theorem ftc_6_55 : ft 6 55 = some (6, 7) := by decide +kernel
theorem ftc_6_76 : ft 6 76 = some (10, 3) := by decide +kernel
theorem ftc_6_82 : ft 6 82 = some (4, 2) := by decide +kernel
theorem ftc_6_100 : ft 6 100 = some (4, 1) := by decide +kernel
theorem ftc_6_119 : ft 6 119 = some (2, 12) := by decide +kernel
theorem ftc_7_9 : ft 7 9 = some (7, 1) := by decide +kernel
theorem ftc_7_13 : ft 7 13 = some (7, 0) := by decide +kernel
theorem ftc_7_17 : ft 7 17 = some (4, 9) := by decide +kernel
theorem ftc_7_29 : ft 7 29 = some (4, 7) := by decide +kernel
theorem ftc_7_33 : ft 7 33 = some (10, 3) := by decide +kernel
theorem ftc_7_55 : ft 7 55 = some (4, 1) := by decide +kernel
theorem ftc_8_11 : ft 8 11 = some (8, 1) := by decide +kernel
theorem ftc_8_15 : ft 8 15 = some (8, 2) := by decide +kernel
theorem ftc_8_18 : ft 8 18 = some (8, 3) := by decide +kernel
theorem ftc_8_21 : ft 8 21 = some (8, 4) := by decide +kernel
theorem ftc_8_24 : ft 8 24 = some (8, 0) := by decide +kernel
theorem ftc_8_28 : ft 8 28 = some (4, 2) := by decide +kernel
theorem ftc_8_34 : ft 8 34 = some (10, 3) := by decide +kernel
theorem ftc_8_56 : ft 8 56 = some (4, 5) := by decide +kernel
theorem ftc_8_62 : ft 8 62 = some (8, 5) := by decide +kernel
theorem ftc_8_80 : ft 8 80 = some (4, 1) := by decide +kernel
theorem ftc_8_91 : ft 8 91 = some (4, 6) := by decide +kernel
theorem ftc_9_9 : ft 9 9 = some (9, 1) := by decide +kernel
theorem ftc_9_13 : ft 9 13 = some (9, 0) := by decide +kernel
theorem ftc_10_15 : ft 10 15 = some (10, 0) := by decide +kernel
theorem ftc_10_21 : ft 10 21 = some (10, 1) := by decide +kernel
theorem ftc_10_24 : ft 10 24 = some (10, 2) := by decide +kernel
theorem ftc_10_28 : ft 10 28 = some (10, 3) := by decide +kernel
theorem ftc_11_10 : ft 11 10 = some (11, 0) := by decide +kernel
theorem ftc_11_16 : ft 11 16 = some (11, 1) := by decide +kernel
theorem ftc_11_22 : ft 11 22 = some (4, 0) := by decide +kernel
theorem ftc_11_29 : ft 11 29 = some (11, 2) := by decide +kernel
theorem ftc_11_35 : ft 11 35 = some (4, 2) := by decide +kernel
theorem ftc_11_39 : ft 11 39 = some (11, 3) := by decide +kernel
theorem ftc_11_44 : ft 11 44 = some (4, 4) := by decide +kernel
theorem ftc_11_48 : ft 11 48 = some (11, 5) := by decide +kernel
theorem ftc_11_57 : ft 11 57 = some (11, 4) := by decide +kernel
theorem ftc_11_66 : ft 11 66 = some (11, 6) := by decide +kernel
theorem ftc_11_75 : ft 11 75 = some (11, 7) := by decide +kernel
theorem ftc_11_82 : ft 11 82 = some (11, 8) := by decide +kernel
theorem ftc_11_88 : ft 11 88 = some (4, 8) := by decide +kernel
theorem ftc_11_92 : ft 11 92 = some (11, 9) := by decide +kernel
theorem ftc_11_99 : ft 11 99 = some (11, 10) := by decide +kernel
theorem ftc_11_103 : ft 11 103 = some (10, 3) := by decide +kernel
theorem ftc_11_147 : ft 11 147 = some (4, 1) := by decide +kernel
theorem ftc_11_180 : ft 11 180 = some (4, 3) := by decide +kernel
theorem ftc_11_225 : ft 11 225 = some (4, 5) := by decide +kernel
theorem ftc_11_251 : ft 11 251 = some (4, 6) := by decide +kernel
theorem ftc_11_260 : ft 11 260 = some (4, 7) := by decide +kernel
theorem ftc_11_263 : ft 11 263 = some (4, 9) := by decide +kernel
theorem ftc_12_7 : ft 12 7 = some (12, 0) := by decide +kernel
theorem ftc_12_14 : ft 12 14 = some (12, 1) := by decide +kernel
theorem ftc_12_17 : ft 12 17 = some (12, 2) := by decide +kernel
theorem ftc_12_21 : ft 12 21 = some (12, 3) := by decide +kernel
theorem ftc_12_24 : ft 12 24 = some (12, 4) := by decide +kernel
theorem ftc_12_27 : ft 12 27 = some (12, 5) := by decide +kernel
theorem ftc_12_30 : ft 12 30 = some (12, 6) := by decide +kernel
theorem ftc_12_33 : ft 12 33 = some (12, 7) := by decide +kernel
theorem ftc_12_36 : ft 12 36 = some (12, 10) := by decide +kernel
theorem ftc_12_39 : ft 12 39 = some (12, 11) := by decide +kernel
theorem ftc_12_42 : ft 12 42 = some (12, 12) := by decide +kernel
theorem ftc_12_45 : ft 12 45 = some (12, 13) := by decide +kernel
theorem ftc_12_48 : ft 12 48 = some (12, 14) := by decide +kernel
theorem ftc_12_51 : ft 12 51 = some (12, 15) := by decide +kernel
theorem ftc_12_54 : ft 12 54 = some (12, 17) := by decide +kernel
theorem ftc_12_57 : ft 12 57 = some (12, 18) := by decide +kernel
theorem ftc_12_60 : ft 12 60 = some (12, 20) := by decide +kernel
theorem ftc_12_63 : ft 12 63 = some (12, 21) := by decide +kernel
theorem ftc_12_66 : ft 12 66 = some (12, 23) := by decide +kernel
theorem ftc_12_69 : ft 12 69 = some (12, 24) := by decide +kernel
theorem ftc_12_73 : ft 12 73 = some (12, 25) := by decide +kernel
theorem ftc_12_76 : ft 12 76 = some (12, 27) := by decide +kernel
theorem ftc_12_79 : ft 12 79 = some (12, 28) := by decide +kernel
theorem ftc_12_82 : ft 12 82 = some (12, 29) := by decide +kernel
theorem ftc_12_85 : ft 12 85 = some (12, 30) := by decide +kernel
theorem ftc_12_88 : ft 12 88 = some (12, 33) := by decide +kernel
theorem ftc_12_91 : ft 12 91 = some (12, 34) := by decide +kernel
theorem ftc_12_94 : ft 12 94 = some (12, 35) := by decide +kernel
theorem ftc_12_97 : ft 12 97 = some (12, 37) := by decide +kernel
theorem ftc_12_100 : ft 12 100 = some (12, 38) := by decide +kernel
theorem ftc_12_103 : ft 12 103 = some (12, 39) := by decide +kernel
theorem ftc_12_106 : ft 12 106 = some (12, 40) := by decide +kernel
theorem ftc_12_131 : ft 12 131 = some (12, 8) := by decide +kernel
theorem ftc_12_135 : ft 12 135 = some (12, 9) := by decide +kernel
theorem ftc_12_181 : ft 12 181 = some (12, 16) := by decide +kernel
theorem ftc_12_190 : ft 12 190 = some (12, 19) := by decide +kernel
theorem ftc_12_193 : ft 12 193 = some (12, 22) := by decide +kernel
theorem ftc_12_234 : ft 12 234 = some (12, 26) := by decide +kernel
theorem ftc_12_249 : ft 12 249 = some (12, 31) := by decide +kernel
theorem ftc_12_261 : ft 12 261 = some (12, 32) := by decide +kernel
theorem ftc_12_264 : ft 12 264 = some (12, 36) := by decide +kernel
theorem ftc_100_15 : ft 100 15 = some (0, 2) := by decide +kernel
theorem ftc_100_18 : ft 100 18 = some (0, 3) := by decide +kernel
theorem ftc_100_34 : ft 100 34 = some (0, 7) := by decide +kernel
theorem ftc_100_38 : ft 100 38 = some (0, 5) := by decide +kernel
theorem ftc_100_53 : ft 100 53 = some (0, 6) := by decide +kernel
theorem ftc_101_15 : ft 101 15 = some (0, 2) := by decide +kernel
theorem ftc_101_18 : ft 101 18 = some (0, 3) := by decide +kernel
theorem ftc_101_34 : ft 101 34 = some (0, 7) := by decide +kernel
theorem ftc_101_38 : ft 101 38 = some (0, 5) := by decide +kernel
theorem ftc_101_53 : ft 101 53 = some (0, 6) := by decide +kernel
theorem ftc_102_15 : ft 102 15 = some (0, 2) := by decide +kernel
theorem ftc_102_18 : ft 102 18 = some (0, 3) := by decide +kernel
theorem ftc_102_34 : ft 102 34 = some (0, 7) := by decide +kernel
theorem ftc_102_38 : ft 102 38 = some (0, 5) := by decide +kernel
theorem ftc_102_53 : ft 102 53 = some (0, 6) := by decide +kernel
theorem ftc_103_15 : ft 103 15 = some (0, 2) := by decide +kernel
theorem ftc_103_18 : ft 103 18 = some (0, 3) := by decide +kernel
theorem ftc_103_34 : ft 103 34 = some (0, 7) := by decide +kernel
theorem ftc_103_38 : ft 103 38 = some (0, 5) := by decide +kernel
theorem ftc_103_53 : ft 103 53 = some (0, 6) := by decide +kernel
theorem ftc_104_15 : ft 104 15 = some (0, 2) := by decide +kernel
theorem ftc_104_18 : ft 104 18 = some (0, 3) := by decide +kernel
theorem ftc_104_34 : ft 104 34 = some (0, 7) := by decide +kernel
theorem ftc_104_38 : ft 104 38 = some (0, 5) := by decide +kernel
theorem ftc_104_53 : ft 104 53 = some (0, 6) := by decide +kernel
theorem ftc_105_15 : ft 105 15 = some (0, 2) := by decide +kernel
theorem ftc_105_18 : ft 105 18 = some (0, 3) := by decide +kernel
theorem ftc_105_34 : ft 105 34 = some (0, 7) := by decide +kernel
theorem ftc_105_38 : ft 105 38 = some (0, 5) := by decide +kernel
theorem ftc_105_53 : ft 105 53 = some (0, 6) := by decide +kernel
theorem ftc_106_15 : ft 106 15 = some (0, 2) := by decide +kernel
theorem ftc_106_18 : ft 106 18 = some (0, 3) := by decide +kernel
theorem ftc_106_34 : ft 106 34 = some (0, 7) := by decide +kernel
theorem ftc_106_38 : ft 106 38 = some (0, 5) := by decide +kernel
theorem ftc_106_53 : ft 106 53 = some (0, 6) := by decide +kernel
theorem ftc_107_15 : ft 107 15 = some (0, 2) := by decide +kernel
theorem ftc_107_18 : ft 107 18 = some (0, 3) := by decide +kernel
theorem ftc_107_34 : ft 107 34 = some (0, 7) := by decide +kernel
theorem ftc_107_38 : ft 107 38 = some (0, 5) := by decide +kernel
theorem ftc_107_53 : ft 107 53 = some (0, 6) := by decide +kernel
theorem ftc_108_15 : ft 108 15 = some (0, 2) := by decide +kernel
theorem ftc_108_18 : ft 108 18 = some (0, 3) := by decide +kernel
theorem ftc_108_34 : ft 108 34 = some (0, 7) := by decide +kernel
theorem ftc_108_38 : ft 108 38 = some (0, 5) := by decide +kernel
theorem ftc_108_53 : ft 108 53 = some (0, 6) := by decide +kernel
theorem ftc_109_15 : ft 109 15 = some (0, 2) := by decide +kernel
theorem ftc_109_18 : ft 109 18 = some (0, 3) := by decide +kernel
theorem ftc_109_34 : ft 109 34 = some (0, 7) := by decide +kernel
theorem ftc_109_38 : ft 109 38 = some (0, 5) := by decide +kernel
theorem ftc_109_53 : ft 109 53 = some (0, 6) := by decide +kernel
theorem ftc_110_15 : ft 110 15 = some (0, 2) := by decide +kernel
theorem ftc_110_18 : ft 110 18 = some (0, 3) := by decide +kernel
theorem ftc_110_34 : ft 110 34 = some (0, 7) := by decide +kernel
theorem ftc_110_38 : ft 110 38 = some (0, 5) := by decide +kernel
theorem ftc_110_53 : ft 110 53 = some (0, 6) := by decide +kernel
theorem ftc_111_15 : ft 111 15 = some (0, 2) := by decide +kernel
theorem ftc_111_18 : ft 111 18 = some (0, 3) := by decide +kernel
theorem ftc_111_34 : ft 111 34 = some (0, 7) := by decide +kernel
theorem ftc_111_38 : ft 111 38 = some (0, 5) := by decide +kernel
theorem ftc_111_53 : ft 111 53 = some (0, 6) := by decide +kernel
theorem ftc_112_15 : ft 112 15 = some (0, 2) := by decide +kernel
theorem ftc_112_18 : ft 112 18 = some (0, 3) := by decide +kernel
theorem ftc_112_34 : ft 112 34 = some (0, 7) := by decide +kernel
theorem ftc_112_38 : ft 112 38 = some (0, 5) := by decide +kernel
theorem ftc_112_53 : ft 112 53 = some (0, 6) := by decide +kernel
theorem ctc_0_23 : ct 0 23 = some (98, 0) := by decide +kernel
theorem ctc_0_41 : ct 0 41 = some (48, 0) := by decide +kernel
theorem ctc_0_57 : ct 0 57 = some (2, 0) := by decide +kernel
theorem ctc_0_60 : ct 0 60 = some (102, 0) := by decide +kernel
theorem ctc_0_64 : ct 0 64 = some (250, 0) := by decide +kernel
theorem ctc_0_70 : ct 0 70 = some (103, 0) := by decide +kernel
theorem ctc_1_15 : ct 1 15 = some (103, 0) := by decide +kernel
theorem ctc_1_21 : ct 1 21 = some (8, 0) := by decide +kernel
theorem ctc_1_25 : ct 1 25 = some (19, 0) := by decide +kernel
theorem ctc_1_32 : ct 1 32 = some (20, 0) := by decide +kernel
theorem ctc_1_35 : ct 1 35 = some (102, 0) := by decide +kernel
theorem ctc_1_39 : ct 1 39 = some (11, 0) := by decide +kernel
theorem ctc_1_43 : ct 1 43 = some (13, 0) := by decide +kernel
theorem ctc_1_47 : ct 1 47 = some (105, 0) := by decide +kernel
theorem ctc_1_50 : ct 1 50 = some (10, 0) := by decide +kernel
theorem ctc_1_54 : ct 1 54 = some (12, 0) := by decide +kernel
theorem ctc_1_57 : ct 1 57 = some (14, 0) := by decide +kernel
theorem ctc_1_61 : ct 1 61 = some (15, 0) := by decide +kernel
theorem ctc_1_65 : ct 1 65 = some (17, 0) := by decide +kernel
theorem ctc_1_69 : ct 1 69 = some (18, 0) := by decide +kernel
theorem ctc_1_72 : ct 1 72 = some (16, 0) := by decide +kernel
theorem ctc_2_39 : ct 2 39 = some (112, 1) := by decide +kernel
theorem ctc_2_43 : ct 2 43 = some (25, 0) := by decide +kernel
theorem ctc_2_58 : ct 2 58 = some (26, 0) := by decide +kernel
theorem ctc_2_64 : ct 2 64 = some (27, 0) := by decide +kernel
theorem ctc_2_72 : ct 2 72 = some (35, 0) := by decide +kernel
theorem ctc_2_75 : ct 2 75 = some (103, 0) := by decide +kernel
theorem ctc_2_86 : ct 2 86 = some (28, 0) := by decide +kernel
theorem ctc_2_89 : ct 2 89 = some (29, 0) := by decide +kernel
theorem ctc_2_93 : ct 2 93 = some (30, 0) := by decide +kernel
theorem ctc_2_96 : ct 2 96 = some (33, 0) := by decide +kernel
theorem ctc_2_100 : ct 2 100 = some (34, 0) := by decide +kernel
theorem ctc_2_103 : ct 2 103 = some (31, 0) := by decide +kernel
theorem ctc_2_107 : ct 2 107 = some (32, 0) := by decide +kernel
theorem ctc_2_113 : ct 2 113 = some (243, 0) := by decide +kernel
theorem ctc_3_26 : ct 3 26 = some (112, 1) := by decide +kernel
theorem ctc_3_30 : ct 3 30 = some (241, 0) := by decide +kernel
theorem ctc_3_36 : ct 3 36 = some (40, 0) := by decide +kernel
theorem ctc_3_39 : ct 3 39 = some (48, 0) := by decide +kernel
theorem ctc_3_45 : ct 3 45 = some (42, 0) := by decide +kernel
theorem ctc_3_49 : ct 3 49 = some (43, 0) := by decide +kernel
theorem ctc_3_53 : ct 3 53 = some (21, 0) := by decide +kernel
theorem ctc_4_11 : ct 4 11 = some (98, 0) := by decide +kernel
theorem ctc_4_58 : ct 4 58 = some (99, 0) := by decide +kernel
theorem ctc_4_61 : ct 4 61 = some (106, 0) := by decide +kernel
theorem ctc_4_68 : ct 4 68 = some (241, 0) := by decide +kernel
theorem ctc_4_74 : ct 4 74 = some (112, 1) := by decide +kernel
theorem ctc_4_80 : ct 4 80 = some (104, 0) := by decide +kernel
theorem ctc_4_84 : ct 4 84 = some (103, 0) := by decide +kernel
theorem ctc_4_88 : ct 4 88 = some (46, 0) := by decide +kernel
theorem ctc_5_21 : ct 5 21 = some (103, 0) := by decide +kernel
theorem ctc_5_46 : ct 5 46 = some (53, 0) := by decide +kernel
theorem ctc_5_50 : ct 5 50 = some (54, 0) := by decide +kernel
theorem ctc_5_54 : ct 5 54 = some (55, 0) := by decide +kernel
theorem ctc_5_57 : ct 5 57 = some (56, 0) := by decide +kernel
theorem ctc_5_60 : ct 5 60 = some (58, 0) := by decide +kernel
theorem ctc_5_69 : ct 5 69 = some (59, 0) := by decide +kernel
theorem ctc_5_75 : ct 5 75 = some (52, 0) := by decide +kernel
theorem ctc_6_15 : ct 6 15 = some (98, 0) := by decide +kernel
theorem ctc_6_45 : ct 6 45 = some (62, 0) := by decide +kernel
theorem ctc_6_48 : ct 6 48 = some (64, 0) := by decide +kernel
theorem ctc_6_52 : ct 6 52 = some (66, 0) := by decide +kernel
theorem ctc_6_59 : ct 6 59 = some (112, 1) := by decide +kernel
theorem ctc_6_63 : ct 6 63 = some (69, 0) := by decide +kernel
theorem ctc_6_67 : ct 6 67 = some (71, 0) := by decide +kernel
theorem ctc_6_79 : ct 6 79 = some (99, 0) := by decide +kernel
theorem ctc_6_86 : ct 6 86 = some (103, 0) := by decide +kernel
theorem ctc_6_89 : ct 6 89 = some (20, 0) := by decide +kernel
theorem ctc_6_93 : ct 6 93 = some (63, 0) := by decide +kernel
theorem ctc_6_96 : ct 6 96 = some (105, 0) := by decide +kernel
theorem ctc_6_103 : ct 6 103 = some (45, 0) := by decide +kernel
theorem ctc_6_107 : ct 6 107 = some (67, 0) := by decide +kernel
theorem ctc_6_110 : ct 6 110 = some (36, 0) := by decide +kernel
theorem ctc_6_115 : ct 6 115 = some (24, 0) := by decide +kernel
theorem ctc_7_38 : ct 7 38 = some (103, 0) := by decide +kernel
theorem ctc_7_41 : ct 7 41 = some (112, 1) := by decide +kernel
theorem ctc_7_47 : ct 7 47 = some (75, 0) := by decide +kernel
theorem ctc_7_51 : ct 7 51 = some (74, 0) := by decide +kernel
theorem ctc_8_46 : ct 8 46 = some (241, 0) := by decide +kernel
theorem ctc_8_52 : ct 8 52 = some (80, 0) := by decide +kernel
theorem ctc_8_59 : ct 8 59 = some (83, 0) := by decide +kernel
theorem ctc_8_65 : ct 8 65 = some (85, 0) := by decide +kernel
theorem ctc_8_68 : ct 8 68 = some (81, 0) := by decide +kernel
theorem ctc_8_73 : ct 8 73 = some (103, 0) := by decide +kernel
theorem ctc_8_76 : ct 8 76 = some (82, 0) := by decide +kernel
theorem ctc_8_83 : ct 8 83 = some (84, 0) := by decide +kernel
theorem ctc_8_87 : ct 8 87 = some (105, 0) := by decide +kernel
theorem ctc_8_94 : ct 8 94 = some (89, 0) := by decide +kernel
theorem ctc_8_97 : ct 8 97 = some (90, 0) := by decide +kernel
theorem ctc_8_103 : ct 8 103 = some (91, 0) := by decide +kernel
theorem ctc_8_106 : ct 8 106 = some (112, 1) := by decide +kernel
theorem ctc_9_23 : ct 9 23 = some (95, 0) := by decide +kernel
theorem ctc_9_30 : ct 9 30 = some (103, 0) := by decide +kernel
theorem ctc_9_35 : ct 9 35 = some (112, 1) := by decide +kernel
theorem ctc_9_41 : ct 9 41 = some (94, 0) := by decide +kernel
theorem ctc_10_31 : ct 10 31 = some (103, 0) := by decide +kernel
theorem ctc_10_34 : ct 10 34 = some (102, 0) := by decide +kernel
theorem ctc_10_38 : ct 10 38 = some (101, 0) := by decide +kernel
theorem ctc_10_42 : ct 10 42 = some (100, 0) := by decide +kernel
theorem ctc_11_9 : ct 11 9 = some (44, 0) := by decide +kernel
theorem ctc_11_26 : ct 11 26 = some (50, 0) := by decide +kernel
theorem ctc_11_38 : ct 11 38 = some (7, 0) := by decide +kernel
theorem ctc_11_47 : ct 11 47 = some (23, 0) := by decide +kernel
theorem ctc_11_54 : ct 11 54 = some (60, 0) := by decide +kernel
theorem ctc_11_63 : ct 11 63 = some (38, 0) := by decide +kernel
theorem ctc_11_72 : ct 11 72 = some (0, 0) := by decide +kernel
theorem ctc_11_81 : ct 11 81 = some (77, 0) := by decide +kernel
theorem ctc_11_91 : ct 11 91 = some (92, 0) := by decide +kernel
theorem ctc_11_98 : ct 11 98 = some (73, 0) := by decide +kernel
theorem ctc_11_109 : ct 11 109 = some (111, 0) := by decide +kernel
theorem ctc_11_113 : ct 11 113 = some (112, 0) := by decide +kernel
theorem ctc_11_117 : ct 11 117 = some (51, 0) := by decide +kernel
theorem ctc_11_121 : ct 11 121 = some (101, 0) := by decide +kernel
theorem ctc_11_125 : ct 11 125 = some (100, 0) := by decide +kernel
theorem ctc_11_128 : ct 11 128 = some (102, 0) := by decide +kernel
theorem ctc_11_132 : ct 11 132 = some (52, 0) := by decide +kernel
theorem ctc_11_136 : ct 11 136 = some (57, 0) := by decide +kernel
theorem ctc_11_140 : ct 11 140 = some (116, 0) := by decide +kernel
theorem ctc_11_144 : ct 11 144 = some (117, 0) := by decide +kernel
theorem ctc_11_150 : ct 11 150 = some (104, 0) := by decide +kernel
theorem ctc_11_153 : ct 11 153 = some (103, 0) := by decide +kernel
theorem ctc_11_156 : ct 11 156 = some (45, 0) := by decide +kernel
theorem ctc_11_160 : ct 11 160 = some (8, 0) := by decide +kernel
theorem ctc_11_163 : ct 11 163 = some (9, 0) := by decide +kernel
theorem ctc_11_167 : ct 11 167 = some (12, 0) := by decide +kernel
theorem ctc_11_170 : ct 11 170 = some (13, 0) := by decide +kernel
theorem ctc_11_174 : ct 11 174 = some (19, 0) := by decide +kernel
theorem ctc_11_177 : ct 11 177 = some (47, 0) := by decide +kernel
theorem ctc_11_183 : ct 11 183 = some (61, 0) := by decide +kernel
theorem ctc_11_187 : ct 11 187 = some (65, 0) := by decide +kernel
theorem ctc_11_190 : ct 11 190 = some (24, 0) := by decide +kernel
theorem ctc_11_197 : ct 11 197 = some (68, 0) := by decide +kernel
theorem ctc_11_201 : ct 11 201 = some (70, 0) := by decide +kernel
theorem ctc_11_204 : ct 11 204 = some (72, 0) := by decide +kernel
theorem ctc_11_207 : ct 11 207 = some (39, 0) := by decide +kernel
theorem ctc_11_210 : ct 11 210 = some (41, 0) := by decide +kernel
theorem ctc_11_213 : ct 11 213 = some (46, 0) := by decide +kernel
theorem ctc_11_216 : ct 11 216 = some (1, 0) := by decide +kernel
theorem ctc_11_219 : ct 11 219 = some (5, 0) := by decide +kernel
theorem ctc_11_222 : ct 11 222 = some (6, 0) := by decide +kernel
theorem ctc_11_227 : ct 11 227 = some (78, 0) := by decide +kernel
theorem ctc_11_230 : ct 11 230 = some (79, 0) := by decide +kernel
theorem ctc_11_233 : ct 11 233 = some (86, 0) := by decide +kernel
theorem ctc_11_236 : ct 11 236 = some (87, 0) := by decide +kernel
theorem ctc_11_239 : ct 11 239 = some (93, 0) := by decide +kernel
theorem ctc_11_242 : ct 11 242 = some (94, 0) := by decide +kernel
theorem ctc_11_245 : ct 11 245 = some (96, 0) := by decide +kernel
theorem ctc_11_248 : ct 11 248 = some (97, 0) := by decide +kernel
theorem ctc_11_254 : ct 11 254 = some (88, 0) := by decide +kernel
theorem ctc_11_257 : ct 11 257 = some (146, 0) := by decide +kernel
theorem ctc_11_266 : ct 11 266 = some (74, 0) := by decide +kernel
theorem ctc_11_269 : ct 11 269 = some (76, 0) := by decide +kernel
theorem ctc_11_272 : ct 11 272 = some (49, 0) := by decide +kernel
theorem ctc_11_275 : ct 11 275 = some (22, 0) := by decide +kernel
theorem ctc_11_282 : ct 11 282 = some (151, 0) := by decide +kernel
theorem ctc_11_285 : ct 11 285 = some (107, 0) := by decide +kernel
theorem ctc_11_289 : ct 11 289 = some (37, 0) := by decide +kernel
theorem ctc_12_109 : ct 12 109 = some (156, 0) := by decide +kernel
theorem ctc_12_113 : ct 12 113 = some (157, 0) := by decide +kernel
theorem ctc_12_117 : ct 12 117 = some (159, 0) := by decide +kernel
theorem ctc_12_121 : ct 12 121 = some (161, 0) := by decide +kernel
theorem ctc_12_124 : ct 12 124 = some (164, 0) := by decide +kernel
theorem ctc_12_128 : ct 12 128 = some (165, 0) := by decide +kernel
theorem ctc_12_139 : ct 12 139 = some (170, 0) := by decide +kernel
theorem ctc_12_143 : ct 12 143 = some (173, 0) := by decide +kernel
theorem ctc_12_147 : ct 12 147 = some (168, 0) := by decide +kernel
theorem ctc_12_150 : ct 12 150 = some (171, 0) := by decide +kernel
theorem ctc_12_153 : ct 12 153 = some (172, 0) := by decide +kernel
theorem ctc_12_158 : ct 12 158 = some (169, 0) := by decide +kernel
theorem ctc_12_161 : ct 12 161 = some (178, 0) := by decide +kernel
theorem ctc_12_164 : ct 12 164 = some (180, 0) := by decide +kernel
theorem ctc_12_168 : ct 12 168 = some (181, 0) := by decide +kernel
theorem ctc_12_171 : ct 12 171 = some (183, 0) := by decide +kernel
theorem ctc_12_175 : ct 12 175 = some (184, 0) := by decide +kernel
theorem ctc_12_178 : ct 12 178 = some (185, 0) := by decide +kernel
theorem ctc_12_184 : ct 12 184 = some (188, 0) := by decide +kernel
theorem ctc_12_187 : ct 12 187 = some (187, 0) := by decide +kernel
theorem ctc_12_196 : ct 12 196 = some (196, 0) := by decide +kernel
theorem ctc_12_199 : ct 12 199 = some (197, 0) := by decide +kernel
theorem ctc_12_203 : ct 12 203 = some (195, 0) := by decide +kernel
theorem ctc_12_206 : ct 12 206 = some (198, 0) := by decide +kernel
theorem ctc_12_209 : ct 12 209 = some (199, 0) := by decide +kernel
theorem ctc_12_212 : ct 12 212 = some (200, 0) := by decide +kernel
theorem ctc_12_215 : ct 12 215 = some (203, 0) := by decide +kernel
theorem ctc_12_219 : ct 12 219 = some (191, 0) := by decide +kernel
theorem ctc_12_223 : ct 12 223 = some (194, 0) := by decide +kernel
theorem ctc_12_230 : ct 12 230 = some (202, 0) := by decide +kernel
theorem ctc_12_237 : ct 12 237 = some (206, 0) := by decide +kernel
theorem ctc_12_240 : ct 12 240 = some (207, 0) := by decide +kernel
theorem ctc_12_243 : ct 12 243 = some (208, 0) := by decide +kernel
theorem ctc_12_246 : ct 12 246 = some (213, 0) := by decide +kernel
theorem ctc_12_252 : ct 12 252 = some (211, 0) := by decide +kernel
theorem ctc_12_255 : ct 12 255 = some (212, 0) := by decide +kernel
theorem ctc_12_258 : ct 12 258 = some (210, 0) := by decide +kernel
theorem ctc_12_267 : ct 12 267 = some (218, 0) := by decide +kernel
theorem ctc_12_270 : ct 12 270 = some (216, 0) := by decide +kernel
theorem ctc_12_273 : ct 12 273 = some (217, 0) := by decide +kernel
theorem ctc_12_276 : ct 12 276 = some (225, 0) := by decide +kernel
theorem ctc_12_279 : ct 12 279 = some (226, 0) := by decide +kernel
theorem ctc_12_282 : ct 12 282 = some (223, 0) := by decide +kernel
theorem ctc_12_285 : ct 12 285 = some (224, 0) := by decide +kernel
theorem ctc_12_290 : ct 12 290 = some (230, 0) := by decide +kernel
theorem ctc_12_293 : ct 12 293 = some (234, 0) := by decide +kernel
theorem ctc_12_297 : ct 12 297 = some (238, 0) := by decide +kernel
theorem ctc_12_304 : ct 12 304 = some (240, 0) := by decide +kernel
theorem ctc_13_9 : ct 13 9 = some (108, 0) := by decide +kernel
theorem ctc_13_12 : ct 13 12 = some (153, 0) := by decide +kernel
theorem ctc_13_13 : ct 13 13 = some (109, 0) := by decide +kernel
theorem ctc_13_17 : ct 13 17 = some (154, 0) := by decide +kernel
theorem ctc_13_18 : ct 13 18 = some (110, 0) := by decide +kernel
theorem ctc_13_22 : ct 13 22 = some (155, 0) := by decide +kernel
theorem ctc_13_23 : ct 13 23 = some (113, 0) := by decide +kernel
theorem ctc_13_27 : ct 13 27 = some (158, 0) := by decide +kernel
theorem ctc_13_28 : ct 13 28 = some (114, 0) := by decide +kernel
theorem ctc_13_32 : ct 13 32 = some (160, 0) := by decide +kernel
theorem ctc_13_33 : ct 13 33 = some (115, 0) := by decide +kernel
theorem ctc_13_36 : ct 13 36 = some (162, 0) := by decide +kernel
theorem ctc_13_37 : ct 13 37 = some (118, 0) := by decide +kernel
theorem ctc_13_40 : ct 13 40 = some (163, 0) := by decide +kernel
theorem ctc_13_41 : ct 13 41 = some (119, 0) := by decide +kernel
theorem ctc_13_45 : ct 13 45 = some (166, 0) := by decide +kernel
theorem ctc_13_46 : ct 13 46 = some (120, 0) := by decide +kernel
theorem ctc_13_50 : ct 13 50 = some (167, 0) := by decide +kernel
theorem ctc_13_51 : ct 13 51 = some (121, 0) := by decide +kernel
theorem ctc_13_54 : ct 13 54 = some (174, 0) := by decide +kernel
theorem ctc_13_55 : ct 13 55 = some (122, 0) := by decide +kernel
theorem ctc_13_58 : ct 13 58 = some (175, 0) := by decide +kernel
theorem ctc_13_59 : ct 13 59 = some (123, 0) := by decide +kernel
theorem ctc_13_63 : ct 13 63 = some (176, 0) := by decide +kernel
theorem ctc_13_64 : ct 13 64 = some (124, 0) := by decide +kernel
theorem ctc_13_67 : ct 13 67 = some (177, 0) := by decide +kernel
theorem ctc_13_68 : ct 13 68 = some (125, 0) := by decide +kernel
theorem ctc_13_71 : ct 13 71 = some (179, 0) := by decide +kernel
theorem ctc_13_72 : ct 13 72 = some (126, 0) := by decide +kernel
theorem ctc_13_75 : ct 13 75 = some (182, 0) := by decide +kernel
theorem ctc_13_76 : ct 13 76 = some (127, 0) := by decide +kernel
theorem ctc_13_79 : ct 13 79 = some (186, 0) := by decide +kernel
theorem ctc_13_80 : ct 13 80 = some (128, 0) := by decide +kernel
theorem ctc_13_83 : ct 13 83 = some (190, 0) := by decide +kernel
theorem ctc_13_84 : ct 13 84 = some (129, 0) := by decide +kernel
theorem ctc_13_87 : ct 13 87 = some (192, 0) := by decide +kernel
theorem ctc_13_88 : ct 13 88 = some (130, 0) := by decide +kernel
theorem ctc_13_91 : ct 13 91 = some (193, 0) := by decide +kernel
theorem ctc_13_92 : ct 13 92 = some (131, 0) := by decide +kernel
theorem ctc_13_96 : ct 13 96 = some (201, 0) := by decide +kernel
theorem ctc_13_97 : ct 13 97 = some (132, 0) := by decide +kernel
theorem ctc_13_100 : ct 13 100 = some (204, 0) := by decide +kernel
theorem ctc_13_101 : ct 13 101 = some (133, 0) := by decide +kernel
theorem ctc_13_104 : ct 13 104 = some (189, 0) := by decide +kernel
theorem ctc_13_105 : ct 13 105 = some (134, 0) := by decide +kernel
theorem ctc_13_108 : ct 13 108 = some (205, 0) := by decide +kernel
theorem ctc_13_109 : ct 13 109 = some (135, 0) := by decide +kernel
theorem ctc_13_112 : ct 13 112 = some (209, 0) := by decide +kernel
theorem ctc_13_113 : ct 13 113 = some (136, 0) := by decide +kernel
theorem ctc_13_116 : ct 13 116 = some (214, 0) := by decide +kernel
theorem ctc_13_117 : ct 13 117 = some (137, 0) := by decide +kernel
theorem ctc_13_120 : ct 13 120 = some (215, 0) := by decide +kernel
theorem ctc_13_121 : ct 13 121 = some (138, 0) := by decide +kernel
theorem ctc_13_124 : ct 13 124 = some (219, 0) := by decide +kernel
theorem ctc_13_125 : ct 13 125 = some (139, 0) := by decide +kernel
theorem ctc_13_128 : ct 13 128 = some (220, 0) := by decide +kernel
theorem ctc_13_129 : ct 13 129 = some (140, 0) := by decide +kernel
theorem ctc_13_132 : ct 13 132 = some (221, 0) := by decide +kernel
theorem ctc_13_133 : ct 13 133 = some (141, 0) := by decide +kernel
theorem ctc_13_136 : ct 13 136 = some (222, 0) := by decide +kernel
theorem ctc_13_137 : ct 13 137 = some (142, 0) := by decide +kernel
theorem ctc_13_140 : ct 13 140 = some (227, 0) := by decide +kernel
theorem ctc_13_141 : ct 13 141 = some (143, 0) := by decide +kernel
theorem ctc_13_144 : ct 13 144 = some (228, 0) := by decide +kernel
theorem ctc_13_145 : ct 13 145 = some (144, 0) := by decide +kernel
theorem ctc_13_148 : ct 13 148 = some (229, 0) := by decide +kernel
theorem ctc_13_149 : ct 13 149 = some (145, 0) := by decide +kernel
theorem ctc_13_152 : ct 13 152 = some (231, 0) := by decide +kernel
theorem ctc_13_153 : ct 13 153 = some (147, 0) := by decide +kernel
theorem ctc_13_156 : ct 13 156 = some (232, 0) := by decide +kernel
theorem ctc_13_157 : ct 13 157 = some (148, 0) := by decide +kernel
theorem ctc_13_160 : ct 13 160 = some (233, 0) := by decide +kernel
theorem ctc_13_161 : ct 13 161 = some (149, 0) := by decide +kernel
theorem ctc_13_164 : ct 13 164 = some (235, 0) := by decide +kernel
theorem ctc_13_165 : ct 13 165 = some (150, 0) := by decide +kernel
theorem ctc_13_168 : ct 13 168 = some (236, 0) := by decide +kernel
theorem ctc_13_169 : ct 13 169 = some (151, 0) := by decide +kernel
theorem ctc_13_172 : ct 13 172 = some (237, 0) := by decide +kernel
theorem ctc_13_173 : ct 13 173 = some (152, 0) := by decide +kernel
theorem ctc_13_177 : ct 13 177 = some (239, 0) := by decide +kernel
theorem ctc_15_335 : ct 15 335 = some (245, 0) := by decide +kernel
theorem ctc_15_492 : ct 15 492 = some (246, 0) := by decide +kernel
theorem ctc_15_505 : ct 15 505 = some (242, 0) := by decide +kernel
theorem ctc_15_633 : ct 15 633 = some (244, 0) := by decide +kernel
theorem ctc_15_637 : ct 15 637 = some (248, 0) := by decide +kernel
theorem ctc_16_88 : ct 16 88 = some (247, 0) := by decide +kernel
theorem ctc_16_95 : ct 16 95 = some (249, 0) := by decide +kernel
theorem ctc_100_64 : ct 100 64 = some (251, 0) := by decide +kernel
theorem ctc_100_79 : ct 100 79 = some (3, 0) := by decide +kernel
theorem ctc_100_83 : ct 100 83 = some (4, 0) := by decide +kernel
theorem ctc_101_64 : ct 101 64 = some (252, 0) := by decide +kernel
theorem ctc_101_79 : ct 101 79 = some (3, 0) := by decide +kernel
theorem ctc_101_83 : ct 101 83 = some (4, 0) := by decide +kernel
theorem ctc_102_64 : ct 102 64 = some (253, 0) := by decide +kernel
theorem ctc_102_79 : ct 102 79 = some (3, 0) := by decide +kernel
theorem ctc_102_83 : ct 102 83 = some (4, 0) := by decide +kernel
theorem ctc_103_64 : ct 103 64 = some (254, 0) := by decide +kernel
theorem ctc_103_79 : ct 103 79 = some (3, 0) := by decide +kernel
theorem ctc_103_83 : ct 103 83 = some (4, 0) := by decide +kernel
theorem ctc_104_64 : ct 104 64 = some (255, 0) := by decide +kernel
theorem ctc_104_79 : ct 104 79 = some (3, 0) := by decide +kernel
theorem ctc_104_83 : ct 104 83 = some (4, 0) := by decide +kernel
theorem ctc_105_64 : ct 105 64 = some (256, 0) := by decide +kernel
theorem ctc_105_79 : ct 105 79 = some (3, 0) := by decide +kernel
theorem ctc_105_83 : ct 105 83 = some (4, 0) := by decide +kernel
theorem ctc_106_64 : ct 106 64 = some (257, 0) := by decide +kernel
theorem ctc_106_79 : ct 106 79 = some (3, 0) := by decide +kernel
theorem ctc_106_83 : ct 106 83 = some (4, 0) := by decide +kernel
theorem ctc_107_64 : ct 107 64 = some (258, 0) := by decide +kernel
theorem ctc_107_79 : ct 107 79 = some (3, 0) := by decide +kernel
theorem ctc_107_83 : ct 107 83 = some (4, 0) := by decide +kernel
theorem ctc_108_64 : ct 108 64 = some (259, 0) := by decide +kernel
theorem ctc_108_79 : ct 108 79 = some (3, 0) := by decide +kernel
theorem ctc_108_83 : ct 108 83 = some (4, 0) := by decide +kernel
theorem ctc_109_64 : ct 109 64 = some (260, 0) := by decide +kernel
theorem ctc_109_79 : ct 109 79 = some (3, 0) := by decide +kernel
theorem ctc_109_83 : ct 109 83 = some (4, 0) := by decide +kernel
theorem ctc_110_64 : ct 110 64 = some (261, 0) := by decide +kernel
theorem ctc_110_79 : ct 110 79 = some (3, 0) := by decide +kernel
theorem ctc_110_83 : ct 110 83 = some (4, 0) := by decide +kernel
theorem ctc_111_64 : ct 111 64 = some (262, 0) := by decide +kernel
theorem ctc_111_79 : ct 111 79 = some (3, 0) := by decide +kernel
theorem ctc_111_83 : ct 111 83 = some (4, 0) := by decide +kernel
theorem ctc_112_79 : ct 112 79 = some (3, 0) := by decide +kernel
theorem ctc_112_83 : ct 112 83 = some (4, 0) := by decide +kernel
theorem itc_0_3 : it 0 3 = some 0 := by decide +kernel
theorem ctn_0_3 : ct 0 3 = none := by decide +kernel
theorem itc_0_47 : it 0 47 = some 2 := by decide +kernel
theorem ctn_0_47 : ct 0 47 = none := by decide +kernel
theorem itc_1_3 : it 1 3 = some 0 := by decide +kernel
theorem ctn_1_3 : ct 1 3 = none := by decide +kernel
theorem itc_2_3 : it 2 3 = some 0 := by decide +kernel
theorem ctn_2_3 : ct 2 3 = none := by decide +kernel
theorem itc_2_81 : it 2 81 = some 3 := by decide +kernel
theorem ctn_2_81 : ct 2 81 = none := by decide +kernel
theorem itc_3_3 : it 3 3 = some 0 := by decide +kernel
theorem ctn_3_3 : ct 3 3 = none := by decide +kernel
theorem itc_4_1 : it 4 1 = some 0 := by decide +kernel
theorem ctn_4_1 : ct 4 1 = none := by decide +kernel
theorem itc_5_3 : it 5 3 = some 0 := by decide +kernel
theorem ctn_5_3 : ct 5 3 = none := by decide +kernel
theorem itc_5_64 : it 5 64 = some 4 := by decide +kernel
theorem ctn_5_64 : ct 5 64 = none := by decide +kernel
theorem itc_5_72 : it 5 72 = some 3 := by decide +kernel
theorem ctn_5_72 : ct 5 72 = none := by decide +kernel
theorem itc_6_3 : it 6 3 = some 0 := by decide +kernel
theorem ctn_6_3 : ct 6 3 = none := by decide +kernel
theorem itc_6_70 : it 6 70 = some 1 := by decide +kernel
theorem ctn_6_70 : ct 6 70 = none := by decide +kernel
theorem itc_7_1 : it 7 1 = some 0 := by decide +kernel
theorem ctn_7_1 : ct 7 1 = none := by decide +kernel
theorem itc_7_23 : it 7 23 = some 3 := by decide +kernel
theorem ctn_7_23 : ct 7 23 = none := by decide +kernel
theorem itc_8_3 : it 8 3 = some 0 := by decide +kernel
theorem ctn_8_3 : ct 8 3 = none := by decide +kernel
theorem itc_8_40 : it 8 40 = some 3 := by decide +kernel
theorem ctn_8_40 : ct 8 40 = none := by decide +kernel
theorem itc_8_100 : it 8 100 = some 2 := by decide +kernel
theorem ctn_8_100 : ct 8 100 = none := by decide +kernel
theorem itc_9_1 : it 9 1 = some 0 := by decide +kernel
theorem ctn_9_1 : ct 9 1 = none := by decide +kernel
theorem itc_10_3 : it 10 3 = some 0 := by decide +kernel
theorem ctn_10_3 : ct 10 3 = none := by decide +kernel
theorem itc_10_9 : it 10 9 = some 2 := by decide +kernel
theorem ctn_10_9 : ct 10 9 = none := by decide +kernel
theorem itc_10_46 : it 10 46 = some 3 := by decide +kernel
theorem ctn_10_46 : ct 10 46 = none := by decide +kernel
theorem itc_10_49 : it 10 49 = some 1 := by decide +kernel
theorem ctn_10_49 : ct 10 49 = none := by decide +kernel
theorem itc_11_1 : it 11 1 = some 0 := by decide +kernel
theorem ctn_11_1 : ct 11 1 = none := by decide +kernel
theorem itc_12_1 : it 12 1 = some 0 := by decide +kernel
theorem ctn_12_1 : ct 12 1 = none := by decide +kernel
theorem itc_16_38 : it 16 38 = some 3 := by decide +kernel
theorem ctn_16_38 : ct 16 38 = none := by decide +kernel
theorem itc_16_92 : it 16 92 = some 2 := by decide +kernel
theorem ctn_16_92 : ct 16 92 = none := by decide +kernel
theorem itc_100_73 : it 100 73 = some 1 := by decide +kernel
theorem ctn_100_73 : ct 100 73 = none := by decide +kernel
theorem itc_101_73 : it 101 73 = some 1 := by decide +kernel
theorem ctn_101_73 : ct 101 73 = none := by decide +kernel
theorem itc_102_73 : it 102 73 = some 1 := by decide +kernel
theorem ctn_102_73 : ct 102 73 = none := by decide +kernel
theorem itc_103_73 : it 103 73 = some 1 := by decide +kernel
theorem ctn_103_73 : ct 103 73 = none := by decide +kernel
theorem itc_104_73 : it 104 73 = some 1 := by decide +kernel
theorem ctn_104_73 : ct 104 73 = none := by decide +kernel
theorem itc_105_73 : it 105 73 = some 1 := by decide +kernel
theorem ctn_105_73 : ct 105 73 = none := by decide +kernel
theorem itc_106_73 : it 106 73 = some 1 := by decide +kernel
theorem ctn_106_73 : ct 106 73 = none := by decide +kernel
theorem itc_107_73 : it 107 73 = some 1 := by decide +kernel
theorem ctn_107_73 : ct 107 73 = none := by decide +kernel
theorem itc_108_73 : it 108 73 = some 1 := by decide +kernel
theorem ctn_108_73 : ct 108 73 = none := by decide +kernel
theorem itc_109_73 : it 109 73 = some 1 := by decide +kernel
theorem ctn_109_73 : ct 109 73 = none := by decide +kernel
theorem itc_110_73 : it 110 73 = some 1 := by decide +kernel
theorem ctn_110_73 : ct 110 73 = none := by decide +kernel
theorem itc_111_73 : it 111 73 = some 1 := by decide +kernel
theorem ctn_111_73 : ct 111 73 = none := by decide +kernel
theorem itc_112_73 : it 112 73 = some 1 := by decide +kernel
theorem ctn_112_73 : ct 112 73 = none := by decide +kernel
theorem ntc_0_21 : nt 0 21 = some 10 := by decide +kernel
theorem ntc_4_7 : nt 4 7 = some 10 := by decide +kernel
theorem ntc_6_9 : nt 6 9 = some 10 := by decide +kernel
theorem ntc_11_7 : nt 11 7 = some 4 := by decide +kernel
theorem ntc_11_20 : nt 11 20 = some 5 := by decide +kernel
theorem ntc_11_33 : nt 11 33 = some 1 := by decide +kernel
theorem ntc_11_42 : nt 11 42 = some 2 := by decide +kernel
theorem ntc_11_52 : nt 11 52 = some 6 := by decide +kernel
theorem ntc_11_61 : nt 11 61 = some 3 := by decide +kernel
theorem ntc_11_70 : nt 11 70 = some 0 := by decide +kernel
theorem ntc_11_79 : nt 11 79 = some 8 := by decide +kernel
theorem ntc_11_86 : nt 11 86 = some 9 := by decide +kernel
theorem ntc_11_96 : nt 11 96 = some 7 := by decide +kernel
theorem ntc_13_7 : nt 13 7 = some 11 := by decide +kernel
theorem ntc_13_10 : nt 13 10 = some 12 := by decide +kernel
