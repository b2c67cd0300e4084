theorem t_m2000000000 : ((-2000000000) : Int32).toInt = -2000000000 := by decide
theorem t_m2000000 : ((-2000000) : Int32).toInt = -2000000 := by decide
theorem t_m100000 : ((-100000) : Int32).toInt = -100000 := by decide
theorem t_m10000 : ((-10000) : Int32).toInt = -10000 := by decide
theorem t_m1000 : ((-1000) : Int32).toInt = -1000 := by decide
theorem t_m999 : ((-999) : Int32).toInt = -999 := by decide
theorem t_m100 : ((-100) : Int32).toInt = -100 := by decide
theorem t_m50 : ((-50) : Int32).toInt = -50 := by decide
theorem t_m10 : ((-10) : Int32).toInt = -10 := by decide
theorem t_m9 : ((-9) : Int32).toInt = -9 := by decide
theorem t_m8 : ((-8) : Int32).toInt = -8 := by decide
theorem t_m7 : ((-7) : Int32).toInt = -7 := by decide
theorem t_m6 : ((-6) : Int32).toInt = -6 := by decide
theorem t_m5 : ((-5) : Int32).toInt = -5 := by decide
theorem t_m4 : ((-4) : Int32).toInt = -4 := by decide
theorem t_m3 : ((-3) : Int32).toInt = -3 := by decide
theorem t_m2 : ((-2) : Int32).toInt = -2 := by decide
theorem t_m1 : ((-1) : Int32).toInt = -1 := by decide
theorem t_0 : (0 : Int32).toInt = 0 := by decide
theorem t_1 : (1 : Int32).toInt = 1 := by decide
theorem t_2 : (2 : Int32).toInt = 2 := by decide
theorem t_3 : (3 : Int32).toInt = 3 := by decide
theorem t_4 : (4 : Int32).toInt = 4 := by decide
theorem t_5 : (5 : Int32).toInt = 5 := by decide
theorem t_6 : (6 : Int32).toInt = 6 := by decide
theorem t_7 : (7 : Int32).toInt = 7 := by decide
theorem t_8 : (8 : Int32).toInt = 8 := by decide
theorem t_9 : (9 : Int32).toInt = 9 := by decide
theorem t_10 : (10 : Int32).toInt = 10 := by decide
theorem t_11 : (11 : Int32).toInt = 11 := by decide
theorem t_12 : (12 : Int32).toInt = 12 := by decide
theorem t_13 : (13 : Int32).toInt = 13 := by decide
theorem t_14 : (14 : Int32).toInt = 14 := by decide
theorem t_15 : (15 : Int32).toInt = 15 := by decide
theorem t_16 : (16 : Int32).toInt = 16 := by decide
theorem t_17 : (17 : Int32).toInt = 17 := by decide
theorem t_18 : (18 : Int32).toInt = 18 := by decide
theorem t_19 : (19 : Int32).toInt = 19 := by decide
theorem t_20 : (20 : Int32).toInt = 20 := by decide
theorem t_21 : (21 : Int32).toInt = 21 := by decide
theorem t_22 : (22 : Int32).toInt = 22 := by decide
theorem t_23 : (23 : Int32).toInt = 23 := by decide
theorem t_24 : (24 : Int32).toInt = 24 := by decide
theorem t_25 : (25 : Int32).toInt = 25 := by decide
theorem t_26 : (26 : Int32).toInt = 26 := by decide
theorem t_27 : (27 : Int32).toInt = 27 := by decide
theorem t_28 : (28 : Int32).toInt = 28 := by decide
theorem t_29 : (29 : Int32).toInt = 29 := by decide
theorem t_30 : (30 : Int32).toInt = 30 := by decide
theorem t_31 : (31 : Int32).toInt = 31 := by decide
theorem t_32 : (32 : Int32).toInt = 32 := by decide
theorem t_33 : (33 : Int32).toInt = 33 := by decide
theorem t_34 : (34 : Int32).toInt = 34 := by decide
theorem t_35 : (35 : Int32).toInt = 35 := by decide
theorem t_36 : (36 : Int32).toInt = 36 := by decide
theorem t_37 : (37 : Int32).toInt = 37 := by decide
theorem t_38 : (38 : Int32).toInt = 38 := by decide
theorem t_39 : (39 : Int32).toInt = 39 := by decide
theorem t_40 : (40 : Int32).toInt = 40 := by decide
theorem t_41 : (41 : Int32).toInt = 41 := by decide
theorem t_42 : (42 : Int32).toInt = 42 := by decide
theorem t_43 : (43 : Int32).toInt = 43 := by decide
theorem t_44 : (44 : Int32).toInt = 44 := by decide
theorem t_45 : (45 : Int32).toInt = 45 := by decide
theorem t_46 : (46 : Int32).toInt = 46 := by decide
theorem t_47 : (47 : Int32).toInt = 47 := by decide
theorem t_48 : (48 : Int32).toInt = 48 := by decide
theorem t_49 : (49 : Int32).toInt = 49 := by decide
theorem t_50 : (50 : Int32).toInt = 50 := by decide
theorem t_51 : (51 : Int32).toInt = 51 := by decide
theorem t_52 : (52 : Int32).toInt = 52 := by decide
theorem t_53 : (53 : Int32).toInt = 53 := by decide
theorem t_54 : (54 : Int32).toInt = 54 := by decide
theorem t_55 : (55 : Int32).toInt = 55 := by decide
theorem t_56 : (56 : Int32).toInt = 56 := by decide
theorem t_57 : (57 : Int32).toInt = 57 := by decide
theorem t_58 : (58 : Int32).toInt = 58 := by decide
theorem t_59 : (59 : Int32).toInt = 59 := by decide
theorem t_60 : (60 : Int32).toInt = 60 := by decide
theorem t_61 : (61 : Int32).toInt = 61 := by decide
theorem t_62 : (62 : Int32).toInt = 62 := by decide
theorem t_63 : (63 : Int32).toInt = 63 := by decide
theorem t_64 : (64 : Int32).toInt = 64 := by decide
theorem t_65 : (65 : Int32).toInt = 65 := by decide
theorem t_66 : (66 : Int32).toInt = 66 := by decide
theorem t_67 : (67 : Int32).toInt = 67 := by decide
theorem t_68 : (68 : Int32).toInt = 68 := by decide
theorem t_69 : (69 : Int32).toInt = 69 := by decide
theorem t_70 : (70 : Int32).toInt = 70 := by decide
theorem t_71 : (71 : Int32).toInt = 71 := by decide
theorem t_72 : (72 : Int32).toInt = 72 := by decide
theorem t_73 : (73 : Int32).toInt = 73 := by decide
theorem t_74 : (74 : Int32).toInt = 74 := by decide
theorem t_75 : (75 : Int32).toInt = 75 := by decide
theorem t_76 : (76 : Int32).toInt = 76 := by decide
theorem t_77 : (77 : Int32).toInt = 77 := by decide
theorem t_78 : (78 : Int32).toInt = 78 := by decide
theorem t_79 : (79 : Int32).toInt = 79 := by decide
theorem t_80 : (80 : Int32).toInt = 80 := by decide
theorem t_81 : (81 : Int32).toInt = 81 := by decide
theorem t_82 : (82 : Int32).toInt = 82 := by decide
theorem t_83 : (83 : Int32).toInt = 83 := by decide
theorem t_84 : (84 : Int32).toInt = 84 := by decide
theorem t_85 : (85 : Int32).toInt = 85 := by decide
theorem t_86 : (86 : Int32).toInt = 86 := by decide
theorem t_87 : (87 : Int32).toInt = 87 := by decide
theorem t_88 : (88 : Int32).toInt = 88 := by decide
theorem t_89 : (89 : Int32).toInt = 89 := by decide
theorem t_90 : (90 : Int32).toInt = 90 := by decide
theorem t_91 : (91 : Int32).toInt = 91 := by decide
theorem t_92 : (92 : Int32).toInt = 92 := by decide
theorem t_93 : (93 : Int32).toInt = 93 := by decide
theorem t_94 : (94 : Int32).toInt = 94 := by decide
theorem t_95 : (95 : Int32).toInt = 95 := by decide
theorem t_96 : (96 : Int32).toInt = 96 := by decide
theorem t_97 : (97 : Int32).toInt = 97 := by decide
theorem t_98 : (98 : Int32).toInt = 98 := by decide
theorem t_99 : (99 : Int32).toInt = 99 := by decide
theorem t_100 : (100 : Int32).toInt = 100 := by decide
theorem t_101 : (101 : Int32).toInt = 101 := by decide
theorem t_102 : (102 : Int32).toInt = 102 := by decide
theorem t_103 : (103 : Int32).toInt = 103 := by decide
theorem t_104 : (104 : Int32).toInt = 104 := by decide
theorem t_105 : (105 : Int32).toInt = 105 := by decide
theorem t_106 : (106 : Int32).toInt = 106 := by decide
theorem t_107 : (107 : Int32).toInt = 107 := by decide
theorem t_108 : (108 : Int32).toInt = 108 := by decide
theorem t_109 : (109 : Int32).toInt = 109 := by decide
theorem t_110 : (110 : Int32).toInt = 110 := by decide
theorem t_111 : (111 : Int32).toInt = 111 := by decide
theorem t_112 : (112 : Int32).toInt = 112 := by decide
theorem t_113 : (113 : Int32).toInt = 113 := by decide
theorem t_114 : (114 : Int32).toInt = 114 := by decide
theorem t_115 : (115 : Int32).toInt = 115 := by decide
theorem t_116 : (116 : Int32).toInt = 116 := by decide
theorem t_117 : (117 : Int32).toInt = 117 := by decide
theorem t_118 : (118 : Int32).toInt = 118 := by decide
theorem t_119 : (119 : Int32).toInt = 119 := by decide
theorem t_120 : (120 : Int32).toInt = 120 := by decide
theorem t_121 : (121 : Int32).toInt = 121 := by decide
theorem t_122 : (122 : Int32).toInt = 122 := by decide
theorem t_123 : (123 : Int32).toInt = 123 := by decide
theorem t_124 : (124 : Int32).toInt = 124 := by decide
theorem t_125 : (125 : Int32).toInt = 125 := by decide
theorem t_126 : (126 : Int32).toInt = 126 := by decide
theorem t_127 : (127 : Int32).toInt = 127 := by decide
theorem t_128 : (128 : Int32).toInt = 128 := by decide
theorem t_129 : (129 : Int32).toInt = 129 := by decide
theorem t_130 : (130 : Int32).toInt = 130 := by decide
theorem t_131 : (131 : Int32).toInt = 131 := by decide
theorem t_132 : (132 : Int32).toInt = 132 := by decide
theorem t_133 : (133 : Int32).toInt = 133 := by decide
theorem t_134 : (134 : Int32).toInt = 134 := by decide
theorem t_135 : (135 : Int32).toInt = 135 := by decide
theorem t_136 : (136 : Int32).toInt = 136 := by decide
theorem t_137 : (137 : Int32).toInt = 137 := by decide
theorem t_138 : (138 : Int32).toInt = 138 := by decide
theorem t_139 : (139 : Int32).toInt = 139 := by decide
theorem t_200 : (200 : Int32).toInt = 200 := by decide
theorem t_255 : (255 : Int32).toInt = 255 := by decide
theorem t_256 : (256 : Int32).toInt = 256 := by decide
theorem t_384 : (384 : Int32).toInt = 384 := by decide
theorem t_398 : (398 : Int32).toInt = 398 := by decide
theorem t_399 : (399 : Int32).toInt = 399 := by decide
theorem t_400 : (400 : Int32).toInt = 400 := by decide
theorem t_600 : (600 : Int32).toInt = 600 := by decide
theorem t_999 : (999 : Int32).toInt = 999 := by decide
theorem t_2000 : (2000 : Int32).toInt = 2000 := by decide
theorem t_6400 : (6400 : Int32).toInt = 6400 := by decide
theorem t_9999 : (9999 : Int32).toInt = 9999 := by decide
theorem t_10000 : (10000 : Int32).toInt = 10000 := by decide
theorem t_100000 : (100000 : Int32).toInt = 100000 := by decide
theorem t_2000000 : (2000000 : Int32).toInt = 2000000 := by decide
theorem t_2000000000 : (2000000000 : Int32).toInt = 2000000000 := by decide
theorem k_0 : Cond.initialized R_law ∈ tb := tb_1 0 (by decide +kernel) (by decide)
theorem k_1 : Cond.initialized RX8 ∈ tb := tb_1 1 (by decide +kernel) (by decide)
theorem k_2 : Cond.initialized RX2 ∈ tb := tb_1 2 (by decide +kernel) (by decide)
theorem k_3 : Cond.initialized RX3 ∈ tb := tb_1 3 (by decide +kernel) (by decide)
theorem k_4 : Cond.initialized RX1 ∈ tb := tb_1 4 (by decide +kernel) (by decide)
theorem k_5 : Cond.initialized RX6 ∈ tb := tb_1 5 (by decide +kernel) (by decide)
theorem k_6 : Cond.initialized RX4 ∈ tb := tb_1 6 (by decide +kernel) (by decide)
theorem k_7 : Cond.initialized RX0 ∈ tb := tb_1 7 (by decide +kernel) (by decide)
theorem k_8 : Cond.initialized RX5 ∈ tb := tb_1 8 (by decide +kernel) (by decide)
theorem k_9 : Cond.initialized RX9 ∈ tb := tb_1 9 (by decide +kernel) (by decide)
theorem k_10 : Cond.initialized RX7 ∈ tb := tb_1 10 (by decide +kernel) (by decide)
theorem k_11 : Cond.initialized "java/lang/Math" ∈ tb := tb_1 11 (by decide +kernel) (by decide)
theorem k_12 : Cond.initialized "java/lang/String" ∈ tb := tb_1 12 (by decide +kernel) (by decide)
theorem k_13 : Cond.initialized "java/lang/StringLatin1" ∈ tb := tb_1 13 (by decide +kernel) (by decide)
theorem k_14 : Cond.initialized "jdk/internal/util/Preconditions" ∈ tb := tb_1 14 (by decide +kernel) (by decide)
theorem k_15 : Cond.initialized "java/lang/StringUTF16" ∈ tb := tb_1 15 (by decide +kernel) (by decide)
theorem k_16 : Cond.classLink R_law 7 RX8 ∈ tb := tb_1 16 (by decide +kernel) (by decide)
theorem k_17 : Cond.instantiable RX8 14 ∈ tb := tb_1 17 (by decide +kernel) (by decide)
theorem k_18 : Cond.methodLink R_law 9 yX8_init ∈ tb := tb_1 18 (by decide +kernel) (by decide)
theorem k_19 : Cond.instanceMethod yX8_init ∈ tb := tb_1 19 (by decide +kernel) (by decide)
theorem k_20 : Cond.code yX8_init cX8_init 2 none ∈ tb := tb_1 20 (by decide +kernel) (by decide)
theorem k_21 : Cond.methodLink RX8 1 objectInit ∈ tb := tb_1 21 (by decide +kernel) (by decide)
theorem k_22 : Cond.instanceMethod objectInit ∈ tb := tb_1 22 (by decide +kernel) (by decide)
theorem k_23 : Cond.code objectInit ⟨#[0xb1]⟩ 1 none ∈ tb := tb_1 23 (by decide +kernel) (by decide)
theorem k_24 : Cond.classLink RX8 19 RX7 ∈ tb := tb_1 24 (by decide +kernel) (by decide)
theorem k_26 : Cond.classLink RX8 25 RX5 ∈ tb := tb_1 26 (by decide +kernel) (by decide)
theorem k_28 : Cond.classLink RX8 34 RX2 ∈ tb := tb_1 28 (by decide +kernel) (by decide)
theorem k_29 : Cond.instantiable RX2 6 ∈ tb := tb_1 29 (by decide +kernel) (by decide)
theorem k_31 : Cond.instanceMethod yX2_init ∈ tb := tb_1 31 (by decide +kernel) (by decide)
theorem k_32 : Cond.code yX2_init cX2_init 1 none ∈ tb := tb_1 32 (by decide +kernel) (by decide)
theorem k_33 : Cond.methodLink RX2 3 objectInit ∈ tb := tb_1 33 (by decide +kernel) (by decide)
theorem k_34 : Cond.fieldLink RX2 9 "SeaWatches$Offs" "signals" "[I" ∈ tb := tb_1 34 (by decide +kernel) (by decide)
theorem k_35 : Cond.fieldLink RX2 15 "SeaWatches$Offs" "firsts" "[I" ∈ tb := tb_1 35 (by decide +kernel) (by decide)
theorem k_36 : Cond.fieldLink RX2 18 "SeaWatches$Offs" "lasts" "[I" ∈ tb := tb_1 36 (by decide +kernel) (by decide)
theorem k_37 : Cond.fieldLink RX2 21 "SeaWatches$Offs" "values" "[I" ∈ tb := tb_1 37 (by decide +kernel) (by decide)
theorem k_38 : Cond.fieldLink RX2 24 "SeaWatches$Offs" "toldOn" "[I" ∈ tb := tb_1 38 (by decide +kernel) (by decide)
theorem k_39 : Cond.fieldLink RX2 27 "SeaWatches$Offs" "size" "I" ∈ tb := tb_1 39 (by decide +kernel) (by decide)
theorem k_54 : Cond.arrayClass .int ∈ tb := tb_1 54 (by decide +kernel) (by decide)
theorem k_55 : Cond.classLink RX8 41 RX3 ∈ tb := tb_1 55 (by decide +kernel) (by decide)
theorem k_56 : Cond.instantiable RX3 4 ∈ tb := tb_1 56 (by decide +kernel) (by decide)
theorem k_58 : Cond.instanceMethod yX3_init ∈ tb := tb_1 58 (by decide +kernel) (by decide)
theorem k_59 : Cond.code yX3_init cX3_init 1 none ∈ tb := tb_1 59 (by decide +kernel) (by decide)
theorem k_60 : Cond.methodLink RX3 3 objectInit ∈ tb := tb_1 60 (by decide +kernel) (by decide)
theorem k_61 : Cond.fieldLink RX3 9 "SeaWatches$Rates" "days" "[I" ∈ tb := tb_1 61 (by decide +kernel) (by decide)
theorem k_63 : Cond.fieldLink RX3 15 "SeaWatches$Rates" "values" "[I" ∈ tb := tb_1 63 (by decide +kernel) (by decide)
theorem k_65 : Cond.fieldLink RX3 18 "SeaWatches$Rates" "sorted" "[I" ∈ tb := tb_1 65 (by decide +kernel) (by decide)
theorem k_66 : Cond.fieldLink RX3 21 "SeaWatches$Rates" "size" "I" ∈ tb := tb_1 66 (by decide +kernel) (by decide)
theorem k_77 : Cond.classLink RX8 48 RX1 ∈ tb := tb_1 77 (by decide +kernel) (by decide)
theorem k_78 : Cond.instantiable RX1 15 ∈ tb := tb_1 78 (by decide +kernel) (by decide)
theorem k_80 : Cond.instanceMethod yX1_init ∈ tb := tb_1 80 (by decide +kernel) (by decide)
theorem k_81 : Cond.code yX1_init cX1_init 1 none ∈ tb := tb_1 81 (by decide +kernel) (by decide)
theorem k_82 : Cond.methodLink RX1 3 objectInit ∈ tb := tb_1 82 (by decide +kernel) (by decide)
theorem k_83 : Cond.fieldLink RX1 19 "SeaWatches$Fit" "n" "J" ∈ tb := tb_1 83 (by decide +kernel) (by decide)
theorem k_84 : Cond.fieldLink RX1 22 "SeaWatches$Fit" "sumR" "J" ∈ tb := tb_1 84 (by decide +kernel) (by decide)
theorem k_85 : Cond.fieldLink RX1 25 "SeaWatches$Fit" "sumW" "J" ∈ tb := tb_1 85 (by decide +kernel) (by decide)
theorem k_86 : Cond.fieldLink RX1 28 "SeaWatches$Fit" "sumA" "J" ∈ tb := tb_1 86 (by decide +kernel) (by decide)
theorem k_87 : Cond.fieldLink RX1 31 "SeaWatches$Fit" "sumWW" "J" ∈ tb := tb_1 87 (by decide +kernel) (by decide)
theorem k_88 : Cond.fieldLink RX1 34 "SeaWatches$Fit" "sumAA" "J" ∈ tb := tb_1 88 (by decide +kernel) (by decide)
theorem k_89 : Cond.fieldLink RX1 37 "SeaWatches$Fit" "sumWA" "J" ∈ tb := tb_1 89 (by decide +kernel) (by decide)
theorem k_90 : Cond.fieldLink RX1 40 "SeaWatches$Fit" "sumWR" "J" ∈ tb := tb_1 90 (by decide +kernel) (by decide)
theorem k_91 : Cond.fieldLink RX1 43 "SeaWatches$Fit" "sumAR" "J" ∈ tb := tb_1 91 (by decide +kernel) (by decide)
theorem k_92 : Cond.fieldLink RX1 9 "SeaWatches$Fit" "divisor" "J" ∈ tb := tb_1 92 (by decide +kernel) (by decide)
theorem k_93 : Cond.fieldLink RX1 50 "SeaWatches$Fit" "byWarmth" "J" ∈ tb := tb_1 93 (by decide +kernel) (by decide)
theorem k_94 : Cond.fieldLink RX1 53 "SeaWatches$Fit" "byAge" "J" ∈ tb := tb_1 94 (by decide +kernel) (by decide)
theorem k_95 : Cond.fieldLink RX1 15 "SeaWatches$Fit" "form" "I" ∈ tb := tb_1 95 (by decide +kernel) (by decide)
theorem k_96 : Cond.fieldLink RX1 56 "SeaWatches$Fit" "whole" "J" ∈ tb := tb_1 96 (by decide +kernel) (by decide)
theorem k_97 : Cond.fieldLink RX1 59 "SeaWatches$Fit" "rest" "J" ∈ tb := tb_1 97 (by decide +kernel) (by decide)
theorem k_129 : Cond.classLink RX8 55 RX6 ∈ tb := tb_1 129 (by decide +kernel) (by decide)
theorem k_130 : Cond.instantiable RX6 8 ∈ tb := tb_1 130 (by decide +kernel) (by decide)
theorem k_132 : Cond.instanceMethod yX6_init ∈ tb := tb_1 132 (by decide +kernel) (by decide)
theorem k_133 : Cond.code yX6_init cX6_init 1 none ∈ tb := tb_1 133 (by decide +kernel) (by decide)
theorem k_134 : Cond.methodLink RX6 3 objectInit ∈ tb := tb_1 134 (by decide +kernel) (by decide)
theorem k_135 : Cond.classLink RX6 19 RX4 ∈ tb := tb_1 135 (by decide +kernel) (by decide)
theorem k_136 : Cond.instantiable RX4 4 ∈ tb := tb_1 136 (by decide +kernel) (by decide)
theorem k_138 : Cond.instanceMethod yX4_init ∈ tb := tb_1 138 (by decide +kernel) (by decide)
theorem k_139 : Cond.code yX4_init cX4_init 1 none ∈ tb := tb_1 139 (by decide +kernel) (by decide)
theorem k_140 : Cond.methodLink RX4 3 objectInit ∈ tb := tb_1 140 (by decide +kernel) (by decide)
theorem k_141 : Cond.fieldLink RX4 9 "SeaWatches$Rule" "signs" "[I" ∈ tb := tb_1 141 (by decide +kernel) (by decide)
theorem k_142 : Cond.fieldLink RX4 15 "SeaWatches$Rule" "values" "[I" ∈ tb := tb_1 142 (by decide +kernel) (by decide)
theorem k_143 : Cond.fieldLink RX4 18 "SeaWatches$Rule" "stack" "[I" ∈ tb := tb_1 143 (by decide +kernel) (by decide)
theorem k_144 : Cond.fieldLink RX4 21 "SeaWatches$Rule" "size" "I" ∈ tb := tb_1 144 (by decide +kernel) (by decide)
theorem k_157 : Cond.fieldLink RX6 9 "SeaWatches$Tape" "bytes" "[I" ∈ tb := tb_1 157 (by decide +kernel) (by decide)
theorem k_158 : Cond.fieldLink RX6 15 "SeaWatches$Tape" "size" "I" ∈ tb := tb_1 158 (by decide +kernel) (by decide)
theorem k_160 : Cond.fieldLink RX6 22 "SeaWatches$Tape" "rule" "LSeaWatches$Rule;" ∈ tb := tb_1 160 (by decide +kernel) (by decide)
theorem k_161 : Cond.fieldLink RX6 28 "SeaWatches$Tape" "words" "Ljava/lang/String;" ∈ tb := tb_1 161 (by decide +kernel) (by decide)
theorem k_162 : Cond.fieldLink RX6 32 "SeaWatches$Tape" "at" "I" ∈ tb := tb_1 162 (by decide +kernel) (by decide)
theorem k_163 : Cond.fieldLink RX6 35 "SeaWatches$Tape" "word" "I" ∈ tb := tb_1 163 (by decide +kernel) (by decide)
theorem k_164 : Cond.fieldLink RX6 38 "SeaWatches$Tape" "wordAt" "I" ∈ tb := tb_1 164 (by decide +kernel) (by decide)
theorem k_165 : Cond.fieldLink RX6 41 "SeaWatches$Tape" "value" "I" ∈ tb := tb_1 165 (by decide +kernel) (by decide)
theorem k_183 : Cond.arrayClass .byte ∈ tb := tb_1 183 (by decide +kernel) (by decide)
theorem k_184 : Cond.classLink RX8 62 RX0 ∈ tb := tb_1 184 (by decide +kernel) (by decide)
theorem k_185 : Cond.instantiable RX0 9 ∈ tb := tb_1 185 (by decide +kernel) (by decide)
theorem k_187 : Cond.instanceMethod yX0_init ∈ tb := tb_1 187 (by decide +kernel) (by decide)
theorem k_188 : Cond.code yX0_init cX0_init 1 none ∈ tb := tb_1 188 (by decide +kernel) (by decide)
theorem k_189 : Cond.methodLink RX0 3 objectInit ∈ tb := tb_1 189 (by decide +kernel) (by decide)
theorem k_190 : Cond.fieldLink RX0 9 "SeaWatches$Dealing" "doubts" "[I" ∈ tb := tb_1 190 (by decide +kernel) (by decide)
theorem k_191 : Cond.fieldLink RX0 15 "SeaWatches$Dealing" "way" "[I" ∈ tb := tb_1 191 (by decide +kernel) (by decide)
theorem k_192 : Cond.fieldLink RX0 18 "SeaWatches$Dealing" "best" "[I" ∈ tb := tb_1 192 (by decide +kernel) (by decide)
theorem k_194 : Cond.fieldLink RX0 21 "SeaWatches$Dealing" "voyages" "[I" ∈ tb := tb_1 194 (by decide +kernel) (by decide)
theorem k_195 : Cond.fieldLink RX0 24 "SeaWatches$Dealing" "given" "[I" ∈ tb := tb_1 195 (by decide +kernel) (by decide)
theorem k_196 : Cond.fieldLink RX0 27 "SeaWatches$Dealing" "listed" "I" ∈ tb := tb_1 196 (by decide +kernel) (by decide)
theorem k_198 : Cond.fieldLink RX0 31 "SeaWatches$Dealing" "shared" "I" ∈ tb := tb_1 198 (by decide +kernel) (by decide)
theorem k_200 : Cond.fieldLink RX0 34 "SeaWatches$Dealing" "sailing" "I" ∈ tb := tb_1 200 (by decide +kernel) (by decide)
theorem k_201 : Cond.fieldLink RX0 37 "SeaWatches$Dealing" "leastWorst" "I" ∈ tb := tb_1 201 (by decide +kernel) (by decide)
theorem k_221 : Cond.classLink RX8 69 RX4 ∈ tb := tb_1 221 (by decide +kernel) (by decide)
theorem k_223 : Cond.instantiable RX5 11 ∈ tb := tb_1 223 (by decide +kernel) (by decide)
theorem k_225 : Cond.instanceMethod yX5_init ∈ tb := tb_1 225 (by decide +kernel) (by decide)
theorem k_226 : Cond.code yX5_init cX5_init 1 none ∈ tb := tb_1 226 (by decide +kernel) (by decide)
theorem k_227 : Cond.methodLink RX5 3 objectInit ∈ tb := tb_1 227 (by decide +kernel) (by decide)
theorem k_228 : Cond.fieldLink RX5 9 "SeaWatches$Ship" "places" "[I" ∈ tb := tb_1 228 (by decide +kernel) (by decide)
theorem k_230 : Cond.fieldLink RX5 15 "SeaWatches$Ship" "starts" "[I" ∈ tb := tb_1 230 (by decide +kernel) (by decide)
theorem k_232 : Cond.fieldLink RX5 18 "SeaWatches$Ship" "goings" "[I" ∈ tb := tb_1 232 (by decide +kernel) (by decide)
theorem k_234 : Cond.fieldLink RX5 21 "SeaWatches$Ship" "doubts" "[I" ∈ tb := tb_1 234 (by decide +kernel) (by decide)
theorem k_236 : Cond.fieldLink RX5 24 "SeaWatches$Ship" "ends" "[I" ∈ tb := tb_1 236 (by decide +kernel) (by decide)
theorem k_238 : Cond.fieldLink RX5 27 "SeaWatches$Ship" "sightDays" "[I" ∈ tb := tb_1 238 (by decide +kernel) (by decide)
theorem k_240 : Cond.fieldLink RX5 30 "SeaWatches$Ship" "shown" "[I" ∈ tb := tb_2 0 (by decide +kernel) (by decide)
theorem k_241 : Cond.fieldLink RX5 33 "SeaWatches$Ship" "sights" "I" ∈ tb := tb_2 1 (by decide +kernel) (by decide)
theorem k_243 : Cond.fieldLink RX5 37 "SeaWatches$Ship" "stage" "I" ∈ tb := tb_2 3 (by decide +kernel) (by decide)
theorem k_245 : Cond.fieldLink RX5 40 "SeaWatches$Ship" "sailed" "I" ∈ tb := tb_2 5 (by decide +kernel) (by decide)
theorem k_247 : Cond.fieldLink RX5 43 "SeaWatches$Ship" "voyage" "I" ∈ tb := tb_2 7 (by decide +kernel) (by decide)
theorem k_272 : Cond.fieldLink RX8 9 "SeaWatches" "warmths" "[I" ∈ tb := tb_2 32 (by decide +kernel) (by decide)
theorem k_273 : Cond.fieldLink RX8 13 "SeaWatches" "kinds" "[I" ∈ tb := tb_2 33 (by decide +kernel) (by decide)
theorem k_274 : Cond.fieldLink RX8 16 "SeaWatches" "numbers" "[I" ∈ tb := tb_2 34 (by decide +kernel) (by decide)
theorem k_275 : Cond.fieldLink RX8 21 "SeaWatches" "watches" "[LSeaWatches$Watch;" ∈ tb := tb_2 35 (by decide +kernel) (by decide)
theorem k_276 : Cond.fieldLink RX8 27 "SeaWatches" "ships" "[LSeaWatches$Ship;" ∈ tb := tb_2 36 (by decide +kernel) (by decide)
theorem k_277 : Cond.fieldLink RX8 31 "SeaWatches" "names" "[I" ∈ tb := tb_2 37 (by decide +kernel) (by decide)
theorem k_278 : Cond.fieldLink RX8 37 "SeaWatches" "offs" "LSeaWatches$Offs;" ∈ tb := tb_2 38 (by decide +kernel) (by decide)
theorem k_279 : Cond.fieldLink RX8 44 "SeaWatches" "rates" "LSeaWatches$Rates;" ∈ tb := tb_2 39 (by decide +kernel) (by decide)
theorem k_280 : Cond.fieldLink RX8 51 "SeaWatches" "fit" "LSeaWatches$Fit;" ∈ tb := tb_2 40 (by decide +kernel) (by decide)
theorem k_281 : Cond.fieldLink RX8 58 "SeaWatches" "tape" "LSeaWatches$Tape;" ∈ tb := tb_2 41 (by decide +kernel) (by decide)
theorem k_282 : Cond.fieldLink RX8 65 "SeaWatches" "dealing" "LSeaWatches$Dealing;" ∈ tb := tb_2 42 (by decide +kernel) (by decide)
theorem k_283 : Cond.fieldLink RX8 72 "SeaWatches" "trialRule" "LSeaWatches$Rule;" ∈ tb := tb_2 43 (by decide +kernel) (by decide)
theorem k_284 : Cond.fieldLink RX8 76 "SeaWatches" "dropRule" "LSeaWatches$Rule;" ∈ tb := tb_2 44 (by decide +kernel) (by decide)
theorem k_285 : Cond.fieldLink RX8 79 "SeaWatches" "today" "I" ∈ tb := tb_2 45 (by decide +kernel) (by decide)
theorem k_315 : Cond.methodLink R_law 13 yX8_days ∈ tb := tb_2 75 (by decide +kernel) (by decide)
theorem k_316 : Cond.instanceMethod yX8_days ∈ tb := tb_2 76 (by decide +kernel) (by decide)
theorem k_317 : Cond.selects RX8 yX8_days yX8_days ∈ tb := tb_2 77 (by decide +kernel) (by decide)
theorem k_318 : Cond.code yX8_days cX8_days 2 (some .int) ∈ tb := tb_2 78 (by decide +kernel) (by decide)
theorem k_319 : Cond.methodLink R_law 18 yX8_warmth ∈ tb := tb_2 79 (by decide +kernel) (by decide)
theorem k_320 : Cond.instanceMethod yX8_warmth ∈ tb := tb_2 80 (by decide +kernel) (by decide)
theorem k_321 : Cond.selects RX8 yX8_warmth yX8_warmth ∈ tb := tb_2 81 (by decide +kernel) (by decide)
theorem k_322 : Cond.code yX8_warmth cX8_warmth 3 (some .int) ∈ tb := tb_2 82 (by decide +kernel) (by decide)
theorem k_323 : Cond.methodLink RX8 84 yX8_isDay ∈ tb := tb_2 83 (by decide +kernel) (by decide)
theorem k_324 : Cond.static yX8_isDay ∈ tb := tb_2 84 (by decide +kernel) (by decide)
theorem k_325 : Cond.code yX8_isDay cX8_isDay 1 (some .boolean) ∈ tb := tb_2 85 (by decide +kernel) (by decide)
theorem k_326 : Cond.methodLink RX8 88 yX8_isWithin ∈ tb := tb_2 86 (by decide +kernel) (by decide)
theorem k_327 : Cond.static yX8_isWithin ∈ tb := tb_2 87 (by decide +kernel) (by decide)
theorem k_328 : Cond.code yX8_isWithin cX8_isWithin 2 (some .boolean) ∈ tb := tb_2 88 (by decide +kernel) (by decide)
theorem k_329 : Cond.methodLink R_law 23 yX8_put ∈ tb := tb_2 89 (by decide +kernel) (by decide)
theorem k_330 : Cond.instanceMethod yX8_put ∈ tb := tb_2 90 (by decide +kernel) (by decide)
theorem k_331 : Cond.selects RX8 yX8_put yX8_put ∈ tb := tb_2 91 (by decide +kernel) (by decide)
theorem k_332 : Cond.code yX8_put cX8_put 4 (some .int) ∈ tb := tb_2 92 (by decide +kernel) (by decide)
theorem k_333 : Cond.methodLink RX8 92 yX8_isPlace ∈ tb := tb_2 93 (by decide +kernel) (by decide)
theorem k_334 : Cond.static yX8_isPlace ∈ tb := tb_2 94 (by decide +kernel) (by decide)
theorem k_335 : Cond.code yX8_isPlace cX8_isPlace 1 (some .boolean) ∈ tb := tb_2 95 (by decide +kernel) (by decide)
theorem k_336 : Cond.methodLink RX8 95 yX8_fitsKind ∈ tb := tb_2 96 (by decide +kernel) (by decide)
theorem k_337 : Cond.static yX8_fitsKind ∈ tb := tb_2 97 (by decide +kernel) (by decide)
theorem k_338 : Cond.code yX8_fitsKind cX8_fitsKind 2 (some .boolean) ∈ tb := tb_2 98 (by decide +kernel) (by decide)
theorem k_339 : Cond.methodLink RX8 98 yX8_bringWatch ∈ tb := tb_2 99 (by decide +kernel) (by decide)
theorem k_341 : Cond.instanceMethod yX8_bringWatch ∈ tb := tb_2 101 (by decide +kernel) (by decide)
theorem k_342 : Cond.code yX8_bringWatch cX8_bringWatch 2 none ∈ tb := tb_2 102 (by decide +kernel) (by decide)
theorem k_343 : Cond.instantiable RX7 4 ∈ tb := tb_2 103 (by decide +kernel) (by decide)
theorem k_345 : Cond.instanceMethod yX7_init ∈ tb := tb_2 105 (by decide +kernel) (by decide)
theorem k_346 : Cond.code yX7_init cX7_init 1 none ∈ tb := tb_2 106 (by decide +kernel) (by decide)
theorem k_347 : Cond.methodLink RX7 3 objectInit ∈ tb := tb_2 107 (by decide +kernel) (by decide)
theorem k_348 : Cond.fieldLink RX7 9 "SeaWatches$Watch" "tolds" "[I" ∈ tb := tb_2 108 (by decide +kernel) (by decide)
theorem k_349 : Cond.fieldLink RX7 15 "SeaWatches$Watch" "sources" "[I" ∈ tb := tb_2 109 (by decide +kernel) (by decide)
theorem k_350 : Cond.fieldLink RX7 18 "SeaWatches$Watch" "marks" "[I" ∈ tb := tb_2 110 (by decide +kernel) (by decide)
theorem k_351 : Cond.fieldLink RX7 21 "SeaWatches$Watch" "holders" "[I" ∈ tb := tb_2 111 (by decide +kernel) (by decide)
theorem k_361 : Cond.methodLink RX8 302 yX7_becomeNew ∈ tb := tb_2 121 (by decide +kernel) (by decide)
theorem k_362 : Cond.instanceMethod yX7_becomeNew ∈ tb := tb_2 122 (by decide +kernel) (by decide)
theorem k_363 : Cond.selects RX7 yX7_becomeNew yX7_becomeNew ∈ tb := tb_2 123 (by decide +kernel) (by decide)
theorem k_364 : Cond.code yX7_becomeNew cX7_becomeNew 2 none ∈ tb := tb_2 124 (by decide +kernel) (by decide)
theorem k_365 : Cond.methodLink R_law 28 yX8_take ∈ tb := tb_2 125 (by decide +kernel) (by decide)
theorem k_366 : Cond.instanceMethod yX8_take ∈ tb := tb_2 126 (by decide +kernel) (by decide)
theorem k_367 : Cond.selects RX8 yX8_take yX8_take ∈ tb := tb_2 127 (by decide +kernel) (by decide)
theorem k_368 : Cond.code yX8_take cX8_take 3 (some .int) ∈ tb := tb_2 128 (by decide +kernel) (by decide)
theorem k_369 : Cond.methodLink RX8 102 yX8_watchAt ∈ tb := tb_2 129 (by decide +kernel) (by decide)
theorem k_371 : Cond.instanceMethod yX8_watchAt ∈ tb := tb_2 131 (by decide +kernel) (by decide)
theorem k_372 : Cond.code yX8_watchAt cX8_watchAt 2 (some (.object "SeaWatches$Watch")) ∈ tb := tb_2 132 (by decide +kernel) (by decide)
theorem k_373 : Cond.methodLink RX8 106 yX7_holderOn ∈ tb := tb_2 133 (by decide +kernel) (by decide)
theorem k_374 : Cond.instanceMethod yX7_holderOn ∈ tb := tb_2 134 (by decide +kernel) (by decide)
theorem k_375 : Cond.selects RX7 yX7_holderOn yX7_holderOn ∈ tb := tb_2 135 (by decide +kernel) (by decide)
theorem k_376 : Cond.code yX7_holderOn cX7_holderOn 2 (some .int) ∈ tb := tb_2 136 (by decide +kernel) (by decide)
theorem k_378 : Cond.methodLink R_law 32 yX8_holds ∈ tb := tb_2 138 (by decide +kernel) (by decide)
theorem k_379 : Cond.instanceMethod yX8_holds ∈ tb := tb_2 139 (by decide +kernel) (by decide)
theorem k_380 : Cond.selects RX8 yX8_holds yX8_holds ∈ tb := tb_2 140 (by decide +kernel) (by decide)
theorem k_381 : Cond.code yX8_holds cX8_holds 2 (some .int) ∈ tb := tb_2 141 (by decide +kernel) (by decide)
theorem k_382 : Cond.methodLink R_law 36 yX8_read ∈ tb := tb_2 142 (by decide +kernel) (by decide)
theorem k_383 : Cond.instanceMethod yX8_read ∈ tb := tb_2 143 (by decide +kernel) (by decide)
theorem k_384 : Cond.selects RX8 yX8_read yX8_read ∈ tb := tb_2 144 (by decide +kernel) (by decide)
theorem k_385 : Cond.code yX8_read cX8_read 2 (some .int) ∈ tb := tb_2 145 (by decide +kernel) (by decide)
theorem k_386 : Cond.constant RX8 110 (-2000000000) ∈ tb := tb_2 146 (by decide +kernel) (by decide)
theorem k_387 : Cond.methodLink R_law 40 yX8_compare ∈ tb := tb_2 147 (by decide +kernel) (by decide)
theorem k_388 : Cond.instanceMethod yX8_compare ∈ tb := tb_2 148 (by decide +kernel) (by decide)
theorem k_389 : Cond.selects RX8 yX8_compare yX8_compare ∈ tb := tb_2 149 (by decide +kernel) (by decide)
theorem k_390 : Cond.code yX8_compare cX8_compare 6 (some .int) ∈ tb := tb_2 150 (by decide +kernel) (by decide)
theorem k_391 : Cond.methodLink RX8 111 yX8_isPast ∈ tb := tb_2 151 (by decide +kernel) (by decide)
theorem k_393 : Cond.instanceMethod yX8_isPast ∈ tb := tb_2 153 (by decide +kernel) (by decide)
theorem k_394 : Cond.code yX8_isPast cX8_isPast 2 (some .boolean) ∈ tb := tb_2 154 (by decide +kernel) (by decide)
theorem k_395 : Cond.constant RX8 114 100000 ∈ tb := tb_2 155 (by decide +kernel) (by decide)
theorem k_396 : Cond.methodLink RX8 115 yX8_lackAt ∈ tb := tb_2 156 (by decide +kernel) (by decide)
theorem k_398 : Cond.instanceMethod yX8_lackAt ∈ tb := tb_2 158 (by decide +kernel) (by decide)
theorem k_399 : Cond.code yX8_lackAt cX8_lackAt 2 (some .int) ∈ tb := tb_2 159 (by decide +kernel) (by decide)
theorem k_400 : Cond.methodLink RX8 118 yX7_isCompared ∈ tb := tb_2 160 (by decide +kernel) (by decide)
theorem k_401 : Cond.instanceMethod yX7_isCompared ∈ tb := tb_2 161 (by decide +kernel) (by decide)
theorem k_402 : Cond.selects RX7 yX7_isCompared yX7_isCompared ∈ tb := tb_2 162 (by decide +kernel) (by decide)
theorem k_403 : Cond.code yX7_isCompared cX7_isCompared 2 (some .boolean) ∈ tb := tb_2 163 (by decide +kernel) (by decide)
theorem k_404 : Cond.methodLink RX8 121 yX7_tell ∈ tb := tb_2 164 (by decide +kernel) (by decide)
theorem k_405 : Cond.instanceMethod yX7_tell ∈ tb := tb_2 165 (by decide +kernel) (by decide)
theorem k_406 : Cond.selects RX7 yX7_tell yX7_tell ∈ tb := tb_2 166 (by decide +kernel) (by decide)
theorem k_407 : Cond.code yX7_tell cX7_tell 4 none ∈ tb := tb_2 167 (by decide +kernel) (by decide)
theorem k_408 : Cond.methodLink R_law 45 yX8_error ∈ tb := tb_2 168 (by decide +kernel) (by decide)
theorem k_409 : Cond.instanceMethod yX8_error ∈ tb := tb_2 169 (by decide +kernel) (by decide)
theorem k_410 : Cond.selects RX8 yX8_error yX8_error ∈ tb := tb_2 170 (by decide +kernel) (by decide)
theorem k_411 : Cond.code yX8_error cX8_error 5 (some .int) ∈ tb := tb_2 171 (by decide +kernel) (by decide)
theorem k_412 : Cond.methodLink RX8 125 yX8_isKnowledge ∈ tb := tb_2 172 (by decide +kernel) (by decide)
theorem k_413 : Cond.static yX8_isKnowledge ∈ tb := tb_2 173 (by decide +kernel) (by decide)
theorem k_414 : Cond.code yX8_isKnowledge cX8_isKnowledge 1 (some .boolean) ∈ tb := tb_2 174 (by decide +kernel) (by decide)
theorem k_415 : Cond.methodLink RX8 128 yX7_errorAsKnown ∈ tb := tb_2 175 (by decide +kernel) (by decide)
theorem k_416 : Cond.instanceMethod yX7_errorAsKnown ∈ tb := tb_2 176 (by decide +kernel) (by decide)
theorem k_417 : Cond.selects RX7 yX7_errorAsKnown yX7_errorAsKnown ∈ tb := tb_2 177 (by decide +kernel) (by decide)
theorem k_418 : Cond.code yX7_errorAsKnown cX7_errorAsKnown 4 (some .int) ∈ tb := tb_2 178 (by decide +kernel) (by decide)
theorem k_419 : Cond.methodLink RX7 28 yX7_isCompared ∈ tb := tb_2 179 (by decide +kernel) (by decide)
theorem k_420 : Cond.methodLink RX7 31 yX2_sumFor ∈ tb := tb_2 180 (by decide +kernel) (by decide)
theorem k_421 : Cond.instanceMethod yX2_sumFor ∈ tb := tb_2 181 (by decide +kernel) (by decide)
theorem k_422 : Cond.selects RX2 yX2_sumFor yX2_sumFor ∈ tb := tb_2 182 (by decide +kernel) (by decide)
theorem k_423 : Cond.code yX2_sumFor cX2_sumFor 6 (some .int) ∈ tb := tb_2 183 (by decide +kernel) (by decide)
theorem k_424 : Cond.constant RX7 37 (-2000000000) ∈ tb := tb_2 184 (by decide +kernel) (by decide)
theorem k_425 : Cond.methodLink R_law 49 yX8_rate ∈ tb := tb_2 185 (by decide +kernel) (by decide)
theorem k_426 : Cond.instanceMethod yX8_rate ∈ tb := tb_2 186 (by decide +kernel) (by decide)
theorem k_427 : Cond.selects RX8 yX8_rate yX8_rate ∈ tb := tb_2 187 (by decide +kernel) (by decide)
theorem k_428 : Cond.code yX8_rate cX8_rate 5 (some .int) ∈ tb := tb_2 188 (by decide +kernel) (by decide)
theorem k_429 : Cond.methodLink RX8 132 yX7_rateAsKnown ∈ tb := tb_2 189 (by decide +kernel) (by decide)
theorem k_430 : Cond.instanceMethod yX7_rateAsKnown ∈ tb := tb_2 190 (by decide +kernel) (by decide)
theorem k_431 : Cond.selects RX7 yX7_rateAsKnown yX7_rateAsKnown ∈ tb := tb_2 191 (by decide +kernel) (by decide)
theorem k_432 : Cond.code yX7_rateAsKnown cX7_rateAsKnown 4 (some .int) ∈ tb := tb_2 192 (by decide +kernel) (by decide)
theorem k_433 : Cond.methodLink RX7 38 yX7_errorAsKnown ∈ tb := tb_2 193 (by decide +kernel) (by decide)
theorem k_434 : Cond.methodLink RX7 42 yX7_rateBetween ∈ tb := tb_2 194 (by decide +kernel) (by decide)
theorem k_435 : Cond.instanceMethod yX7_rateBetween ∈ tb := tb_2 195 (by decide +kernel) (by decide)
theorem k_436 : Cond.selects RX7 yX7_rateBetween yX7_rateBetween ∈ tb := tb_2 196 (by decide +kernel) (by decide)
theorem k_437 : Cond.code yX7_rateBetween cX7_rateBetween 4 (some .int) ∈ tb := tb_2 197 (by decide +kernel) (by decide)
theorem k_439 : Cond.methodLink RX7 49 yX7_isMarked ∈ tb := tb_2 199 (by decide +kernel) (by decide)
theorem k_440 : Cond.instanceMethod yX7_isMarked ∈ tb := tb_2 200 (by decide +kernel) (by decide)
theorem k_441 : Cond.selects RX7 yX7_isMarked yX7_isMarked ∈ tb := tb_2 201 (by decide +kernel) (by decide)
theorem k_442 : Cond.code yX7_isMarked cX7_isMarked 3 (some .boolean) ∈ tb := tb_2 202 (by decide +kernel) (by decide)
theorem k_443 : Cond.methodLink R_law 53 yX8_repair ∈ tb := tb_2 203 (by decide +kernel) (by decide)
theorem k_444 : Cond.instanceMethod yX8_repair ∈ tb := tb_2 204 (by decide +kernel) (by decide)
theorem k_445 : Cond.selects RX8 yX8_repair yX8_repair ∈ tb := tb_2 205 (by decide +kernel) (by decide)
theorem k_446 : Cond.code yX8_repair cX8_repair 3 (some .int) ∈ tb := tb_2 206 (by decide +kernel) (by decide)
theorem k_447 : Cond.methodLink RX8 135 yX8_markOn ∈ tb := tb_2 207 (by decide +kernel) (by decide)
theorem k_449 : Cond.instanceMethod yX8_markOn ∈ tb := tb_2 209 (by decide +kernel) (by decide)
theorem k_450 : Cond.code yX8_markOn cX8_markOn 5 (some .int) ∈ tb := tb_2 210 (by decide +kernel) (by decide)
theorem k_451 : Cond.methodLink RX8 305 yX7_addMark ∈ tb := tb_2 211 (by decide +kernel) (by decide)
theorem k_452 : Cond.instanceMethod yX7_addMark ∈ tb := tb_2 212 (by decide +kernel) (by decide)
theorem k_453 : Cond.selects RX7 yX7_addMark yX7_addMark ∈ tb := tb_2 213 (by decide +kernel) (by decide)
theorem k_454 : Cond.code yX7_addMark cX7_addMark 3 (some .boolean) ∈ tb := tb_2 214 (by decide +kernel) (by decide)
theorem k_455 : Cond.methodLink R_law 57 yX8_late ∈ tb := tb_2 215 (by decide +kernel) (by decide)
theorem k_456 : Cond.instanceMethod yX8_late ∈ tb := tb_2 216 (by decide +kernel) (by decide)
theorem k_457 : Cond.selects RX8 yX8_late yX8_late ∈ tb := tb_2 217 (by decide +kernel) (by decide)
theorem k_458 : Cond.code yX8_late cX8_late 3 (some .int) ∈ tb := tb_2 218 (by decide +kernel) (by decide)
theorem k_459 : Cond.methodLink R_law 61 yX8_age ∈ tb := tb_2 219 (by decide +kernel) (by decide)
theorem k_460 : Cond.instanceMethod yX8_age ∈ tb := tb_2 220 (by decide +kernel) (by decide)
theorem k_461 : Cond.selects RX8 yX8_age yX8_age ∈ tb := tb_2 221 (by decide +kernel) (by decide)
theorem k_462 : Cond.code yX8_age cX8_age 4 (some .int) ∈ tb := tb_2 222 (by decide +kernel) (by decide)
theorem k_463 : Cond.methodLink RX8 139 yX7_ageOn ∈ tb := tb_2 223 (by decide +kernel) (by decide)
theorem k_464 : Cond.instanceMethod yX7_ageOn ∈ tb := tb_2 224 (by decide +kernel) (by decide)
theorem k_465 : Cond.selects RX7 yX7_ageOn yX7_ageOn ∈ tb := tb_2 225 (by decide +kernel) (by decide)
theorem k_466 : Cond.code yX7_ageOn cX7_ageOn 3 (some .int) ∈ tb := tb_2 226 (by decide +kernel) (by decide)
theorem k_467 : Cond.methodLink R_law 65 yX8_off ∈ tb := tb_2 227 (by decide +kernel) (by decide)
theorem k_468 : Cond.instanceMethod yX8_off ∈ tb := tb_2 228 (by decide +kernel) (by decide)
theorem k_469 : Cond.selects RX8 yX8_off yX8_off ∈ tb := tb_2 229 (by decide +kernel) (by decide)
theorem k_470 : Cond.code yX8_off cX8_off 5 (some .int) ∈ tb := tb_2 230 (by decide +kernel) (by decide)
theorem k_471 : Cond.methodLink RX8 145 yX2_add ∈ tb := tb_2 231 (by decide +kernel) (by decide)
theorem k_472 : Cond.instanceMethod yX2_add ∈ tb := tb_2 232 (by decide +kernel) (by decide)
theorem k_473 : Cond.selects RX2 yX2_add yX2_add ∈ tb := tb_2 233 (by decide +kernel) (by decide)
theorem k_474 : Cond.code yX2_add cX2_add 6 none ∈ tb := tb_2 234 (by decide +kernel) (by decide)
theorem k_475 : Cond.methodLink R_law 69 yX8_changed ∈ tb := tb_2 235 (by decide +kernel) (by decide)
theorem k_476 : Cond.instanceMethod yX8_changed ∈ tb := tb_2 236 (by decide +kernel) (by decide)
theorem k_477 : Cond.selects RX8 yX8_changed yX8_changed ∈ tb := tb_2 237 (by decide +kernel) (by decide)
theorem k_478 : Cond.code yX8_changed cX8_changed 8 (some .int) ∈ tb := tb_2 238 (by decide +kernel) (by decide)
theorem k_479 : Cond.methodLink RX8 149 yX8_isStretch ∈ tb := tb_2 239 (by decide +kernel) (by decide)
theorem k_480 : Cond.static yX8_isStretch ∈ tb := tb_3 0 (by decide +kernel) (by decide)
theorem k_481 : Cond.code yX8_isStretch cX8_isStretch 2 (some .boolean) ∈ tb := tb_3 1 (by decide +kernel) (by decide)
theorem k_482 : Cond.methodLink R_law 73 yX8_law ∈ tb := tb_3 2 (by decide +kernel) (by decide)
theorem k_483 : Cond.instanceMethod yX8_law ∈ tb := tb_3 3 (by decide +kernel) (by decide)
theorem k_484 : Cond.selects RX8 yX8_law yX8_law ∈ tb := tb_3 4 (by decide +kernel) (by decide)
theorem k_485 : Cond.code yX8_law cX8_law 5 (some .int) ∈ tb := tb_3 5 (by decide +kernel) (by decide)
theorem k_486 : Cond.methodLink RX8 152 yX8_refusalOfStretch ∈ tb := tb_3 6 (by decide +kernel) (by decide)
theorem k_488 : Cond.instanceMethod yX8_refusalOfStretch ∈ tb := tb_3 8 (by decide +kernel) (by decide)
theorem k_489 : Cond.code yX8_refusalOfStretch cX8_refusalOfStretch 4 (some .int) ∈ tb := tb_3 9 (by decide +kernel) (by decide)
theorem k_490 : Cond.methodLink RX8 155 yX8_fitLaw ∈ tb := tb_3 10 (by decide +kernel) (by decide)
theorem k_492 : Cond.instanceMethod yX8_fitLaw ∈ tb := tb_3 12 (by decide +kernel) (by decide)
theorem k_493 : Cond.code yX8_fitLaw cX8_fitLaw 8 none ∈ tb := tb_3 13 (by decide +kernel) (by decide)
theorem k_494 : Cond.methodLink RX8 308 yX1_clear ∈ tb := tb_3 14 (by decide +kernel) (by decide)
theorem k_495 : Cond.instanceMethod yX1_clear ∈ tb := tb_3 15 (by decide +kernel) (by decide)
theorem k_496 : Cond.selects RX1 yX1_clear yX1_clear ∈ tb := tb_3 16 (by decide +kernel) (by decide)
theorem k_497 : Cond.code yX1_clear cX1_clear 1 none ∈ tb := tb_3 17 (by decide +kernel) (by decide)
theorem k_498 : Cond.methodLink RX8 172 yX3_gather ∈ tb := tb_3 18 (by decide +kernel) (by decide)
theorem k_499 : Cond.instanceMethod yX3_gather ∈ tb := tb_3 19 (by decide +kernel) (by decide)
theorem k_500 : Cond.selects RX3 yX3_gather yX3_gather ∈ tb := tb_3 20 (by decide +kernel) (by decide)
theorem k_501 : Cond.code yX3_gather cX3_gather 9 none ∈ tb := tb_3 21 (by decide +kernel) (by decide)
theorem k_502 : Cond.methodLink RX3 25 yX7_errorAsKnown ∈ tb := tb_3 22 (by decide +kernel) (by decide)
theorem k_503 : Cond.methodLink RX3 31 yX7_rateBetween ∈ tb := tb_3 23 (by decide +kernel) (by decide)
theorem k_504 : Cond.constant RX3 35 (-2000000000) ∈ tb := tb_3 24 (by decide +kernel) (by decide)
theorem k_505 : Cond.methodLink RX8 315 yX8_warmthFor ∈ tb := tb_3 25 (by decide +kernel) (by decide)
theorem k_507 : Cond.instanceMethod yX8_warmthFor ∈ tb := tb_3 27 (by decide +kernel) (by decide)
theorem k_508 : Cond.code yX8_warmthFor cX8_warmthFor 3 (some .int) ∈ tb := tb_3 28 (by decide +kernel) (by decide)
theorem k_509 : Cond.methodLink RX8 321 yX1_add ∈ tb := tb_3 29 (by decide +kernel) (by decide)
theorem k_510 : Cond.instanceMethod yX1_add ∈ tb := tb_3 30 (by decide +kernel) (by decide)
theorem k_511 : Cond.selects RX1 yX1_add yX1_add ∈ tb := tb_3 31 (by decide +kernel) (by decide)
theorem k_512 : Cond.code yX1_add cX1_add 7 none ∈ tb := tb_3 32 (by decide +kernel) (by decide)
theorem k_513 : Cond.methodLink RX8 324 yX1_solve ∈ tb := tb_3 33 (by decide +kernel) (by decide)
theorem k_514 : Cond.instanceMethod yX1_solve ∈ tb := tb_3 34 (by decide +kernel) (by decide)
theorem k_515 : Cond.selects RX1 yX1_solve yX1_solve ∈ tb := tb_3 35 (by decide +kernel) (by decide)
theorem k_516 : Cond.code yX1_solve cX1_solve 13 none ∈ tb := tb_3 36 (by decide +kernel) (by decide)
theorem k_517 : Cond.methodLink RX1 46 yX1_setLaw ∈ tb := tb_3 37 (by decide +kernel) (by decide)
theorem k_519 : Cond.instanceMethod yX1_setLaw ∈ tb := tb_3 39 (by decide +kernel) (by decide)
theorem k_520 : Cond.code yX1_setLaw cX1_setLaw 8 none ∈ tb := tb_3 40 (by decide +kernel) (by decide)
theorem k_521 : Cond.methodLink RX8 158 yX1_size ∈ tb := tb_3 41 (by decide +kernel) (by decide)
theorem k_522 : Cond.instanceMethod yX1_size ∈ tb := tb_3 42 (by decide +kernel) (by decide)
theorem k_523 : Cond.selects RX1 yX1_size yX1_size ∈ tb := tb_3 43 (by decide +kernel) (by decide)
theorem k_524 : Cond.code yX1_size cX1_size 1 (some .int) ∈ tb := tb_3 44 (by decide +kernel) (by decide)
theorem k_525 : Cond.methodLink R_law 77 yX8_terms ∈ tb := tb_3 45 (by decide +kernel) (by decide)
theorem k_526 : Cond.instanceMethod yX8_terms ∈ tb := tb_3 46 (by decide +kernel) (by decide)
theorem k_527 : Cond.selects RX8 yX8_terms yX8_terms ∈ tb := tb_3 47 (by decide +kernel) (by decide)
theorem k_528 : Cond.code yX8_terms cX8_terms 5 (some .int) ∈ tb := tb_3 48 (by decide +kernel) (by decide)
theorem k_529 : Cond.methodLink RX8 161 yX1_form ∈ tb := tb_3 49 (by decide +kernel) (by decide)
theorem k_530 : Cond.instanceMethod yX1_form ∈ tb := tb_3 50 (by decide +kernel) (by decide)
theorem k_531 : Cond.selects RX1 yX1_form yX1_form ∈ tb := tb_3 51 (by decide +kernel) (by decide)
theorem k_532 : Cond.code yX1_form cX1_form 1 (some .int) ∈ tb := tb_3 52 (by decide +kernel) (by decide)
theorem k_533 : Cond.methodLink R_law 81 yX8_foretold ∈ tb := tb_3 53 (by decide +kernel) (by decide)
theorem k_534 : Cond.instanceMethod yX8_foretold ∈ tb := tb_3 54 (by decide +kernel) (by decide)
theorem k_535 : Cond.selects RX8 yX8_foretold yX8_foretold ∈ tb := tb_3 55 (by decide +kernel) (by decide)
theorem k_536 : Cond.code yX8_foretold cX8_foretold 8 (some .int) ∈ tb := tb_3 56 (by decide +kernel) (by decide)
theorem k_537 : Cond.methodLink RX8 164 yX1_thousandfold ∈ tb := tb_3 57 (by decide +kernel) (by decide)
theorem k_538 : Cond.instanceMethod yX1_thousandfold ∈ tb := tb_3 58 (by decide +kernel) (by decide)
theorem k_539 : Cond.selects RX1 yX1_thousandfold yX1_thousandfold ∈ tb := tb_3 59 (by decide +kernel) (by decide)
theorem k_540 : Cond.code yX1_thousandfold cX1_thousandfold 3 (some .long) ∈ tb := tb_3 60 (by decide +kernel) (by decide)
theorem k_541 : Cond.constantLong RX1 62 1000 ∈ tb := tb_3 61 (by decide +kernel) (by decide)
theorem k_542 : Cond.methodLink RX1 64 yX1_addProduct ∈ tb := tb_3 62 (by decide +kernel) (by decide)
theorem k_544 : Cond.instanceMethod yX1_addProduct ∈ tb := tb_3 64 (by decide +kernel) (by decide)
theorem k_545 : Cond.code yX1_addProduct cX1_addProduct 18 none ∈ tb := tb_3 65 (by decide +kernel) (by decide)
theorem k_555 : Cond.constantLong RX1 81 2 ∈ tb := tb_3 75 (by decide +kernel) (by decide)
theorem k_556 : Cond.constantLong RX8 168 2000000000 ∈ tb := tb_3 76 (by decide +kernel) (by decide)
theorem k_557 : Cond.constantLong RX8 170 (-2000000000) ∈ tb := tb_3 77 (by decide +kernel) (by decide)
theorem k_558 : Cond.methodLink R_law 86 yX8_jump ∈ tb := tb_3 78 (by decide +kernel) (by decide)
theorem k_559 : Cond.instanceMethod yX8_jump ∈ tb := tb_3 79 (by decide +kernel) (by decide)
theorem k_560 : Cond.selects RX8 yX8_jump yX8_jump ∈ tb := tb_3 80 (by decide +kernel) (by decide)
theorem k_561 : Cond.code yX8_jump cX8_jump 6 (some .int) ∈ tb := tb_3 81 (by decide +kernel) (by decide)
theorem k_562 : Cond.methodLink RX8 176 yX3_dayFarthestOff ∈ tb := tb_3 82 (by decide +kernel) (by decide)
theorem k_563 : Cond.instanceMethod yX3_dayFarthestOff ∈ tb := tb_3 83 (by decide +kernel) (by decide)
theorem k_564 : Cond.selects RX3 yX3_dayFarthestOff yX3_dayFarthestOff ∈ tb := tb_3 84 (by decide +kernel) (by decide)
theorem k_565 : Cond.code yX3_dayFarthestOff cX3_dayFarthestOff 7 (some .int) ∈ tb := tb_3 85 (by decide +kernel) (by decide)
theorem k_566 : Cond.methodLink RX3 49 yX3_middleOne ∈ tb := tb_3 86 (by decide +kernel) (by decide)
theorem k_568 : Cond.instanceMethod yX3_middleOne ∈ tb := tb_3 88 (by decide +kernel) (by decide)
theorem k_569 : Cond.code yX3_middleOne cX3_middleOne 3 (some .int) ∈ tb := tb_3 89 (by decide +kernel) (by decide)
theorem k_573 : Cond.methodLink R_law 90 yX8_feed ∈ tb := tb_3 93 (by decide +kernel) (by decide)
theorem k_574 : Cond.instanceMethod yX8_feed ∈ tb := tb_3 94 (by decide +kernel) (by decide)
theorem k_575 : Cond.selects RX8 yX8_feed yX8_feed ∈ tb := tb_3 95 (by decide +kernel) (by decide)
theorem k_576 : Cond.code yX8_feed cX8_feed 4 (some .int) ∈ tb := tb_3 96 (by decide +kernel) (by decide)
theorem k_577 : Cond.methodLink RX8 180 yX6_add ∈ tb := tb_3 97 (by decide +kernel) (by decide)
theorem k_578 : Cond.instanceMethod yX6_add ∈ tb := tb_3 98 (by decide +kernel) (by decide)
theorem k_579 : Cond.selects RX6 yX6_add yX6_add ∈ tb := tb_3 99 (by decide +kernel) (by decide)
theorem k_580 : Cond.code yX6_add cX6_add 2 none ∈ tb := tb_3 100 (by decide +kernel) (by decide)
theorem k_581 : Cond.methodLink R_law 94 yX8_rule ∈ tb := tb_3 101 (by decide +kernel) (by decide)
theorem k_582 : Cond.instanceMethod yX8_rule ∈ tb := tb_3 102 (by decide +kernel) (by decide)
theorem k_583 : Cond.selects RX8 yX8_rule yX8_rule ∈ tb := tb_3 103 (by decide +kernel) (by decide)
theorem k_584 : Cond.code yX8_rule cX8_rule 3 (some .int) ∈ tb := tb_3 104 (by decide +kernel) (by decide)
theorem k_587 : Cond.methodLink RX8 186 yX6_readAsRule ∈ tb := tb_3 107 (by decide +kernel) (by decide)
theorem k_588 : Cond.instanceMethod yX6_readAsRule ∈ tb := tb_3 108 (by decide +kernel) (by decide)
theorem k_589 : Cond.selects RX6 yX6_readAsRule yX6_readAsRule ∈ tb := tb_3 109 (by decide +kernel) (by decide)
theorem k_590 : Cond.code yX6_readAsRule cX6_readAsRule 3 (some .int) ∈ tb := tb_3 110 (by decide +kernel) (by decide)
theorem k_591 : Cond.methodLink RX6 45 yX6_goOn ∈ tb := tb_3 111 (by decide +kernel) (by decide)
theorem k_593 : Cond.instanceMethod yX6_goOn ∈ tb := tb_3 113 (by decide +kernel) (by decide)
theorem k_594 : Cond.code yX6_goOn cX6_goOn 1 none ∈ tb := tb_3 114 (by decide +kernel) (by decide)
theorem k_595 : Cond.methodLink RX6 77 yX6_isLetter ∈ tb := tb_3 115 (by decide +kernel) (by decide)
theorem k_596 : Cond.static yX6_isLetter ∈ tb := tb_3 116 (by decide +kernel) (by decide)
theorem k_597 : Cond.code yX6_isLetter cX6_isLetter 1 (some .boolean) ∈ tb := tb_3 117 (by decide +kernel) (by decide)
theorem k_598 : Cond.methodLink RX6 80 yX6_takeLetters ∈ tb := tb_3 118 (by decide +kernel) (by decide)
theorem k_600 : Cond.instanceMethod yX6_takeLetters ∈ tb := tb_3 120 (by decide +kernel) (by decide)
theorem k_601 : Cond.code yX6_takeLetters cX6_takeLetters 2 none ∈ tb := tb_3 121 (by decide +kernel) (by decide)
theorem k_602 : Cond.methodLink RX6 92 yX6_placeAmongWords ∈ tb := tb_3 122 (by decide +kernel) (by decide)
theorem k_604 : Cond.instanceMethod yX6_placeAmongWords ∈ tb := tb_3 124 (by decide +kernel) (by decide)
theorem k_605 : Cond.code yX6_placeAmongWords cX6_placeAmongWords 4 (some .int) ∈ tb := tb_3 125 (by decide +kernel) (by decide)
theorem k_614 : Cond.fieldLink "java/lang/String" 38 "java/lang/String" "COMPACT_STRINGS" "Z" ∈ tb := tb_3 134 (by decide +kernel) (by decide)
theorem k_630 : Cond.fieldLink "java/lang/String" 1053 "jdk/internal/util/Preconditions" "SIOOBE_FORMATTER" "Ljava/util/function/BiFunction;" ∈ tb := tb_3 150 (by decide +kernel) (by decide)
theorem k_648 : Cond.fieldLink "java/lang/StringUTF16" 44 "java/lang/StringUTF16" "$assertionsDisabled" "Z" ∈ tb := tb_3 168 (by decide +kernel) (by decide)
theorem k_650 : Cond.fieldLink "java/lang/StringUTF16" 59 "java/lang/StringUTF16" "HI_BYTE_SHIFT" "I" ∈ tb := tb_3 170 (by decide +kernel) (by decide)
theorem k_652 : Cond.fieldLink "java/lang/StringUTF16" 63 "java/lang/StringUTF16" "LO_BYTE_SHIFT" "I" ∈ tb := tb_3 172 (by decide +kernel) (by decide)
theorem k_654 : Cond.methodLink RX6 105 yX6_isOnTape ∈ tb := tb_3 174 (by decide +kernel) (by decide)
theorem k_656 : Cond.instanceMethod yX6_isOnTape ∈ tb := tb_3 176 (by decide +kernel) (by decide)
theorem k_657 : Cond.code yX6_isOnTape cX6_isOnTape 4 (some .boolean) ∈ tb := tb_3 177 (by decide +kernel) (by decide)
theorem k_658 : Cond.methodLink RX6 83 yX6_isDigit ∈ tb := tb_3 178 (by decide +kernel) (by decide)
theorem k_659 : Cond.static yX6_isDigit ∈ tb := tb_3 179 (by decide +kernel) (by decide)
theorem k_660 : Cond.code yX6_isDigit cX6_isDigit 1 (some .boolean) ∈ tb := tb_3 180 (by decide +kernel) (by decide)
theorem k_661 : Cond.methodLink RX6 86 yX6_takeDigits ∈ tb := tb_3 181 (by decide +kernel) (by decide)
theorem k_663 : Cond.instanceMethod yX6_takeDigits ∈ tb := tb_3 183 (by decide +kernel) (by decide)
theorem k_664 : Cond.code yX6_takeDigits cX6_takeDigits 1 none ∈ tb := tb_3 184 (by decide +kernel) (by decide)
theorem k_665 : Cond.methodLink RX6 89 yX6_isSign ∈ tb := tb_3 185 (by decide +kernel) (by decide)
theorem k_666 : Cond.static yX6_isSign ∈ tb := tb_3 186 (by decide +kernel) (by decide)
theorem k_667 : Cond.code yX6_isSign cX6_isSign 1 (some .boolean) ∈ tb := tb_3 187 (by decide +kernel) (by decide)
theorem k_668 : Cond.methodLink RX6 48 yX6_readEither ∈ tb := tb_3 188 (by decide +kernel) (by decide)
theorem k_670 : Cond.instanceMethod yX6_readEither ∈ tb := tb_3 190 (by decide +kernel) (by decide)
theorem k_671 : Cond.code yX6_readEither cX6_readEither 4 (some .boolean) ∈ tb := tb_3 191 (by decide +kernel) (by decide)
theorem k_672 : Cond.methodLink RX6 52 yX6_readBoth ∈ tb := tb_3 192 (by decide +kernel) (by decide)
theorem k_674 : Cond.instanceMethod yX6_readBoth ∈ tb := tb_3 194 (by decide +kernel) (by decide)
theorem k_675 : Cond.code yX6_readBoth cX6_readBoth 4 (some .boolean) ∈ tb := tb_3 195 (by decide +kernel) (by decide)
theorem k_676 : Cond.methodLink RX6 59 yX6_readNegation ∈ tb := tb_3 196 (by decide +kernel) (by decide)
theorem k_678 : Cond.instanceMethod yX6_readNegation ∈ tb := tb_3 198 (by decide +kernel) (by decide)
theorem k_679 : Cond.code yX6_readNegation cX6_readNegation 3 (some .boolean) ∈ tb := tb_3 199 (by decide +kernel) (by decide)
theorem k_680 : Cond.methodLink RX6 62 yX6_readComparison ∈ tb := tb_3 200 (by decide +kernel) (by decide)
theorem k_682 : Cond.instanceMethod yX6_readComparison ∈ tb := tb_3 202 (by decide +kernel) (by decide)
theorem k_683 : Cond.code yX6_readComparison cX6_readComparison 4 (some .boolean) ∈ tb := tb_3 203 (by decide +kernel) (by decide)
theorem k_684 : Cond.methodLink RX6 65 yX6_readSum ∈ tb := tb_3 204 (by decide +kernel) (by decide)
theorem k_686 : Cond.instanceMethod yX6_readSum ∈ tb := tb_3 206 (by decide +kernel) (by decide)
theorem k_687 : Cond.code yX6_readSum cX6_readSum 5 (some .boolean) ∈ tb := tb_3 207 (by decide +kernel) (by decide)
theorem k_688 : Cond.methodLink RX6 68 yX6_readProduct ∈ tb := tb_3 208 (by decide +kernel) (by decide)
theorem k_690 : Cond.instanceMethod yX6_readProduct ∈ tb := tb_3 210 (by decide +kernel) (by decide)
theorem k_691 : Cond.code yX6_readProduct cX6_readProduct 5 (some .boolean) ∈ tb := tb_3 211 (by decide +kernel) (by decide)
theorem k_692 : Cond.methodLink RX6 71 yX6_readOperand ∈ tb := tb_3 212 (by decide +kernel) (by decide)
theorem k_694 : Cond.instanceMethod yX6_readOperand ∈ tb := tb_3 214 (by decide +kernel) (by decide)
theorem k_695 : Cond.code yX6_readOperand cX6_readOperand 4 (some .boolean) ∈ tb := tb_3 215 (by decide +kernel) (by decide)
theorem k_696 : Cond.methodLink RX6 55 yX4_add ∈ tb := tb_3 216 (by decide +kernel) (by decide)
theorem k_697 : Cond.instanceMethod yX4_add ∈ tb := tb_3 217 (by decide +kernel) (by decide)
theorem k_698 : Cond.selects RX4 yX4_add yX4_add ∈ tb := tb_3 218 (by decide +kernel) (by decide)
theorem k_699 : Cond.code yX4_add cX4_add 3 none ∈ tb := tb_3 219 (by decide +kernel) (by decide)
theorem k_700 : Cond.methodLink RX6 74 yX6_readInBrackets ∈ tb := tb_3 220 (by decide +kernel) (by decide)
theorem k_702 : Cond.instanceMethod yX6_readInBrackets ∈ tb := tb_3 222 (by decide +kernel) (by decide)
theorem k_703 : Cond.code yX6_readInBrackets cX6_readInBrackets 2 (some .boolean) ∈ tb := tb_3 223 (by decide +kernel) (by decide)
theorem k_704 : Cond.methodLink RX8 190 yX6_exchangeRule ∈ tb := tb_3 224 (by decide +kernel) (by decide)
theorem k_705 : Cond.instanceMethod yX6_exchangeRule ∈ tb := tb_3 225 (by decide +kernel) (by decide)
theorem k_706 : Cond.selects RX6 yX6_exchangeRule yX6_exchangeRule ∈ tb := tb_3 226 (by decide +kernel) (by decide)
theorem k_707 : Cond.code yX6_exchangeRule cX6_exchangeRule 3 (some (.object "SeaWatches$Rule")) ∈ tb := tb_3 227 (by decide +kernel) (by decide)
theorem k_708 : Cond.methodLink R_law 98 yX8_trial ∈ tb := tb_3 228 (by decide +kernel) (by decide)
theorem k_709 : Cond.instanceMethod yX8_trial ∈ tb := tb_3 229 (by decide +kernel) (by decide)
theorem k_710 : Cond.selects RX8 yX8_trial yX8_trial ∈ tb := tb_3 230 (by decide +kernel) (by decide)
theorem k_711 : Cond.code yX8_trial cX8_trial 4 (some .int) ∈ tb := tb_3 231 (by decide +kernel) (by decide)
theorem k_712 : Cond.methodLink RX8 194 yX8_hasTrial ∈ tb := tb_3 232 (by decide +kernel) (by decide)
theorem k_714 : Cond.instanceMethod yX8_hasTrial ∈ tb := tb_3 234 (by decide +kernel) (by decide)
theorem k_715 : Cond.code yX8_hasTrial cX8_hasTrial 5 (some .boolean) ∈ tb := tb_3 235 (by decide +kernel) (by decide)
theorem k_716 : Cond.methodLink RX8 198 yX8_workOutTrial ∈ tb := tb_3 236 (by decide +kernel) (by decide)
theorem k_718 : Cond.instanceMethod yX8_workOutTrial ∈ tb := tb_3 238 (by decide +kernel) (by decide)
theorem k_719 : Cond.code yX8_workOutTrial cX8_workOutTrial 5 (some .int) ∈ tb := tb_3 239 (by decide +kernel) (by decide)
theorem k_720 : Cond.methodLink RX8 328 yX3_least ∈ tb := tb_4 0 (by decide +kernel) (by decide)
theorem k_721 : Cond.instanceMethod yX3_least ∈ tb := tb_4 1 (by decide +kernel) (by decide)
theorem k_722 : Cond.selects RX3 yX3_least yX3_least ∈ tb := tb_4 2 (by decide +kernel) (by decide)
theorem k_723 : Cond.code yX3_least cX3_least 3 (some .int) ∈ tb := tb_4 3 (by decide +kernel) (by decide)
theorem k_727 : Cond.methodLink RX8 331 yX3_most ∈ tb := tb_4 7 (by decide +kernel) (by decide)
theorem k_728 : Cond.instanceMethod yX3_most ∈ tb := tb_4 8 (by decide +kernel) (by decide)
theorem k_729 : Cond.selects RX3 yX3_most yX3_most ∈ tb := tb_4 9 (by decide +kernel) (by decide)
theorem k_730 : Cond.code yX3_most cX3_most 3 (some .int) ∈ tb := tb_4 10 (by decide +kernel) (by decide)
theorem k_734 : Cond.methodLink RX8 334 yX3_greatestStep ∈ tb := tb_4 14 (by decide +kernel) (by decide)
theorem k_735 : Cond.instanceMethod yX3_greatestStep ∈ tb := tb_4 15 (by decide +kernel) (by decide)
theorem k_736 : Cond.selects RX3 yX3_greatestStep yX3_greatestStep ∈ tb := tb_4 16 (by decide +kernel) (by decide)
theorem k_737 : Cond.code yX3_greatestStep cX3_greatestStep 3 (some .int) ∈ tb := tb_4 17 (by decide +kernel) (by decide)
theorem k_738 : Cond.methodLink RX8 337 yX3_drift ∈ tb := tb_4 18 (by decide +kernel) (by decide)
theorem k_739 : Cond.instanceMethod yX3_drift ∈ tb := tb_4 19 (by decide +kernel) (by decide)
theorem k_740 : Cond.selects RX3 yX3_drift yX3_drift ∈ tb := tb_4 20 (by decide +kernel) (by decide)
theorem k_741 : Cond.code yX3_drift cX3_drift 1 (some .int) ∈ tb := tb_4 21 (by decide +kernel) (by decide)
theorem k_742 : Cond.methodLink RX8 340 yX3_sum ∈ tb := tb_4 22 (by decide +kernel) (by decide)
theorem k_743 : Cond.instanceMethod yX3_sum ∈ tb := tb_4 23 (by decide +kernel) (by decide)
theorem k_744 : Cond.selects RX3 yX3_sum yX3_sum ∈ tb := tb_4 24 (by decide +kernel) (by decide)
theorem k_745 : Cond.code yX3_sum cX3_sum 3 (some .int) ∈ tb := tb_4 25 (by decide +kernel) (by decide)
theorem k_746 : Cond.methodLink RX8 343 yX8_warmthSpan ∈ tb := tb_4 26 (by decide +kernel) (by decide)
theorem k_748 : Cond.instanceMethod yX8_warmthSpan ∈ tb := tb_4 28 (by decide +kernel) (by decide)
theorem k_749 : Cond.code yX8_warmthSpan cX8_warmthSpan 6 (some .int) ∈ tb := tb_4 29 (by decide +kernel) (by decide)
theorem k_752 : Cond.methodLink RX8 346 yX4_workOut ∈ tb := tb_4 32 (by decide +kernel) (by decide)
theorem k_753 : Cond.instanceMethod yX4_workOut ∈ tb := tb_4 33 (by decide +kernel) (by decide)
theorem k_754 : Cond.selects RX4 yX4_workOut yX4_workOut ∈ tb := tb_4 34 (by decide +kernel) (by decide)
theorem k_755 : Cond.code yX4_workOut cX4_workOut 6 (some .int) ∈ tb := tb_4 35 (by decide +kernel) (by decide)
theorem k_756 : Cond.methodLink RX4 25 yX4_isAhead ∈ tb := tb_4 36 (by decide +kernel) (by decide)
theorem k_757 : Cond.static yX4_isAhead ∈ tb := tb_4 37 (by decide +kernel) (by decide)
theorem k_758 : Cond.code yX4_isAhead cX4_isAhead 1 (some .boolean) ∈ tb := tb_4 38 (by decide +kernel) (by decide)
theorem k_759 : Cond.methodLink RX4 29 yX4_workOutOne ∈ tb := tb_4 39 (by decide +kernel) (by decide)
theorem k_760 : Cond.static yX4_workOutOne ∈ tb := tb_4 40 (by decide +kernel) (by decide)
theorem k_761 : Cond.code yX4_workOutOne cX4_workOutOne 2 (some .int) ∈ tb := tb_4 41 (by decide +kernel) (by decide)
theorem k_762 : Cond.methodLink RX4 33 yX4_workOutTwo ∈ tb := tb_4 42 (by decide +kernel) (by decide)
theorem k_763 : Cond.static yX4_workOutTwo ∈ tb := tb_4 43 (by decide +kernel) (by decide)
theorem k_764 : Cond.code yX4_workOutTwo cX4_workOutTwo 3 (some .int) ∈ tb := tb_4 44 (by decide +kernel) (by decide)
theorem k_765 : Cond.methodLink R_law 102 yX8_order ∈ tb := tb_4 45 (by decide +kernel) (by decide)
theorem k_766 : Cond.instanceMethod yX8_order ∈ tb := tb_4 46 (by decide +kernel) (by decide)
theorem k_767 : Cond.selects RX8 yX8_order yX8_order ∈ tb := tb_4 47 (by decide +kernel) (by decide)
theorem k_768 : Cond.code yX8_order cX8_order 8 (some .int) ∈ tb := tb_4 48 (by decide +kernel) (by decide)
theorem k_769 : Cond.methodLink R_law 106 yX8_sail ∈ tb := tb_4 49 (by decide +kernel) (by decide)
theorem k_770 : Cond.instanceMethod yX8_sail ∈ tb := tb_4 50 (by decide +kernel) (by decide)
theorem k_771 : Cond.selects RX8 yX8_sail yX8_sail ∈ tb := tb_4 51 (by decide +kernel) (by decide)
theorem k_772 : Cond.code yX8_sail cX8_sail 7 (some .int) ∈ tb := tb_4 52 (by decide +kernel) (by decide)
theorem k_773 : Cond.methodLink RX8 202 yX8_isShip ∈ tb := tb_4 53 (by decide +kernel) (by decide)
theorem k_774 : Cond.static yX8_isShip ∈ tb := tb_4 54 (by decide +kernel) (by decide)
theorem k_775 : Cond.code yX8_isShip cX8_isShip 1 (some .boolean) ∈ tb := tb_4 55 (by decide +kernel) (by decide)
theorem k_776 : Cond.methodLink RX8 205 yX8_firstLack ∈ tb := tb_4 56 (by decide +kernel) (by decide)
theorem k_778 : Cond.instanceMethod yX8_firstLack ∈ tb := tb_4 58 (by decide +kernel) (by decide)
theorem k_779 : Cond.code yX8_firstLack cX8_firstLack 4 (some .int) ∈ tb := tb_4 59 (by decide +kernel) (by decide)
theorem k_780 : Cond.methodLink RX8 211 yX8_isFitToSail ∈ tb := tb_4 60 (by decide +kernel) (by decide)
theorem k_782 : Cond.instanceMethod yX8_isFitToSail ∈ tb := tb_4 62 (by decide +kernel) (by decide)
theorem k_783 : Cond.code yX8_isFitToSail cX8_isFitToSail 3 (some .boolean) ∈ tb := tb_4 63 (by decide +kernel) (by decide)
theorem k_784 : Cond.methodLink RX8 358 yX8_gatherBeforeSailing ∈ tb := tb_4 64 (by decide +kernel) (by decide)
theorem k_786 : Cond.instanceMethod yX8_gatherBeforeSailing ∈ tb := tb_4 66 (by decide +kernel) (by decide)
theorem k_787 : Cond.code yX8_gatherBeforeSailing cX8_gatherBeforeSailing 2 none ∈ tb := tb_4 67 (by decide +kernel) (by decide)
theorem k_788 : Cond.methodLink RX8 214 yX5_leave ∈ tb := tb_4 68 (by decide +kernel) (by decide)
theorem k_789 : Cond.instanceMethod yX5_leave ∈ tb := tb_4 69 (by decide +kernel) (by decide)
theorem k_790 : Cond.selects RX5 yX5_leave yX5_leave ∈ tb := tb_4 70 (by decide +kernel) (by decide)
theorem k_791 : Cond.code yX5_leave cX5_leave 2 none ∈ tb := tb_4 71 (by decide +kernel) (by decide)
theorem k_792 : Cond.methodLink RX8 217 yX8_board ∈ tb := tb_4 72 (by decide +kernel) (by decide)
theorem k_794 : Cond.instanceMethod yX8_board ∈ tb := tb_4 74 (by decide +kernel) (by decide)
theorem k_795 : Cond.code yX8_board cX8_board 7 none ∈ tb := tb_4 75 (by decide +kernel) (by decide)
theorem k_799 : Cond.methodLink RX8 365 yX5_carry ∈ tb := tb_4 79 (by decide +kernel) (by decide)
theorem k_800 : Cond.instanceMethod yX5_carry ∈ tb := tb_4 80 (by decide +kernel) (by decide)
theorem k_801 : Cond.selects RX5 yX5_carry yX5_carry ∈ tb := tb_4 81 (by decide +kernel) (by decide)
theorem k_802 : Cond.code yX5_carry cX5_carry 6 none ∈ tb := tb_4 82 (by decide +kernel) (by decide)
theorem k_803 : Cond.methodLink RX8 288 yX7_giveTo ∈ tb := tb_4 83 (by decide +kernel) (by decide)
theorem k_804 : Cond.instanceMethod yX7_giveTo ∈ tb := tb_4 84 (by decide +kernel) (by decide)
theorem k_805 : Cond.selects RX7 yX7_giveTo yX7_giveTo ∈ tb := tb_4 85 (by decide +kernel) (by decide)
theorem k_806 : Cond.code yX7_giveTo cX7_giveTo 4 none ∈ tb := tb_4 86 (by decide +kernel) (by decide)
theorem k_808 : Cond.methodLink R_law 110 yX8_carried ∈ tb := tb_4 88 (by decide +kernel) (by decide)
theorem k_809 : Cond.instanceMethod yX8_carried ∈ tb := tb_4 89 (by decide +kernel) (by decide)
theorem k_810 : Cond.selects RX8 yX8_carried yX8_carried ∈ tb := tb_4 90 (by decide +kernel) (by decide)
theorem k_811 : Cond.code yX8_carried cX8_carried 5 (some .int) ∈ tb := tb_4 91 (by decide +kernel) (by decide)
theorem k_812 : Cond.methodLink R_law 114 yX8_sight ∈ tb := tb_4 92 (by decide +kernel) (by decide)
theorem k_813 : Cond.instanceMethod yX8_sight ∈ tb := tb_4 93 (by decide +kernel) (by decide)
theorem k_814 : Cond.selects RX8 yX8_sight yX8_sight ∈ tb := tb_4 94 (by decide +kernel) (by decide)
theorem k_815 : Cond.code yX8_sight cX8_sight 7 (some .int) ∈ tb := tb_4 95 (by decide +kernel) (by decide)
theorem k_816 : Cond.constant RX8 232 2000000 ∈ tb := tb_4 96 (by decide +kernel) (by decide)
theorem k_817 : Cond.methodLink RX8 233 yX5_mayBeSighted ∈ tb := tb_4 97 (by decide +kernel) (by decide)
theorem k_818 : Cond.instanceMethod yX5_mayBeSighted ∈ tb := tb_4 98 (by decide +kernel) (by decide)
theorem k_819 : Cond.selects RX5 yX5_mayBeSighted yX5_mayBeSighted ∈ tb := tb_4 99 (by decide +kernel) (by decide)
theorem k_820 : Cond.code yX5_mayBeSighted cX5_mayBeSighted 2 (some .boolean) ∈ tb := tb_4 100 (by decide +kernel) (by decide)
theorem k_821 : Cond.methodLink RX8 239 yX5_addSight ∈ tb := tb_4 101 (by decide +kernel) (by decide)
theorem k_822 : Cond.instanceMethod yX5_addSight ∈ tb := tb_4 102 (by decide +kernel) (by decide)
theorem k_823 : Cond.selects RX5 yX5_addSight yX5_addSight ∈ tb := tb_4 103 (by decide +kernel) (by decide)
theorem k_824 : Cond.code yX5_addSight cX5_addSight 5 (some .int) ∈ tb := tb_4 104 (by decide +kernel) (by decide)
theorem k_825 : Cond.methodLink R_law 118 yX8_told ∈ tb := tb_4 105 (by decide +kernel) (by decide)
theorem k_826 : Cond.instanceMethod yX8_told ∈ tb := tb_4 106 (by decide +kernel) (by decide)
theorem k_827 : Cond.selects RX8 yX8_told yX8_told ∈ tb := tb_4 107 (by decide +kernel) (by decide)
theorem k_828 : Cond.code yX8_told cX8_told 8 (some .int) ∈ tb := tb_4 108 (by decide +kernel) (by decide)
theorem k_829 : Cond.methodLink RX8 246 yX5_widthOf ∈ tb := tb_4 109 (by decide +kernel) (by decide)
theorem k_830 : Cond.instanceMethod yX5_widthOf ∈ tb := tb_4 110 (by decide +kernel) (by decide)
theorem k_831 : Cond.selects RX5 yX5_widthOf yX5_widthOf ∈ tb := tb_4 111 (by decide +kernel) (by decide)
theorem k_832 : Cond.code yX5_widthOf cX5_widthOf 4 (some .int) ∈ tb := tb_4 112 (by decide +kernel) (by decide)
theorem k_833 : Cond.methodLink RX5 46 yX5_isOf ∈ tb := tb_4 113 (by decide +kernel) (by decide)
theorem k_835 : Cond.instanceMethod yX5_isOf ∈ tb := tb_4 115 (by decide +kernel) (by decide)
theorem k_836 : Cond.code yX5_isOf cX5_isOf 3 (some .boolean) ∈ tb := tb_4 116 (by decide +kernel) (by decide)
theorem k_837 : Cond.methodLink RX5 50 yX5_daysSince ∈ tb := tb_4 117 (by decide +kernel) (by decide)
theorem k_838 : Cond.instanceMethod yX5_daysSince ∈ tb := tb_4 118 (by decide +kernel) (by decide)
theorem k_839 : Cond.selects RX5 yX5_daysSince yX5_daysSince ∈ tb := tb_4 119 (by decide +kernel) (by decide)
theorem k_840 : Cond.code yX5_daysSince cX5_daysSince 2 (some .int) ∈ tb := tb_4 120 (by decide +kernel) (by decide)
theorem k_842 : Cond.methodLink RX8 249 yX5_timeOf ∈ tb := tb_4 122 (by decide +kernel) (by decide)
theorem k_843 : Cond.instanceMethod yX5_timeOf ∈ tb := tb_4 123 (by decide +kernel) (by decide)
theorem k_844 : Cond.selects RX5 yX5_timeOf yX5_timeOf ∈ tb := tb_4 124 (by decide +kernel) (by decide)
theorem k_845 : Cond.code yX5_timeOf cX5_timeOf 5 (some .int) ∈ tb := tb_4 125 (by decide +kernel) (by decide)
theorem k_847 : Cond.methodLink RX8 252 yX8_droppedOf ∈ tb := tb_4 127 (by decide +kernel) (by decide)
theorem k_849 : Cond.instanceMethod yX8_droppedOf ∈ tb := tb_4 129 (by decide +kernel) (by decide)
theorem k_850 : Cond.code yX8_droppedOf cX8_droppedOf 7 (some .int) ∈ tb := tb_4 130 (by decide +kernel) (by decide)
theorem k_851 : Cond.methodLink RX8 371 yX5_offFromOthers ∈ tb := tb_4 131 (by decide +kernel) (by decide)
theorem k_852 : Cond.instanceMethod yX5_offFromOthers ∈ tb := tb_4 132 (by decide +kernel) (by decide)
theorem k_853 : Cond.selects RX5 yX5_offFromOthers yX5_offFromOthers ∈ tb := tb_4 133 (by decide +kernel) (by decide)
theorem k_854 : Cond.code yX5_offFromOthers cX5_offFromOthers 4 (some .int) ∈ tb := tb_4 134 (by decide +kernel) (by decide)
theorem k_855 : Cond.methodLink RX5 63 yX5_timeOf ∈ tb := tb_4 135 (by decide +kernel) (by decide)
theorem k_857 : Cond.methodLink RX8 374 yX5_daysSince ∈ tb := tb_4 137 (by decide +kernel) (by decide)
theorem k_858 : Cond.methodLink RX8 256 yX5_beginOf ∈ tb := tb_4 138 (by decide +kernel) (by decide)
theorem k_859 : Cond.instanceMethod yX5_beginOf ∈ tb := tb_4 139 (by decide +kernel) (by decide)
theorem k_860 : Cond.selects RX5 yX5_beginOf yX5_beginOf ∈ tb := tb_4 140 (by decide +kernel) (by decide)
theorem k_861 : Cond.code yX5_beginOf cX5_beginOf 5 (some .int) ∈ tb := tb_4 141 (by decide +kernel) (by decide)
theorem k_862 : Cond.constant RX5 69 (-2000000000) ∈ tb := tb_4 142 (by decide +kernel) (by decide)
theorem k_863 : Cond.methodLink RX5 70 yX5_widthOf ∈ tb := tb_4 143 (by decide +kernel) (by decide)
theorem k_865 : Cond.methodLink RX8 259 yX5_endOf ∈ tb := tb_4 145 (by decide +kernel) (by decide)
theorem k_866 : Cond.instanceMethod yX5_endOf ∈ tb := tb_4 146 (by decide +kernel) (by decide)
theorem k_867 : Cond.selects RX5 yX5_endOf yX5_endOf ∈ tb := tb_4 147 (by decide +kernel) (by decide)
theorem k_868 : Cond.code yX5_endOf cX5_endOf 5 (some .int) ∈ tb := tb_4 148 (by decide +kernel) (by decide)
theorem k_869 : Cond.constant RX5 76 2000000000 ∈ tb := tb_4 149 (by decide +kernel) (by decide)
theorem k_870 : Cond.methodLink R_law 122 yX8_back ∈ tb := tb_4 150 (by decide +kernel) (by decide)
theorem k_871 : Cond.instanceMethod yX8_back ∈ tb := tb_4 151 (by decide +kernel) (by decide)
theorem k_872 : Cond.selects RX8 yX8_back yX8_back ∈ tb := tb_4 152 (by decide +kernel) (by decide)
theorem k_873 : Cond.code yX8_back cX8_back 6 (some .int) ∈ tb := tb_4 153 (by decide +kernel) (by decide)
theorem k_874 : Cond.methodLink RX8 265 yX5_comeBack ∈ tb := tb_4 154 (by decide +kernel) (by decide)
theorem k_875 : Cond.instanceMethod yX5_comeBack ∈ tb := tb_4 155 (by decide +kernel) (by decide)
theorem k_876 : Cond.selects RX5 yX5_comeBack yX5_comeBack ∈ tb := tb_4 156 (by decide +kernel) (by decide)
theorem k_877 : Cond.code yX5_comeBack cX5_comeBack 2 none ∈ tb := tb_4 157 (by decide +kernel) (by decide)
theorem k_878 : Cond.methodLink RX8 268 yX8_unload ∈ tb := tb_4 158 (by decide +kernel) (by decide)
theorem k_880 : Cond.instanceMethod yX8_unload ∈ tb := tb_4 160 (by decide +kernel) (by decide)
theorem k_881 : Cond.code yX8_unload cX8_unload 5 none ∈ tb := tb_4 161 (by decide +kernel) (by decide)
theorem k_882 : Cond.methodLink R_law 126 yX8_state ∈ tb := tb_4 162 (by decide +kernel) (by decide)
theorem k_883 : Cond.instanceMethod yX8_state ∈ tb := tb_4 163 (by decide +kernel) (by decide)
theorem k_884 : Cond.selects RX8 yX8_state yX8_state ∈ tb := tb_4 164 (by decide +kernel) (by decide)
theorem k_885 : Cond.code yX8_state cX8_state 2 (some .int) ∈ tb := tb_4 165 (by decide +kernel) (by decide)
theorem k_886 : Cond.methodLink R_law 130 yX8_doubt ∈ tb := tb_4 166 (by decide +kernel) (by decide)
theorem k_887 : Cond.instanceMethod yX8_doubt ∈ tb := tb_4 167 (by decide +kernel) (by decide)
theorem k_888 : Cond.selects RX8 yX8_doubt yX8_doubt ∈ tb := tb_4 168 (by decide +kernel) (by decide)
theorem k_889 : Cond.code yX8_doubt cX8_doubt 2 (some .int) ∈ tb := tb_4 169 (by decide +kernel) (by decide)
theorem k_890 : Cond.methodLink RX8 278 yX0_add ∈ tb := tb_4 170 (by decide +kernel) (by decide)
theorem k_891 : Cond.instanceMethod yX0_add ∈ tb := tb_4 171 (by decide +kernel) (by decide)
theorem k_892 : Cond.selects RX0 yX0_add yX0_add ∈ tb := tb_4 172 (by decide +kernel) (by decide)
theorem k_893 : Cond.code yX0_add cX0_add 2 none ∈ tb := tb_4 173 (by decide +kernel) (by decide)
theorem k_894 : Cond.methodLink R_law 134 yX8_deal ∈ tb := tb_4 174 (by decide +kernel) (by decide)
theorem k_895 : Cond.instanceMethod yX8_deal ∈ tb := tb_4 175 (by decide +kernel) (by decide)
theorem k_896 : Cond.selects RX8 yX8_deal yX8_deal ∈ tb := tb_4 176 (by decide +kernel) (by decide)
theorem k_897 : Cond.code yX8_deal cX8_deal 5 (some .int) ∈ tb := tb_4 177 (by decide +kernel) (by decide)
theorem k_898 : Cond.methodLink RX8 279 yX0_shareOut ∈ tb := tb_4 178 (by decide +kernel) (by decide)
theorem k_899 : Cond.instanceMethod yX0_shareOut ∈ tb := tb_4 179 (by decide +kernel) (by decide)
theorem k_900 : Cond.selects RX0 yX0_shareOut yX0_shareOut ∈ tb := tb_4 180 (by decide +kernel) (by decide)
theorem k_901 : Cond.code yX0_shareOut cX0_shareOut 6 (some .int) ∈ tb := tb_4 181 (by decide +kernel) (by decide)
theorem k_904 : Cond.constant RX0 49 2000000000 ∈ tb := tb_4 184 (by decide +kernel) (by decide)
theorem k_905 : Cond.methodLink RX0 50 yX0_tryFrom ∈ tb := tb_4 185 (by decide +kernel) (by decide)
theorem k_907 : Cond.instanceMethod yX0_tryFrom ∈ tb := tb_4 187 (by decide +kernel) (by decide)
theorem k_908 : Cond.code yX0_tryFrom cX0_tryFrom 4 none ∈ tb := tb_4 188 (by decide +kernel) (by decide)
theorem k_909 : Cond.methodLink RX0 54 yX0_keepIfBetter ∈ tb := tb_4 189 (by decide +kernel) (by decide)
theorem k_911 : Cond.instanceMethod yX0_keepIfBetter ∈ tb := tb_4 191 (by decide +kernel) (by decide)
theorem k_912 : Cond.code yX0_keepIfBetter cX0_keepIfBetter 3 none ∈ tb := tb_4 192 (by decide +kernel) (by decide)
theorem k_913 : Cond.methodLink RX0 57 yX0_secondLeast ∈ tb := tb_4 193 (by decide +kernel) (by decide)
theorem k_915 : Cond.instanceMethod yX0_secondLeast ∈ tb := tb_4 195 (by decide +kernel) (by decide)
theorem k_916 : Cond.code yX0_secondLeast cX0_secondLeast 6 (some .int) ∈ tb := tb_4 196 (by decide +kernel) (by decide)
theorem k_917 : Cond.methodLink R_law 138 yX8_dealt ∈ tb := tb_4 197 (by decide +kernel) (by decide)
theorem k_918 : Cond.instanceMethod yX8_dealt ∈ tb := tb_4 198 (by decide +kernel) (by decide)
theorem k_919 : Cond.selects RX8 yX8_dealt yX8_dealt ∈ tb := tb_4 199 (by decide +kernel) (by decide)
theorem k_920 : Cond.code yX8_dealt cX8_dealt 2 (some .int) ∈ tb := tb_4 200 (by decide +kernel) (by decide)
theorem k_921 : Cond.methodLink R_law 142 yX8_lend ∈ tb := tb_4 201 (by decide +kernel) (by decide)
theorem k_922 : Cond.instanceMethod yX8_lend ∈ tb := tb_4 202 (by decide +kernel) (by decide)
theorem k_923 : Cond.selects RX8 yX8_lend yX8_lend ∈ tb := tb_4 203 (by decide +kernel) (by decide)
theorem k_924 : Cond.code yX8_lend cX8_lend 4 (some .int) ∈ tb := tb_4 204 (by decide +kernel) (by decide)
theorem k_925 : Cond.methodLink R_law 146 yX8_home ∈ tb := tb_4 205 (by decide +kernel) (by decide)
theorem k_926 : Cond.instanceMethod yX8_home ∈ tb := tb_4 206 (by decide +kernel) (by decide)
theorem k_927 : Cond.selects RX8 yX8_home yX8_home ∈ tb := tb_4 207 (by decide +kernel) (by decide)
theorem k_928 : Cond.code yX8_home cX8_home 4 (some .int) ∈ tb := tb_4 208 (by decide +kernel) (by decide)
theorem k_929 : Cond.methodLink R_law 150 yX8_holder ∈ tb := tb_4 209 (by decide +kernel) (by decide)
theorem k_930 : Cond.instanceMethod yX8_holder ∈ tb := tb_4 210 (by decide +kernel) (by decide)
theorem k_931 : Cond.selects RX8 yX8_holder yX8_holder ∈ tb := tb_4 211 (by decide +kernel) (by decide)
theorem k_932 : Cond.code yX8_holder cX8_holder 4 (some .int) ∈ tb := tb_4 212 (by decide +kernel) (by decide)
theorem k_933 : Cond.methodLink R_law 154 yX8_away ∈ tb := tb_4 213 (by decide +kernel) (by decide)
theorem k_934 : Cond.instanceMethod yX8_away ∈ tb := tb_4 214 (by decide +kernel) (by decide)
theorem k_935 : Cond.selects RX8 yX8_away yX8_away ∈ tb := tb_4 215 (by decide +kernel) (by decide)
theorem k_936 : Cond.code yX8_away cX8_away 3 (some .int) ∈ tb := tb_4 216 (by decide +kernel) (by decide)
theorem k_937 : Cond.methodLink RX8 292 yX7_daysAway ∈ tb := tb_4 217 (by decide +kernel) (by decide)
theorem k_938 : Cond.instanceMethod yX7_daysAway ∈ tb := tb_4 218 (by decide +kernel) (by decide)
theorem k_939 : Cond.selects RX7 yX7_daysAway yX7_daysAway ∈ tb := tb_4 219 (by decide +kernel) (by decide)
theorem k_940 : Cond.code yX7_daysAway cX7_daysAway 4 (some .int) ∈ tb := tb_4 220 (by decide +kernel) (by decide)
theorem k_941 : Cond.methodLink R_law 158 yX8_count ∈ tb := tb_4 221 (by decide +kernel) (by decide)
theorem k_942 : Cond.instanceMethod yX8_count ∈ tb := tb_4 222 (by decide +kernel) (by decide)
theorem k_943 : Cond.selects RX8 yX8_count yX8_count ∈ tb := tb_4 223 (by decide +kernel) (by decide)
theorem k_944 : Cond.code yX8_count cX8_count 2 (some .int) ∈ tb := tb_4 224 (by decide +kernel) (by decide)
theorem k_945 : Cond.methodLink RX8 295 yX8_placesWith ∈ tb := tb_4 225 (by decide +kernel) (by decide)
theorem k_947 : Cond.instanceMethod yX8_placesWith ∈ tb := tb_4 227 (by decide +kernel) (by decide)
theorem k_948 : Cond.code yX8_placesWith cX8_placesWith 4 (some .int) ∈ tb := tb_4 228 (by decide +kernel) (by decide)
theorem k_949 : Cond.methodLink RX8 298 yX8_shipsAtSea ∈ tb := tb_4 229 (by decide +kernel) (by decide)
theorem k_951 : Cond.instanceMethod yX8_shipsAtSea ∈ tb := tb_4 231 (by decide +kernel) (by decide)
theorem k_952 : Cond.code yX8_shipsAtSea cX8_shipsAtSea 3 (some .int) ∈ tb := tb_4 232 (by decide +kernel) (by decide)
theorem k_953 : Cond.classLink R_law 10 RX9 ∈ tb := tb_4 233 (by decide +kernel) (by decide)
theorem k_954 : Cond.instantiable RX9 68 ∈ tb := tb_4 234 (by decide +kernel) (by decide)
theorem k_955 : Cond.methodLink R_law 12 yX9_init ∈ tb := tb_4 235 (by decide +kernel) (by decide)
theorem k_956 : Cond.instanceMethod yX9_init ∈ tb := tb_4 236 (by decide +kernel) (by decide)
theorem k_957 : Cond.code yX9_init cX9_init 2 none ∈ tb := tb_4 237 (by decide +kernel) (by decide)
theorem k_958 : Cond.methodLink RX9 7 objectInit ∈ tb := tb_4 238 (by decide +kernel) (by decide)
theorem k_959 : Cond.fieldLink RX9 156 "SeaWatchesModel" "today" "I" ∈ tb := tb_4 239 (by decide +kernel) (by decide)
theorem k_960 : Cond.fieldLink RX9 13 "SeaWatchesModel" "warmths" "[I" ∈ tb := tb_5 0 (by decide +kernel) (by decide)
theorem k_961 : Cond.fieldLink RX9 17 "SeaWatchesModel" "kind" "[I" ∈ tb := tb_5 1 (by decide +kernel) (by decide)
theorem k_962 : Cond.fieldLink RX9 20 "SeaWatchesModel" "mark" "[I" ∈ tb := tb_5 2 (by decide +kernel) (by decide)
theorem k_963 : Cond.fieldLink RX9 23 "SeaWatchesModel" "has" "[Z" ∈ tb := tb_5 3 (by decide +kernel) (by decide)
theorem k_964 : Cond.fieldLink RX9 27 "SeaWatchesModel" "errors" "[I" ∈ tb := tb_5 4 (by decide +kernel) (by decide)
theorem k_965 : Cond.fieldLink RX9 30 "SeaWatchesModel" "sources" "[I" ∈ tb := tb_5 5 (by decide +kernel) (by decide)
theorem k_966 : Cond.fieldLink RX9 33 "SeaWatchesModel" "repaired" "[Z" ∈ tb := tb_5 6 (by decide +kernel) (by decide)
theorem k_967 : Cond.fieldLink RX9 36 "SeaWatchesModel" "lateOn" "[Z" ∈ tb := tb_5 7 (by decide +kernel) (by decide)
theorem k_968 : Cond.fieldLink RX9 39 "SeaWatchesModel" "holders" "[I" ∈ tb := tb_5 8 (by decide +kernel) (by decide)
theorem k_969 : Cond.fieldLink RX9 175 "SeaWatchesModel" "offs" "I" ∈ tb := tb_5 9 (by decide +kernel) (by decide)
theorem k_970 : Cond.fieldLink RX9 42 "SeaWatchesModel" "offSignal" "[I" ∈ tb := tb_5 10 (by decide +kernel) (by decide)
theorem k_971 : Cond.fieldLink RX9 45 "SeaWatchesModel" "offFrom" "[I" ∈ tb := tb_5 11 (by decide +kernel) (by decide)
theorem k_972 : Cond.fieldLink RX9 48 "SeaWatchesModel" "offTo" "[I" ∈ tb := tb_5 12 (by decide +kernel) (by decide)
theorem k_973 : Cond.fieldLink RX9 51 "SeaWatchesModel" "offBy" "[I" ∈ tb := tb_5 13 (by decide +kernel) (by decide)
theorem k_974 : Cond.fieldLink RX9 54 "SeaWatchesModel" "offDay" "[I" ∈ tb := tb_5 14 (by decide +kernel) (by decide)
theorem k_975 : Cond.fieldLink RX9 199 "SeaWatchesModel" "many" "J" ∈ tb := tb_5 15 (by decide +kernel) (by decide)
theorem k_976 : Cond.fieldLink RX9 203 "SeaWatchesModel" "sumW" "J" ∈ tb := tb_5 16 (by decide +kernel) (by decide)
theorem k_977 : Cond.fieldLink RX9 206 "SeaWatchesModel" "sumA" "J" ∈ tb := tb_5 17 (by decide +kernel) (by decide)
theorem k_978 : Cond.fieldLink RX9 209 "SeaWatchesModel" "sumR" "J" ∈ tb := tb_5 18 (by decide +kernel) (by decide)
theorem k_979 : Cond.fieldLink RX9 212 "SeaWatchesModel" "sumWW" "J" ∈ tb := tb_5 19 (by decide +kernel) (by decide)
theorem k_980 : Cond.fieldLink RX9 215 "SeaWatchesModel" "sumWA" "J" ∈ tb := tb_5 20 (by decide +kernel) (by decide)
theorem k_981 : Cond.fieldLink RX9 218 "SeaWatchesModel" "sumAA" "J" ∈ tb := tb_5 21 (by decide +kernel) (by decide)
theorem k_982 : Cond.fieldLink RX9 221 "SeaWatchesModel" "sumWR" "J" ∈ tb := tb_5 22 (by decide +kernel) (by decide)
theorem k_983 : Cond.fieldLink RX9 224 "SeaWatchesModel" "sumAR" "J" ∈ tb := tb_5 23 (by decide +kernel) (by decide)
theorem k_984 : Cond.fieldLink RX9 256 "SeaWatchesModel" "upper" "J" ∈ tb := tb_5 24 (by decide +kernel) (by decide)
theorem k_985 : Cond.fieldLink RX9 253 "SeaWatchesModel" "lower" "J" ∈ tb := tb_5 25 (by decide +kernel) (by decide)
theorem k_986 : Cond.fieldLink RX9 278 "SeaWatchesModel" "rates" "I" ∈ tb := tb_5 26 (by decide +kernel) (by decide)
theorem k_987 : Cond.fieldLink RX9 57 "SeaWatchesModel" "rateDay" "[I" ∈ tb := tb_5 27 (by decide +kernel) (by decide)
theorem k_988 : Cond.fieldLink RX9 60 "SeaWatchesModel" "rate" "[I" ∈ tb := tb_5 28 (by decide +kernel) (by decide)
theorem k_989 : Cond.fieldLink RX9 63 "SeaWatchesModel" "sorted" "[I" ∈ tb := tb_5 29 (by decide +kernel) (by decide)
theorem k_990 : Cond.fieldLink RX9 66 "SeaWatchesModel" "tape" "[B" ∈ tb := tb_5 30 (by decide +kernel) (by decide)
theorem k_991 : Cond.fieldLink RX9 284 "SeaWatchesModel" "taped" "I" ∈ tb := tb_5 31 (by decide +kernel) (by decide)
theorem k_992 : Cond.fieldLink RX9 70 "SeaWatchesModel" "hasRule" "[Z" ∈ tb := tb_5 32 (by decide +kernel) (by decide)
theorem k_993 : Cond.fieldLink RX9 73 "SeaWatchesModel" "ruleSize" "[I" ∈ tb := tb_5 33 (by decide +kernel) (by decide)
theorem k_994 : Cond.fieldLink RX9 76 "SeaWatchesModel" "step" "[I" ∈ tb := tb_5 34 (by decide +kernel) (by decide)
theorem k_995 : Cond.fieldLink RX9 79 "SeaWatchesModel" "number" "[I" ∈ tb := tb_5 35 (by decide +kernel) (by decide)
theorem k_996 : Cond.fieldLink RX9 348 "SeaWatchesModel" "laid" "I" ∈ tb := tb_5 36 (by decide +kernel) (by decide)
theorem k_997 : Cond.fieldLink RX9 287 "SeaWatchesModel" "at" "I" ∈ tb := tb_5 37 (by decide +kernel) (by decide)
theorem k_998 : Cond.fieldLink RX9 293 "SeaWatchesModel" "tk" "I" ∈ tb := tb_5 38 (by decide +kernel) (by decide)
theorem k_999 : Cond.fieldLink RX9 290 "SeaWatchesModel" "tkAt" "I" ∈ tb := tb_5 39 (by decide +kernel) (by decide)
theorem k_1000 : Cond.fieldLink RX9 310 "SeaWatchesModel" "tkNumber" "I" ∈ tb := tb_5 40 (by decide +kernel) (by decide)
theorem k_1001 : Cond.fieldLink RX9 82 "SeaWatchesModel" "wait" "[I" ∈ tb := tb_5 41 (by decide +kernel) (by decide)
theorem k_1002 : Cond.fieldLink RX9 351 "SeaWatchesModel" "waits" "I" ∈ tb := tb_5 42 (by decide +kernel) (by decide)
theorem k_1003 : Cond.fieldLink RX9 85 "SeaWatchesModel" "pile" "[I" ∈ tb := tb_5 43 (by decide +kernel) (by decide)
theorem k_1004 : Cond.fieldLink RX9 88 "SeaWatchesModel" "named" "[I" ∈ tb := tb_5 44 (by decide +kernel) (by decide)
theorem k_1005 : Cond.fieldLink RX9 91 "SeaWatchesModel" "shipState" "[I" ∈ tb := tb_5 45 (by decide +kernel) (by decide)
theorem k_1006 : Cond.fieldLink RX9 94 "SeaWatchesModel" "sailedOn" "[I" ∈ tb := tb_5 46 (by decide +kernel) (by decide)
theorem k_1007 : Cond.fieldLink RX9 97 "SeaWatchesModel" "backAfter" "[I" ∈ tb := tb_5 47 (by decide +kernel) (by decide)
theorem k_1008 : Cond.fieldLink RX9 100 "SeaWatchesModel" "carriedAt" "[I" ∈ tb := tb_5 48 (by decide +kernel) (by decide)
theorem k_1009 : Cond.fieldLink RX9 103 "SeaWatchesModel" "start" "[I" ∈ tb := tb_5 49 (by decide +kernel) (by decide)
theorem k_1010 : Cond.fieldLink RX9 106 "SeaWatchesModel" "going" "[I" ∈ tb := tb_5 50 (by decide +kernel) (by decide)
theorem k_1011 : Cond.fieldLink RX9 109 "SeaWatchesModel" "doubts" "[I" ∈ tb := tb_5 51 (by decide +kernel) (by decide)
theorem k_1012 : Cond.fieldLink RX9 112 "SeaWatchesModel" "backError" "[I" ∈ tb := tb_5 52 (by decide +kernel) (by decide)
theorem k_1013 : Cond.fieldLink RX9 115 "SeaWatchesModel" "sights" "[I" ∈ tb := tb_5 53 (by decide +kernel) (by decide)
theorem k_1014 : Cond.fieldLink RX9 118 "SeaWatchesModel" "sightDay" "[I" ∈ tb := tb_5 54 (by decide +kernel) (by decide)
theorem k_1015 : Cond.fieldLink RX9 121 "SeaWatchesModel" "shown" "[I" ∈ tb := tb_5 55 (by decide +kernel) (by decide)
theorem k_1016 : Cond.fieldLink RX9 124 "SeaWatchesModel" "asks" "[I" ∈ tb := tb_5 56 (by decide +kernel) (by decide)
theorem k_1017 : Cond.fieldLink RX9 127 "SeaWatchesModel" "times" "[I" ∈ tb := tb_5 57 (by decide +kernel) (by decide)
theorem k_1018 : Cond.fieldLink RX9 130 "SeaWatchesModel" "widths" "[I" ∈ tb := tb_5 58 (by decide +kernel) (by decide)
theorem k_1019 : Cond.fieldLink RX9 406 "SeaWatchesModel" "listed" "I" ∈ tb := tb_5 59 (by decide +kernel) (by decide)
theorem k_1020 : Cond.fieldLink RX9 133 "SeaWatchesModel" "list" "[I" ∈ tb := tb_5 60 (by decide +kernel) (by decide)
theorem k_1021 : Cond.fieldLink RX9 136 "SeaWatchesModel" "dealt" "[I" ∈ tb := tb_5 61 (by decide +kernel) (by decide)
theorem k_1022 : Cond.fieldLink RX9 415 "SeaWatchesModel" "dealtMany" "I" ∈ tb := tb_5 62 (by decide +kernel) (by decide)
theorem k_1023 : Cond.fieldLink RX9 139 "SeaWatchesModel" "way" "[I" ∈ tb := tb_5 63 (by decide +kernel) (by decide)
theorem k_1024 : Cond.fieldLink RX9 142 "SeaWatchesModel" "dealDays" "[I" ∈ tb := tb_5 64 (by decide +kernel) (by decide)
theorem k_1025 : Cond.fieldLink RX9 145 "SeaWatchesModel" "given" "[I" ∈ tb := tb_5 65 (by decide +kernel) (by decide)
theorem k_1163 : Cond.arrayClass .boolean ∈ tb := tb_5 203 (by decide +kernel) (by decide)
theorem k_1164 : Cond.methodLink R_law 17 yX9_days ∈ tb := tb_5 204 (by decide +kernel) (by decide)
theorem k_1165 : Cond.instanceMethod yX9_days ∈ tb := tb_5 205 (by decide +kernel) (by decide)
theorem k_1166 : Cond.selects RX9 yX9_days yX9_days ∈ tb := tb_5 206 (by decide +kernel) (by decide)
theorem k_1167 : Cond.code yX9_days cX9_days 4 (some .int) ∈ tb := tb_5 207 (by decide +kernel) (by decide)
theorem k_1168 : Cond.methodLink RX9 148 yX9_in ∈ tb := tb_5 208 (by decide +kernel) (by decide)
theorem k_1169 : Cond.static yX9_in ∈ tb := tb_5 209 (by decide +kernel) (by decide)
theorem k_1170 : Cond.code yX9_in cX9_in 3 (some .boolean) ∈ tb := tb_5 210 (by decide +kernel) (by decide)
theorem k_1171 : Cond.methodLink R_law 22 yX9_warmth ∈ tb := tb_5 211 (by decide +kernel) (by decide)
theorem k_1172 : Cond.instanceMethod yX9_warmth ∈ tb := tb_5 212 (by decide +kernel) (by decide)
theorem k_1173 : Cond.selects RX9 yX9_warmth yX9_warmth ∈ tb := tb_5 213 (by decide +kernel) (by decide)
theorem k_1174 : Cond.code yX9_warmth cX9_warmth 3 (some .int) ∈ tb := tb_5 214 (by decide +kernel) (by decide)
theorem k_1175 : Cond.methodLink RX9 159 yX9_isDay ∈ tb := tb_5 215 (by decide +kernel) (by decide)
theorem k_1176 : Cond.static yX9_isDay ∈ tb := tb_5 216 (by decide +kernel) (by decide)
theorem k_1177 : Cond.code yX9_isDay cX9_isDay 1 (some .boolean) ∈ tb := tb_5 217 (by decide +kernel) (by decide)
theorem k_1178 : Cond.methodLink R_law 27 yX9_put ∈ tb := tb_5 218 (by decide +kernel) (by decide)
theorem k_1179 : Cond.instanceMethod yX9_put ∈ tb := tb_5 219 (by decide +kernel) (by decide)
theorem k_1180 : Cond.selects RX9 yX9_put yX9_put ∈ tb := tb_5 220 (by decide +kernel) (by decide)
theorem k_1181 : Cond.code yX9_put cX9_put 5 (some .int) ∈ tb := tb_5 221 (by decide +kernel) (by decide)
theorem k_1182 : Cond.methodLink RX9 152 yX9_isPlace ∈ tb := tb_5 222 (by decide +kernel) (by decide)
theorem k_1183 : Cond.static yX9_isPlace ∈ tb := tb_5 223 (by decide +kernel) (by decide)
theorem k_1184 : Cond.code yX9_isPlace cX9_isPlace 1 (some .boolean) ∈ tb := tb_5 224 (by decide +kernel) (by decide)
theorem k_1185 : Cond.methodLink R_law 31 yX9_take ∈ tb := tb_5 225 (by decide +kernel) (by decide)
theorem k_1186 : Cond.instanceMethod yX9_take ∈ tb := tb_5 226 (by decide +kernel) (by decide)
theorem k_1187 : Cond.selects RX9 yX9_take yX9_take ∈ tb := tb_5 227 (by decide +kernel) (by decide)
theorem k_1188 : Cond.code yX9_take cX9_take 2 (some .int) ∈ tb := tb_5 228 (by decide +kernel) (by decide)
theorem k_1189 : Cond.methodLink RX9 162 yX9_isWatch ∈ tb := tb_5 229 (by decide +kernel) (by decide)
theorem k_1191 : Cond.instanceMethod yX9_isWatch ∈ tb := tb_5 231 (by decide +kernel) (by decide)
theorem k_1192 : Cond.code yX9_isWatch cX9_isWatch 2 (some .boolean) ∈ tb := tb_5 232 (by decide +kernel) (by decide)
theorem k_1193 : Cond.methodLink RX9 165 yX9_holderNow ∈ tb := tb_5 233 (by decide +kernel) (by decide)
theorem k_1195 : Cond.instanceMethod yX9_holderNow ∈ tb := tb_5 235 (by decide +kernel) (by decide)
theorem k_1196 : Cond.code yX9_holderNow cX9_holderNow 2 (some .int) ∈ tb := tb_5 236 (by decide +kernel) (by decide)
theorem k_1197 : Cond.methodLink R_law 35 yX9_holds ∈ tb := tb_5 237 (by decide +kernel) (by decide)
theorem k_1198 : Cond.instanceMethod yX9_holds ∈ tb := tb_5 238 (by decide +kernel) (by decide)
theorem k_1199 : Cond.selects RX9 yX9_holds yX9_holds ∈ tb := tb_5 239 (by decide +kernel) (by decide)
theorem k_1200 : Cond.code yX9_holds cX9_holds 2 (some .int) ∈ tb := tb_6 0 (by decide +kernel) (by decide)
theorem k_1201 : Cond.methodLink R_law 39 yX9_read ∈ tb := tb_6 1 (by decide +kernel) (by decide)
theorem k_1202 : Cond.instanceMethod yX9_read ∈ tb := tb_6 2 (by decide +kernel) (by decide)
theorem k_1203 : Cond.selects RX9 yX9_read yX9_read ∈ tb := tb_6 3 (by decide +kernel) (by decide)
theorem k_1204 : Cond.code yX9_read cX9_read 2 (some .int) ∈ tb := tb_6 4 (by decide +kernel) (by decide)
theorem k_1205 : Cond.constant RX9 169 (-2000000000) ∈ tb := tb_6 5 (by decide +kernel) (by decide)
theorem k_1206 : Cond.methodLink R_law 44 yX9_compare ∈ tb := tb_6 6 (by decide +kernel) (by decide)
theorem k_1207 : Cond.instanceMethod yX9_compare ∈ tb := tb_6 7 (by decide +kernel) (by decide)
theorem k_1208 : Cond.selects RX9 yX9_compare yX9_compare ∈ tb := tb_6 8 (by decide +kernel) (by decide)
theorem k_1209 : Cond.code yX9_compare cX9_compare 7 (some .int) ∈ tb := tb_6 9 (by decide +kernel) (by decide)
theorem k_1210 : Cond.constant RX9 170 (-100000) ∈ tb := tb_6 10 (by decide +kernel) (by decide)
theorem k_1211 : Cond.constant RX9 171 100000 ∈ tb := tb_6 11 (by decide +kernel) (by decide)
theorem k_1212 : Cond.methodLink RX9 172 yX9_watchAt ∈ tb := tb_6 12 (by decide +kernel) (by decide)
theorem k_1214 : Cond.instanceMethod yX9_watchAt ∈ tb := tb_6 14 (by decide +kernel) (by decide)
theorem k_1215 : Cond.code yX9_watchAt cX9_watchAt 2 (some .int) ∈ tb := tb_6 15 (by decide +kernel) (by decide)
theorem k_1216 : Cond.methodLink R_law 48 yX9_error ∈ tb := tb_6 16 (by decide +kernel) (by decide)
theorem k_1217 : Cond.instanceMethod yX9_error ∈ tb := tb_6 17 (by decide +kernel) (by decide)
theorem k_1218 : Cond.selects RX9 yX9_error yX9_error ∈ tb := tb_6 18 (by decide +kernel) (by decide)
theorem k_1219 : Cond.code yX9_error cX9_error 4 (some .int) ∈ tb := tb_6 19 (by decide +kernel) (by decide)
theorem k_1220 : Cond.methodLink RX9 185 yX9_isKnown ∈ tb := tb_6 20 (by decide +kernel) (by decide)
theorem k_1221 : Cond.static yX9_isKnown ∈ tb := tb_6 21 (by decide +kernel) (by decide)
theorem k_1222 : Cond.code yX9_isKnown cX9_isKnown 1 (some .boolean) ∈ tb := tb_6 22 (by decide +kernel) (by decide)
theorem k_1223 : Cond.methodLink RX9 178 yX9_errorOf ∈ tb := tb_6 23 (by decide +kernel) (by decide)
theorem k_1225 : Cond.instanceMethod yX9_errorOf ∈ tb := tb_6 25 (by decide +kernel) (by decide)
theorem k_1226 : Cond.code yX9_errorOf cX9_errorOf 7 (some .int) ∈ tb := tb_6 26 (by decide +kernel) (by decide)
theorem k_1227 : Cond.methodLink R_law 52 yX9_rate ∈ tb := tb_6 27 (by decide +kernel) (by decide)
theorem k_1228 : Cond.instanceMethod yX9_rate ∈ tb := tb_6 28 (by decide +kernel) (by decide)
theorem k_1229 : Cond.selects RX9 yX9_rate yX9_rate ∈ tb := tb_6 29 (by decide +kernel) (by decide)
theorem k_1230 : Cond.code yX9_rate cX9_rate 4 (some .int) ∈ tb := tb_6 30 (by decide +kernel) (by decide)
theorem k_1231 : Cond.methodLink RX9 188 yX9_rateOf ∈ tb := tb_6 31 (by decide +kernel) (by decide)
theorem k_1233 : Cond.instanceMethod yX9_rateOf ∈ tb := tb_6 33 (by decide +kernel) (by decide)
theorem k_1234 : Cond.code yX9_rateOf cX9_rateOf 7 (some .int) ∈ tb := tb_6 34 (by decide +kernel) (by decide)
theorem k_1235 : Cond.methodLink RX9 182 yX9_size ∈ tb := tb_6 35 (by decide +kernel) (by decide)
theorem k_1236 : Cond.static yX9_size ∈ tb := tb_6 36 (by decide +kernel) (by decide)
theorem k_1237 : Cond.code yX9_size cX9_size 1 (some .int) ∈ tb := tb_6 37 (by decide +kernel) (by decide)
theorem k_1238 : Cond.methodLink R_law 56 yX9_repair ∈ tb := tb_6 38 (by decide +kernel) (by decide)
theorem k_1239 : Cond.instanceMethod yX9_repair ∈ tb := tb_6 39 (by decide +kernel) (by decide)
theorem k_1240 : Cond.selects RX9 yX9_repair yX9_repair ∈ tb := tb_6 40 (by decide +kernel) (by decide)
theorem k_1241 : Cond.code yX9_repair cX9_repair 5 (some .int) ∈ tb := tb_6 41 (by decide +kernel) (by decide)
theorem k_1242 : Cond.methodLink R_law 60 yX9_late ∈ tb := tb_6 42 (by decide +kernel) (by decide)
theorem k_1243 : Cond.instanceMethod yX9_late ∈ tb := tb_6 43 (by decide +kernel) (by decide)
theorem k_1244 : Cond.selects RX9 yX9_late yX9_late ∈ tb := tb_6 44 (by decide +kernel) (by decide)
theorem k_1245 : Cond.code yX9_late cX9_late 5 (some .int) ∈ tb := tb_6 45 (by decide +kernel) (by decide)
theorem k_1246 : Cond.methodLink R_law 64 yX9_age ∈ tb := tb_6 46 (by decide +kernel) (by decide)
theorem k_1247 : Cond.instanceMethod yX9_age ∈ tb := tb_6 47 (by decide +kernel) (by decide)
theorem k_1248 : Cond.selects RX9 yX9_age yX9_age ∈ tb := tb_6 48 (by decide +kernel) (by decide)
theorem k_1249 : Cond.code yX9_age cX9_age 4 (some .int) ∈ tb := tb_6 49 (by decide +kernel) (by decide)
theorem k_1250 : Cond.methodLink RX9 191 yX9_ageOf ∈ tb := tb_6 50 (by decide +kernel) (by decide)
theorem k_1252 : Cond.instanceMethod yX9_ageOf ∈ tb := tb_6 52 (by decide +kernel) (by decide)
theorem k_1253 : Cond.code yX9_ageOf cX9_ageOf 4 (some .int) ∈ tb := tb_6 53 (by decide +kernel) (by decide)
theorem k_1254 : Cond.methodLink R_law 68 yX9_off ∈ tb := tb_6 54 (by decide +kernel) (by decide)
theorem k_1255 : Cond.instanceMethod yX9_off ∈ tb := tb_6 55 (by decide +kernel) (by decide)
theorem k_1256 : Cond.selects RX9 yX9_off yX9_off ∈ tb := tb_6 56 (by decide +kernel) (by decide)
theorem k_1257 : Cond.code yX9_off cX9_off 5 (some .int) ∈ tb := tb_6 57 (by decide +kernel) (by decide)
theorem k_1258 : Cond.methodLink R_law 72 yX9_changed ∈ tb := tb_6 58 (by decide +kernel) (by decide)
theorem k_1259 : Cond.instanceMethod yX9_changed ∈ tb := tb_6 59 (by decide +kernel) (by decide)
theorem k_1260 : Cond.selects RX9 yX9_changed yX9_changed ∈ tb := tb_6 60 (by decide +kernel) (by decide)
theorem k_1261 : Cond.code yX9_changed cX9_changed 8 (some .int) ∈ tb := tb_6 61 (by decide +kernel) (by decide)
theorem k_1262 : Cond.methodLink RX9 195 yX9_areDays ∈ tb := tb_6 62 (by decide +kernel) (by decide)
theorem k_1263 : Cond.static yX9_areDays ∈ tb := tb_6 63 (by decide +kernel) (by decide)
theorem k_1264 : Cond.code yX9_areDays cX9_areDays 2 (some .boolean) ∈ tb := tb_6 64 (by decide +kernel) (by decide)
theorem k_1265 : Cond.methodLink R_law 76 yX9_law ∈ tb := tb_6 65 (by decide +kernel) (by decide)
theorem k_1266 : Cond.instanceMethod yX9_law ∈ tb := tb_6 66 (by decide +kernel) (by decide)
theorem k_1267 : Cond.selects RX9 yX9_law yX9_law ∈ tb := tb_6 67 (by decide +kernel) (by decide)
theorem k_1268 : Cond.code yX9_law cX9_law 5 (some .int) ∈ tb := tb_6 68 (by decide +kernel) (by decide)
theorem k_1269 : Cond.methodLink RX9 242 yX9_asked ∈ tb := tb_6 69 (by decide +kernel) (by decide)
theorem k_1271 : Cond.instanceMethod yX9_asked ∈ tb := tb_6 71 (by decide +kernel) (by decide)
theorem k_1272 : Cond.code yX9_asked cX9_asked 4 (some .int) ∈ tb := tb_6 72 (by decide +kernel) (by decide)
theorem k_1273 : Cond.methodLink RX9 245 yX9_sumUp ∈ tb := tb_6 73 (by decide +kernel) (by decide)
theorem k_1275 : Cond.instanceMethod yX9_sumUp ∈ tb := tb_6 75 (by decide +kernel) (by decide)
theorem k_1276 : Cond.code yX9_sumUp cX9_sumUp 11 none ∈ tb := tb_6 76 (by decide +kernel) (by decide)
theorem k_1277 : Cond.methodLink RX9 227 yX9_warmthOf ∈ tb := tb_6 77 (by decide +kernel) (by decide)
theorem k_1279 : Cond.instanceMethod yX9_warmthOf ∈ tb := tb_6 79 (by decide +kernel) (by decide)
theorem k_1280 : Cond.code yX9_warmthOf cX9_warmthOf 3 (some .int) ∈ tb := tb_6 80 (by decide +kernel) (by decide)
theorem k_1281 : Cond.constantLong RX9 230 (-2000000000) ∈ tb := tb_6 81 (by decide +kernel) (by decide)
theorem k_1282 : Cond.constantLong RX9 232 (-1000) ∈ tb := tb_6 82 (by decide +kernel) (by decide)
theorem k_1283 : Cond.methodLink R_law 80 yX9_terms ∈ tb := tb_6 83 (by decide +kernel) (by decide)
theorem k_1284 : Cond.instanceMethod yX9_terms ∈ tb := tb_6 84 (by decide +kernel) (by decide)
theorem k_1285 : Cond.selects RX9 yX9_terms yX9_terms ∈ tb := tb_6 85 (by decide +kernel) (by decide)
theorem k_1286 : Cond.code yX9_terms cX9_terms 5 (some .int) ∈ tb := tb_6 86 (by decide +kernel) (by decide)
theorem k_1287 : Cond.methodLink RX9 249 yX9_termsNow ∈ tb := tb_6 87 (by decide +kernel) (by decide)
theorem k_1289 : Cond.instanceMethod yX9_termsNow ∈ tb := tb_6 89 (by decide +kernel) (by decide)
theorem k_1290 : Cond.code yX9_termsNow cX9_termsNow 1 (some .int) ∈ tb := tb_6 90 (by decide +kernel) (by decide)
theorem k_1291 : Cond.methodLink RX9 234 yX9_three ∈ tb := tb_6 91 (by decide +kernel) (by decide)
theorem k_1293 : Cond.instanceMethod yX9_three ∈ tb := tb_6 93 (by decide +kernel) (by decide)
theorem k_1294 : Cond.code yX9_three cX9_three 1 (some .long) ∈ tb := tb_6 94 (by decide +kernel) (by decide)
theorem k_1295 : Cond.methodLink RX9 238 yX9_two ∈ tb := tb_6 95 (by decide +kernel) (by decide)
theorem k_1297 : Cond.instanceMethod yX9_two ∈ tb := tb_6 97 (by decide +kernel) (by decide)
theorem k_1298 : Cond.code yX9_two cX9_two 5 (some .long) ∈ tb := tb_6 98 (by decide +kernel) (by decide)
theorem k_1299 : Cond.methodLink R_law 85 yX9_foretold ∈ tb := tb_6 99 (by decide +kernel) (by decide)
theorem k_1300 : Cond.instanceMethod yX9_foretold ∈ tb := tb_6 100 (by decide +kernel) (by decide)
theorem k_1301 : Cond.selects RX9 yX9_foretold yX9_foretold ∈ tb := tb_6 101 (by decide +kernel) (by decide)
theorem k_1302 : Cond.code yX9_foretold cX9_foretold 10 (some .int) ∈ tb := tb_6 102 (by decide +kernel) (by decide)
theorem k_1303 : Cond.methodLink RX9 259 yX9_byThree ∈ tb := tb_6 103 (by decide +kernel) (by decide)
theorem k_1305 : Cond.instanceMethod yX9_byThree ∈ tb := tb_6 105 (by decide +kernel) (by decide)
theorem k_1306 : Cond.code yX9_byThree cX9_byThree 11 none ∈ tb := tb_6 106 (by decide +kernel) (by decide)
theorem k_1307 : Cond.methodLink RX9 263 yX9_byTwo ∈ tb := tb_6 107 (by decide +kernel) (by decide)
theorem k_1309 : Cond.instanceMethod yX9_byTwo ∈ tb := tb_6 109 (by decide +kernel) (by decide)
theorem k_1310 : Cond.code yX9_byTwo cX9_byTwo 9 none ∈ tb := tb_6 110 (by decide +kernel) (by decide)
theorem k_1311 : Cond.methodLink RX9 267 yX9_floor ∈ tb := tb_6 111 (by decide +kernel) (by decide)
theorem k_1312 : Cond.static yX9_floor ∈ tb := tb_6 112 (by decide +kernel) (by decide)
theorem k_1313 : Cond.code yX9_floor cX9_floor 4 (some .long) ∈ tb := tb_6 113 (by decide +kernel) (by decide)
theorem k_1314 : Cond.constantLong RX9 270 3000000 ∈ tb := tb_6 114 (by decide +kernel) (by decide)
theorem k_1315 : Cond.constantLong RX9 272 (-3000000) ∈ tb := tb_6 115 (by decide +kernel) (by decide)
theorem k_1316 : Cond.constantLong RX9 274 1000 ∈ tb := tb_6 116 (by decide +kernel) (by decide)
theorem k_1317 : Cond.constantLong RX9 276 2000000000 ∈ tb := tb_6 117 (by decide +kernel) (by decide)
theorem k_1318 : Cond.methodLink R_law 89 yX9_jump ∈ tb := tb_6 118 (by decide +kernel) (by decide)
theorem k_1319 : Cond.instanceMethod yX9_jump ∈ tb := tb_6 119 (by decide +kernel) (by decide)
theorem k_1320 : Cond.selects RX9 yX9_jump yX9_jump ∈ tb := tb_6 120 (by decide +kernel) (by decide)
theorem k_1321 : Cond.code yX9_jump cX9_jump 10 (some .int) ∈ tb := tb_6 121 (by decide +kernel) (by decide)
theorem k_1322 : Cond.methodLink RX9 281 yX9_findRates ∈ tb := tb_6 122 (by decide +kernel) (by decide)
theorem k_1324 : Cond.instanceMethod yX9_findRates ∈ tb := tb_6 124 (by decide +kernel) (by decide)
theorem k_1325 : Cond.code yX9_findRates cX9_findRates 7 none ∈ tb := tb_6 125 (by decide +kernel) (by decide)
theorem k_1326 : Cond.methodLink R_law 93 yX9_feed ∈ tb := tb_6 126 (by decide +kernel) (by decide)
theorem k_1327 : Cond.instanceMethod yX9_feed ∈ tb := tb_6 127 (by decide +kernel) (by decide)
theorem k_1328 : Cond.selects RX9 yX9_feed yX9_feed ∈ tb := tb_6 128 (by decide +kernel) (by decide)
theorem k_1329 : Cond.code yX9_feed cX9_feed 4 (some .int) ∈ tb := tb_6 129 (by decide +kernel) (by decide)
theorem k_1330 : Cond.methodLink R_law 97 yX9_rule ∈ tb := tb_6 130 (by decide +kernel) (by decide)
theorem k_1331 : Cond.instanceMethod yX9_rule ∈ tb := tb_6 131 (by decide +kernel) (by decide)
theorem k_1332 : Cond.selects RX9 yX9_rule yX9_rule ∈ tb := tb_6 132 (by decide +kernel) (by decide)
theorem k_1333 : Cond.code yX9_rule cX9_rule 4 (some .int) ∈ tb := tb_6 133 (by decide +kernel) (by decide)
theorem k_1334 : Cond.methodLink RX9 371 yX9_readRule ∈ tb := tb_6 134 (by decide +kernel) (by decide)
theorem k_1336 : Cond.instanceMethod yX9_readRule ∈ tb := tb_6 136 (by decide +kernel) (by decide)
theorem k_1337 : Cond.code yX9_readRule cX9_readRule 5 (some .int) ∈ tb := tb_6 137 (by decide +kernel) (by decide)
theorem k_1338 : Cond.methodLink RX9 361 yX9_advance ∈ tb := tb_6 138 (by decide +kernel) (by decide)
theorem k_1340 : Cond.instanceMethod yX9_advance ∈ tb := tb_6 140 (by decide +kernel) (by decide)
theorem k_1341 : Cond.code yX9_advance cX9_advance 6 none ∈ tb := tb_6 141 (by decide +kernel) (by decide)
theorem k_1342 : Cond.methodLink RX9 296 yX9_isLetter ∈ tb := tb_6 142 (by decide +kernel) (by decide)
theorem k_1343 : Cond.static yX9_isLetter ∈ tb := tb_6 143 (by decide +kernel) (by decide)
theorem k_1344 : Cond.code yX9_isLetter cX9_isLetter 1 (some .boolean) ∈ tb := tb_6 144 (by decide +kernel) (by decide)
theorem k_1345 : Cond.constantLong RX9 299 27 ∈ tb := tb_6 145 (by decide +kernel) (by decide)
theorem k_1346 : Cond.constantLong RX9 301 96 ∈ tb := tb_6 146 (by decide +kernel) (by decide)
theorem k_1347 : Cond.methodLink RX9 303 yX9_wordOf ∈ tb := tb_6 147 (by decide +kernel) (by decide)
theorem k_1348 : Cond.static yX9_wordOf ∈ tb := tb_6 148 (by decide +kernel) (by decide)
theorem k_1349 : Cond.code yX9_wordOf cX9_wordOf 3 (some .int) ∈ tb := tb_6 149 (by decide +kernel) (by decide)
theorem k_1350 : Cond.constantLong RX9 316 423 ∈ tb := tb_6 150 (by decide +kernel) (by decide)
theorem k_1351 : Cond.constantLong RX9 318 1111 ∈ tb := tb_6 151 (by decide +kernel) (by decide)
theorem k_1352 : Cond.constantLong RX9 320 10631 ∈ tb := tb_6 152 (by decide +kernel) (by decide)
theorem k_1353 : Cond.constantLong RX9 322 802 ∈ tb := tb_6 153 (by decide +kernel) (by decide)
theorem k_1354 : Cond.constantLong RX9 324 80155 ∈ tb := tb_6 154 (by decide +kernel) (by decide)
theorem k_1355 : Cond.constantLong RX9 326 6476969 ∈ tb := tb_6 155 (by decide +kernel) (by decide)
theorem k_1356 : Cond.constantLong RX9 328 267347 ∈ tb := tb_6 156 (by decide +kernel) (by decide)
theorem k_1357 : Cond.constantLong RX9 330 385682 ∈ tb := tb_6 157 (by decide +kernel) (by decide)
theorem k_1358 : Cond.constantLong RX9 332 138961 ∈ tb := tb_6 158 (by decide +kernel) (by decide)
theorem k_1359 : Cond.constantLong RX9 334 212506 ∈ tb := tb_6 159 (by decide +kernel) (by decide)
theorem k_1360 : Cond.constantLong RX9 336 2486801 ∈ tb := tb_6 160 (by decide +kernel) (by decide)
theorem k_1361 : Cond.constantLong RX9 338 14431 ∈ tb := tb_6 161 (by decide +kernel) (by decide)
theorem k_1362 : Cond.constantLong RX9 340 453937 ∈ tb := tb_6 162 (by decide +kernel) (by decide)
theorem k_1363 : Cond.constantLong RX9 342 11103 ∈ tb := tb_6 163 (by decide +kernel) (by decide)
theorem k_1364 : Cond.constantLong RX9 344 2436392 ∈ tb := tb_6 164 (by decide +kernel) (by decide)
theorem k_1365 : Cond.constantLong RX9 346 12387257 ∈ tb := tb_6 165 (by decide +kernel) (by decide)
theorem k_1366 : Cond.methodLink RX9 307 yX9_isDigit ∈ tb := tb_6 166 (by decide +kernel) (by decide)
theorem k_1367 : Cond.static yX9_isDigit ∈ tb := tb_6 167 (by decide +kernel) (by decide)
theorem k_1368 : Cond.code yX9_isDigit cX9_isDigit 1 (some .boolean) ∈ tb := tb_6 168 (by decide +kernel) (by decide)
theorem k_1369 : Cond.methodLink RX9 313 yX9_signOf ∈ tb := tb_6 169 (by decide +kernel) (by decide)
theorem k_1370 : Cond.static yX9_signOf ∈ tb := tb_6 170 (by decide +kernel) (by decide)
theorem k_1371 : Cond.code yX9_signOf cX9_signOf 1 (some .int) ∈ tb := tb_6 171 (by decide +kernel) (by decide)
theorem k_1372 : Cond.methodLink RX9 365 yX9_opened ∈ tb := tb_6 172 (by decide +kernel) (by decide)
theorem k_1374 : Cond.instanceMethod yX9_opened ∈ tb := tb_6 174 (by decide +kernel) (by decide)
theorem k_1375 : Cond.code yX9_opened cX9_opened 3 (some .int) ∈ tb := tb_6 175 (by decide +kernel) (by decide)
theorem k_1376 : Cond.methodLink RX9 357 yX9_lay ∈ tb := tb_6 176 (by decide +kernel) (by decide)
theorem k_1378 : Cond.instanceMethod yX9_lay ∈ tb := tb_6 178 (by decide +kernel) (by decide)
theorem k_1379 : Cond.code yX9_lay cX9_lay 3 none ∈ tb := tb_6 179 (by decide +kernel) (by decide)
theorem k_1380 : Cond.methodLink RX9 368 yX9_done ∈ tb := tb_6 180 (by decide +kernel) (by decide)
theorem k_1382 : Cond.instanceMethod yX9_done ∈ tb := tb_6 182 (by decide +kernel) (by decide)
theorem k_1383 : Cond.code yX9_done cX9_done 2 none ∈ tb := tb_6 183 (by decide +kernel) (by decide)
theorem k_1384 : Cond.methodLink RX9 354 yX9_tight ∈ tb := tb_6 184 (by decide +kernel) (by decide)
theorem k_1385 : Cond.static yX9_tight ∈ tb := tb_6 185 (by decide +kernel) (by decide)
theorem k_1386 : Cond.code yX9_tight cX9_tight 1 (some .int) ∈ tb := tb_6 186 (by decide +kernel) (by decide)
theorem k_1387 : Cond.methodLink R_law 101 yX9_trial ∈ tb := tb_6 187 (by decide +kernel) (by decide)
theorem k_1388 : Cond.instanceMethod yX9_trial ∈ tb := tb_6 188 (by decide +kernel) (by decide)
theorem k_1389 : Cond.selects RX9 yX9_trial yX9_trial ∈ tb := tb_6 189 (by decide +kernel) (by decide)
theorem k_1390 : Cond.code yX9_trial cX9_trial 4 (some .int) ∈ tb := tb_6 190 (by decide +kernel) (by decide)
theorem k_1391 : Cond.methodLink RX9 380 yX9_trialOf ∈ tb := tb_6 191 (by decide +kernel) (by decide)
theorem k_1393 : Cond.instanceMethod yX9_trialOf ∈ tb := tb_6 193 (by decide +kernel) (by decide)
theorem k_1394 : Cond.code yX9_trialOf cX9_trialOf 11 (some .int) ∈ tb := tb_6 194 (by decide +kernel) (by decide)
theorem k_1395 : Cond.methodLink RX9 377 yX9_says ∈ tb := tb_6 195 (by decide +kernel) (by decide)
theorem k_1397 : Cond.instanceMethod yX9_says ∈ tb := tb_6 197 (by decide +kernel) (by decide)
theorem k_1398 : Cond.code yX9_says cX9_says 5 (some .int) ∈ tb := tb_6 198 (by decide +kernel) (by decide)
theorem k_1399 : Cond.methodLink RX9 374 yX9_both ∈ tb := tb_6 199 (by decide +kernel) (by decide)
theorem k_1400 : Cond.static yX9_both ∈ tb := tb_6 200 (by decide +kernel) (by decide)
theorem k_1401 : Cond.code yX9_both cX9_both 3 (some .int) ∈ tb := tb_6 201 (by decide +kernel) (by decide)
theorem k_1402 : Cond.methodLink R_law 105 yX9_order ∈ tb := tb_6 202 (by decide +kernel) (by decide)
theorem k_1403 : Cond.instanceMethod yX9_order ∈ tb := tb_6 203 (by decide +kernel) (by decide)
theorem k_1404 : Cond.selects RX9 yX9_order yX9_order ∈ tb := tb_6 204 (by decide +kernel) (by decide)
theorem k_1405 : Cond.code yX9_order cX9_order 8 (some .int) ∈ tb := tb_6 205 (by decide +kernel) (by decide)
theorem k_1406 : Cond.methodLink RX9 383 yX9_hasTrial ∈ tb := tb_6 206 (by decide +kernel) (by decide)
theorem k_1408 : Cond.instanceMethod yX9_hasTrial ∈ tb := tb_6 208 (by decide +kernel) (by decide)
theorem k_1409 : Cond.code yX9_hasTrial cX9_hasTrial 4 (some .boolean) ∈ tb := tb_6 209 (by decide +kernel) (by decide)
theorem k_1410 : Cond.methodLink R_law 109 yX9_sail ∈ tb := tb_6 210 (by decide +kernel) (by decide)
theorem k_1411 : Cond.instanceMethod yX9_sail ∈ tb := tb_6 211 (by decide +kernel) (by decide)
theorem k_1412 : Cond.selects RX9 yX9_sail yX9_sail ∈ tb := tb_6 212 (by decide +kernel) (by decide)
theorem k_1413 : Cond.code yX9_sail cX9_sail 10 (some .int) ∈ tb := tb_6 213 (by decide +kernel) (by decide)
theorem k_1414 : Cond.methodLink RX9 386 yX9_isShip ∈ tb := tb_6 214 (by decide +kernel) (by decide)
theorem k_1415 : Cond.static yX9_isShip ∈ tb := tb_6 215 (by decide +kernel) (by decide)
theorem k_1416 : Cond.code yX9_isShip cX9_isShip 1 (some .boolean) ∈ tb := tb_6 216 (by decide +kernel) (by decide)
theorem k_1417 : Cond.methodLink RX9 389 yX9_maySail ∈ tb := tb_6 217 (by decide +kernel) (by decide)
theorem k_1419 : Cond.instanceMethod yX9_maySail ∈ tb := tb_6 219 (by decide +kernel) (by decide)
theorem k_1420 : Cond.code yX9_maySail cX9_maySail 2 (some .boolean) ∈ tb := tb_6 220 (by decide +kernel) (by decide)
theorem k_1421 : Cond.methodLink RX9 392 yX9_goesTo ∈ tb := tb_6 221 (by decide +kernel) (by decide)
theorem k_1423 : Cond.instanceMethod yX9_goesTo ∈ tb := tb_6 223 (by decide +kernel) (by decide)
theorem k_1424 : Cond.code yX9_goesTo cX9_goesTo 3 none ∈ tb := tb_6 224 (by decide +kernel) (by decide)
theorem k_1425 : Cond.methodLink R_law 113 yX9_carried ∈ tb := tb_6 225 (by decide +kernel) (by decide)
theorem k_1426 : Cond.instanceMethod yX9_carried ∈ tb := tb_6 226 (by decide +kernel) (by decide)
theorem k_1427 : Cond.selects RX9 yX9_carried yX9_carried ∈ tb := tb_6 227 (by decide +kernel) (by decide)
theorem k_1428 : Cond.code yX9_carried cX9_carried 5 (some .int) ∈ tb := tb_6 228 (by decide +kernel) (by decide)
theorem k_1429 : Cond.methodLink R_law 117 yX9_sight ∈ tb := tb_6 229 (by decide +kernel) (by decide)
theorem k_1430 : Cond.instanceMethod yX9_sight ∈ tb := tb_6 230 (by decide +kernel) (by decide)
theorem k_1431 : Cond.selects RX9 yX9_sight yX9_sight ∈ tb := tb_6 231 (by decide +kernel) (by decide)
theorem k_1432 : Cond.code yX9_sight cX9_sight 7 (some .int) ∈ tb := tb_6 232 (by decide +kernel) (by decide)
theorem k_1433 : Cond.methodLink RX9 397 yX9_isShown ∈ tb := tb_6 233 (by decide +kernel) (by decide)
theorem k_1434 : Cond.static yX9_isShown ∈ tb := tb_6 234 (by decide +kernel) (by decide)
theorem k_1435 : Cond.code yX9_isShown cX9_isShown 1 (some .boolean) ∈ tb := tb_6 235 (by decide +kernel) (by decide)
theorem k_1436 : Cond.constant RX9 395 (-2000000) ∈ tb := tb_6 236 (by decide +kernel) (by decide)
theorem k_1437 : Cond.constant RX9 396 2000000 ∈ tb := tb_6 237 (by decide +kernel) (by decide)
theorem k_1438 : Cond.methodLink R_law 121 yX9_told ∈ tb := tb_6 238 (by decide +kernel) (by decide)
theorem k_1439 : Cond.instanceMethod yX9_told ∈ tb := tb_6 239 (by decide +kernel) (by decide)
theorem k_1440 : Cond.selects RX9 yX9_told yX9_told ∈ tb := tb_7 0 (by decide +kernel) (by decide)
theorem k_1441 : Cond.code yX9_told cX9_told 8 (some .int) ∈ tb := tb_7 1 (by decide +kernel) (by decide)
theorem k_1442 : Cond.methodLink RX9 402 yX9_work ∈ tb := tb_7 2 (by decide +kernel) (by decide)
theorem k_1444 : Cond.instanceMethod yX9_work ∈ tb := tb_7 4 (by decide +kernel) (by decide)
theorem k_1445 : Cond.code yX9_work cX9_work 11 (some .int) ∈ tb := tb_7 5 (by decide +kernel) (by decide)
theorem k_1446 : Cond.constantLong RX9 400 2 ∈ tb := tb_7 6 (by decide +kernel) (by decide)
theorem k_1447 : Cond.constant RX9 405 2000000000 ∈ tb := tb_7 7 (by decide +kernel) (by decide)
theorem k_1448 : Cond.methodLink R_law 125 yX9_back ∈ tb := tb_7 8 (by decide +kernel) (by decide)
theorem k_1449 : Cond.instanceMethod yX9_back ∈ tb := tb_7 9 (by decide +kernel) (by decide)
theorem k_1450 : Cond.selects RX9 yX9_back yX9_back ∈ tb := tb_7 10 (by decide +kernel) (by decide)
theorem k_1451 : Cond.code yX9_back cX9_back 8 (some .int) ∈ tb := tb_7 11 (by decide +kernel) (by decide)
theorem k_1452 : Cond.methodLink R_law 129 yX9_state ∈ tb := tb_7 12 (by decide +kernel) (by decide)
theorem k_1453 : Cond.instanceMethod yX9_state ∈ tb := tb_7 13 (by decide +kernel) (by decide)
theorem k_1454 : Cond.selects RX9 yX9_state yX9_state ∈ tb := tb_7 14 (by decide +kernel) (by decide)
theorem k_1455 : Cond.code yX9_state cX9_state 2 (some .int) ∈ tb := tb_7 15 (by decide +kernel) (by decide)
theorem k_1456 : Cond.methodLink R_law 133 yX9_doubt ∈ tb := tb_7 16 (by decide +kernel) (by decide)
theorem k_1457 : Cond.instanceMethod yX9_doubt ∈ tb := tb_7 17 (by decide +kernel) (by decide)
theorem k_1458 : Cond.selects RX9 yX9_doubt yX9_doubt ∈ tb := tb_7 18 (by decide +kernel) (by decide)
theorem k_1459 : Cond.code yX9_doubt cX9_doubt 2 (some .int) ∈ tb := tb_7 19 (by decide +kernel) (by decide)
theorem k_1460 : Cond.methodLink R_law 137 yX9_deal ∈ tb := tb_7 20 (by decide +kernel) (by decide)
theorem k_1461 : Cond.instanceMethod yX9_deal ∈ tb := tb_7 21 (by decide +kernel) (by decide)
theorem k_1462 : Cond.selects RX9 yX9_deal yX9_deal ∈ tb := tb_7 22 (by decide +kernel) (by decide)
theorem k_1463 : Cond.code yX9_deal cX9_deal 9 (some .int) ∈ tb := tb_7 23 (by decide +kernel) (by decide)
theorem k_1464 : Cond.methodLink RX9 409 yX9_isWay ∈ tb := tb_7 24 (by decide +kernel) (by decide)
theorem k_1466 : Cond.instanceMethod yX9_isWay ∈ tb := tb_7 26 (by decide +kernel) (by decide)
theorem k_1467 : Cond.code yX9_isWay cX9_isWay 3 (some .boolean) ∈ tb := tb_7 27 (by decide +kernel) (by decide)
theorem k_1468 : Cond.methodLink RX9 412 yX9_secondOf ∈ tb := tb_7 28 (by decide +kernel) (by decide)
theorem k_1470 : Cond.instanceMethod yX9_secondOf ∈ tb := tb_7 30 (by decide +kernel) (by decide)
theorem k_1471 : Cond.code yX9_secondOf cX9_secondOf 5 (some .int) ∈ tb := tb_7 31 (by decide +kernel) (by decide)
theorem k_1472 : Cond.methodLink R_law 141 yX9_dealt ∈ tb := tb_7 32 (by decide +kernel) (by decide)
theorem k_1473 : Cond.instanceMethod yX9_dealt ∈ tb := tb_7 33 (by decide +kernel) (by decide)
theorem k_1474 : Cond.selects RX9 yX9_dealt yX9_dealt ∈ tb := tb_7 34 (by decide +kernel) (by decide)
theorem k_1475 : Cond.code yX9_dealt cX9_dealt 2 (some .int) ∈ tb := tb_7 35 (by decide +kernel) (by decide)
theorem k_1476 : Cond.methodLink R_law 145 yX9_lend ∈ tb := tb_7 36 (by decide +kernel) (by decide)
theorem k_1477 : Cond.instanceMethod yX9_lend ∈ tb := tb_7 37 (by decide +kernel) (by decide)
theorem k_1478 : Cond.selects RX9 yX9_lend yX9_lend ∈ tb := tb_7 38 (by decide +kernel) (by decide)
theorem k_1479 : Cond.code yX9_lend cX9_lend 4 (some .int) ∈ tb := tb_7 39 (by decide +kernel) (by decide)
theorem k_1480 : Cond.methodLink R_law 149 yX9_home ∈ tb := tb_7 40 (by decide +kernel) (by decide)
theorem k_1481 : Cond.instanceMethod yX9_home ∈ tb := tb_7 41 (by decide +kernel) (by decide)
theorem k_1482 : Cond.selects RX9 yX9_home yX9_home ∈ tb := tb_7 42 (by decide +kernel) (by decide)
theorem k_1483 : Cond.code yX9_home cX9_home 3 (some .int) ∈ tb := tb_7 43 (by decide +kernel) (by decide)
theorem k_1484 : Cond.methodLink R_law 153 yX9_holder ∈ tb := tb_7 44 (by decide +kernel) (by decide)
theorem k_1485 : Cond.instanceMethod yX9_holder ∈ tb := tb_7 45 (by decide +kernel) (by decide)
theorem k_1486 : Cond.selects RX9 yX9_holder yX9_holder ∈ tb := tb_7 46 (by decide +kernel) (by decide)
theorem k_1487 : Cond.code yX9_holder cX9_holder 3 (some .int) ∈ tb := tb_7 47 (by decide +kernel) (by decide)
theorem k_1488 : Cond.methodLink R_law 157 yX9_away ∈ tb := tb_7 48 (by decide +kernel) (by decide)
theorem k_1489 : Cond.instanceMethod yX9_away ∈ tb := tb_7 49 (by decide +kernel) (by decide)
theorem k_1490 : Cond.selects RX9 yX9_away yX9_away ∈ tb := tb_7 50 (by decide +kernel) (by decide)
theorem k_1491 : Cond.code yX9_away cX9_away 5 (some .int) ∈ tb := tb_7 51 (by decide +kernel) (by decide)
theorem k_1492 : Cond.methodLink R_law 161 yX9_count ∈ tb := tb_7 52 (by decide +kernel) (by decide)
theorem k_1493 : Cond.instanceMethod yX9_count ∈ tb := tb_7 53 (by decide +kernel) (by decide)
theorem k_1494 : Cond.selects RX9 yX9_count yX9_count ∈ tb := tb_7 54 (by decide +kernel) (by decide)
theorem k_1495 : Cond.code yX9_count cX9_count 4 (some .int) ∈ tb := tb_7 55 (by decide +kernel) (by decide)
theorem k_1496 : Cond.fieldLink "java/lang/String" 9 "java/lang/String" "value" "[B" ∈ tb := tb_7 56 (by decide +kernel) (by decide)
theorem k_1497 : Cond.fieldLink "java/lang/String" 15 "java/lang/String" "coder" "B" ∈ tb := tb_7 57 (by decide +kernel) (by decide)
theorem ks_0 : Cond.selects RX8 yX8_bringWatch yX8_bringWatch ∈ tb := tb_s 0 (by decide +kernel) (by decide)
theorem ks_1 : Cond.selects RX8 yX8_watchAt yX8_watchAt ∈ tb := tb_s 1 (by decide +kernel) (by decide)
theorem ks_2 : Cond.selects RX8 yX8_isPast yX8_isPast ∈ tb := tb_s 2 (by decide +kernel) (by decide)
theorem ks_3 : Cond.selects RX8 yX8_lackAt yX8_lackAt ∈ tb := tb_s 3 (by decide +kernel) (by decide)
theorem ks_4 : Cond.selects RX8 yX8_markOn yX8_markOn ∈ tb := tb_s 4 (by decide +kernel) (by decide)
theorem ks_5 : Cond.selects RX8 yX8_refusalOfStretch yX8_refusalOfStretch ∈ tb := tb_s 5 (by decide +kernel) (by decide)
theorem ks_6 : Cond.selects RX8 yX8_fitLaw yX8_fitLaw ∈ tb := tb_s 6 (by decide +kernel) (by decide)
theorem ks_7 : Cond.selects RX8 yX8_warmthFor yX8_warmthFor ∈ tb := tb_s 7 (by decide +kernel) (by decide)
theorem ks_8 : Cond.selects RX1 yX1_setLaw yX1_setLaw ∈ tb := tb_s 8 (by decide +kernel) (by decide)
theorem ks_9 : Cond.selects RX1 yX1_addProduct yX1_addProduct ∈ tb := tb_s 9 (by decide +kernel) (by decide)
theorem ks_10 : Cond.selects RX3 yX3_middleOne yX3_middleOne ∈ tb := tb_s 10 (by decide +kernel) (by decide)
theorem ks_11 : Cond.selects RX6 yX6_goOn yX6_goOn ∈ tb := tb_s 11 (by decide +kernel) (by decide)
theorem ks_12 : Cond.selects RX6 yX6_takeLetters yX6_takeLetters ∈ tb := tb_s 12 (by decide +kernel) (by decide)
theorem ks_13 : Cond.selects RX6 yX6_placeAmongWords yX6_placeAmongWords ∈ tb := tb_s 13 (by decide +kernel) (by decide)
theorem ks_14 : Cond.selects RX6 yX6_isOnTape yX6_isOnTape ∈ tb := tb_s 14 (by decide +kernel) (by decide)
theorem ks_15 : Cond.selects RX6 yX6_takeDigits yX6_takeDigits ∈ tb := tb_s 15 (by decide +kernel) (by decide)
theorem ks_16 : Cond.selects RX6 yX6_readEither yX6_readEither ∈ tb := tb_s 16 (by decide +kernel) (by decide)
theorem ks_17 : Cond.selects RX6 yX6_readBoth yX6_readBoth ∈ tb := tb_s 17 (by decide +kernel) (by decide)
theorem ks_18 : Cond.selects RX6 yX6_readNegation yX6_readNegation ∈ tb := tb_s 18 (by decide +kernel) (by decide)
theorem ks_19 : Cond.selects RX6 yX6_readComparison yX6_readComparison ∈ tb := tb_s 19 (by decide +kernel) (by decide)
theorem ks_20 : Cond.selects RX6 yX6_readSum yX6_readSum ∈ tb := tb_s 20 (by decide +kernel) (by decide)
theorem ks_21 : Cond.selects RX6 yX6_readProduct yX6_readProduct ∈ tb := tb_s 21 (by decide +kernel) (by decide)
theorem ks_22 : Cond.selects RX6 yX6_readOperand yX6_readOperand ∈ tb := tb_s 22 (by decide +kernel) (by decide)
theorem ks_23 : Cond.selects RX6 yX6_readInBrackets yX6_readInBrackets ∈ tb := tb_s 23 (by decide +kernel) (by decide)
theorem ks_24 : Cond.selects RX8 yX8_hasTrial yX8_hasTrial ∈ tb := tb_s 24 (by decide +kernel) (by decide)
theorem ks_25 : Cond.selects RX8 yX8_workOutTrial yX8_workOutTrial ∈ tb := tb_s 25 (by decide +kernel) (by decide)
theorem ks_26 : Cond.selects RX8 yX8_warmthSpan yX8_warmthSpan ∈ tb := tb_s 26 (by decide +kernel) (by decide)
theorem ks_27 : Cond.selects RX8 yX8_firstLack yX8_firstLack ∈ tb := tb_s 27 (by decide +kernel) (by decide)
theorem ks_28 : Cond.selects RX8 yX8_isFitToSail yX8_isFitToSail ∈ tb := tb_s 28 (by decide +kernel) (by decide)
theorem ks_29 : Cond.selects RX8 yX8_gatherBeforeSailing yX8_gatherBeforeSailing ∈ tb := tb_s 29 (by decide +kernel) (by decide)
theorem ks_30 : Cond.selects RX8 yX8_board yX8_board ∈ tb := tb_s 30 (by decide +kernel) (by decide)
theorem ks_31 : Cond.selects RX5 yX5_isOf yX5_isOf ∈ tb := tb_s 31 (by decide +kernel) (by decide)
theorem ks_32 : Cond.selects RX8 yX8_droppedOf yX8_droppedOf ∈ tb := tb_s 32 (by decide +kernel) (by decide)
theorem ks_33 : Cond.selects RX8 yX8_unload yX8_unload ∈ tb := tb_s 33 (by decide +kernel) (by decide)
theorem ks_34 : Cond.selects RX0 yX0_tryFrom yX0_tryFrom ∈ tb := tb_s 34 (by decide +kernel) (by decide)
theorem ks_35 : Cond.selects RX0 yX0_keepIfBetter yX0_keepIfBetter ∈ tb := tb_s 35 (by decide +kernel) (by decide)
theorem ks_36 : Cond.selects RX0 yX0_secondLeast yX0_secondLeast ∈ tb := tb_s 36 (by decide +kernel) (by decide)
theorem ks_37 : Cond.selects RX8 yX8_placesWith yX8_placesWith ∈ tb := tb_s 37 (by decide +kernel) (by decide)
theorem ks_38 : Cond.selects RX8 yX8_shipsAtSea yX8_shipsAtSea ∈ tb := tb_s 38 (by decide +kernel) (by decide)
theorem ks_39 : Cond.selects RX9 yX9_isWatch yX9_isWatch ∈ tb := tb_s 39 (by decide +kernel) (by decide)
theorem ks_40 : Cond.selects RX9 yX9_holderNow yX9_holderNow ∈ tb := tb_s 40 (by decide +kernel) (by decide)
theorem ks_41 : Cond.selects RX9 yX9_watchAt yX9_watchAt ∈ tb := tb_s 41 (by decide +kernel) (by decide)
theorem ks_42 : Cond.selects RX9 yX9_errorOf yX9_errorOf ∈ tb := tb_s 42 (by decide +kernel) (by decide)
theorem ks_43 : Cond.selects RX9 yX9_rateOf yX9_rateOf ∈ tb := tb_s 43 (by decide +kernel) (by decide)
theorem ks_44 : Cond.selects RX9 yX9_ageOf yX9_ageOf ∈ tb := tb_s 44 (by decide +kernel) (by decide)
theorem ks_45 : Cond.selects RX9 yX9_asked yX9_asked ∈ tb := tb_s 45 (by decide +kernel) (by decide)
theorem ks_46 : Cond.selects RX9 yX9_sumUp yX9_sumUp ∈ tb := tb_s 46 (by decide +kernel) (by decide)
theorem ks_47 : Cond.selects RX9 yX9_warmthOf yX9_warmthOf ∈ tb := tb_s 47 (by decide +kernel) (by decide)
theorem ks_48 : Cond.selects RX9 yX9_termsNow yX9_termsNow ∈ tb := tb_s 48 (by decide +kernel) (by decide)
theorem ks_49 : Cond.selects RX9 yX9_three yX9_three ∈ tb := tb_s 49 (by decide +kernel) (by decide)
theorem ks_50 : Cond.selects RX9 yX9_two yX9_two ∈ tb := tb_s 50 (by decide +kernel) (by decide)
theorem ks_51 : Cond.selects RX9 yX9_byThree yX9_byThree ∈ tb := tb_s 51 (by decide +kernel) (by decide)
theorem ks_52 : Cond.selects RX9 yX9_byTwo yX9_byTwo ∈ tb := tb_s 52 (by decide +kernel) (by decide)
theorem ks_53 : Cond.selects RX9 yX9_findRates yX9_findRates ∈ tb := tb_s 53 (by decide +kernel) (by decide)
theorem ks_54 : Cond.selects RX9 yX9_readRule yX9_readRule ∈ tb := tb_s 54 (by decide +kernel) (by decide)
theorem ks_55 : Cond.selects RX9 yX9_advance yX9_advance ∈ tb := tb_s 55 (by decide +kernel) (by decide)
theorem ks_56 : Cond.selects RX9 yX9_opened yX9_opened ∈ tb := tb_s 56 (by decide +kernel) (by decide)
theorem ks_57 : Cond.selects RX9 yX9_lay yX9_lay ∈ tb := tb_s 57 (by decide +kernel) (by decide)
theorem ks_58 : Cond.selects RX9 yX9_done yX9_done ∈ tb := tb_s 58 (by decide +kernel) (by decide)
theorem ks_59 : Cond.selects RX9 yX9_trialOf yX9_trialOf ∈ tb := tb_s 59 (by decide +kernel) (by decide)
theorem ks_60 : Cond.selects RX9 yX9_says yX9_says ∈ tb := tb_s 60 (by decide +kernel) (by decide)
theorem ks_61 : Cond.selects RX9 yX9_hasTrial yX9_hasTrial ∈ tb := tb_s 61 (by decide +kernel) (by decide)
theorem ks_62 : Cond.selects RX9 yX9_maySail yX9_maySail ∈ tb := tb_s 62 (by decide +kernel) (by decide)
theorem ks_63 : Cond.selects RX9 yX9_goesTo yX9_goesTo ∈ tb := tb_s 63 (by decide +kernel) (by decide)
theorem ks_64 : Cond.selects RX9 yX9_work yX9_work ∈ tb := tb_s 64 (by decide +kernel) (by decide)
theorem ks_65 : Cond.selects RX9 yX9_isWay yX9_isWay ∈ tb := tb_s 65 (by decide +kernel) (by decide)
theorem ks_66 : Cond.selects RX9 yX9_secondOf yX9_secondOf ∈ tb := tb_s 66 (by decide +kernel) (by decide)
theorem ok_X0_add : yOk yX0_add 1 := ⟨by decide +kernel, by decide +kernel, by decide +kernel⟩
theorem ok_X0_init : yOk yX0_init 0 := ⟨by decide +kernel, by decide +kernel, by decide +kernel⟩
theorem ok_X0_keepIfBetter : yOk yX0_keepIfBetter 0 := ⟨by decide +kernel, by decide +kernel, by decide +kernel⟩
theorem ok_X0_secondLeast : yOk yX0_secondLeast 1 := ⟨by decide +kernel, by decide +kernel, by decide +kernel⟩
theorem ok_X0_shareOut : yOk yX0_shareOut 4 := ⟨by decide +kernel, by decide +kernel, by decide +kernel⟩
theorem ok_X0_tryFrom : yOk yX0_tryFrom 2 := ⟨by decide +kernel, by decide +kernel, by decide +kernel⟩
theorem ok_X1_add : yOk yX1_add 3 := ⟨by decide +kernel, by decide +kernel, by decide +kernel⟩
theorem ok_X1_addProduct : yOk yX1_addProduct 2 := ⟨by decide +kernel, by decide +kernel, by decide +kernel⟩
theorem ok_X1_clear : yOk yX1_clear 0 := ⟨by decide +kernel, by decide +kernel, by decide +kernel⟩
theorem ok_X1_form : yOk yX1_form 0 := ⟨by decide +kernel, by decide +kernel, by decide +kernel⟩
theorem ok_X1_init : yOk yX1_init 0 := ⟨by decide +kernel, by decide +kernel, by decide +kernel⟩
theorem ok_X1_setLaw : yOk yX1_setLaw 4 := ⟨by decide +kernel, by decide +kernel, by decide +kernel⟩
theorem ok_X1_size : yOk yX1_size 0 := ⟨by decide +kernel, by decide +kernel, by decide +kernel⟩
theorem ok_X1_solve : yOk yX1_solve 0 := ⟨by decide +kernel, by decide +kernel, by decide +kernel⟩
theorem ok_X1_thousandfold : yOk yX1_thousandfold 2 := ⟨by decide +kernel, by decide +kernel, by decide +kernel⟩
theorem ok_X2_add : yOk yX2_add 5 := ⟨by decide +kernel, by decide +kernel, by decide +kernel⟩
theorem ok_X2_init : yOk yX2_init 0 := ⟨by decide +kernel, by decide +kernel, by decide +kernel⟩
theorem ok_X2_sumFor : yOk yX2_sumFor 3 := ⟨by decide +kernel, by decide +kernel, by decide +kernel⟩
theorem ok_X3_dayFarthestOff : yOk yX3_dayFarthestOff 1 := ⟨by decide +kernel, by decide +kernel, by decide +kernel⟩
theorem ok_X3_drift : yOk yX3_drift 0 := ⟨by decide +kernel, by decide +kernel, by decide +kernel⟩
theorem ok_X3_gather : yOk yX3_gather 4 := ⟨by decide +kernel, by decide +kernel, by decide +kernel⟩
theorem ok_X3_greatestStep : yOk yX3_greatestStep 0 := ⟨by decide +kernel, by decide +kernel, by decide +kernel⟩
theorem ok_X3_init : yOk yX3_init 0 := ⟨by decide +kernel, by decide +kernel, by decide +kernel⟩
theorem ok_X3_least : yOk yX3_least 0 := ⟨by decide +kernel, by decide +kernel, by decide +kernel⟩
theorem ok_X3_middleOne : yOk yX3_middleOne 0 := ⟨by decide +kernel, by decide +kernel, by decide +kernel⟩
theorem ok_X3_most : yOk yX3_most 0 := ⟨by decide +kernel, by decide +kernel, by decide +kernel⟩
theorem ok_X3_sum : yOk yX3_sum 0 := ⟨by decide +kernel, by decide +kernel, by decide +kernel⟩
theorem ok_X4_add : yOk yX4_add 2 := ⟨by decide +kernel, by decide +kernel, by decide +kernel⟩
theorem ok_X4_init : yOk yX4_init 0 := ⟨by decide +kernel, by decide +kernel, by decide +kernel⟩
theorem ok_X4_isAhead : yOk yX4_isAhead 1 := ⟨by decide +kernel, by decide +kernel, by decide +kernel⟩
theorem ok_X4_workOut : yOk yX4_workOut 1 := ⟨by decide +kernel, by decide +kernel, by decide +kernel⟩
theorem ok_X4_workOutOne : yOk yX4_workOutOne 2 := ⟨by decide +kernel, by decide +kernel, by decide +kernel⟩
theorem ok_X4_workOutTwo : yOk yX4_workOutTwo 3 := ⟨by decide +kernel, by decide +kernel, by decide +kernel⟩
theorem ok_X5_addSight : yOk yX5_addSight 4 := ⟨by decide +kernel, by decide +kernel, by decide +kernel⟩
theorem ok_X5_beginOf : yOk yX5_beginOf 2 := ⟨by decide +kernel, by decide +kernel, by decide +kernel⟩
theorem ok_X5_carry : yOk yX5_carry 5 := ⟨by decide +kernel, by decide +kernel, by decide +kernel⟩
theorem ok_X5_comeBack : yOk yX5_comeBack 1 := ⟨by decide +kernel, by decide +kernel, by decide +kernel⟩
theorem ok_X5_daysSince : yOk yX5_daysSince 1 := ⟨by decide +kernel, by decide +kernel, by decide +kernel⟩
theorem ok_X5_endOf : yOk yX5_endOf 2 := ⟨by decide +kernel, by decide +kernel, by decide +kernel⟩
theorem ok_X5_init : yOk yX5_init 0 := ⟨by decide +kernel, by decide +kernel, by decide +kernel⟩
theorem ok_X5_isOf : yOk yX5_isOf 2 := ⟨by decide +kernel, by decide +kernel, by decide +kernel⟩
theorem ok_X5_leave : yOk yX5_leave 1 := ⟨by decide +kernel, by decide +kernel, by decide +kernel⟩
theorem ok_X5_mayBeSighted : yOk yX5_mayBeSighted 1 := ⟨by decide +kernel, by decide +kernel, by decide +kernel⟩
theorem ok_X5_offFromOthers : yOk yX5_offFromOthers 2 := ⟨by decide +kernel, by decide +kernel, by decide +kernel⟩
theorem ok_X5_timeOf : yOk yX5_timeOf 2 := ⟨by decide +kernel, by decide +kernel, by decide +kernel⟩
theorem ok_X5_widthOf : yOk yX5_widthOf 2 := ⟨by decide +kernel, by decide +kernel, by decide +kernel⟩
theorem ok_X6_add : yOk yX6_add 1 := ⟨by decide +kernel, by decide +kernel, by decide +kernel⟩
theorem ok_X6_exchangeRule : yOk yX6_exchangeRule 1 := ⟨by decide +kernel, by decide +kernel, by decide +kernel⟩
theorem ok_X6_goOn : yOk yX6_goOn 0 := ⟨by decide +kernel, by decide +kernel, by decide +kernel⟩
theorem ok_X6_init : yOk yX6_init 0 := ⟨by decide +kernel, by decide +kernel, by decide +kernel⟩
theorem ok_X6_isDigit : yOk yX6_isDigit 1 := ⟨by decide +kernel, by decide +kernel, by decide +kernel⟩
theorem ok_X6_isLetter : yOk yX6_isLetter 1 := ⟨by decide +kernel, by decide +kernel, by decide +kernel⟩
theorem ok_X6_isOnTape : yOk yX6_isOnTape 2 := ⟨by decide +kernel, by decide +kernel, by decide +kernel⟩
theorem ok_X6_isSign : yOk yX6_isSign 1 := ⟨by decide +kernel, by decide +kernel, by decide +kernel⟩
theorem ok_X6_placeAmongWords : yOk yX6_placeAmongWords 0 := ⟨by decide +kernel, by decide +kernel, by decide +kernel⟩
theorem ok_X6_readAsRule : yOk yX6_readAsRule 1 := ⟨by decide +kernel, by decide +kernel, by decide +kernel⟩
theorem ok_X6_readBoth : yOk yX6_readBoth 1 := ⟨by decide +kernel, by decide +kernel, by decide +kernel⟩
theorem ok_X6_readComparison : yOk yX6_readComparison 1 := ⟨by decide +kernel, by decide +kernel, by decide +kernel⟩
theorem ok_X6_readEither : yOk yX6_readEither 1 := ⟨by decide +kernel, by decide +kernel, by decide +kernel⟩
theorem ok_X6_readInBrackets : yOk yX6_readInBrackets 1 := ⟨by decide +kernel, by decide +kernel, by decide +kernel⟩
theorem ok_X6_readNegation : yOk yX6_readNegation 1 := ⟨by decide +kernel, by decide +kernel, by decide +kernel⟩
theorem ok_X6_readOperand : yOk yX6_readOperand 1 := ⟨by decide +kernel, by decide +kernel, by decide +kernel⟩
theorem ok_X6_readProduct : yOk yX6_readProduct 1 := ⟨by decide +kernel, by decide +kernel, by decide +kernel⟩
theorem ok_X6_readSum : yOk yX6_readSum 1 := ⟨by decide +kernel, by decide +kernel, by decide +kernel⟩
theorem ok_X6_takeDigits : yOk yX6_takeDigits 0 := ⟨by decide +kernel, by decide +kernel, by decide +kernel⟩
theorem ok_X6_takeLetters : yOk yX6_takeLetters 0 := ⟨by decide +kernel, by decide +kernel, by decide +kernel⟩
theorem ok_X7_addMark : yOk yX7_addMark 2 := ⟨by decide +kernel, by decide +kernel, by decide +kernel⟩
theorem ok_X7_ageOn : yOk yX7_ageOn 1 := ⟨by decide +kernel, by decide +kernel, by decide +kernel⟩
theorem ok_X7_becomeNew : yOk yX7_becomeNew 0 := ⟨by decide +kernel, by decide +kernel, by decide +kernel⟩
theorem ok_X7_daysAway : yOk yX7_daysAway 1 := ⟨by decide +kernel, by decide +kernel, by decide +kernel⟩
theorem ok_X7_errorAsKnown : yOk yX7_errorAsKnown 3 := ⟨by decide +kernel, by decide +kernel, by decide +kernel⟩
theorem ok_X7_giveTo : yOk yX7_giveTo 2 := ⟨by decide +kernel, by decide +kernel, by decide +kernel⟩
theorem ok_X7_holderOn : yOk yX7_holderOn 1 := ⟨by decide +kernel, by decide +kernel, by decide +kernel⟩
theorem ok_X7_init : yOk yX7_init 0 := ⟨by decide +kernel, by decide +kernel, by decide +kernel⟩
theorem ok_X7_isCompared : yOk yX7_isCompared 1 := ⟨by decide +kernel, by decide +kernel, by decide +kernel⟩
theorem ok_X7_isMarked : yOk yX7_isMarked 2 := ⟨by decide +kernel, by decide +kernel, by decide +kernel⟩
theorem ok_X7_rateAsKnown : yOk yX7_rateAsKnown 3 := ⟨by decide +kernel, by decide +kernel, by decide +kernel⟩
theorem ok_X7_rateBetween : yOk yX7_rateBetween 3 := ⟨by decide +kernel, by decide +kernel, by decide +kernel⟩
theorem ok_X7_tell : yOk yX7_tell 3 := ⟨by decide +kernel, by decide +kernel, by decide +kernel⟩
theorem ok_X8_age : yOk yX8_age 2 := ⟨by decide +kernel, by decide +kernel, by decide +kernel⟩
theorem ok_X8_away : yOk yX8_away 1 := ⟨by decide +kernel, by decide +kernel, by decide +kernel⟩
theorem ok_X8_back : yOk yX8_back 4 := ⟨by decide +kernel, by decide +kernel, by decide +kernel⟩
theorem ok_X8_board : yOk yX8_board 3 := ⟨by decide +kernel, by decide +kernel, by decide +kernel⟩
theorem ok_X8_bringWatch : yOk yX8_bringWatch 1 := ⟨by decide +kernel, by decide +kernel, by decide +kernel⟩
theorem ok_X8_carried : yOk yX8_carried 3 := ⟨by decide +kernel, by decide +kernel, by decide +kernel⟩
theorem ok_X8_changed : yOk yX8_changed 4 := ⟨by decide +kernel, by decide +kernel, by decide +kernel⟩
theorem ok_X8_compare : yOk yX8_compare 4 := ⟨by decide +kernel, by decide +kernel, by decide +kernel⟩
theorem ok_X8_count : yOk yX8_count 1 := ⟨by decide +kernel, by decide +kernel, by decide +kernel⟩
theorem ok_X8_days : yOk yX8_days 1 := ⟨by decide +kernel, by decide +kernel, by decide +kernel⟩
theorem ok_X8_deal : yOk yX8_deal 3 := ⟨by decide +kernel, by decide +kernel, by decide +kernel⟩
theorem ok_X8_dealt : yOk yX8_dealt 1 := ⟨by decide +kernel, by decide +kernel, by decide +kernel⟩
theorem ok_X8_doubt : yOk yX8_doubt 1 := ⟨by decide +kernel, by decide +kernel, by decide +kernel⟩
theorem ok_X8_droppedOf : yOk yX8_droppedOf 2 := ⟨by decide +kernel, by decide +kernel, by decide +kernel⟩
theorem ok_X8_error : yOk yX8_error 3 := ⟨by decide +kernel, by decide +kernel, by decide +kernel⟩
theorem ok_X8_feed : yOk yX8_feed 2 := ⟨by decide +kernel, by decide +kernel, by decide +kernel⟩
theorem ok_X8_firstLack : yOk yX8_firstLack 3 := ⟨by decide +kernel, by decide +kernel, by decide +kernel⟩
theorem ok_X8_fitLaw : yOk yX8_fitLaw 3 := ⟨by decide +kernel, by decide +kernel, by decide +kernel⟩
theorem ok_X8_fitsKind : yOk yX8_fitsKind 2 := ⟨by decide +kernel, by decide +kernel, by decide +kernel⟩
theorem ok_X8_foretold : yOk yX8_foretold 5 := ⟨by decide +kernel, by decide +kernel, by decide +kernel⟩
theorem ok_X8_gatherBeforeSailing : yOk yX8_gatherBeforeSailing 1 := ⟨by decide +kernel, by decide +kernel, by decide +kernel⟩
theorem ok_X8_hasTrial : yOk yX8_hasTrial 3 := ⟨by decide +kernel, by decide +kernel, by decide +kernel⟩
theorem ok_X8_holder : yOk yX8_holder 2 := ⟨by decide +kernel, by decide +kernel, by decide +kernel⟩
theorem ok_X8_holds : yOk yX8_holds 1 := ⟨by decide +kernel, by decide +kernel, by decide +kernel⟩
theorem ok_X8_home : yOk yX8_home 1 := ⟨by decide +kernel, by decide +kernel, by decide +kernel⟩
theorem ok_X8_init : yOk yX8_init 0 := ⟨by decide +kernel, by decide +kernel, by decide +kernel⟩
theorem ok_X8_isDay : yOk yX8_isDay 1 := ⟨by decide +kernel, by decide +kernel, by decide +kernel⟩
theorem ok_X8_isFitToSail : yOk yX8_isFitToSail 1 := ⟨by decide +kernel, by decide +kernel, by decide +kernel⟩
theorem ok_X8_isKnowledge : yOk yX8_isKnowledge 1 := ⟨by decide +kernel, by decide +kernel, by decide +kernel⟩
theorem ok_X8_isPast : yOk yX8_isPast 1 := ⟨by decide +kernel, by decide +kernel, by decide +kernel⟩
theorem ok_X8_isPlace : yOk yX8_isPlace 1 := ⟨by decide +kernel, by decide +kernel, by decide +kernel⟩
theorem ok_X8_isShip : yOk yX8_isShip 1 := ⟨by decide +kernel, by decide +kernel, by decide +kernel⟩
theorem ok_X8_isStretch : yOk yX8_isStretch 2 := ⟨by decide +kernel, by decide +kernel, by decide +kernel⟩
theorem ok_X8_isWithin : yOk yX8_isWithin 2 := ⟨by decide +kernel, by decide +kernel, by decide +kernel⟩
theorem ok_X8_jump : yOk yX8_jump 4 := ⟨by decide +kernel, by decide +kernel, by decide +kernel⟩
theorem ok_X8_lackAt : yOk yX8_lackAt 1 := ⟨by decide +kernel, by decide +kernel, by decide +kernel⟩
theorem ok_X8_late : yOk yX8_late 2 := ⟨by decide +kernel, by decide +kernel, by decide +kernel⟩
theorem ok_X8_law : yOk yX8_law 3 := ⟨by decide +kernel, by decide +kernel, by decide +kernel⟩
theorem ok_X8_lend : yOk yX8_lend 2 := ⟨by decide +kernel, by decide +kernel, by decide +kernel⟩
theorem ok_X8_markOn : yOk yX8_markOn 3 := ⟨by decide +kernel, by decide +kernel, by decide +kernel⟩
theorem ok_X8_off : yOk yX8_off 4 := ⟨by decide +kernel, by decide +kernel, by decide +kernel⟩
theorem ok_X8_order : yOk yX8_order 3 := ⟨by decide +kernel, by decide +kernel, by decide +kernel⟩
theorem ok_X8_placesWith : yOk yX8_placesWith 1 := ⟨by decide +kernel, by decide +kernel, by decide +kernel⟩
theorem ok_X8_put : yOk yX8_put 3 := ⟨by decide +kernel, by decide +kernel, by decide +kernel⟩
theorem ok_X8_rate : yOk yX8_rate 3 := ⟨by decide +kernel, by decide +kernel, by decide +kernel⟩
theorem ok_X8_read : yOk yX8_read 1 := ⟨by decide +kernel, by decide +kernel, by decide +kernel⟩
theorem ok_X8_refusalOfStretch : yOk yX8_refusalOfStretch 3 := ⟨by decide +kernel, by decide +kernel, by decide +kernel⟩
theorem ok_X8_repair : yOk yX8_repair 2 := ⟨by decide +kernel, by decide +kernel, by decide +kernel⟩
theorem ok_X8_rule : yOk yX8_rule 1 := ⟨by decide +kernel, by decide +kernel, by decide +kernel⟩
theorem ok_X8_sail : yOk yX8_sail 4 := ⟨by decide +kernel, by decide +kernel, by decide +kernel⟩
theorem ok_X8_shipsAtSea : yOk yX8_shipsAtSea 0 := ⟨by decide +kernel, by decide +kernel, by decide +kernel⟩
theorem ok_X8_sight : yOk yX8_sight 5 := ⟨by decide +kernel, by decide +kernel, by decide +kernel⟩
theorem ok_X8_state : yOk yX8_state 1 := ⟨by decide +kernel, by decide +kernel, by decide +kernel⟩
theorem ok_X8_take : yOk yX8_take 1 := ⟨by decide +kernel, by decide +kernel, by decide +kernel⟩
theorem ok_X8_terms : yOk yX8_terms 3 := ⟨by decide +kernel, by decide +kernel, by decide +kernel⟩
theorem ok_X8_told : yOk yX8_told 3 := ⟨by decide +kernel, by decide +kernel, by decide +kernel⟩
theorem ok_X8_trial : yOk yX8_trial 3 := ⟨by decide +kernel, by decide +kernel, by decide +kernel⟩
theorem ok_X8_unload : yOk yX8_unload 3 := ⟨by decide +kernel, by decide +kernel, by decide +kernel⟩
theorem ok_X8_warmth : yOk yX8_warmth 2 := ⟨by decide +kernel, by decide +kernel, by decide +kernel⟩
theorem ok_X8_warmthFor : yOk yX8_warmthFor 2 := ⟨by decide +kernel, by decide +kernel, by decide +kernel⟩
theorem ok_X8_warmthSpan : yOk yX8_warmthSpan 1 := ⟨by decide +kernel, by decide +kernel, by decide +kernel⟩
theorem ok_X8_watchAt : yOk yX8_watchAt 1 := ⟨by decide +kernel, by decide +kernel, by decide +kernel⟩
theorem ok_X8_workOutTrial : yOk yX8_workOutTrial 2 := ⟨by decide +kernel, by decide +kernel, by decide +kernel⟩
theorem ok_X9_advance : yOk yX9_advance 1 := ⟨by decide +kernel, by decide +kernel, by decide +kernel⟩
theorem ok_X9_age : yOk yX9_age 2 := ⟨by decide +kernel, by decide +kernel, by decide +kernel⟩
theorem ok_X9_ageOf : yOk yX9_ageOf 2 := ⟨by decide +kernel, by decide +kernel, by decide +kernel⟩
theorem ok_X9_areDays : yOk yX9_areDays 2 := ⟨by decide +kernel, by decide +kernel, by decide +kernel⟩
theorem ok_X9_asked : yOk yX9_asked 3 := ⟨by decide +kernel, by decide +kernel, by decide +kernel⟩
theorem ok_X9_away : yOk yX9_away 1 := ⟨by decide +kernel, by decide +kernel, by decide +kernel⟩
theorem ok_X9_back : yOk yX9_back 4 := ⟨by decide +kernel, by decide +kernel, by decide +kernel⟩
theorem ok_X9_both : yOk yX9_both 3 := ⟨by decide +kernel, by decide +kernel, by decide +kernel⟩
theorem ok_X9_byThree : yOk yX9_byThree 2 := ⟨by decide +kernel, by decide +kernel, by decide +kernel⟩
theorem ok_X9_byTwo : yOk yX9_byTwo 4 := ⟨by decide +kernel, by decide +kernel, by decide +kernel⟩
theorem ok_X9_carried : yOk yX9_carried 3 := ⟨by decide +kernel, by decide +kernel, by decide +kernel⟩
theorem ok_X9_changed : yOk yX9_changed 4 := ⟨by decide +kernel, by decide +kernel, by decide +kernel⟩
theorem ok_X9_compare : yOk yX9_compare 4 := ⟨by decide +kernel, by decide +kernel, by decide +kernel⟩
theorem ok_X9_count : yOk yX9_count 1 := ⟨by decide +kernel, by decide +kernel, by decide +kernel⟩
theorem ok_X9_days : yOk yX9_days 1 := ⟨by decide +kernel, by decide +kernel, by decide +kernel⟩
theorem ok_X9_deal : yOk yX9_deal 3 := ⟨by decide +kernel, by decide +kernel, by decide +kernel⟩
theorem ok_X9_dealt : yOk yX9_dealt 1 := ⟨by decide +kernel, by decide +kernel, by decide +kernel⟩
theorem ok_X9_done : yOk yX9_done 1 := ⟨by decide +kernel, by decide +kernel, by decide +kernel⟩
theorem ok_X9_doubt : yOk yX9_doubt 1 := ⟨by decide +kernel, by decide +kernel, by decide +kernel⟩
theorem ok_X9_error : yOk yX9_error 3 := ⟨by decide +kernel, by decide +kernel, by decide +kernel⟩
theorem ok_X9_errorOf : yOk yX9_errorOf 3 := ⟨by decide +kernel, by decide +kernel, by decide +kernel⟩
theorem ok_X9_feed : yOk yX9_feed 2 := ⟨by decide +kernel, by decide +kernel, by decide +kernel⟩
theorem ok_X9_findRates : yOk yX9_findRates 3 := ⟨by decide +kernel, by decide +kernel, by decide +kernel⟩
theorem ok_X9_floor : yOk yX9_floor 2 := ⟨by decide +kernel, by decide +kernel, by decide +kernel⟩
theorem ok_X9_foretold : yOk yX9_foretold 5 := ⟨by decide +kernel, by decide +kernel, by decide +kernel⟩
theorem ok_X9_goesTo : yOk yX9_goesTo 2 := ⟨by decide +kernel, by decide +kernel, by decide +kernel⟩
theorem ok_X9_hasTrial : yOk yX9_hasTrial 3 := ⟨by decide +kernel, by decide +kernel, by decide +kernel⟩
theorem ok_X9_holder : yOk yX9_holder 2 := ⟨by decide +kernel, by decide +kernel, by decide +kernel⟩
theorem ok_X9_holderNow : yOk yX9_holderNow 1 := ⟨by decide +kernel, by decide +kernel, by decide +kernel⟩
theorem ok_X9_holds : yOk yX9_holds 1 := ⟨by decide +kernel, by decide +kernel, by decide +kernel⟩
theorem ok_X9_home : yOk yX9_home 1 := ⟨by decide +kernel, by decide +kernel, by decide +kernel⟩
theorem ok_X9_in : yOk yX9_in 3 := ⟨by decide +kernel, by decide +kernel, by decide +kernel⟩
theorem ok_X9_init : yOk yX9_init 0 := ⟨by decide +kernel, by decide +kernel, by decide +kernel⟩
theorem ok_X9_isDay : yOk yX9_isDay 1 := ⟨by decide +kernel, by decide +kernel, by decide +kernel⟩
theorem ok_X9_isDigit : yOk yX9_isDigit 1 := ⟨by decide +kernel, by decide +kernel, by decide +kernel⟩
theorem ok_X9_isKnown : yOk yX9_isKnown 1 := ⟨by decide +kernel, by decide +kernel, by decide +kernel⟩
theorem ok_X9_isLetter : yOk yX9_isLetter 1 := ⟨by decide +kernel, by decide +kernel, by decide +kernel⟩
theorem ok_X9_isPlace : yOk yX9_isPlace 1 := ⟨by decide +kernel, by decide +kernel, by decide +kernel⟩
theorem ok_X9_isShip : yOk yX9_isShip 1 := ⟨by decide +kernel, by decide +kernel, by decide +kernel⟩
theorem ok_X9_isShown : yOk yX9_isShown 1 := ⟨by decide +kernel, by decide +kernel, by decide +kernel⟩
theorem ok_X9_isWatch : yOk yX9_isWatch 1 := ⟨by decide +kernel, by decide +kernel, by decide +kernel⟩
theorem ok_X9_isWay : yOk yX9_isWay 1 := ⟨by decide +kernel, by decide +kernel, by decide +kernel⟩
theorem ok_X9_jump : yOk yX9_jump 4 := ⟨by decide +kernel, by decide +kernel, by decide +kernel⟩
theorem ok_X9_late : yOk yX9_late 2 := ⟨by decide +kernel, by decide +kernel, by decide +kernel⟩
theorem ok_X9_law : yOk yX9_law 3 := ⟨by decide +kernel, by decide +kernel, by decide +kernel⟩
theorem ok_X9_lay : yOk yX9_lay 2 := ⟨by decide +kernel, by decide +kernel, by decide +kernel⟩
theorem ok_X9_lend : yOk yX9_lend 2 := ⟨by decide +kernel, by decide +kernel, by decide +kernel⟩
theorem ok_X9_maySail : yOk yX9_maySail 1 := ⟨by decide +kernel, by decide +kernel, by decide +kernel⟩
theorem ok_X9_off : yOk yX9_off 4 := ⟨by decide +kernel, by decide +kernel, by decide +kernel⟩
theorem ok_X9_opened : yOk yX9_opened 0 := ⟨by decide +kernel, by decide +kernel, by decide +kernel⟩
theorem ok_X9_order : yOk yX9_order 3 := ⟨by decide +kernel, by decide +kernel, by decide +kernel⟩
theorem ok_X9_put : yOk yX9_put 3 := ⟨by decide +kernel, by decide +kernel, by decide +kernel⟩
theorem ok_X9_rate : yOk yX9_rate 3 := ⟨by decide +kernel, by decide +kernel, by decide +kernel⟩
theorem ok_X9_rateOf : yOk yX9_rateOf 3 := ⟨by decide +kernel, by decide +kernel, by decide +kernel⟩
theorem ok_X9_read : yOk yX9_read 1 := ⟨by decide +kernel, by decide +kernel, by decide +kernel⟩
theorem ok_X9_readRule : yOk yX9_readRule 1 := ⟨by decide +kernel, by decide +kernel, by decide +kernel⟩
theorem ok_X9_repair : yOk yX9_repair 2 := ⟨by decide +kernel, by decide +kernel, by decide +kernel⟩
theorem ok_X9_rule : yOk yX9_rule 1 := ⟨by decide +kernel, by decide +kernel, by decide +kernel⟩
theorem ok_X9_sail : yOk yX9_sail 4 := ⟨by decide +kernel, by decide +kernel, by decide +kernel⟩
theorem ok_X9_says : yOk yX9_says 1 := ⟨by decide +kernel, by decide +kernel, by decide +kernel⟩
theorem ok_X9_secondOf : yOk yX9_secondOf 1 := ⟨by decide +kernel, by decide +kernel, by decide +kernel⟩
theorem ok_X9_sight : yOk yX9_sight 5 := ⟨by decide +kernel, by decide +kernel, by decide +kernel⟩
theorem ok_X9_signOf : yOk yX9_signOf 1 := ⟨by decide +kernel, by decide +kernel, by decide +kernel⟩
theorem ok_X9_size : yOk yX9_size 1 := ⟨by decide +kernel, by decide +kernel, by decide +kernel⟩
theorem ok_X9_state : yOk yX9_state 1 := ⟨by decide +kernel, by decide +kernel, by decide +kernel⟩
theorem ok_X9_sumUp : yOk yX9_sumUp 3 := ⟨by decide +kernel, by decide +kernel, by decide +kernel⟩
theorem ok_X9_take : yOk yX9_take 1 := ⟨by decide +kernel, by decide +kernel, by decide +kernel⟩
theorem ok_X9_terms : yOk yX9_terms 3 := ⟨by decide +kernel, by decide +kernel, by decide +kernel⟩
theorem ok_X9_termsNow : yOk yX9_termsNow 0 := ⟨by decide +kernel, by decide +kernel, by decide +kernel⟩
theorem ok_X9_three : yOk yX9_three 0 := ⟨by decide +kernel, by decide +kernel, by decide +kernel⟩
theorem ok_X9_tight : yOk yX9_tight 1 := ⟨by decide +kernel, by decide +kernel, by decide +kernel⟩
theorem ok_X9_told : yOk yX9_told 3 := ⟨by decide +kernel, by decide +kernel, by decide +kernel⟩
theorem ok_X9_trial : yOk yX9_trial 3 := ⟨by decide +kernel, by decide +kernel, by decide +kernel⟩
theorem ok_X9_trialOf : yOk yX9_trialOf 3 := ⟨by decide +kernel, by decide +kernel, by decide +kernel⟩
theorem ok_X9_two : yOk yX9_two 2 := ⟨by decide +kernel, by decide +kernel, by decide +kernel⟩
theorem ok_X9_warmth : yOk yX9_warmth 2 := ⟨by decide +kernel, by decide +kernel, by decide +kernel⟩
theorem ok_X9_warmthOf : yOk yX9_warmthOf 2 := ⟨by decide +kernel, by decide +kernel, by decide +kernel⟩
theorem ok_X9_watchAt : yOk yX9_watchAt 1 := ⟨by decide +kernel, by decide +kernel, by decide +kernel⟩
theorem ok_X9_wordOf : yOk yX9_wordOf 2 := ⟨by decide +kernel, by decide +kernel, by decide +kernel⟩
theorem ok_X9_work : yOk yX9_work 2 := ⟨by decide +kernel, by decide +kernel, by decide +kernel⟩
def G0 (a : Nat → Nat) (v_listed : Int32) (v_shared : Int32) (v_sailing : Int32) (v_leastWorst : Int32) : List Value := [.ref (a 0), .ref (a 1), .ref (a 2), .ref (a 3), .ref (a 4), .int v_listed, .int v_shared, .int v_sailing, .int v_leastWorst]
def G1 (a : Nat → Nat) (v_n : Int64) (v_sumR : Int64) (v_sumW : Int64) (v_sumA : Int64) (v_sumWW : Int64) (v_sumAA : Int64) (v_sumWA : Int64) (v_sumWR : Int64) (v_sumAR : Int64) (v_divisor : Int64) (v_byWarmth : Int64) (v_byAge : Int64) (v_form : Int32) (v_whole : Int64) (v_rest : Int64) : List Value := [.long v_n, .long v_sumR, .long v_sumW, .long v_sumA, .long v_sumWW, .long v_sumAA, .long v_sumWA, .long v_sumWR, .long v_sumAR, .long v_divisor, .long v_byWarmth, .long v_byAge, .int v_form, .long v_whole, .long v_rest]
def G2 (a : Nat → Nat) (v_size : Int32) : List Value := [.ref (a 0), .ref (a 1), .ref (a 2), .ref (a 3), .ref (a 4), .int v_size]
def G3 (a : Nat → Nat) (v_size : Int32) : List Value := [.ref (a 0), .ref (a 1), .ref (a 2), .int v_size]
def G4 (a : Nat → Nat) (v_size : Int32) : List Value := [.ref (a 0), .ref (a 1), .ref (a 2), .int v_size]
def G5 (a : Nat → Nat) (v_sights : Int32) (v_stage : Int32) (v_sailed : Int32) (v_voyage : Int32) : List Value := [.ref (a 0), .ref (a 1), .ref (a 2), .ref (a 3), .ref (a 4), .ref (a 5), .ref (a 6), .int v_sights, .int v_stage, .int v_sailed, .int v_voyage]
def G6 (a : Nat → Nat) (v_size : Int32) (v_rule : Nat) (v_words : Nat) (v_at : Int32) (v_word : Int32) (v_wordAt : Int32) (v_value : Int32) : List Value := [.ref (a 0), .int v_size, .ref v_rule, .ref v_words, .int v_at, .int v_word, .int v_wordAt, .int v_value]
def G7 (a : Nat → Nat)  : List Value := [.ref (a 0), .ref (a 1), .ref (a 2), .ref (a 3)]
def G8 (a : Nat → Nat) (v_trialRule : Nat) (v_dropRule : Nat) (v_today : Int32) : List Value := [.ref (a 0), .ref (a 1), .ref (a 2), .ref (a 3), .ref (a 4), .ref (a 5), .ref (a 6), .ref (a 7), .ref (a 8), .ref (a 9), .ref (a 10), .ref v_trialRule, .ref v_dropRule, .int v_today]
def G9 (a : Nat → Nat) (v_code : Int32) (v_today : Int32) (v_offs : Int32) (v_many : Int64) (v_sumW : Int64) (v_sumA : Int64) (v_sumR : Int64) (v_sumWW : Int64) (v_sumWA : Int64) (v_sumAA : Int64) (v_sumWR : Int64) (v_sumAR : Int64) (v_upper : Int64) (v_lower : Int64) (v_rates : Int32) (v_taped : Int32) (v_laid : Int32) (v_at : Int32) (v_tk : Int32) (v_tkAt : Int32) (v_tkNumber : Int32) (v_waits : Int32) (v_listed : Int32) (v_dealtMany : Int32) : List Value := [.int v_code, .int v_today, .ref (a 2), .ref (a 3), .ref (a 4), .ref (a 5), .ref (a 6), .ref (a 7), .ref (a 8), .ref (a 9), .ref (a 10), .int v_offs, .ref (a 12), .ref (a 13), .ref (a 14), .ref (a 15), .ref (a 16), .long v_many, .long v_sumW, .long v_sumA, .long v_sumR, .long v_sumWW, .long v_sumWA, .long v_sumAA, .long v_sumWR, .long v_sumAR, .long v_upper, .long v_lower, .int v_rates, .ref (a 29), .ref (a 30), .ref (a 31), .ref (a 32), .int v_taped, .ref (a 34), .ref (a 35), .ref (a 36), .ref (a 37), .int v_laid, .int v_at, .int v_tk, .int v_tkAt, .int v_tkNumber, .ref (a 43), .int v_waits, .ref (a 45), .ref (a 46), .ref (a 47), .ref (a 48), .ref (a 49), .ref (a 50), .ref (a 51), .ref (a 52), .ref (a 53), .ref (a 54), .ref (a 55), .ref (a 56), .ref (a 57), .ref (a 58), .ref (a 59), .ref (a 60), .int v_listed, .ref (a 62), .ref (a 63), .int v_dealtMany, .ref (a 65), .ref (a 66), .ref (a 67)]
/-! ===== what the reference's reading methods give ===== -/
def errS (sg fr to bz od : Nat → Int32) (src day k v0 : Int32) : Nat → Int32
  | 0 => v0
  | i + 1 => if (sg i).toInt = src.toInt ∧ ((fr i).toInt ≤ day.toInt ∧ day.toInt ≤ (to i).toInt) ∧ (k.toInt < 0 ∨ (od i).toInt ≤ k.toInt) then errS sg fr to bz od src day k v0 i - bz i else errS sg fr to bz od src day k v0 i
theorem errS_succ (sg fr to bz od : Nat → Int32) (src day k v0 : Int32) (i : Nat) : errS sg fr to bz od src day k v0 (i + 1) = if (sg i).toInt = src.toInt ∧ ((fr i).toInt ≤ day.toInt ∧ day.toInt ≤ (to i).toInt) ∧ (k.toInt < 0 ∨ (od i).toInt ≤ k.toInt) then errS sg fr to bz od src day k v0 i - bz i else errS sg fr to bz od src day k v0 i := rfl
def errF (hs er sr sg fr to bz od : Nat → Int32) (n pl day k : Int32) : Int32 :=
  if (hs (400 * pl + day).toNatClampNeg).toInt = 0 then -2000000000 else errS sg fr to bz od (sr (400 * pl + day).toNatClampNeg) day k (er (400 * pl + day).toNatClampNeg) n.toNatClampNeg
def szF (v : Int32) : Int32 := if v.toInt < 0 then -v else v
def ratG (rp lt : Nat → Int32) (a b at_ : Int32) : Int32 :=
  if (rp (at_ + 1).toNatClampNeg).toInt ≠ 0 ∨ (lt at_.toNatClampNeg).toInt ≠ 0 ∨ (lt (at_ + 1).toNatClampNeg).toInt ≠ 0 then -2000000000
  else if a.toInt = -2000000000 ∨ b.toInt = -2000000000 ∨ 999 < (szF (b - a)).toInt then -2000000000 else b - a
def ratF (hs er sr rp lt sg fr to bz od : Nat → Int32) (n pl day k : Int32) : Int32 :=
  ratG rp lt (errF hs er sr sg fr to bz od n pl day k) (errF hs er sr sg fr to bz od n pl (day + 1) k) (400 * pl + day)
/-- how many of the days p, p + 1 .. have a rate -/
def cntF (R : Int32 → Int32) (p : Int32) : Nat → Int
  | 0 => 0
  | j + 1 => cntF R p j + (if (R (p + nI j)).toInt = -2000000000 then 0 else 1)
theorem cntF_succ (R : Int32 → Int32) (p : Int32) (j : Nat) : cntF R p (j + 1) = cntF R p j + (if (R (p + nI j)).toInt = -2000000000 then 0 else 1) := rfl
theorem cntF_le (R : Int32 → Int32) (p : Int32) : ∀ j : Nat, 0 ≤ cntF R p j ∧ cntF R p j ≤ j
  | 0 => ⟨Int.le_refl 0, Int.le_refl 0⟩
  | j + 1 => by
    have h := cntF_le R p j
    rw [cntF_succ]
    split <;> omega
theorem clampS {i j : Int32} (h0 : 0 ≤ i.toInt) (h : j.toInt = i.toInt + 1) : j.toNatClampNeg = i.toNatClampNeg + 1 := by
  have h1 := i_clamp0 h0
  have h2 := i_clamp0 (x := j) (by omega)
  omega
theorem clampE {i j : Int32} (h0 : 0 ≤ i.toInt) (h : j.toInt = i.toInt) : j.toNatClampNeg = i.toNatClampNeg := by
  rw [i_eq.mpr h]
theorem clamp_0 : (0 : Int32).toNatClampNeg = 0 := by decide
theorem day_at {p d : Int32} (h : p.toInt ≤ d.toInt) (h0 : 0 ≤ p.toInt) : p + nI (d.toInt - p.toInt).toNat = d := by
  have hd := i_hi d
  have e : (nI (d.toInt - p.toInt).toNat).toInt = d.toInt - p.toInt := by
    rw [nI_toInt (by omega)]; omega
  refine i_eq.mpr ?_
  rw [g_add rfl e (by omega) (by omega)]
  omega
theorem cnt_step {R : Int32 → Int32} {p L z : Int32} (h0 : 0 ≤ p.toInt) (h1 : p.toInt ≤ L.toInt) (h2 : z.toInt = L.toInt + 1) : cntF R p (z.toInt - p.toInt).toNat = cntF R p (L.toInt - p.toInt).toNat + (if (R L).toInt = -2000000000 then 0 else 1) := by
  have e : (z.toInt - p.toInt).toNat = (L.toInt - p.toInt).toNat + 1 := by omega
  rw [e, cntF_succ, day_at h1 h0]
def thrF (n w a ww wa aa : Int64) : Int64 := n * (ww * aa - wa * wa) - w * (w * aa - wa * a) + a * (w * wa - ww * a)
def twoF (n w ww : Int64) : Int64 := n * ww - w * w
theorem neg_nz {z x : Int64} (e : z = -x) (h : ¬ x = 0) : ¬ z = 0 := by
  intro h2
  apply h
  rw [e] at h2
  have h3 := congrArg (fun t : Int64 => -t) h2
  simpa using h3
