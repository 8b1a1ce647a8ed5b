theorem f_0_9 : fld 0 9 = some (0, 1) := rfl
theorem f_0_15 : fld 0 15 = some (0, 2) := rfl
theorem f_0_18 : fld 0 18 = some (0, 3) := rfl
theorem f_0_21 : fld 0 21 = some (0, 0) := rfl
theorem f_0_41 : fld 0 41 = some (0, 5) := rfl
theorem f_0_49 : fld 0 49 = some (0, 4) := rfl
theorem f_0_52 : fld 0 52 = some (8, 0) := rfl
theorem f_0_55 : fld 0 55 = some (8, 7) := rfl
theorem f_0_62 : fld 0 62 = some (3, 1) := rfl
theorem f_0_65 : fld 0 65 = some (8, 4) := rfl
theorem f_0_68 : fld 0 68 = some (3, 0) := rfl
theorem f_0_82 : fld 0 82 = some (8, 5) := rfl
theorem f_0_86 : fld 0 86 = some (8, 9) := rfl
theorem f_0_100 : fld 0 100 = some (3, 2) := rfl
theorem f_1_11 : fld 1 11 = some (1, 0) := rfl
theorem f_1_15 : fld 1 15 = some (1, 1) := rfl
theorem f_1_18 : fld 1 18 = some (1, 2) := rfl
theorem f_1_27 : fld 1 27 = some (8, 10) := rfl
theorem f_1_37 : fld 1 37 = some (8, 8) := rfl
theorem f_1_54 : fld 1 54 = some (1, 3) := rfl
theorem f_1_57 : fld 1 57 = some (8, 6) := rfl
theorem f_2_7 : fld 2 7 = some (2, 0) := rfl
theorem f_3_9 : fld 3 9 = some (3, 1) := rfl
theorem f_3_15 : fld 3 15 = some (3, 2) := rfl
theorem f_3_18 : fld 3 18 = some (3, 3) := rfl
theorem f_3_21 : fld 3 21 = some (3, 0) := rfl
theorem f_3_25 : fld 3 25 = some (8, 7) := rfl
theorem f_3_41 : fld 3 41 = some (8, 5) := rfl
theorem f_3_45 : fld 3 45 = some (8, 9) := rfl
theorem f_3_56 : fld 3 56 = some (8, 10) := rfl
theorem f_3_59 : fld 3 59 = some (3, 4) := rfl
theorem f_3_63 : fld 3 63 = some (8, 11) := rfl
theorem f_3_83 : fld 3 83 = some (8, 8) := rfl
theorem f_3_90 : fld 3 90 = some (8, 6) := rfl
theorem f_4_9 : fld 4 9 = some (4, 1) := rfl
theorem f_4_15 : fld 4 15 = some (4, 0) := rfl
theorem f_4_35 : fld 4 35 = some (4, 2) := rfl
theorem f_4_39 : fld 4 39 = some (8, 4) := rfl
theorem f_4_46 : fld 4 46 = some (3, 0) := rfl
theorem f_4_60 : fld 4 60 = some (3, 2) := rfl
theorem f_4_63 : fld 4 63 = some (8, 5) := rfl
theorem f_4_67 : fld 4 67 = some (8, 9) := rfl
theorem f_5_9 : fld 5 9 = some (5, 0) := rfl
theorem f_5_15 : fld 5 15 = some (5, 1) := rfl
theorem f_5_19 : fld 5 19 = some (5, 2) := rfl
theorem f_5_22 : fld 5 22 = some (5, 3) := rfl
theorem f_5_25 : fld 5 25 = some (5, 4) := rfl
theorem f_5_29 : fld 5 29 = some (7, 3) := rfl
theorem f_5_34 : fld 5 34 = some (7, 4) := rfl
theorem f_5_37 : fld 5 37 = some (7, 2) := rfl
theorem f_5_47 : fld 5 47 = some (7, 0) := rfl
theorem f_5_61 : fld 5 61 = some (7, 1) := rfl
theorem f_6_9 : fld 6 9 = some (6, 1) := rfl
theorem f_6_15 : fld 6 15 = some (6, 0) := rfl
theorem f_6_25 : fld 6 25 = some (8, 6) := rfl
theorem f_6_35 : fld 6 35 = some (0, 4) := rfl
theorem f_6_38 : fld 6 38 = some (0, 5) := rfl
theorem f_6_41 : fld 6 41 = some (0, 3) := rfl
theorem f_6_45 : fld 6 45 = some (8, 4) := rfl
theorem f_7_9 : fld 7 9 = some (7, 0) := rfl
theorem f_7_15 : fld 7 15 = some (7, 1) := rfl
theorem f_7_18 : fld 7 18 = some (7, 2) := rfl
theorem f_7_22 : fld 7 22 = some (7, 3) := rfl
theorem f_7_25 : fld 7 25 = some (7, 4) := rfl
theorem f_8_9 : fld 8 9 = some (8, 0) := rfl
theorem f_8_15 : fld 8 15 = some (8, 1) := rfl
theorem f_8_18 : fld 8 18 = some (8, 2) := rfl
theorem f_8_21 : fld 8 21 = some (8, 3) := rfl
theorem f_8_24 : fld 8 24 = some (8, 4) := rfl
theorem f_8_29 : fld 8 29 = some (8, 5) := rfl
theorem f_8_33 : fld 8 33 = some (8, 6) := rfl
theorem f_8_37 : fld 8 37 = some (8, 7) := rfl
theorem f_8_40 : fld 8 40 = some (8, 8) := rfl
theorem f_8_43 : fld 8 43 = some (8, 9) := rfl
theorem f_8_46 : fld 8 46 = some (8, 10) := rfl
theorem f_8_49 : fld 8 49 = some (8, 11) := rfl
theorem f_9_9 : fld 9 9 = some (9, 0) := rfl
theorem f_9_15 : fld 9 15 = some (9, 2) := rfl
theorem f_9_19 : fld 9 19 = some (9, 3) := rfl
theorem f_9_22 : fld 9 22 = some (9, 4) := rfl
theorem f_9_25 : fld 9 25 = some (9, 5) := rfl
theorem f_9_28 : fld 9 28 = some (9, 6) := rfl
theorem f_9_48 : fld 9 48 = some (8, 6) := rfl
theorem f_9_53 : fld 9 53 = some (8, 4) := rfl
theorem f_9_60 : fld 9 60 = some (7, 4) := rfl
theorem f_9_65 : fld 9 65 = some (9, 1) := rfl
theorem f_9_68 : fld 9 68 = some (7, 3) := rfl
theorem f_9_71 : fld 9 71 = some (7, 1) := rfl
theorem f_10_10 : fld 10 10 = some (10, 0) := rfl
theorem f_10_16 : fld 10 16 = some (10, 1) := rfl
theorem f_10_19 : fld 10 19 = some (10, 2) := rfl
theorem f_10_23 : fld 10 23 = some (10, 3) := rfl
theorem f_10_30 : fld 10 30 = some (10, 4) := rfl
theorem f_10_37 : fld 10 37 = some (10, 5) := rfl
theorem f_10_46 : fld 10 46 = some (10, 6) := rfl
theorem f_10_55 : fld 10 55 = some (10, 7) := rfl
theorem f_10_64 : fld 10 64 = some (10, 8) := rfl
theorem f_10_71 : fld 10 71 = some (10, 9) := rfl
theorem f_10_78 : fld 10 78 = some (10, 10) := rfl
theorem f_10_85 : fld 10 85 = some (10, 11) := rfl
theorem f_10_93 : fld 10 93 = some (8, 6) := rfl
theorem f_10_97 : fld 10 97 = some (8, 0) := rfl
theorem f_10_101 : fld 10 101 = some (8, 7) := rfl
theorem f_10_104 : fld 10 104 = some (8, 1) := rfl
theorem f_10_110 : fld 10 110 = some (8, 2) := rfl
theorem f_10_113 : fld 10 113 = some (8, 3) := rfl
theorem f_10_133 : fld 10 133 = some (8, 5) := rfl
theorem f_10_137 : fld 10 137 = some (7, 2) := rfl
theorem f_10_142 : fld 10 142 = some (7, 0) := rfl
theorem f_10_149 : fld 10 149 = some (7, 4) := rfl
theorem f_10_152 : fld 10 152 = some (8, 4) := rfl
theorem f_10_165 : fld 10 165 = some (3, 1) := rfl
theorem f_10_168 : fld 10 168 = some (3, 2) := rfl
theorem f_10_171 : fld 10 171 = some (3, 3) := rfl
theorem f_10_174 : fld 10 174 = some (3, 4) := rfl
theorem f_10_196 : fld 10 196 = some (0, 4) := rfl
theorem f_10_199 : fld 10 199 = some (0, 3) := rfl
theorem f_10_202 : fld 10 202 = some (0, 5) := rfl
theorem f_10_211 : fld 10 211 = some (1, 3) := rfl
theorem f_10_212 : fld 10 212 = some (1, 2) := rfl
theorem f_10_253 : fld 10 253 = some (8, 8) := rfl
theorem f_10_256 : fld 10 256 = some (8, 9) := rfl
theorem f_10_259 : fld 10 259 = some (8, 10) := rfl
theorem f_10_262 : fld 10 262 = some (8, 11) := rfl
theorem f_11_7 : fld 11 7 = some (11, 0) := rfl
theorem f_11_13 : fld 11 13 = some (11, 1) := rfl
theorem f_11_16 : fld 11 16 = some (11, 2) := rfl
theorem f_11_20 : fld 11 20 = some (11, 6) := rfl
theorem f_11_24 : fld 11 24 = some (11, 8) := rfl
theorem f_11_27 : fld 11 27 = some (11, 10) := rfl
theorem f_11_30 : fld 11 30 = some (11, 12) := rfl
theorem f_11_33 : fld 11 33 = some (11, 14) := rfl
theorem f_11_36 : fld 11 36 = some (11, 15) := rfl
theorem f_11_39 : fld 11 39 = some (11, 16) := rfl
theorem f_11_42 : fld 11 42 = some (11, 17) := rfl
theorem f_11_45 : fld 11 45 = some (11, 19) := rfl
theorem f_11_49 : fld 11 49 = some (11, 20) := rfl
theorem f_11_52 : fld 11 52 = some (11, 21) := rfl
theorem f_11_55 : fld 11 55 = some (11, 22) := rfl
theorem f_11_58 : fld 11 58 = some (11, 23) := rfl
theorem f_11_61 : fld 11 61 = some (11, 24) := rfl
theorem f_11_64 : fld 11 64 = some (11, 25) := rfl
theorem f_11_67 : fld 11 67 = some (11, 26) := rfl
theorem f_11_70 : fld 11 70 = some (11, 27) := rfl
theorem f_11_73 : fld 11 73 = some (11, 28) := rfl
theorem f_11_113 : fld 11 113 = some (11, 3) := rfl
theorem f_11_116 : fld 11 116 = some (11, 4) := rfl
theorem f_11_126 : fld 11 126 = some (11, 9) := rfl
theorem f_11_129 : fld 11 129 = some (11, 7) := rfl
theorem f_11_142 : fld 11 142 = some (11, 5) := rfl
theorem f_11_165 : fld 11 165 = some (11, 11) := rfl
theorem f_11_177 : fld 11 177 = some (11, 13) := rfl
theorem f_11_193 : fld 11 193 = some (11, 18) := rfl
theorem k_0_25 : ml 0 25 = some (0, 25, 0, 1, mX3_fill, [639, 532, 533, 73]) := rfl
theorem k_0_31 : ml 0 31 = some (0, 31, 0, 1, mX8_keptBy, [640, 616, 617, 69]) := rfl
theorem k_0_37 : ml 0 37 = some (0, 37, 0, 3, mX3_haveOf, [641, 621, 622, 73]) := rfl
theorem k_0_45 : ml 0 45 = some (0, 45, 0, 2, mX0_foresee, [642, 644, 21, 74]) := rfl
theorem k_0_58 : ml 0 58 = some (0, 58, 0, 5, mX0_weigh, [649, 651, 22, 74]) := rfl
theorem k_0_72 : ml 0 72 = some (0, 72, 0, 3, mX9_seeAllBut, [646, 536, 537, 72]) := rfl
theorem k_0_78 : ml 0 78 = some (0, 78, 0, 1, mX9_see, [647, 544, 545, 72]) := rfl
theorem k_0_89 : ml 0 89 = some (0, 89, 0, 1, mX9_toldBy, [648, 560, 561, 72]) := rfl
theorem k_0_93 : ml 0 93 = some (0, 93, 0, 2, mX0_enter, [653, 655, 23, 74]) := rfl
theorem k_0_97 : ml 0 97 = some (0, 97, 0, 1, mX3_partPurse, [657, 587, 588, 73]) := rfl
theorem k_1_21 : ml 1 21 = some (1, 21, 0, 0, mX8_coinInAll, [690, 691, 692, 69]) := rfl
theorem k_1_40 : ml 1 40 = some (1, 40, 0, 2, mX1_fillWorths, [695, 697, 25, 76]) := rfl
theorem k_1_47 : ml 1 47 = some (1, 47, 0, 2, mX1_firstBest, [701, 703, 26, 76]) := rfl
theorem k_1_50 : ml 1 50 = some (1, 50, 0, 3, mX1_haveBy, [705, 707, 27, 76]) := rfl
theorem k_1_60 : ml 1 60 = some (1, 60, 0, 3, mX8_worthOf, [699, 625, 626, 69]) := rfl
theorem k_2_13 : ml 2 13 = some (2, 13, 0, 4, mX2_addedTo, [766, 768, 29, 78]) := rfl
theorem k_2_17 : ml 2 17 = some (2, 17, 0, 4, mX2_noneMoreByHands, [773, 775, 30, 78]) := rfl
theorem k_2_21 : ml 2 21 = some (2, 21, 0, 0, mX9_clear, [770, 540, 541, 72]) := rfl
theorem k_2_26 : ml 2 26 = some (2, 26, 0, 1, mX9_see, [771, 544, 545, 72]) := rfl
theorem k_2_30 : ml 2 30 = some (2, 30, 0, 1, mX9_toldBy, [772, 560, 561, 72]) := rfl
theorem k_3_31 : ml 3 31 = some (3, 31, 0, 3, mX9_seeAllBut, [535, 536, 537, 72]) := rfl
theorem k_3_37 : ml 3 37 = some (3, 37, 0, 1, mX8_givenTo, [555, 556, 557, 69]) := rfl
theorem k_3_48 : ml 3 48 = some (3, 48, 0, 1, mX9_toldBy, [559, 560, 561, 72]) := rfl
theorem k_3_52 : ml 3 52 = some (3, 52, 0, 1, mX3_partPurse, [586, 587, 588, 73]) := rfl
theorem k_3_66 : ml 3 66 = some (3, 66, 0, 2, mX3_partByShare, [590, 592, 18, 73]) := rfl
theorem k_3_70 : ml 3 70 = some (3, 70, 0, 1, mX3_partByNumber, [594, 596, 19, 73]) := rfl
theorem k_3_74 : ml 3 74 = some (3, 74, 0, 1, mX3_partByBound, [599, 601, 20, 73]) := rfl
theorem k_3_86 : ml 3 86 = some (3, 86, 0, 3, mX8_worthOf, [624, 625, 626, 69]) := rfl
theorem k_3_93 : ml 3 93 = some (3, 93, 0, 1, mX8_keptBy, [615, 616, 617, 69]) := rfl
theorem k_3_96 : ml 3 96 = some (3, 96, 0, 3, mX3_haveOf, [620, 621, 622, 73]) := rfl
theorem k_4_19 : ml 4 19 = some (4, 19, 0, 1, mX3_fill, [721, 532, 533, 73]) := rfl
theorem k_4_25 : ml 4 25 = some (4, 25, 0, 1, mX8_keptBy, [722, 616, 617, 69]) := rfl
theorem k_4_31 : ml 4 31 = some (4, 31, 0, 3, mX3_haveOf, [723, 621, 622, 73]) := rfl
theorem k_4_42 : ml 4 42 = some (4, 42, 0, 6, mX4_weigh, [724, 726, 28, 77]) := rfl
theorem k_4_50 : ml 4 50 = some (4, 50, 0, 3, mX9_seeAllBut, [728, 536, 537, 72]) := rfl
theorem k_4_56 : ml 4 56 = some (4, 56, 0, 1, mX9_see, [729, 544, 545, 72]) := rfl
theorem k_4_70 : ml 4 70 = some (4, 70, 0, 1, mX9_toldBy, [730, 560, 561, 72]) := rfl
theorem k_4_74 : ml 4 74 = some (4, 74, 0, 1, mX3_partPurse, [731, 587, 588, 73]) := rfl
theorem k_5_40 : ml 5 40 = some (5, 40, 0, 2, mX5_readCharacter, [472, 474, 7, 71]) := rfl
theorem k_5_44 : ml 5 44 = some (5, 44, 0, 2, mX5_release, [500, 502, 13, 71]) := rfl
theorem k_5_50 : ml 5 50 = some (5, 50, 0, 3, mX5_readDigit, [476, 478, 8, 71]) := rfl
theorem k_5_54 : ml 5 54 = some (5, 54, 0, 2, mX5_readUnit, [484, 486, 9, 71]) := rfl
theorem k_5_58 : ml 5 58 = some (5, 58, 0, 2, mX5_readBehindUnit, [492, 494, 11, 71]) := rfl
theorem k_5_64 : ml 5 64 = some (5, 64, 0, 1, mX7_addStep, [480, 481, 482, 70]) := rfl
theorem k_5_68 : ml 5 68 = some (5, 68, 0, 1, mX5_hold, [488, 490, 10, 71]) := rfl
theorem k_5_71 : ml 5 71 = some (5, 71, 0, 1, mX5_closeBracket, [496, 498, 12, 71]) := rfl
theorem k_5_75 : ml 5 75 = some (5, 75, 2, 1, mX5_rankOf, [504, 505, 71]) := rfl
theorem pn_5_75 : sp 5 75 = none := rfl
theorem k_5_79 : ml 5 79 = some (5, 79, 0, 0, mX5_lastRank, [507, 509, 14, 71]) := rfl
theorem k_6_19 : ml 6 19 = some (6, 19, 0, 0, mX8_packedGifts, [670, 671, 672, 69]) := rfl
theorem k_6_29 : ml 6 29 = some (6, 29, 0, 2, mX0_choose, [674, 636, 637, 74]) := rfl
theorem k_6_54 : ml 6 54 = some (6, 54, 0, 1, mX6_wasBefore, [678, 680, 24, 75]) := rfl
theorem k_8_52 : ml 8 52 = some (8, 52, 4, 0, mX7_init, [100, 70]) := rfl
theorem k_8_53 : ml 8 53 = some (8, 53, 0, 1, mX8_takePeople, [785, 750, 751, 69]) := rfl
theorem k_8_63 : ml 8 63 = some (8, 63, 0, 1, mX7_take, [786, 787, 788, 70]) := rfl
theorem k_8_67 : ml 8 67 = some (8, 67, 0, 1, mX8_givenBy, [619, 524, 525, 69]) := rfl
theorem k_9_45 : ml 9 45 = some (9, 45, 0, 0, mX9_clear, [539, 540, 541, 72]) := rfl
theorem k_9_56 : ml 9 56 = some (9, 56, 0, 1, mX9_see, [543, 544, 545, 72]) := rfl
theorem k_9_74 : ml 9 74 = some (9, 74, 0, 1, mX9_push, [563, 565, 15, 72]) := rfl
theorem k_9_78 : ml 9 78 = some (9, 78, 0, 1, mX9_doStep, [567, 569, 16, 72]) := rfl
theorem k_9_83 : ml 9 83 = some (9, 83, 0, 0, mX9_pop, [572, 574, 17, 72]) := rfl
theorem k_9_94 : ml 9 94 = some (9, 94, 2, 3, mX9_joined, [576, 577, 72]) := rfl
theorem pn_9_94 : sp 9 94 = none := rfl
theorem k_10_9 : ml 10 9 = some (10, 9, 3, 0, mX8_init, [92, 93, 69]) := rfl
theorem k_10_29 : ml 10 29 = some (10, 29, 4, 0, mX5_init, [206, 71]) := rfl
theorem k_10_36 : ml 10 36 = some (10, 36, 4, 0, mX9_init, [229, 72]) := rfl
theorem k_10_43 : ml 10 43 = some (10, 43, 3, 1, mX3_init, [257, 258, 73]) := rfl
theorem k_10_52 : ml 10 52 = some (10, 52, 3, 1, mX0_init, [288, 289, 74]) := rfl
theorem k_10_61 : ml 10 61 = some (10, 61, 3, 1, mX6_init, [319, 320, 75]) := rfl
theorem k_10_70 : ml 10 70 = some (10, 70, 4, 0, mX1_init, [333, 76]) := rfl
theorem k_10_77 : ml 10 77 = some (10, 77, 3, 1, mX4_init, [353, 354, 77]) := rfl
theorem k_10_84 : ml 10 84 = some (10, 84, 3, 1, mX2_init, [369, 370, 78]) := rfl
theorem k_10_89 : ml 10 89 = some (10, 89, 2, 2, mX10_isWithin, [418, 419, 68]) := rfl
theorem pn_10_89 : sp 10 89 = none := rfl
theorem k_10_107 : ml 10 107 = some (10, 107, 0, 2, mX10_isPair, [429, 431, 0, 68]) := rfl
theorem k_10_116 : ml 10 116 = some (10, 116, 0, 1, mX10_setKeep, [445, 447, 3, 68]) := rfl
theorem k_10_120 : ml 10 120 = some (10, 120, 0, 1, mX10_setTheRule, [449, 451, 4, 68]) := rfl
theorem k_10_123 : ml 10 123 = some (10, 123, 0, 1, mX10_setPurse, [456, 458, 5, 68]) := rfl
theorem k_10_126 : ml 10 126 = some (10, 126, 0, 1, mX10_setParted, [460, 462, 6, 68]) := rfl
theorem k_10_129 : ml 10 129 = some (10, 129, 2, 1, mX10_isRule, [453, 454, 68]) := rfl
theorem pn_10_129 : sp 10 129 = none := rfl
theorem k_10_145 : ml 10 145 = some (10, 145, 0, 1, mX5_read, [468, 469, 470, 71]) := rfl
theorem k_10_155 : ml 10 155 = some (10, 155, 0, 1, mX8_givenBy, [523, 524, 525, 69]) := rfl
theorem k_10_158 : ml 10 158 = some (10, 158, 0, 1, mX10_isWork, [437, 439, 2, 68]) := rfl
theorem k_10_161 : ml 10 161 = some (10, 161, 0, 1, mX3_fill, [531, 532, 533, 73]) := rfl
theorem k_10_178 : ml 10 178 = some (10, 178, 0, 1, mX10_isGiver, [433, 435, 1, 68]) := rfl
theorem k_10_181 : ml 10 181 = some (10, 181, 0, 1, mX3_allHave, [611, 612, 613, 73]) := rfl
theorem k_10_185 : ml 10 185 = some (10, 185, 0, 1, mX8_keptBy, [629, 616, 617, 69]) := rfl
theorem k_10_188 : ml 10 188 = some (10, 188, 0, 3, mX3_haveOf, [630, 621, 622, 73]) := rfl
theorem k_10_192 : ml 10 192 = some (10, 192, 0, 2, mX0_choose, [635, 636, 637, 74]) := rfl
theorem k_10_205 : ml 10 205 = some (10, 205, 0, 1, mX6_run, [666, 667, 668, 75]) := rfl
theorem k_10_208 : ml 10 208 = some (10, 208, 0, 1, mX1_find, [686, 687, 688, 76]) := rfl
theorem k_10_213 : ml 10 213 = some (10, 213, 0, 3, mX4_weighAll, [717, 718, 719, 77]) := rfl
theorem k_10_217 : ml 10 217 = some (10, 217, 0, 0, mX4_most, [733, 734, 735, 77]) := rfl
theorem k_10_220 : ml 10 220 = some (10, 220, 0, 0, mX4_leastCost, [741, 742, 743, 77]) := rfl
theorem k_10_223 : ml 10 223 = some (10, 223, 0, 1, mX8_takePeople, [749, 750, 751, 69]) := rfl
theorem k_10_226 : ml 10 226 = some (10, 226, 0, 0, mX8_givenInAll, [754, 755, 756, 69]) := rfl
theorem k_10_229 : ml 10 229 = some (10, 229, 0, 5, mX2_hold, [762, 763, 764, 78]) := rfl
theorem k_10_233 : ml 10 233 = some (10, 233, 0, 1, mX8_take, [781, 782, 783, 69]) := rfl
theorem k_10_236 : ml 10 236 = some (10, 236, 0, 0, mX8_coinInAll, [799, 691, 692, 69]) := rfl
theorem k_10_243 : ml 10 243 = some (10, 243, 0, 1, mX10_count, [806, 796, 797, 68]) := rfl
theorem k_10_246 : ml 10 246 = some (10, 246, 0, 1, mX10_digestGivers, [807, 809, 31, 68]) := rfl
theorem k_10_250 : ml 10 250 = some (10, 250, 0, 1, mX10_digestWorks, [811, 813, 32, 68]) := rfl
theorem k_10_265 : ml 10 265 = some (10, 265, 0, 1, mX10_digestRules, [815, 817, 33, 68]) := rfl
theorem k_11_76 : ml 11 76 = some (11, 76, 0, 0, mX11_givers, [921, 923, 34, 79]) := rfl
theorem k_11_80 : ml 11 80 = some (11, 80, 2, 3, mX11_in, [918, 919, 79]) := rfl
theorem pn_11_80 : sp 11 80 = none := rfl
theorem k_11_84 : ml 11 84 = some (11, 84, 0, 0, mX11_works, [930, 932, 35, 79]) := rfl
theorem k_11_91 : ml 11 91 = some (11, 91, 0, 1, mX11_isGiver, [938, 940, 36, 79]) := rfl
theorem k_11_95 : ml 11 95 = some (11, 95, 0, 1, mX11_isWork, [942, 944, 37, 79]) := rfl
theorem k_11_108 : ml 11 108 = some (11, 108, 2, 1, mX11_isRule, [959, 960, 79]) := rfl
theorem pn_11_108 : sp 11 108 = none := rfl
theorem k_11_119 : ml 11 119 = some (11, 119, 0, 0, mX11_textLong, [979, 981, 40, 79]) := rfl
theorem k_11_122 : ml 11 122 = some (11, 122, 0, 1, mX11_charAt, [983, 985, 41, 79]) := rfl
theorem k_11_132 : ml 11 132 = some (11, 132, 2, 1, mX11_rank, [1005, 1006, 79]) := rfl
theorem pn_11_132 : sp 11 132 = none := rfl
theorem k_11_135 : ml 11 135 = some (11, 135, 0, 0, mX11_workOut, [1008, 1010, 45, 79]) := rfl
theorem k_11_147 : ml 11 147 = some (11, 147, 0, 0, mX11_ahead, [975, 977, 39, 79]) := rfl
theorem k_11_150 : ml 11 150 = some (11, 150, 0, 0, mX11_digits, [989, 991, 42, 79]) := rfl
theorem k_11_154 : ml 11 154 = some (11, 154, 0, 1, mX11_stands, [994, 996, 43, 79]) := rfl
theorem k_11_158 : ml 11 158 = some (11, 158, 2, 1, mX11_nameOf, [998, 999, 79]) := rfl
theorem pn_11_158 : sp 11 158 = none := rfl
theorem k_11_161 : ml 11 161 = some (11, 161, 0, 1, mX11_workDown, [1001, 1003, 44, 79]) := rfl
theorem k_11_169 : ml 11 169 = some (11, 169, 0, 0, mX11_reads, [971, 973, 38, 79]) := rfl
theorem k_11_180 : ml 11 180 = some (11, 180, 0, 1, mX11_rootOf, [1036, 1038, 50, 79]) := rfl
theorem k_11_186 : ml 11 186 = some (11, 186, 0, 2, mX11_gift, [1016, 1018, 46, 79]) := rfl
theorem k_11_190 : ml 11 190 = some (11, 190, 0, 1, mX11_putHand, [1028, 1030, 48, 79]) := rfl
theorem k_11_197 : ml 11 197 = some (11, 197, 0, 1, mX11_addedBy, [1032, 1034, 49, 79]) := rfl
theorem k_11_200 : ml 11 200 = some (11, 200, 0, 2, mX11_part, [1043, 1045, 51, 79]) := rfl
theorem k_11_204 : ml 11 204 = some (11, 204, 0, 1, mX11_below, [1047, 1049, 52, 79]) := rfl
theorem k_11_207 : ml 11 207 = some (11, 207, 0, 3, mX11_worthOf, [1067, 1069, 55, 79]) := rfl
theorem k_11_211 : ml 11 211 = some (11, 211, 0, 0, mX11_addUp, [1024, 1026, 47, 79]) := rfl
theorem k_11_214 : ml 11 214 = some (11, 214, 0, 1, mX11_hasNow, [1063, 1065, 54, 79]) := rfl
theorem k_11_217 : ml 11 217 = some (11, 217, 0, 0, mX11_allNow, [1059, 1061, 53, 79]) := rfl
theorem k_11_220 : ml 11 220 = some (11, 220, 0, 4, mX11_setRow, [1079, 1081, 57, 79]) := rfl
theorem k_11_224 : ml 11 224 = some (11, 224, 0, 1, mX11_findBest, [1075, 1077, 56, 79]) := rfl
theorem k_11_227 : ml 11 227 = some (11, 227, 0, 1, mX11_note, [1095, 1097, 59, 79]) := rfl
theorem k_11_230 : ml 11 230 = some (11, 230, 0, 1, mX11_isAgain, [1099, 1101, 60, 79]) := rfl
theorem k_11_233 : ml 11 233 = some (11, 233, 0, 0, mX11_goByTurns, [1091, 1093, 58, 79]) := rfl
theorem k_11_236 : ml 11 236 = some (11, 236, 0, 0, mX11_allCoin, [1111, 1113, 62, 79]) := rfl
theorem k_11_239 : ml 11 239 = some (11, 239, 0, 0, mX11_findGood, [1107, 1109, 61, 79]) := rfl
theorem k_11_242 : ml 11 242 = some (11, 242, 0, 2, mX11_findHands, [1123, 1125, 63, 79]) := rfl
theorem k_11_245 : ml 11 245 = some (11, 245, 0, 0, mX11_coinsGiven, [1135, 1137, 64, 79]) := rfl
theorem k_11_248 : ml 11 248 = some (11, 248, 0, 4, mX11_addedTo, [1147, 1149, 66, 79]) := rfl
theorem k_11_252 : ml 11 252 = some (11, 252, 0, 5, mX11_holds, [1143, 1145, 65, 79]) := rfl
theorem k_11_260 : ml 11 260 = some (11, 260, 0, 1, mX11_count, [1169, 1160, 1161, 79]) := rfl
theorem k_11_263 : ml 11 263 = some (11, 263, 0, 2, mX11_amount, [1170, 1021, 1022, 79]) := rfl
theorem k_12_9 : ml 12 9 = some (12, 9, 3, 0, mX10_init, [84, 85, 68]) := rfl
theorem k_12_12 : ml 12 12 = some (12, 12, 3, 0, mX11_init, [821, 822, 79]) := rfl
theorem k_12_13 : ml 12 13 = some (12, 13, 0, 1, mX10_giver, [414, 415, 416, 68]) := rfl
theorem k_12_17 : ml 12 17 = some (12, 17, 0, 1, mX11_giver, [913, 914, 915, 79]) := rfl
theorem k_12_18 : ml 12 18 = some (12, 18, 0, 1, mX10_work, [421, 422, 423, 68]) := rfl
theorem k_12_21 : ml 12 21 = some (12, 21, 0, 1, mX11_work, [925, 926, 927, 79]) := rfl
theorem k_12_22 : ml 12 22 = some (12, 22, 0, 4, mX10_worth, [425, 426, 427, 68]) := rfl
theorem k_12_26 : ml 12 26 = some (12, 26, 0, 4, mX11_worth, [934, 935, 936, 79]) := rfl
theorem k_12_27 : ml 12 27 = some (12, 27, 0, 2, mX10_set, [441, 442, 443, 68]) := rfl
theorem k_12_31 : ml 12 31 = some (12, 31, 0, 2, mX11_set, [948, 949, 950, 79]) := rfl
theorem k_12_32 : ml 12 32 = some (12, 32, 0, 2, mX10_write, [464, 465, 466, 68]) := rfl
theorem k_12_35 : ml 12 35 = some (12, 35, 0, 2, mX11_write, [955, 956, 957, 79]) := rfl
theorem k_12_36 : ml 12 36 = some (12, 36, 0, 1, mX10_erase, [511, 512, 513, 68]) := rfl
theorem k_12_39 : ml 12 39 = some (12, 39, 0, 1, mX11_erase, [963, 964, 965, 79]) := rfl
theorem k_12_40 : ml 12 40 = some (12, 40, 0, 1, mX10_fault, [515, 516, 517, 68]) := rfl
theorem k_12_43 : ml 12 43 = some (12, 43, 0, 1, mX11_fault, [967, 968, 969, 79]) := rfl
theorem k_12_44 : ml 12 44 = some (12, 44, 0, 3, mX10_give, [519, 520, 521, 68]) := rfl
theorem k_12_48 : ml 12 48 = some (12, 48, 0, 3, mX11_give, [1012, 1013, 1014, 79]) := rfl
theorem k_12_49 : ml 12 49 = some (12, 49, 0, 2, mX10_amount, [527, 528, 529, 68]) := rfl
theorem k_12_52 : ml 12 52 = some (12, 52, 0, 2, mX11_amount, [1020, 1021, 1022, 79]) := rfl
theorem k_12_53 : ml 12 53 = some (12, 53, 0, 0, mX10_isShort, [603, 604, 605, 68]) := rfl
theorem k_12_57 : ml 12 57 = some (12, 57, 0, 0, mX11_isShort, [1051, 1052, 1053, 79]) := rfl
theorem k_12_58 : ml 12 58 = some (12, 58, 0, 1, mX10_has, [607, 608, 609, 68]) := rfl
theorem k_12_61 : ml 12 61 = some (12, 61, 0, 1, mX11_has, [1055, 1056, 1057, 79]) := rfl
theorem k_12_62 : ml 12 62 = some (12, 62, 0, 2, mX10_best, [631, 632, 633, 68]) := rfl
theorem k_12_65 : ml 12 65 = some (12, 65, 0, 2, mX11_best, [1071, 1072, 1073, 79]) := rfl
theorem k_12_66 : ml 12 66 = some (12, 66, 0, 1, mX10_rest, [658, 659, 660, 68]) := rfl
theorem k_12_69 : ml 12 69 = some (12, 69, 0, 1, mX11_rest, [1083, 1084, 1085, 79]) := rfl
theorem k_12_70 : ml 12 70 = some (12, 70, 0, 0, mX10_turns, [662, 663, 664, 68]) := rfl
theorem k_12_73 : ml 12 73 = some (12, 73, 0, 0, mX11_turns, [1087, 1088, 1089, 79]) := rfl
theorem k_12_74 : ml 12 74 = some (12, 74, 0, 1, mX10_good, [682, 683, 684, 68]) := rfl
theorem k_12_77 : ml 12 77 = some (12, 77, 0, 1, mX11_good, [1103, 1104, 1105, 79]) := rfl
theorem k_12_78 : ml 12 78 = some (12, 78, 0, 0, mX10_lost, [709, 710, 711, 68]) := rfl
theorem k_12_81 : ml 12 81 = some (12, 81, 0, 0, mX11_lost, [1115, 1116, 1117, 79]) := rfl
theorem k_12_82 : ml 12 82 = some (12, 82, 0, 2, mX10_gain, [713, 714, 715, 68]) := rfl
theorem k_12_85 : ml 12 85 = some (12, 85, 0, 2, mX11_gain, [1119, 1120, 1121, 79]) := rfl
theorem k_12_86 : ml 12 86 = some (12, 86, 0, 2, mX10_hand, [737, 738, 739, 68]) := rfl
theorem k_12_89 : ml 12 89 = some (12, 89, 0, 2, mX11_hand, [1127, 1128, 1129, 79]) := rfl
theorem k_12_90 : ml 12 90 = some (12, 90, 0, 1, mX10_anyway, [745, 746, 747, 68]) := rfl
theorem k_12_93 : ml 12 93 = some (12, 93, 0, 1, mX11_anyway, [1131, 1132, 1133, 79]) := rfl
theorem k_12_94 : ml 12 94 = some (12, 94, 0, 3, mX10_breach, [758, 759, 760, 68]) := rfl
theorem k_12_97 : ml 12 97 = some (12, 97, 0, 3, mX11_breach, [1139, 1140, 1141, 79]) := rfl
theorem k_12_98 : ml 12 98 = some (12, 98, 0, 1, mX10_image, [777, 778, 779, 68]) := rfl
theorem k_12_101 : ml 12 101 = some (12, 101, 0, 1, mX11_image, [1151, 1152, 1153, 79]) := rfl
theorem k_12_102 : ml 12 102 = some (12, 102, 0, 1, mX10_from, [791, 792, 793, 68]) := rfl
theorem k_12_105 : ml 12 105 = some (12, 105, 0, 1, mX11_from, [1155, 1156, 1157, 79]) := rfl
theorem k_12_106 : ml 12 106 = some (12, 106, 0, 1, mX10_count, [795, 796, 797, 68]) := rfl
theorem k_12_109 : ml 12 109 = some (12, 109, 0, 1, mX11_count, [1159, 1160, 1161, 79]) := rfl
theorem k_12_110 : ml 12 110 = some (12, 110, 0, 0, mX10_digest, [800, 801, 802, 68]) := rfl
theorem k_12_114 : ml 12 114 = some (12, 114, 0, 0, mX11_digest, [1163, 1164, 1165, 79]) := rfl
theorem p_0_3 : sp 0 3 = some (5, 291) := rfl
theorem p_1_5 : sp 1 5 = some (5, 335) := rfl
theorem p_1_31 : sp 1 31 = some (9, 694) := rfl
theorem p_1_44 : sp 1 44 = some (8, 700) := rfl
theorem p_2_1 : sp 2 1 = some (5, 372) := rfl
theorem p_3_3 : sp 3 3 = some (5, 260) := rfl
theorem p_3_77 : sp 3 77 = some (9, 598) := rfl
theorem p_4_3 : sp 4 3 = some (5, 356) := rfl
theorem p_4_77 : sp 4 77 = some (8, 732) := rfl
theorem p_5_3 : sp 5 3 = some (5, 208) := rfl
theorem p_6_3 : sp 6 3 = some (5, 322) := rfl
theorem p_6_48 : sp 6 48 = some (7, 675) := rfl
theorem p_7_3 : sp 7 3 = some (5, 102) := rfl
theorem p_7_28 : sp 7 28 = some (7, 790) := rfl
theorem p_8_3 : sp 8 3 = some (5, 95) := rfl
theorem p_8_57 : sp 8 57 = some (7, 753) := rfl
theorem p_8_71 : sp 8 71 = some (9, 628) := rfl
theorem p_9_3 : sp 9 3 = some (5, 231) := rfl
theorem p_9_32 : sp 9 32 = some (8, 547) := rfl
theorem p_9_38 : sp 9 38 = some (9, 550) := rfl
theorem p_9_87 : sp 9 87 = some (11, 580) := rfl
theorem p_9_90 : sp 9 90 = some (10, 583) := rfl
theorem p_10_1 : sp 10 1 = some (5, 87) := rfl
theorem p_11_1 : sp 11 1 = some (5, 824) := rfl
theorem c_9_81 : lcn 9 81 = some 99 := rfl
theorem c_9_92 : lcn 9 92 = some 1000000000000 := rfl
theorem c_10_239 : lcn 10 239 = some 461 := rfl
theorem c_10_241 : lcn 10 241 = some 31 := rfl
theorem c_11_87 : lcn 11 87 = some 12 := rfl
theorem c_11_89 : lcn 11 89 = some 60 := rfl
theorem c_11_98 : lcn 11 98 = some 200 := rfl
theorem c_11_100 : lcn 11 100 = some 50 := rfl
theorem c_11_102 : lcn 11 102 = some 3 := rfl
theorem c_11_104 : lcn 11 104 = some 99 := rfl
theorem c_11_106 : lcn 11 106 = some 2 := rfl
theorem c_11_111 : lcn 11 111 = some 127 := rfl
theorem c_11_138 : lcn 11 138 = some 48 := rfl
theorem c_11_140 : lcn 11 140 = some 57 := rfl
theorem c_11_145 : lcn 11 145 = some 10 := rfl
theorem c_11_173 : lcn 11 173 = some 1000000 := rfl
theorem c_11_175 : lcn 11 175 = some 4000000 := rfl
theorem c_11_184 : lcn 11 184 = some 1000000000000 := rfl
theorem c_11_256 : lcn 11 256 = some 461 := rfl
theorem c_11_258 : lcn 11 258 = some 31 := rfl
def QI (P : Int → SG → Prop) : Option AV → SG → Prop := fun v σ => ∃ r, v = some (iv r) ∧ P r σ
def QJ (P : Int64 → SG → Prop) : Option AV → SG → Prop := fun v σ => ∃ r, v = some (jv r) ∧ P r σ
def QV (P : SG → Prop) : Option AV → SG → Prop := fun v σ => v = none ∧ P σ
section EVD
variable {X : AX} {c s d : Nat} {mr : MRec} {pc pc' : Nat} {L L' : AL} {S : List AV} {σ : SG} {Q : Option AV → SG → Prop}
theorem e_cv0i {dd k q ci i1 i2 : Nat} {ps : List Nat} {fs : List (Nat ⊕ AV)} {mr' : MRec} {P : Int → SG → Prop} (hd : decode mr.2.1 pc = .ok (.invokevirtual k, 3)) (hp : pc + 3 = pc') (hm : ml mr.2.2.2.2.2.2 k = some (i1, i2, 0, 0, mr', ps)) (ho : shp[q]? = some (.inr (ci, fs))) (hci : ci = mr'.2.2.2.2.2.2) (hr : (S.map cat).sum ≤ 8) (hL : argL [rv q] mr'.2.2.1 = L') (hl2 : L'.length = mr'.2.2.1) (h0 : mr'.2.2.2.2.1 = 0 ∧ mr'.2.2.2.2.2.1 = 0) (hcc : c ≤ mr.2.2.2.2.1 ∧ s ≤ mr.2.2.2.2.2.1) (E : Ev X 0 0 dd mr' 0 L' [] σ (QI P)) (K : ∀ r σ', P r σ' → Ev X c s (dd + 1) mr pc' L (iv r :: S) σ' Q) : Ev X c s (dd + 1) mr pc L (rv q :: S) σ Q := e_cv0 hd hp hm ho hci hr hL hl2 h0 hcc E (fun v σ' h => by obtain ⟨r, rfl, h⟩ := h; exact K r σ' h)
theorem e_cs0i {dd k i1 i2 : Nat} {ps : List Nat} {mr' : MRec} {P : Int → SG → Prop} (hd : decode mr.2.1 pc = .ok (.invokestatic k, 3)) (hp : pc + 3 = pc') (hsp : sp mr.2.2.2.2.2.2 k = none) (hm : ml mr.2.2.2.2.2.2 k = some (i1, i2, 2, 0, mr', ps)) (hr : (S.map cat).sum ≤ 8) (hL : argL [] mr'.2.2.1 = L') (hl2 : L'.length = mr'.2.2.1) (h0 : mr'.2.2.2.2.1 = 0 ∧ mr'.2.2.2.2.2.1 = 0) (hcc : c ≤ mr.2.2.2.2.1 ∧ s ≤ mr.2.2.2.2.2.1) (E : Ev X 0 0 dd mr' 0 L' [] σ (QI P)) (K : ∀ r σ', P r σ' → Ev X c s (dd + 1) mr pc' L (iv r :: S) σ' Q) : Ev X c s (dd + 1) mr pc L (S) σ Q := e_cs0 hd hp hsp hm hr hL hl2 h0 hcc E (fun v σ' h => by obtain ⟨r, rfl, h⟩ := h; exact K r σ' h)
theorem e_cv0j {dd k q ci i1 i2 : Nat} {ps : List Nat} {fs : List (Nat ⊕ AV)} {mr' : MRec} {P : Int64 → SG → Prop} (hd : decode mr.2.1 pc = .ok (.invokevirtual k, 3)) (hp : pc + 3 = pc') (hm : ml mr.2.2.2.2.2.2 k = some (i1, i2, 0, 0, mr', ps)) (ho : shp[q]? = some (.inr (ci, fs))) (hci : ci = mr'.2.2.2.2.2.2) (hr : (S.map cat).sum ≤ 8) (hL : argL [rv q] mr'.2.2.1 = L') (hl2 : L'.length = mr'.2.2.1) (h0 : mr'.2.2.2.2.1 = 0 ∧ mr'.2.2.2.2.2.1 = 0) (hcc : c ≤ mr.2.2.2.2.1 ∧ s ≤ mr.2.2.2.2.2.1) (E : Ev X 0 0 dd mr' 0 L' [] σ (QJ P)) (K : ∀ r σ', P r σ' → Ev X c s (dd + 1) mr pc' L (jv r :: S) σ' Q) : Ev X c s (dd + 1) mr pc L (rv q :: S) σ Q := e_cv0 hd hp hm ho hci hr hL hl2 h0 hcc E (fun v σ' h => by obtain ⟨r, rfl, h⟩ := h; exact K r σ' h)
theorem e_cs0j {dd k i1 i2 : Nat} {ps : List Nat} {mr' : MRec} {P : Int64 → SG → Prop} (hd : decode mr.2.1 pc = .ok (.invokestatic k, 3)) (hp : pc + 3 = pc') (hsp : sp mr.2.2.2.2.2.2 k = none) (hm : ml mr.2.2.2.2.2.2 k = some (i1, i2, 2, 0, mr', ps)) (hr : (S.map cat).sum ≤ 8) (hL : argL [] mr'.2.2.1 = L') (hl2 : L'.length = mr'.2.2.1) (h0 : mr'.2.2.2.2.1 = 0 ∧ mr'.2.2.2.2.2.1 = 0) (hcc : c ≤ mr.2.2.2.2.1 ∧ s ≤ mr.2.2.2.2.2.1) (E : Ev X 0 0 dd mr' 0 L' [] σ (QJ P)) (K : ∀ r σ', P r σ' → Ev X c s (dd + 1) mr pc' L (jv r :: S) σ' Q) : Ev X c s (dd + 1) mr pc L (S) σ Q := e_cs0 hd hp hsp hm hr hL hl2 h0 hcc E (fun v σ' h => by obtain ⟨r, rfl, h⟩ := h; exact K r σ' h)
theorem e_cv0v {dd k q ci i1 i2 : Nat} {ps : List Nat} {fs : List (Nat ⊕ AV)} {mr' : MRec} {P : SG → Prop} (hd : decode mr.2.1 pc = .ok (.invokevirtual k, 3)) (hp : pc + 3 = pc') (hm : ml mr.2.2.2.2.2.2 k = some (i1, i2, 0, 0, mr', ps)) (ho : shp[q]? = some (.inr (ci, fs))) (hci : ci = mr'.2.2.2.2.2.2) (hr : (S.map cat).sum ≤ 8) (hL : argL [rv q] mr'.2.2.1 = L') (hl2 : L'.length = mr'.2.2.1) (h0 : mr'.2.2.2.2.1 = 0 ∧ mr'.2.2.2.2.2.1 = 0) (hcc : c ≤ mr.2.2.2.2.1 ∧ s ≤ mr.2.2.2.2.2.1) (E : Ev X 0 0 dd mr' 0 L' [] σ (QV P)) (K : ∀ σ', P σ' → Ev X c s (dd + 1) mr pc' L S σ' Q) : Ev X c s (dd + 1) mr pc L (rv q :: S) σ Q := e_cv0 hd hp hm ho hci hr hL hl2 h0 hcc E (fun v σ' h => by obtain ⟨rfl, h⟩ := h; exact K σ' h)
theorem e_cs0v {dd k i1 i2 : Nat} {ps : List Nat} {mr' : MRec} {P : SG → Prop} (hd : decode mr.2.1 pc = .ok (.invokestatic k, 3)) (hp : pc + 3 = pc') (hsp : sp mr.2.2.2.2.2.2 k = none) (hm : ml mr.2.2.2.2.2.2 k = some (i1, i2, 2, 0, mr', ps)) (hr : (S.map cat).sum ≤ 8) (hL : argL [] mr'.2.2.1 = L') (hl2 : L'.length = mr'.2.2.1) (h0 : mr'.2.2.2.2.1 = 0 ∧ mr'.2.2.2.2.2.1 = 0) (hcc : c ≤ mr.2.2.2.2.1 ∧ s ≤ mr.2.2.2.2.2.1) (E : Ev X 0 0 dd mr' 0 L' [] σ (QV P)) (K : ∀ σ', P σ' → Ev X c s (dd + 1) mr pc' L S σ' Q) : Ev X c s (dd + 1) mr pc L (S) σ Q := e_cs0 hd hp hsp hm hr hL hl2 h0 hcc E (fun v σ' h => by obtain ⟨rfl, h⟩ := h; exact K σ' h)
theorem e_cv1i {dd k q ci i1 i2 : Nat} {ps : List Nat} {fs : List (Nat ⊕ AV)} {mr' : MRec} {a1 : AV} {P : Int → SG → Prop} (hd : decode mr.2.1 pc = .ok (.invokevirtual k, 3)) (hp : pc + 3 = pc') (hm : ml mr.2.2.2.2.2.2 k = some (i1, i2, 0, 1, mr', ps)) (ho : shp[q]? = some (.inr (ci, fs))) (hci : ci = mr'.2.2.2.2.2.2) (hr : (S.map cat).sum ≤ 8) (hL : argL [rv q, a1] mr'.2.2.1 = L') (hl2 : L'.length = mr'.2.2.1) (h0 : mr'.2.2.2.2.1 = 0 ∧ mr'.2.2.2.2.2.1 = 0) (hcc : c ≤ mr.2.2.2.2.1 ∧ s ≤ mr.2.2.2.2.2.1) (E : Ev X 0 0 dd mr' 0 L' [] σ (QI P)) (K : ∀ r σ', P r σ' → Ev X c s (dd + 1) mr pc' L (iv r :: S) σ' Q) : Ev X c s (dd + 1) mr pc L (a1 :: rv q :: S) σ Q := e_cv1 hd hp hm ho hci hr hL hl2 h0 hcc E (fun v σ' h => by obtain ⟨r, rfl, h⟩ := h; exact K r σ' h)
theorem e_cs1i {dd k i1 i2 : Nat} {ps : List Nat} {mr' : MRec} {a1 : AV} {P : Int → SG → Prop} (hd : decode mr.2.1 pc = .ok (.invokestatic k, 3)) (hp : pc + 3 = pc') (hsp : sp mr.2.2.2.2.2.2 k = none) (hm : ml mr.2.2.2.2.2.2 k = some (i1, i2, 2, 1, mr', ps)) (hr : (S.map cat).sum ≤ 8) (hL : argL [a1] mr'.2.2.1 = L') (hl2 : L'.length = mr'.2.2.1) (h0 : mr'.2.2.2.2.1 = 0 ∧ mr'.2.2.2.2.2.1 = 0) (hcc : c ≤ mr.2.2.2.2.1 ∧ s ≤ mr.2.2.2.2.2.1) (E : Ev X 0 0 dd mr' 0 L' [] σ (QI P)) (K : ∀ r σ', P r σ' → Ev X c s (dd + 1) mr pc' L (iv r :: S) σ' Q) : Ev X c s (dd + 1) mr pc L (a1 :: S) σ Q := e_cs1 hd hp hsp hm hr hL hl2 h0 hcc E (fun v σ' h => by obtain ⟨r, rfl, h⟩ := h; exact K r σ' h)
theorem e_cv1j {dd k q ci i1 i2 : Nat} {ps : List Nat} {fs : List (Nat ⊕ AV)} {mr' : MRec} {a1 : AV} {P : Int64 → SG → Prop} (hd : decode mr.2.1 pc = .ok (.invokevirtual k, 3)) (hp : pc + 3 = pc') (hm : ml mr.2.2.2.2.2.2 k = some (i1, i2, 0, 1, mr', ps)) (ho : shp[q]? = some (.inr (ci, fs))) (hci : ci = mr'.2.2.2.2.2.2) (hr : (S.map cat).sum ≤ 8) (hL : argL [rv q, a1] mr'.2.2.1 = L') (hl2 : L'.length = mr'.2.2.1) (h0 : mr'.2.2.2.2.1 = 0 ∧ mr'.2.2.2.2.2.1 = 0) (hcc : c ≤ mr.2.2.2.2.1 ∧ s ≤ mr.2.2.2.2.2.1) (E : Ev X 0 0 dd mr' 0 L' [] σ (QJ P)) (K : ∀ r σ', P r σ' → Ev X c s (dd + 1) mr pc' L (jv r :: S) σ' Q) : Ev X c s (dd + 1) mr pc L (a1 :: rv q :: S) σ Q := e_cv1 hd hp hm ho hci hr hL hl2 h0 hcc E (fun v σ' h => by obtain ⟨r, rfl, h⟩ := h; exact K r σ' h)
theorem e_cs1j {dd k i1 i2 : Nat} {ps : List Nat} {mr' : MRec} {a1 : AV} {P : Int64 → SG → Prop} (hd : decode mr.2.1 pc = .ok (.invokestatic k, 3)) (hp : pc + 3 = pc') (hsp : sp mr.2.2.2.2.2.2 k = none) (hm : ml mr.2.2.2.2.2.2 k = some (i1, i2, 2, 1, mr', ps)) (hr : (S.map cat).sum ≤ 8) (hL : argL [a1] mr'.2.2.1 = L') (hl2 : L'.length = mr'.2.2.1) (h0 : mr'.2.2.2.2.1 = 0 ∧ mr'.2.2.2.2.2.1 = 0) (hcc : c ≤ mr.2.2.2.2.1 ∧ s ≤ mr.2.2.2.2.2.1) (E : Ev X 0 0 dd mr' 0 L' [] σ (QJ P)) (K : ∀ r σ', P r σ' → Ev X c s (dd + 1) mr pc' L (jv r :: S) σ' Q) : Ev X c s (dd + 1) mr pc L (a1 :: S) σ Q := e_cs1 hd hp hsp hm hr hL hl2 h0 hcc E (fun v σ' h => by obtain ⟨r, rfl, h⟩ := h; exact K r σ' h)
theorem e_cv1v {dd k q ci i1 i2 : Nat} {ps : List Nat} {fs : List (Nat ⊕ AV)} {mr' : MRec} {a1 : AV} {P : SG → Prop} (hd : decode mr.2.1 pc = .ok (.invokevirtual k, 3)) (hp : pc + 3 = pc') (hm : ml mr.2.2.2.2.2.2 k = some (i1, i2, 0, 1, mr', ps)) (ho : shp[q]? = some (.inr (ci, fs))) (hci : ci = mr'.2.2.2.2.2.2) (hr : (S.map cat).sum ≤ 8) (hL : argL [rv q, a1] mr'.2.2.1 = L') (hl2 : L'.length = mr'.2.2.1) (h0 : mr'.2.2.2.2.1 = 0 ∧ mr'.2.2.2.2.2.1 = 0) (hcc : c ≤ mr.2.2.2.2.1 ∧ s ≤ mr.2.2.2.2.2.1) (E : Ev X 0 0 dd mr' 0 L' [] σ (QV P)) (K : ∀ σ', P σ' → Ev X c s (dd + 1) mr pc' L S σ' Q) : Ev X c s (dd + 1) mr pc L (a1 :: rv q :: S) σ Q := e_cv1 hd hp hm ho hci hr hL hl2 h0 hcc E (fun v σ' h => by obtain ⟨rfl, h⟩ := h; exact K σ' h)
theorem e_cs1v {dd k i1 i2 : Nat} {ps : List Nat} {mr' : MRec} {a1 : AV} {P : SG → Prop} (hd : decode mr.2.1 pc = .ok (.invokestatic k, 3)) (hp : pc + 3 = pc') (hsp : sp mr.2.2.2.2.2.2 k = none) (hm : ml mr.2.2.2.2.2.2 k = some (i1, i2, 2, 1, mr', ps)) (hr : (S.map cat).sum ≤ 8) (hL : argL [a1] mr'.2.2.1 = L') (hl2 : L'.length = mr'.2.2.1) (h0 : mr'.2.2.2.2.1 = 0 ∧ mr'.2.2.2.2.2.1 = 0) (hcc : c ≤ mr.2.2.2.2.1 ∧ s ≤ mr.2.2.2.2.2.1) (E : Ev X 0 0 dd mr' 0 L' [] σ (QV P)) (K : ∀ σ', P σ' → Ev X c s (dd + 1) mr pc' L S σ' Q) : Ev X c s (dd + 1) mr pc L (a1 :: S) σ Q := e_cs1 hd hp hsp hm hr hL hl2 h0 hcc E (fun v σ' h => by obtain ⟨rfl, h⟩ := h; exact K σ' h)
theorem e_cv2i {dd k q ci i1 i2 : Nat} {ps : List Nat} {fs : List (Nat ⊕ AV)} {mr' : MRec} {a1 a2 : AV} {P : Int → SG → Prop} (hd : decode mr.2.1 pc = .ok (.invokevirtual k, 3)) (hp : pc + 3 = pc') (hm : ml mr.2.2.2.2.2.2 k = some (i1, i2, 0, 2, mr', ps)) (ho : shp[q]? = some (.inr (ci, fs))) (hci : ci = mr'.2.2.2.2.2.2) (hr : (S.map cat).sum ≤ 8) (hL : argL [rv q, a1, a2] mr'.2.2.1 = L') (hl2 : L'.length = mr'.2.2.1) (h0 : mr'.2.2.2.2.1 = 0 ∧ mr'.2.2.2.2.2.1 = 0) (hcc : c ≤ mr.2.2.2.2.1 ∧ s ≤ mr.2.2.2.2.2.1) (E : Ev X 0 0 dd mr' 0 L' [] σ (QI P)) (K : ∀ r σ', P r σ' → Ev X c s (dd + 1) mr pc' L (iv r :: S) σ' Q) : Ev X c s (dd + 1) mr pc L (a2 :: a1 :: rv q :: S) σ Q := e_cv2 hd hp hm ho hci hr hL hl2 h0 hcc E (fun v σ' h => by obtain ⟨r, rfl, h⟩ := h; exact K r σ' h)
theorem e_cs2i {dd k i1 i2 : Nat} {ps : List Nat} {mr' : MRec} {a1 a2 : AV} {P : Int → SG → Prop} (hd : decode mr.2.1 pc = .ok (.invokestatic k, 3)) (hp : pc + 3 = pc') (hsp : sp mr.2.2.2.2.2.2 k = none) (hm : ml mr.2.2.2.2.2.2 k = some (i1, i2, 2, 2, mr', ps)) (hr : (S.map cat).sum ≤ 8) (hL : argL [a1, a2] mr'.2.2.1 = L') (hl2 : L'.length = mr'.2.2.1) (h0 : mr'.2.2.2.2.1 = 0 ∧ mr'.2.2.2.2.2.1 = 0) (hcc : c ≤ mr.2.2.2.2.1 ∧ s ≤ mr.2.2.2.2.2.1) (E : Ev X 0 0 dd mr' 0 L' [] σ (QI P)) (K : ∀ r σ', P r σ' → Ev X c s (dd + 1) mr pc' L (iv r :: S) σ' Q) : Ev X c s (dd + 1) mr pc L (a2 :: a1 :: S) σ Q := e_cs2 hd hp hsp hm hr hL hl2 h0 hcc E (fun v σ' h => by obtain ⟨r, rfl, h⟩ := h; exact K r σ' h)
theorem e_cv2j {dd k q ci i1 i2 : Nat} {ps : List Nat} {fs : List (Nat ⊕ AV)} {mr' : MRec} {a1 a2 : AV} {P : Int64 → SG → Prop} (hd : decode mr.2.1 pc = .ok (.invokevirtual k, 3)) (hp : pc + 3 = pc') (hm : ml mr.2.2.2.2.2.2 k = some (i1, i2, 0, 2, mr', ps)) (ho : shp[q]? = some (.inr (ci, fs))) (hci : ci = mr'.2.2.2.2.2.2) (hr : (S.map cat).sum ≤ 8) (hL : argL [rv q, a1, a2] mr'.2.2.1 = L') (hl2 : L'.length = mr'.2.2.1) (h0 : mr'.2.2.2.2.1 = 0 ∧ mr'.2.2.2.2.2.1 = 0) (hcc : c ≤ mr.2.2.2.2.1 ∧ s ≤ mr.2.2.2.2.2.1) (E : Ev X 0 0 dd mr' 0 L' [] σ (QJ P)) (K : ∀ r σ', P r σ' → Ev X c s (dd + 1) mr pc' L (jv r :: S) σ' Q) : Ev X c s (dd + 1) mr pc L (a2 :: a1 :: rv q :: S) σ Q := e_cv2 hd hp hm ho hci hr hL hl2 h0 hcc E (fun v σ' h => by obtain ⟨r, rfl, h⟩ := h; exact K r σ' h)
theorem e_cs2j {dd k i1 i2 : Nat} {ps : List Nat} {mr' : MRec} {a1 a2 : AV} {P : Int64 → SG → Prop} (hd : decode mr.2.1 pc = .ok (.invokestatic k, 3)) (hp : pc + 3 = pc') (hsp : sp mr.2.2.2.2.2.2 k = none) (hm : ml mr.2.2.2.2.2.2 k = some (i1, i2, 2, 2, mr', ps)) (hr : (S.map cat).sum ≤ 8) (hL : argL [a1, a2] mr'.2.2.1 = L') (hl2 : L'.length = mr'.2.2.1) (h0 : mr'.2.2.2.2.1 = 0 ∧ mr'.2.2.2.2.2.1 = 0) (hcc : c ≤ mr.2.2.2.2.1 ∧ s ≤ mr.2.2.2.2.2.1) (E : Ev X 0 0 dd mr' 0 L' [] σ (QJ P)) (K : ∀ r σ', P r σ' → Ev X c s (dd + 1) mr pc' L (jv r :: S) σ' Q) : Ev X c s (dd + 1) mr pc L (a2 :: a1 :: S) σ Q := e_cs2 hd hp hsp hm hr hL hl2 h0 hcc E (fun v σ' h => by obtain ⟨r, rfl, h⟩ := h; exact K r σ' h)
theorem e_cv2v {dd k q ci i1 i2 : Nat} {ps : List Nat} {fs : List (Nat ⊕ AV)} {mr' : MRec} {a1 a2 : AV} {P : SG → Prop} (hd : decode mr.2.1 pc = .ok (.invokevirtual k, 3)) (hp : pc + 3 = pc') (hm : ml mr.2.2.2.2.2.2 k = some (i1, i2, 0, 2, mr', ps)) (ho : shp[q]? = some (.inr (ci, fs))) (hci : ci = mr'.2.2.2.2.2.2) (hr : (S.map cat).sum ≤ 8) (hL : argL [rv q, a1, a2] mr'.2.2.1 = L') (hl2 : L'.length = mr'.2.2.1) (h0 : mr'.2.2.2.2.1 = 0 ∧ mr'.2.2.2.2.2.1 = 0) (hcc : c ≤ mr.2.2.2.2.1 ∧ s ≤ mr.2.2.2.2.2.1) (E : Ev X 0 0 dd mr' 0 L' [] σ (QV P)) (K : ∀ σ', P σ' → Ev X c s (dd + 1) mr pc' L S σ' Q) : Ev X c s (dd + 1) mr pc L (a2 :: a1 :: rv q :: S) σ Q := e_cv2 hd hp hm ho hci hr hL hl2 h0 hcc E (fun v σ' h => by obtain ⟨rfl, h⟩ := h; exact K σ' h)
theorem e_cs2v {dd k i1 i2 : Nat} {ps : List Nat} {mr' : MRec} {a1 a2 : AV} {P : SG → Prop} (hd : decode mr.2.1 pc = .ok (.invokestatic k, 3)) (hp : pc + 3 = pc') (hsp : sp mr.2.2.2.2.2.2 k = none) (hm : ml mr.2.2.2.2.2.2 k = some (i1, i2, 2, 2, mr', ps)) (hr : (S.map cat).sum ≤ 8) (hL : argL [a1, a2] mr'.2.2.1 = L') (hl2 : L'.length = mr'.2.2.1) (h0 : mr'.2.2.2.2.1 = 0 ∧ mr'.2.2.2.2.2.1 = 0) (hcc : c ≤ mr.2.2.2.2.1 ∧ s ≤ mr.2.2.2.2.2.1) (E : Ev X 0 0 dd mr' 0 L' [] σ (QV P)) (K : ∀ σ', P σ' → Ev X c s (dd + 1) mr pc' L S σ' Q) : Ev X c s (dd + 1) mr pc L (a2 :: a1 :: S) σ Q := e_cs2 hd hp hsp hm hr hL hl2 h0 hcc E (fun v σ' h => by obtain ⟨rfl, h⟩ := h; exact K σ' h)
theorem e_cv3i {dd k q ci i1 i2 : Nat} {ps : List Nat} {fs : List (Nat ⊕ AV)} {mr' : MRec} {a1 a2 a3 : AV} {P : Int → SG → Prop} (hd : decode mr.2.1 pc = .ok (.invokevirtual k, 3)) (hp : pc + 3 = pc') (hm : ml mr.2.2.2.2.2.2 k = some (i1, i2, 0, 3, mr', ps)) (ho : shp[q]? = some (.inr (ci, fs))) (hci : ci = mr'.2.2.2.2.2.2) (hr : (S.map cat).sum ≤ 8) (hL : argL [rv q, a1, a2, a3] mr'.2.2.1 = L') (hl2 : L'.length = mr'.2.2.1) (h0 : mr'.2.2.2.2.1 = 0 ∧ mr'.2.2.2.2.2.1 = 0) (hcc : c ≤ mr.2.2.2.2.1 ∧ s ≤ mr.2.2.2.2.2.1) (E : Ev X 0 0 dd mr' 0 L' [] σ (QI P)) (K : ∀ r σ', P r σ' → Ev X c s (dd + 1) mr pc' L (iv r :: S) σ' Q) : Ev X c s (dd + 1) mr pc L (a3 :: a2 :: a1 :: rv q :: S) σ Q := e_cv3 hd hp hm ho hci hr hL hl2 h0 hcc E (fun v σ' h => by obtain ⟨r, rfl, h⟩ := h; exact K r σ' h)
theorem e_cs3i {dd k i1 i2 : Nat} {ps : List Nat} {mr' : MRec} {a1 a2 a3 : AV} {P : Int → SG → Prop} (hd : decode mr.2.1 pc = .ok (.invokestatic k, 3)) (hp : pc + 3 = pc') (hsp : sp mr.2.2.2.2.2.2 k = none) (hm : ml mr.2.2.2.2.2.2 k = some (i1, i2, 2, 3, mr', ps)) (hr : (S.map cat).sum ≤ 8) (hL : argL [a1, a2, a3] mr'.2.2.1 = L') (hl2 : L'.length = mr'.2.2.1) (h0 : mr'.2.2.2.2.1 = 0 ∧ mr'.2.2.2.2.2.1 = 0) (hcc : c ≤ mr.2.2.2.2.1 ∧ s ≤ mr.2.2.2.2.2.1) (E : Ev X 0 0 dd mr' 0 L' [] σ (QI P)) (K : ∀ r σ', P r σ' → Ev X c s (dd + 1) mr pc' L (iv r :: S) σ' Q) : Ev X c s (dd + 1) mr pc L (a3 :: a2 :: a1 :: S) σ Q := e_cs3 hd hp hsp hm hr hL hl2 h0 hcc E (fun v σ' h => by obtain ⟨r, rfl, h⟩ := h; exact K r σ' h)
theorem e_cv3j {dd k q ci i1 i2 : Nat} {ps : List Nat} {fs : List (Nat ⊕ AV)} {mr' : MRec} {a1 a2 a3 : AV} {P : Int64 → SG → Prop} (hd : decode mr.2.1 pc = .ok (.invokevirtual k, 3)) (hp : pc + 3 = pc') (hm : ml mr.2.2.2.2.2.2 k = some (i1, i2, 0, 3, mr', ps)) (ho : shp[q]? = some (.inr (ci, fs))) (hci : ci = mr'.2.2.2.2.2.2) (hr : (S.map cat).sum ≤ 8) (hL : argL [rv q, a1, a2, a3] mr'.2.2.1 = L') (hl2 : L'.length = mr'.2.2.1) (h0 : mr'.2.2.2.2.1 = 0 ∧ mr'.2.2.2.2.2.1 = 0) (hcc : c ≤ mr.2.2.2.2.1 ∧ s ≤ mr.2.2.2.2.2.1) (E : Ev X 0 0 dd mr' 0 L' [] σ (QJ P)) (K : ∀ r σ', P r σ' → Ev X c s (dd + 1) mr pc' L (jv r :: S) σ' Q) : Ev X c s (dd + 1) mr pc L (a3 :: a2 :: a1 :: rv q :: S) σ Q := e_cv3 hd hp hm ho hci hr hL hl2 h0 hcc E (fun v σ' h => by obtain ⟨r, rfl, h⟩ := h; exact K r σ' h)
theorem e_cs3j {dd k i1 i2 : Nat} {ps : List Nat} {mr' : MRec} {a1 a2 a3 : AV} {P : Int64 → SG → Prop} (hd : decode mr.2.1 pc = .ok (.invokestatic k, 3)) (hp : pc + 3 = pc') (hsp : sp mr.2.2.2.2.2.2 k = none) (hm : ml mr.2.2.2.2.2.2 k = some (i1, i2, 2, 3, mr', ps)) (hr : (S.map cat).sum ≤ 8) (hL : argL [a1, a2, a3] mr'.2.2.1 = L') (hl2 : L'.length = mr'.2.2.1) (h0 : mr'.2.2.2.2.1 = 0 ∧ mr'.2.2.2.2.2.1 = 0) (hcc : c ≤ mr.2.2.2.2.1 ∧ s ≤ mr.2.2.2.2.2.1) (E : Ev X 0 0 dd mr' 0 L' [] σ (QJ P)) (K : ∀ r σ', P r σ' → Ev X c s (dd + 1) mr pc' L (jv r :: S) σ' Q) : Ev X c s (dd + 1) mr pc L (a3 :: a2 :: a1 :: S) σ Q := e_cs3 hd hp hsp hm hr hL hl2 h0 hcc E (fun v σ' h => by obtain ⟨r, rfl, h⟩ := h; exact K r σ' h)
theorem e_cv3v {dd k q ci i1 i2 : Nat} {ps : List Nat} {fs : List (Nat ⊕ AV)} {mr' : MRec} {a1 a2 a3 : AV} {P : SG → Prop} (hd : decode mr.2.1 pc = .ok (.invokevirtual k, 3)) (hp : pc + 3 = pc') (hm : ml mr.2.2.2.2.2.2 k = some (i1, i2, 0, 3, mr', ps)) (ho : shp[q]? = some (.inr (ci, fs))) (hci : ci = mr'.2.2.2.2.2.2) (hr : (S.map cat).sum ≤ 8) (hL : argL [rv q, a1, a2, a3] mr'.2.2.1 = L') (hl2 : L'.length = mr'.2.2.1) (h0 : mr'.2.2.2.2.1 = 0 ∧ mr'.2.2.2.2.2.1 = 0) (hcc : c ≤ mr.2.2.2.2.1 ∧ s ≤ mr.2.2.2.2.2.1) (E : Ev X 0 0 dd mr' 0 L' [] σ (QV P)) (K : ∀ σ', P σ' → Ev X c s (dd + 1) mr pc' L S σ' Q) : Ev X c s (dd + 1) mr pc L (a3 :: a2 :: a1 :: rv q :: S) σ Q := e_cv3 hd hp hm ho hci hr hL hl2 h0 hcc E (fun v σ' h => by obtain ⟨rfl, h⟩ := h; exact K σ' h)
theorem e_cs3v {dd k i1 i2 : Nat} {ps : List Nat} {mr' : MRec} {a1 a2 a3 : AV} {P : SG → Prop} (hd : decode mr.2.1 pc = .ok (.invokestatic k, 3)) (hp : pc + 3 = pc') (hsp : sp mr.2.2.2.2.2.2 k = none) (hm : ml mr.2.2.2.2.2.2 k = some (i1, i2, 2, 3, mr', ps)) (hr : (S.map cat).sum ≤ 8) (hL : argL [a1, a2, a3] mr'.2.2.1 = L') (hl2 : L'.length = mr'.2.2.1) (h0 : mr'.2.2.2.2.1 = 0 ∧ mr'.2.2.2.2.2.1 = 0) (hcc : c ≤ mr.2.2.2.2.1 ∧ s ≤ mr.2.2.2.2.2.1) (E : Ev X 0 0 dd mr' 0 L' [] σ (QV P)) (K : ∀ σ', P σ' → Ev X c s (dd + 1) mr pc' L S σ' Q) : Ev X c s (dd + 1) mr pc L (a3 :: a2 :: a1 :: S) σ Q := e_cs3 hd hp hsp hm hr hL hl2 h0 hcc E (fun v σ' h => by obtain ⟨rfl, h⟩ := h; exact K σ' h)
theorem e_cv4i {dd k q ci i1 i2 : Nat} {ps : List Nat} {fs : List (Nat ⊕ AV)} {mr' : MRec} {a1 a2 a3 a4 : AV} {P : Int → SG → Prop} (hd : decode mr.2.1 pc = .ok (.invokevirtual k, 3)) (hp : pc + 3 = pc') (hm : ml mr.2.2.2.2.2.2 k = some (i1, i2, 0, 4, mr', ps)) (ho : shp[q]? = some (.inr (ci, fs))) (hci : ci = mr'.2.2.2.2.2.2) (hr : (S.map cat).sum ≤ 8) (hL : argL [rv q, a1, a2, a3, a4] mr'.2.2.1 = L') (hl2 : L'.length = mr'.2.2.1) (h0 : mr'.2.2.2.2.1 = 0 ∧ mr'.2.2.2.2.2.1 = 0) (hcc : c ≤ mr.2.2.2.2.1 ∧ s ≤ mr.2.2.2.2.2.1) (E : Ev X 0 0 dd mr' 0 L' [] σ (QI P)) (K : ∀ r σ', P r σ' → Ev X c s (dd + 1) mr pc' L (iv r :: S) σ' Q) : Ev X c s (dd + 1) mr pc L (a4 :: a3 :: a2 :: a1 :: rv q :: S) σ Q := e_cv4 hd hp hm ho hci hr hL hl2 h0 hcc E (fun v σ' h => by obtain ⟨r, rfl, h⟩ := h; exact K r σ' h)
theorem e_cs4i {dd k i1 i2 : Nat} {ps : List Nat} {mr' : MRec} {a1 a2 a3 a4 : AV} {P : Int → SG → Prop} (hd : decode mr.2.1 pc = .ok (.invokestatic k, 3)) (hp : pc + 3 = pc') (hsp : sp mr.2.2.2.2.2.2 k = none) (hm : ml mr.2.2.2.2.2.2 k = some (i1, i2, 2, 4, mr', ps)) (hr : (S.map cat).sum ≤ 8) (hL : argL [a1, a2, a3, a4] mr'.2.2.1 = L') (hl2 : L'.length = mr'.2.2.1) (h0 : mr'.2.2.2.2.1 = 0 ∧ mr'.2.2.2.2.2.1 = 0) (hcc : c ≤ mr.2.2.2.2.1 ∧ s ≤ mr.2.2.2.2.2.1) (E : Ev X 0 0 dd mr' 0 L' [] σ (QI P)) (K : ∀ r σ', P r σ' → Ev X c s (dd + 1) mr pc' L (iv r :: S) σ' Q) : Ev X c s (dd + 1) mr pc L (a4 :: a3 :: a2 :: a1 :: S) σ Q := e_cs4 hd hp hsp hm hr hL hl2 h0 hcc E (fun v σ' h => by obtain ⟨r, rfl, h⟩ := h; exact K r σ' h)
theorem e_cv4j {dd k q ci i1 i2 : Nat} {ps : List Nat} {fs : List (Nat ⊕ AV)} {mr' : MRec} {a1 a2 a3 a4 : AV} {P : Int64 → SG → Prop} (hd : decode mr.2.1 pc = .ok (.invokevirtual k, 3)) (hp : pc + 3 = pc') (hm : ml mr.2.2.2.2.2.2 k = some (i1, i2, 0, 4, mr', ps)) (ho : shp[q]? = some (.inr (ci, fs))) (hci : ci = mr'.2.2.2.2.2.2) (hr : (S.map cat).sum ≤ 8) (hL : argL [rv q, a1, a2, a3, a4] mr'.2.2.1 = L') (hl2 : L'.length = mr'.2.2.1) (h0 : mr'.2.2.2.2.1 = 0 ∧ mr'.2.2.2.2.2.1 = 0) (hcc : c ≤ mr.2.2.2.2.1 ∧ s ≤ mr.2.2.2.2.2.1) (E : Ev X 0 0 dd mr' 0 L' [] σ (QJ P)) (K : ∀ r σ', P r σ' → Ev X c s (dd + 1) mr pc' L (jv r :: S) σ' Q) : Ev X c s (dd + 1) mr pc L (a4 :: a3 :: a2 :: a1 :: rv q :: S) σ Q := e_cv4 hd hp hm ho hci hr hL hl2 h0 hcc E (fun v σ' h => by obtain ⟨r, rfl, h⟩ := h; exact K r σ' h)
theorem e_cs4j {dd k i1 i2 : Nat} {ps : List Nat} {mr' : MRec} {a1 a2 a3 a4 : AV} {P : Int64 → SG → Prop} (hd : decode mr.2.1 pc = .ok (.invokestatic k, 3)) (hp : pc + 3 = pc') (hsp : sp mr.2.2.2.2.2.2 k = none) (hm : ml mr.2.2.2.2.2.2 k = some (i1, i2, 2, 4, mr', ps)) (hr : (S.map cat).sum ≤ 8) (hL : argL [a1, a2, a3, a4] mr'.2.2.1 = L') (hl2 : L'.length = mr'.2.2.1) (h0 : mr'.2.2.2.2.1 = 0 ∧ mr'.2.2.2.2.2.1 = 0) (hcc : c ≤ mr.2.2.2.2.1 ∧ s ≤ mr.2.2.2.2.2.1) (E : Ev X 0 0 dd mr' 0 L' [] σ (QJ P)) (K : ∀ r σ', P r σ' → Ev X c s (dd + 1) mr pc' L (jv r :: S) σ' Q) : Ev X c s (dd + 1) mr pc L (a4 :: a3 :: a2 :: a1 :: S) σ Q := e_cs4 hd hp hsp hm hr hL hl2 h0 hcc E (fun v σ' h => by obtain ⟨r, rfl, h⟩ := h; exact K r σ' h)
theorem e_cv4v {dd k q ci i1 i2 : Nat} {ps : List Nat} {fs : List (Nat ⊕ AV)} {mr' : MRec} {a1 a2 a3 a4 : AV} {P : SG → Prop} (hd : decode mr.2.1 pc = .ok (.invokevirtual k, 3)) (hp : pc + 3 = pc') (hm : ml mr.2.2.2.2.2.2 k = some (i1, i2, 0, 4, mr', ps)) (ho : shp[q]? = some (.inr (ci, fs))) (hci : ci = mr'.2.2.2.2.2.2) (hr : (S.map cat).sum ≤ 8) (hL : argL [rv q, a1, a2, a3, a4] mr'.2.2.1 = L') (hl2 : L'.length = mr'.2.2.1) (h0 : mr'.2.2.2.2.1 = 0 ∧ mr'.2.2.2.2.2.1 = 0) (hcc : c ≤ mr.2.2.2.2.1 ∧ s ≤ mr.2.2.2.2.2.1) (E : Ev X 0 0 dd mr' 0 L' [] σ (QV P)) (K : ∀ σ', P σ' → Ev X c s (dd + 1) mr pc' L S σ' Q) : Ev X c s (dd + 1) mr pc L (a4 :: a3 :: a2 :: a1 :: rv q :: S) σ Q := e_cv4 hd hp hm ho hci hr hL hl2 h0 hcc E (fun v σ' h => by obtain ⟨rfl, h⟩ := h; exact K σ' h)
theorem e_cs4v {dd k i1 i2 : Nat} {ps : List Nat} {mr' : MRec} {a1 a2 a3 a4 : AV} {P : SG → Prop} (hd : decode mr.2.1 pc = .ok (.invokestatic k, 3)) (hp : pc + 3 = pc') (hsp : sp mr.2.2.2.2.2.2 k = none) (hm : ml mr.2.2.2.2.2.2 k = some (i1, i2, 2, 4, mr', ps)) (hr : (S.map cat).sum ≤ 8) (hL : argL [a1, a2, a3, a4] mr'.2.2.1 = L') (hl2 : L'.length = mr'.2.2.1) (h0 : mr'.2.2.2.2.1 = 0 ∧ mr'.2.2.2.2.2.1 = 0) (hcc : c ≤ mr.2.2.2.2.1 ∧ s ≤ mr.2.2.2.2.2.1) (E : Ev X 0 0 dd mr' 0 L' [] σ (QV P)) (K : ∀ σ', P σ' → Ev X c s (dd + 1) mr pc' L S σ' Q) : Ev X c s (dd + 1) mr pc L (a4 :: a3 :: a2 :: a1 :: S) σ Q := e_cs4 hd hp hsp hm hr hL hl2 h0 hcc E (fun v σ' h => by obtain ⟨rfl, h⟩ := h; exact K σ' h)
theorem e_cv5i {dd k q ci i1 i2 : Nat} {ps : List Nat} {fs : List (Nat ⊕ AV)} {mr' : MRec} {a1 a2 a3 a4 a5 : AV} {P : Int → SG → Prop} (hd : decode mr.2.1 pc = .ok (.invokevirtual k, 3)) (hp : pc + 3 = pc') (hm : ml mr.2.2.2.2.2.2 k = some (i1, i2, 0, 5, mr', ps)) (ho : shp[q]? = some (.inr (ci, fs))) (hci : ci = mr'.2.2.2.2.2.2) (hr : (S.map cat).sum ≤ 8) (hL : argL [rv q, a1, a2, a3, a4, a5] mr'.2.2.1 = L') (hl2 : L'.length = mr'.2.2.1) (h0 : mr'.2.2.2.2.1 = 0 ∧ mr'.2.2.2.2.2.1 = 0) (hcc : c ≤ mr.2.2.2.2.1 ∧ s ≤ mr.2.2.2.2.2.1) (E : Ev X 0 0 dd mr' 0 L' [] σ (QI P)) (K : ∀ r σ', P r σ' → Ev X c s (dd + 1) mr pc' L (iv r :: S) σ' Q) : Ev X c s (dd + 1) mr pc L (a5 :: a4 :: a3 :: a2 :: a1 :: rv q :: S) σ Q := e_cv5 hd hp hm ho hci hr hL hl2 h0 hcc E (fun v σ' h => by obtain ⟨r, rfl, h⟩ := h; exact K r σ' h)
theorem e_cs5i {dd k i1 i2 : Nat} {ps : List Nat} {mr' : MRec} {a1 a2 a3 a4 a5 : AV} {P : Int → SG → Prop} (hd : decode mr.2.1 pc = .ok (.invokestatic k, 3)) (hp : pc + 3 = pc') (hsp : sp mr.2.2.2.2.2.2 k = none) (hm : ml mr.2.2.2.2.2.2 k = some (i1, i2, 2, 5, mr', ps)) (hr : (S.map cat).sum ≤ 8) (hL : argL [a1, a2, a3, a4, a5] mr'.2.2.1 = L') (hl2 : L'.length = mr'.2.2.1) (h0 : mr'.2.2.2.2.1 = 0 ∧ mr'.2.2.2.2.2.1 = 0) (hcc : c ≤ mr.2.2.2.2.1 ∧ s ≤ mr.2.2.2.2.2.1) (E : Ev X 0 0 dd mr' 0 L' [] σ (QI P)) (K : ∀ r σ', P r σ' → Ev X c s (dd + 1) mr pc' L (iv r :: S) σ' Q) : Ev X c s (dd + 1) mr pc L (a5 :: a4 :: a3 :: a2 :: a1 :: S) σ Q := e_cs5 hd hp hsp hm hr hL hl2 h0 hcc E (fun v σ' h => by obtain ⟨r, rfl, h⟩ := h; exact K r σ' h)
theorem e_cv5j {dd k q ci i1 i2 : Nat} {ps : List Nat} {fs : List (Nat ⊕ AV)} {mr' : MRec} {a1 a2 a3 a4 a5 : AV} {P : Int64 → SG → Prop} (hd : decode mr.2.1 pc = .ok (.invokevirtual k, 3)) (hp : pc + 3 = pc') (hm : ml mr.2.2.2.2.2.2 k = some (i1, i2, 0, 5, mr', ps)) (ho : shp[q]? = some (.inr (ci, fs))) (hci : ci = mr'.2.2.2.2.2.2) (hr : (S.map cat).sum ≤ 8) (hL : argL [rv q, a1, a2, a3, a4, a5] mr'.2.2.1 = L') (hl2 : L'.length = mr'.2.2.1) (h0 : mr'.2.2.2.2.1 = 0 ∧ mr'.2.2.2.2.2.1 = 0) (hcc : c ≤ mr.2.2.2.2.1 ∧ s ≤ mr.2.2.2.2.2.1) (E : Ev X 0 0 dd mr' 0 L' [] σ (QJ P)) (K : ∀ r σ', P r σ' → Ev X c s (dd + 1) mr pc' L (jv r :: S) σ' Q) : Ev X c s (dd + 1) mr pc L (a5 :: a4 :: a3 :: a2 :: a1 :: rv q :: S) σ Q := e_cv5 hd hp hm ho hci hr hL hl2 h0 hcc E (fun v σ' h => by obtain ⟨r, rfl, h⟩ := h; exact K r σ' h)
theorem e_cs5j {dd k i1 i2 : Nat} {ps : List Nat} {mr' : MRec} {a1 a2 a3 a4 a5 : AV} {P : Int64 → SG → Prop} (hd : decode mr.2.1 pc = .ok (.invokestatic k, 3)) (hp : pc + 3 = pc') (hsp : sp mr.2.2.2.2.2.2 k = none) (hm : ml mr.2.2.2.2.2.2 k = some (i1, i2, 2, 5, mr', ps)) (hr : (S.map cat).sum ≤ 8) (hL : argL [a1, a2, a3, a4, a5] mr'.2.2.1 = L') (hl2 : L'.length = mr'.2.2.1) (h0 : mr'.2.2.2.2.1 = 0 ∧ mr'.2.2.2.2.2.1 = 0) (hcc : c ≤ mr.2.2.2.2.1 ∧ s ≤ mr.2.2.2.2.2.1) (E : Ev X 0 0 dd mr' 0 L' [] σ (QJ P)) (K : ∀ r σ', P r σ' → Ev X c s (dd + 1) mr pc' L (jv r :: S) σ' Q) : Ev X c s (dd + 1) mr pc L (a5 :: a4 :: a3 :: a2 :: a1 :: S) σ Q := e_cs5 hd hp hsp hm hr hL hl2 h0 hcc E (fun v σ' h => by obtain ⟨r, rfl, h⟩ := h; exact K r σ' h)
theorem e_cv5v {dd k q ci i1 i2 : Nat} {ps : List Nat} {fs : List (Nat ⊕ AV)} {mr' : MRec} {a1 a2 a3 a4 a5 : AV} {P : SG → Prop} (hd : decode mr.2.1 pc = .ok (.invokevirtual k, 3)) (hp : pc + 3 = pc') (hm : ml mr.2.2.2.2.2.2 k = some (i1, i2, 0, 5, mr', ps)) (ho : shp[q]? = some (.inr (ci, fs))) (hci : ci = mr'.2.2.2.2.2.2) (hr : (S.map cat).sum ≤ 8) (hL : argL [rv q, a1, a2, a3, a4, a5] mr'.2.2.1 = L') (hl2 : L'.length = mr'.2.2.1) (h0 : mr'.2.2.2.2.1 = 0 ∧ mr'.2.2.2.2.2.1 = 0) (hcc : c ≤ mr.2.2.2.2.1 ∧ s ≤ mr.2.2.2.2.2.1) (E : Ev X 0 0 dd mr' 0 L' [] σ (QV P)) (K : ∀ σ', P σ' → Ev X c s (dd + 1) mr pc' L S σ' Q) : Ev X c s (dd + 1) mr pc L (a5 :: a4 :: a3 :: a2 :: a1 :: rv q :: S) σ Q := e_cv5 hd hp hm ho hci hr hL hl2 h0 hcc E (fun v σ' h => by obtain ⟨rfl, h⟩ := h; exact K σ' h)
theorem e_cs5v {dd k i1 i2 : Nat} {ps : List Nat} {mr' : MRec} {a1 a2 a3 a4 a5 : AV} {P : SG → Prop} (hd : decode mr.2.1 pc = .ok (.invokestatic k, 3)) (hp : pc + 3 = pc') (hsp : sp mr.2.2.2.2.2.2 k = none) (hm : ml mr.2.2.2.2.2.2 k = some (i1, i2, 2, 5, mr', ps)) (hr : (S.map cat).sum ≤ 8) (hL : argL [a1, a2, a3, a4, a5] mr'.2.2.1 = L') (hl2 : L'.length = mr'.2.2.1) (h0 : mr'.2.2.2.2.1 = 0 ∧ mr'.2.2.2.2.2.1 = 0) (hcc : c ≤ mr.2.2.2.2.1 ∧ s ≤ mr.2.2.2.2.2.1) (E : Ev X 0 0 dd mr' 0 L' [] σ (QV P)) (K : ∀ σ', P σ' → Ev X c s (dd + 1) mr pc' L S σ' Q) : Ev X c s (dd + 1) mr pc L (a5 :: a4 :: a3 :: a2 :: a1 :: S) σ Q := e_cs5 hd hp hsp hm hr hL hl2 h0 hcc E (fun v σ' h => by obtain ⟨rfl, h⟩ := h; exact K σ' h)
theorem e_cv6i {dd k q ci i1 i2 : Nat} {ps : List Nat} {fs : List (Nat ⊕ AV)} {mr' : MRec} {a1 a2 a3 a4 a5 a6 : AV} {P : Int → SG → Prop} (hd : decode mr.2.1 pc = .ok (.invokevirtual k, 3)) (hp : pc + 3 = pc') (hm : ml mr.2.2.2.2.2.2 k = some (i1, i2, 0, 6, mr', ps)) (ho : shp[q]? = some (.inr (ci, fs))) (hci : ci = mr'.2.2.2.2.2.2) (hr : (S.map cat).sum ≤ 8) (hL : argL [rv q, a1, a2, a3, a4, a5, a6] mr'.2.2.1 = L') (hl2 : L'.length = mr'.2.2.1) (h0 : mr'.2.2.2.2.1 = 0 ∧ mr'.2.2.2.2.2.1 = 0) (hcc : c ≤ mr.2.2.2.2.1 ∧ s ≤ mr.2.2.2.2.2.1) (E : Ev X 0 0 dd mr' 0 L' [] σ (QI P)) (K : ∀ r σ', P r σ' → Ev X c s (dd + 1) mr pc' L (iv r :: S) σ' Q) : Ev X c s (dd + 1) mr pc L (a6 :: a5 :: a4 :: a3 :: a2 :: a1 :: rv q :: S) σ Q := e_cv6 hd hp hm ho hci hr hL hl2 h0 hcc E (fun v σ' h => by obtain ⟨r, rfl, h⟩ := h; exact K r σ' h)
theorem e_cs6i {dd k i1 i2 : Nat} {ps : List Nat} {mr' : MRec} {a1 a2 a3 a4 a5 a6 : AV} {P : Int → SG → Prop} (hd : decode mr.2.1 pc = .ok (.invokestatic k, 3)) (hp : pc + 3 = pc') (hsp : sp mr.2.2.2.2.2.2 k = none) (hm : ml mr.2.2.2.2.2.2 k = some (i1, i2, 2, 6, mr', ps)) (hr : (S.map cat).sum ≤ 8) (hL : argL [a1, a2, a3, a4, a5, a6] mr'.2.2.1 = L') (hl2 : L'.length = mr'.2.2.1) (h0 : mr'.2.2.2.2.1 = 0 ∧ mr'.2.2.2.2.2.1 = 0) (hcc : c ≤ mr.2.2.2.2.1 ∧ s ≤ mr.2.2.2.2.2.1) (E : Ev X 0 0 dd mr' 0 L' [] σ (QI P)) (K : ∀ r σ', P r σ' → Ev X c s (dd + 1) mr pc' L (iv r :: S) σ' Q) : Ev X c s (dd + 1) mr pc L (a6 :: a5 :: a4 :: a3 :: a2 :: a1 :: S) σ Q := e_cs6 hd hp hsp hm hr hL hl2 h0 hcc E (fun v σ' h => by obtain ⟨r, rfl, h⟩ := h; exact K r σ' h)
theorem e_cv6j {dd k q ci i1 i2 : Nat} {ps : List Nat} {fs : List (Nat ⊕ AV)} {mr' : MRec} {a1 a2 a3 a4 a5 a6 : AV} {P : Int64 → SG → Prop} (hd : decode mr.2.1 pc = .ok (.invokevirtual k, 3)) (hp : pc + 3 = pc') (hm : ml mr.2.2.2.2.2.2 k = some (i1, i2, 0, 6, mr', ps)) (ho : shp[q]? = some (.inr (ci, fs))) (hci : ci = mr'.2.2.2.2.2.2) (hr : (S.map cat).sum ≤ 8) (hL : argL [rv q, a1, a2, a3, a4, a5, a6] mr'.2.2.1 = L') (hl2 : L'.length = mr'.2.2.1) (h0 : mr'.2.2.2.2.1 = 0 ∧ mr'.2.2.2.2.2.1 = 0) (hcc : c ≤ mr.2.2.2.2.1 ∧ s ≤ mr.2.2.2.2.2.1) (E : Ev X 0 0 dd mr' 0 L' [] σ (QJ P)) (K : ∀ r σ', P r σ' → Ev X c s (dd + 1) mr pc' L (jv r :: S) σ' Q) : Ev X c s (dd + 1) mr pc L (a6 :: a5 :: a4 :: a3 :: a2 :: a1 :: rv q :: S) σ Q := e_cv6 hd hp hm ho hci hr hL hl2 h0 hcc E (fun v σ' h => by obtain ⟨r, rfl, h⟩ := h; exact K r σ' h)
theorem e_cs6j {dd k i1 i2 : Nat} {ps : List Nat} {mr' : MRec} {a1 a2 a3 a4 a5 a6 : AV} {P : Int64 → SG → Prop} (hd : decode mr.2.1 pc = .ok (.invokestatic k, 3)) (hp : pc + 3 = pc') (hsp : sp mr.2.2.2.2.2.2 k = none) (hm : ml mr.2.2.2.2.2.2 k = some (i1, i2, 2, 6, mr', ps)) (hr : (S.map cat).sum ≤ 8) (hL : argL [a1, a2, a3, a4, a5, a6] mr'.2.2.1 = L') (hl2 : L'.length = mr'.2.2.1) (h0 : mr'.2.2.2.2.1 = 0 ∧ mr'.2.2.2.2.2.1 = 0) (hcc : c ≤ mr.2.2.2.2.1 ∧ s ≤ mr.2.2.2.2.2.1) (E : Ev X 0 0 dd mr' 0 L' [] σ (QJ P)) (K : ∀ r σ', P r σ' → Ev X c s (dd + 1) mr pc' L (jv r :: S) σ' Q) : Ev X c s (dd + 1) mr pc L (a6 :: a5 :: a4 :: a3 :: a2 :: a1 :: S) σ Q := e_cs6 hd hp hsp hm hr hL hl2 h0 hcc E (fun v σ' h => by obtain ⟨r, rfl, h⟩ := h; exact K r σ' h)
theorem e_cv6v {dd k q ci i1 i2 : Nat} {ps : List Nat} {fs : List (Nat ⊕ AV)} {mr' : MRec} {a1 a2 a3 a4 a5 a6 : AV} {P : SG → Prop} (hd : decode mr.2.1 pc = .ok (.invokevirtual k, 3)) (hp : pc + 3 = pc') (hm : ml mr.2.2.2.2.2.2 k = some (i1, i2, 0, 6, mr', ps)) (ho : shp[q]? = some (.inr (ci, fs))) (hci : ci = mr'.2.2.2.2.2.2) (hr : (S.map cat).sum ≤ 8) (hL : argL [rv q, a1, a2, a3, a4, a5, a6] mr'.2.2.1 = L') (hl2 : L'.length = mr'.2.2.1) (h0 : mr'.2.2.2.2.1 = 0 ∧ mr'.2.2.2.2.2.1 = 0) (hcc : c ≤ mr.2.2.2.2.1 ∧ s ≤ mr.2.2.2.2.2.1) (E : Ev X 0 0 dd mr' 0 L' [] σ (QV P)) (K : ∀ σ', P σ' → Ev X c s (dd + 1) mr pc' L S σ' Q) : Ev X c s (dd + 1) mr pc L (a6 :: a5 :: a4 :: a3 :: a2 :: a1 :: rv q :: S) σ Q := e_cv6 hd hp hm ho hci hr hL hl2 h0 hcc E (fun v σ' h => by obtain ⟨rfl, h⟩ := h; exact K σ' h)
theorem e_cs6v {dd k i1 i2 : Nat} {ps : List Nat} {mr' : MRec} {a1 a2 a3 a4 a5 a6 : AV} {P : SG → Prop} (hd : decode mr.2.1 pc = .ok (.invokestatic k, 3)) (hp : pc + 3 = pc') (hsp : sp mr.2.2.2.2.2.2 k = none) (hm : ml mr.2.2.2.2.2.2 k = some (i1, i2, 2, 6, mr', ps)) (hr : (S.map cat).sum ≤ 8) (hL : argL [a1, a2, a3, a4, a5, a6] mr'.2.2.1 = L') (hl2 : L'.length = mr'.2.2.1) (h0 : mr'.2.2.2.2.1 = 0 ∧ mr'.2.2.2.2.2.1 = 0) (hcc : c ≤ mr.2.2.2.2.1 ∧ s ≤ mr.2.2.2.2.2.1) (E : Ev X 0 0 dd mr' 0 L' [] σ (QV P)) (K : ∀ σ', P σ' → Ev X c s (dd + 1) mr pc' L S σ' Q) : Ev X c s (dd + 1) mr pc L (a6 :: a5 :: a4 :: a3 :: a2 :: a1 :: S) σ Q := e_cs6 hd hp hsp hm hr hL hl2 h0 hcc E (fun v σ' h => by obtain ⟨rfl, h⟩ := h; exact K σ' h)
end EVD
