def HSL : List (Nat × Nat) := [(99, 0), (99, 0), (99, 0), (7, 18), (12, 8), (13, 12), (4, 6), (10, 16), (10, 5), (4, 6), (10, 16), (10, 5), (0, 10), (10, 5), (10, 5), (4, 6), (10, 16), (10, 5), (6, 2), (10, 6), (10, 6), (6, 2), (10, 6), (10, 6), (9, 4), (9, 4), (5, 5), (9, 257), (9, 257), (4, 6), (10, 16), (10, 5), (2, 2), (9, 300), (10, 4), (10, 4), (9, 3), (9, 5), (9, 6), (3, 2), (9, 16), (3, 2), (9, 16), (3, 2), (9, 16), (3, 2), (9, 16), (3, 2), (9, 16), (3, 2), (9, 16), (3, 2), (9, 16), (3, 2), (9, 16), (1, 3), (4, 6), (10, 16), (10, 5), (9, 10), (1, 3), (4, 6), (10, 16), (10, 5), (9, 10), (1, 3), (4, 6), (10, 16), (10, 5), (9, 10), (1, 3), (4, 6), (10, 16), (10, 5), (9, 10), (1, 3), (4, 6), (10, 16), (10, 5), (9, 10), (1, 3), (4, 6), (10, 16), (10, 5), (9, 10), (1, 3), (4, 6), (10, 16), (10, 5), (9, 10), (1, 3), (4, 6), (10, 16), (10, 5), (9, 10), (1, 3), (4, 6), (10, 16), (10, 5), (9, 10), (1, 3), (4, 6), (10, 16), (10, 5), (9, 10), (1, 3), (4, 6), (10, 16), (10, 5), (9, 10), (1, 3), (4, 6), (10, 16), (10, 5), (9, 10), (8, 48), (9, 6), (9, 8), (9, 128), (9, 16), (10, 16), (9, 5), (11, 12), (9, 192), (9, 120), (9, 16), (9, 4), (9, 4), (9, 3), (9, 12), (9, 4), (9, 4), (10, 5), (9, 16), (9, 16), (10, 5), (10, 8), (10, 8), (10, 8), (10, 4), (10, 4), (9, 4), (10, 5), (9, 4), (9, 4), (9, 4), (9, 257), (9, 257), (9, 300)]
def HS : ma_S := fun a => (HSL[a]?).getD (99, 0)
def RFL : List (List (Option Nat)) := [[], [], [], [some 4, some 5, some 6, some 9, some 12, some 26, some 32, some 34, some 35, some 36, none, some 37, none, none, none, none, none, some 38], [some 39, some 41, some 43, some 45, some 47, some 49, some 51, some 53], [some 55, some 60, some 65, some 70, some 75, some 80, some 85, some 90, some 95, some 100, some 105, some 110], [some 7, some 8], [], [], [some 10, some 11], [], [], [some 13, some 14, some 15, some 18, some 21, none, none, some 24, some 25], [], [], [some 16, some 17], [], [], [some 19, some 20], [], [], [some 22, some 23], [], [], [], [], [some 27, some 28, some 29], [], [], [some 30, some 31], [], [], [some 33], [], [], [], [], [], [], [some 40], [], [some 42], [], [some 44], [], [some 46], [], [some 48], [], [some 50], [], [some 52], [], [some 54], [], [none, some 56, some 59], [some 57, some 58], [], [], [], [none, some 61, some 64], [some 62, some 63], [], [], [], [none, some 66, some 69], [some 67, some 68], [], [], [], [none, some 71, some 74], [some 72, some 73], [], [], [], [none, some 76, some 79], [some 77, some 78], [], [], [], [none, some 81, some 84], [some 82, some 83], [], [], [], [none, some 86, some 89], [some 87, some 88], [], [], [], [none, some 91, some 94], [some 92, some 93], [], [], [], [none, some 96, some 99], [some 97, some 98], [], [], [], [none, some 101, some 104], [some 102, some 103], [], [], [], [none, some 106, some 109], [some 107, some 108], [], [], [], [none, some 111, some 114], [some 112, some 113], [], [], [], [none, some 116, none, none, none, some 117, some 118, some 119, some 120, none, none, some 121, some 122, some 123, some 124, some 125, some 126, some 127, none, some 128, some 129, some 130, some 131, some 132, some 133, some 134, none, some 135, some 136, some 137, some 138, none, some 139, some 140, some 141, none, none, some 142, none, none, some 143, some 144, some 145, some 146, some 147, none, some 148], [], [], [], [], [], [], [], [], [], [], [], [], [], [], [], [], [], [], [], [], [], [], [], [], [], [], [], [], [], [], [], [], []]
def RF : ma_R := fun a k => (((RFL[a]?).getD [])[k]?).getD none
theorem hs_3 : HS 3 = (7, 18) := rfl
theorem rf_3_0 : RF 3 0 = some 4 := rfl
theorem rf_3_1 : RF 3 1 = some 5 := rfl
theorem rf_3_2 : RF 3 2 = some 6 := rfl
theorem rf_3_3 : RF 3 3 = some 9 := rfl
theorem rf_3_4 : RF 3 4 = some 12 := rfl
theorem rf_3_5 : RF 3 5 = some 26 := rfl
theorem rf_3_6 : RF 3 6 = some 32 := rfl
theorem rf_3_7 : RF 3 7 = some 34 := rfl
theorem rf_3_8 : RF 3 8 = some 35 := rfl
theorem rf_3_9 : RF 3 9 = some 36 := rfl
theorem rf_3_11 : RF 3 11 = some 37 := rfl
theorem rf_3_17 : RF 3 17 = some 38 := rfl
theorem hs_4 : HS 4 = (12, 8) := rfl
theorem hs_5 : HS 5 = (13, 12) := rfl
theorem hs_6 : HS 6 = (4, 6) := rfl
theorem rf_6_0 : RF 6 0 = some 7 := rfl
theorem rf_6_1 : RF 6 1 = some 8 := rfl
theorem hs_7 : HS 7 = (10, 16) := rfl
theorem hs_8 : HS 8 = (10, 5) := rfl
theorem hs_9 : HS 9 = (4, 6) := rfl
theorem rf_9_0 : RF 9 0 = some 10 := rfl
theorem rf_9_1 : RF 9 1 = some 11 := rfl
theorem hs_10 : HS 10 = (10, 16) := rfl
theorem hs_11 : HS 11 = (10, 5) := rfl
theorem hs_12 : HS 12 = (0, 10) := rfl
theorem rf_12_0 : RF 12 0 = some 13 := rfl
theorem rf_12_1 : RF 12 1 = some 14 := rfl
theorem rf_12_2 : RF 12 2 = some 15 := rfl
theorem rf_12_3 : RF 12 3 = some 18 := rfl
theorem rf_12_4 : RF 12 4 = some 21 := rfl
theorem rf_12_7 : RF 12 7 = some 24 := rfl
theorem rf_12_8 : RF 12 8 = some 25 := rfl
theorem hs_13 : HS 13 = (10, 5) := rfl
theorem hs_14 : HS 14 = (10, 5) := rfl
theorem hs_15 : HS 15 = (4, 6) := rfl
theorem rf_15_0 : RF 15 0 = some 16 := rfl
theorem rf_15_1 : RF 15 1 = some 17 := rfl
theorem hs_16 : HS 16 = (10, 16) := rfl
theorem hs_17 : HS 17 = (10, 5) := rfl
theorem hs_18 : HS 18 = (6, 2) := rfl
theorem rf_18_0 : RF 18 0 = some 19 := rfl
theorem rf_18_1 : RF 18 1 = some 20 := rfl
theorem hs_19 : HS 19 = (10, 6) := rfl
theorem hs_20 : HS 20 = (10, 6) := rfl
theorem hs_21 : HS 21 = (6, 2) := rfl
theorem rf_21_0 : RF 21 0 = some 22 := rfl
theorem rf_21_1 : RF 21 1 = some 23 := rfl
theorem hs_22 : HS 22 = (10, 6) := rfl
theorem hs_23 : HS 23 = (10, 6) := rfl
theorem hs_24 : HS 24 = (9, 4) := rfl
theorem hs_25 : HS 25 = (9, 4) := rfl
theorem hs_26 : HS 26 = (5, 5) := rfl
theorem rf_26_0 : RF 26 0 = some 27 := rfl
theorem rf_26_1 : RF 26 1 = some 28 := rfl
theorem rf_26_2 : RF 26 2 = some 29 := rfl
theorem hs_27 : HS 27 = (9, 257) := rfl
theorem hs_28 : HS 28 = (9, 257) := rfl
theorem hs_29 : HS 29 = (4, 6) := rfl
theorem rf_29_0 : RF 29 0 = some 30 := rfl
theorem rf_29_1 : RF 29 1 = some 31 := rfl
theorem hs_30 : HS 30 = (10, 16) := rfl
theorem hs_31 : HS 31 = (10, 5) := rfl
theorem hs_32 : HS 32 = (2, 2) := rfl
theorem rf_32_0 : RF 32 0 = some 33 := rfl
theorem hs_33 : HS 33 = (9, 300) := rfl
theorem hs_34 : HS 34 = (10, 4) := rfl
theorem hs_35 : HS 35 = (10, 4) := rfl
theorem hs_36 : HS 36 = (9, 3) := rfl
theorem hs_37 : HS 37 = (9, 5) := rfl
theorem hs_38 : HS 38 = (9, 6) := rfl
theorem hs_39 : HS 39 = (3, 2) := rfl
theorem rf_39_0 : RF 39 0 = some 40 := rfl
theorem hs_40 : HS 40 = (9, 16) := rfl
theorem hs_41 : HS 41 = (3, 2) := rfl
theorem rf_41_0 : RF 41 0 = some 42 := rfl
theorem hs_42 : HS 42 = (9, 16) := rfl
theorem hs_43 : HS 43 = (3, 2) := rfl
theorem rf_43_0 : RF 43 0 = some 44 := rfl
theorem hs_44 : HS 44 = (9, 16) := rfl
theorem hs_45 : HS 45 = (3, 2) := rfl
theorem rf_45_0 : RF 45 0 = some 46 := rfl
theorem hs_46 : HS 46 = (9, 16) := rfl
theorem hs_47 : HS 47 = (3, 2) := rfl
theorem rf_47_0 : RF 47 0 = some 48 := rfl
theorem hs_48 : HS 48 = (9, 16) := rfl
theorem hs_49 : HS 49 = (3, 2) := rfl
theorem rf_49_0 : RF 49 0 = some 50 := rfl
theorem hs_50 : HS 50 = (9, 16) := rfl
theorem hs_51 : HS 51 = (3, 2) := rfl
theorem rf_51_0 : RF 51 0 = some 52 := rfl
theorem hs_52 : HS 52 = (9, 16) := rfl
theorem hs_53 : HS 53 = (3, 2) := rfl
theorem rf_53_0 : RF 53 0 = some 54 := rfl
theorem hs_54 : HS 54 = (9, 16) := rfl
theorem hs_55 : HS 55 = (1, 3) := rfl
theorem rf_55_1 : RF 55 1 = some 56 := rfl
theorem rf_55_2 : RF 55 2 = some 59 := rfl
theorem hs_56 : HS 56 = (4, 6) := rfl
theorem rf_56_0 : RF 56 0 = some 57 := rfl
theorem rf_56_1 : RF 56 1 = some 58 := rfl
theorem hs_57 : HS 57 = (10, 16) := rfl
theorem hs_58 : HS 58 = (10, 5) := rfl
theorem hs_59 : HS 59 = (9, 10) := rfl
theorem hs_60 : HS 60 = (1, 3) := rfl
theorem rf_60_1 : RF 60 1 = some 61 := rfl
theorem rf_60_2 : RF 60 2 = some 64 := rfl
theorem hs_61 : HS 61 = (4, 6) := rfl
theorem rf_61_0 : RF 61 0 = some 62 := rfl
theorem rf_61_1 : RF 61 1 = some 63 := rfl
theorem hs_62 : HS 62 = (10, 16) := rfl
theorem hs_63 : HS 63 = (10, 5) := rfl
theorem hs_64 : HS 64 = (9, 10) := rfl
theorem hs_65 : HS 65 = (1, 3) := rfl
theorem rf_65_1 : RF 65 1 = some 66 := rfl
theorem rf_65_2 : RF 65 2 = some 69 := rfl
theorem hs_66 : HS 66 = (4, 6) := rfl
theorem rf_66_0 : RF 66 0 = some 67 := rfl
theorem rf_66_1 : RF 66 1 = some 68 := rfl
theorem hs_67 : HS 67 = (10, 16) := rfl
theorem hs_68 : HS 68 = (10, 5) := rfl
theorem hs_69 : HS 69 = (9, 10) := rfl
theorem hs_70 : HS 70 = (1, 3) := rfl
theorem rf_70_1 : RF 70 1 = some 71 := rfl
theorem rf_70_2 : RF 70 2 = some 74 := rfl
theorem hs_71 : HS 71 = (4, 6) := rfl
theorem rf_71_0 : RF 71 0 = some 72 := rfl
theorem rf_71_1 : RF 71 1 = some 73 := rfl
theorem hs_72 : HS 72 = (10, 16) := rfl
theorem hs_73 : HS 73 = (10, 5) := rfl
theorem hs_74 : HS 74 = (9, 10) := rfl
theorem hs_75 : HS 75 = (1, 3) := rfl
theorem rf_75_1 : RF 75 1 = some 76 := rfl
theorem rf_75_2 : RF 75 2 = some 79 := rfl
theorem hs_76 : HS 76 = (4, 6) := rfl
theorem rf_76_0 : RF 76 0 = some 77 := rfl
theorem rf_76_1 : RF 76 1 = some 78 := rfl
theorem hs_77 : HS 77 = (10, 16) := rfl
theorem hs_78 : HS 78 = (10, 5) := rfl
theorem hs_79 : HS 79 = (9, 10) := rfl
theorem hs_80 : HS 80 = (1, 3) := rfl
theorem rf_80_1 : RF 80 1 = some 81 := rfl
theorem rf_80_2 : RF 80 2 = some 84 := rfl
theorem hs_81 : HS 81 = (4, 6) := rfl
theorem rf_81_0 : RF 81 0 = some 82 := rfl
theorem rf_81_1 : RF 81 1 = some 83 := rfl
theorem hs_82 : HS 82 = (10, 16) := rfl
theorem hs_83 : HS 83 = (10, 5) := rfl
theorem hs_84 : HS 84 = (9, 10) := rfl
theorem hs_85 : HS 85 = (1, 3) := rfl
theorem rf_85_1 : RF 85 1 = some 86 := rfl
theorem rf_85_2 : RF 85 2 = some 89 := rfl
theorem hs_86 : HS 86 = (4, 6) := rfl
theorem rf_86_0 : RF 86 0 = some 87 := rfl
theorem rf_86_1 : RF 86 1 = some 88 := rfl
theorem hs_87 : HS 87 = (10, 16) := rfl
theorem hs_88 : HS 88 = (10, 5) := rfl
theorem hs_89 : HS 89 = (9, 10) := rfl
theorem hs_90 : HS 90 = (1, 3) := rfl
theorem rf_90_1 : RF 90 1 = some 91 := rfl
theorem rf_90_2 : RF 90 2 = some 94 := rfl
theorem hs_91 : HS 91 = (4, 6) := rfl
theorem rf_91_0 : RF 91 0 = some 92 := rfl
theorem rf_91_1 : RF 91 1 = some 93 := rfl
theorem hs_92 : HS 92 = (10, 16) := rfl
theorem hs_93 : HS 93 = (10, 5) := rfl
theorem hs_94 : HS 94 = (9, 10) := rfl
theorem hs_95 : HS 95 = (1, 3) := rfl
theorem rf_95_1 : RF 95 1 = some 96 := rfl
theorem rf_95_2 : RF 95 2 = some 99 := rfl
theorem hs_96 : HS 96 = (4, 6) := rfl
theorem rf_96_0 : RF 96 0 = some 97 := rfl
theorem rf_96_1 : RF 96 1 = some 98 := rfl
theorem hs_97 : HS 97 = (10, 16) := rfl
theorem hs_98 : HS 98 = (10, 5) := rfl
theorem hs_99 : HS 99 = (9, 10) := rfl
theorem hs_100 : HS 100 = (1, 3) := rfl
theorem rf_100_1 : RF 100 1 = some 101 := rfl
theorem rf_100_2 : RF 100 2 = some 104 := rfl
theorem hs_101 : HS 101 = (4, 6) := rfl
theorem rf_101_0 : RF 101 0 = some 102 := rfl
theorem rf_101_1 : RF 101 1 = some 103 := rfl
theorem hs_102 : HS 102 = (10, 16) := rfl
theorem hs_103 : HS 103 = (10, 5) := rfl
theorem hs_104 : HS 104 = (9, 10) := rfl
theorem hs_105 : HS 105 = (1, 3) := rfl
theorem rf_105_1 : RF 105 1 = some 106 := rfl
theorem rf_105_2 : RF 105 2 = some 109 := rfl
theorem hs_106 : HS 106 = (4, 6) := rfl
theorem rf_106_0 : RF 106 0 = some 107 := rfl
theorem rf_106_1 : RF 106 1 = some 108 := rfl
theorem hs_107 : HS 107 = (10, 16) := rfl
theorem hs_108 : HS 108 = (10, 5) := rfl
theorem hs_109 : HS 109 = (9, 10) := rfl
theorem hs_110 : HS 110 = (1, 3) := rfl
theorem rf_110_1 : RF 110 1 = some 111 := rfl
theorem rf_110_2 : RF 110 2 = some 114 := rfl
theorem hs_111 : HS 111 = (4, 6) := rfl
theorem rf_111_0 : RF 111 0 = some 112 := rfl
theorem rf_111_1 : RF 111 1 = some 113 := rfl
theorem hs_112 : HS 112 = (10, 16) := rfl
theorem hs_113 : HS 113 = (10, 5) := rfl
theorem hs_114 : HS 114 = (9, 10) := rfl
theorem hs_115 : HS 115 = (8, 48) := rfl
theorem rf_115_1 : RF 115 1 = some 116 := rfl
theorem rf_115_5 : RF 115 5 = some 117 := rfl
theorem rf_115_6 : RF 115 6 = some 118 := rfl
theorem rf_115_7 : RF 115 7 = some 119 := rfl
theorem rf_115_8 : RF 115 8 = some 120 := rfl
theorem rf_115_11 : RF 115 11 = some 121 := rfl
theorem rf_115_12 : RF 115 12 = some 122 := rfl
theorem rf_115_13 : RF 115 13 = some 123 := rfl
theorem rf_115_14 : RF 115 14 = some 124 := rfl
theorem rf_115_15 : RF 115 15 = some 125 := rfl
theorem rf_115_16 : RF 115 16 = some 126 := rfl
theorem rf_115_17 : RF 115 17 = some 127 := rfl
theorem rf_115_19 : RF 115 19 = some 128 := rfl
theorem rf_115_20 : RF 115 20 = some 129 := rfl
theorem rf_115_21 : RF 115 21 = some 130 := rfl
theorem rf_115_22 : RF 115 22 = some 131 := rfl
theorem rf_115_23 : RF 115 23 = some 132 := rfl
theorem rf_115_24 : RF 115 24 = some 133 := rfl
theorem rf_115_25 : RF 115 25 = some 134 := rfl
theorem rf_115_27 : RF 115 27 = some 135 := rfl
theorem rf_115_28 : RF 115 28 = some 136 := rfl
theorem rf_115_29 : RF 115 29 = some 137 := rfl
theorem rf_115_30 : RF 115 30 = some 138 := rfl
theorem rf_115_32 : RF 115 32 = some 139 := rfl
theorem rf_115_33 : RF 115 33 = some 140 := rfl
theorem rf_115_34 : RF 115 34 = some 141 := rfl
theorem rf_115_37 : RF 115 37 = some 142 := rfl
theorem rf_115_40 : RF 115 40 = some 143 := rfl
theorem rf_115_41 : RF 115 41 = some 144 := rfl
theorem rf_115_42 : RF 115 42 = some 145 := rfl
theorem rf_115_43 : RF 115 43 = some 146 := rfl
theorem rf_115_44 : RF 115 44 = some 147 := rfl
theorem rf_115_46 : RF 115 46 = some 148 := rfl
theorem hs_116 : HS 116 = (9, 6) := rfl
theorem hs_117 : HS 117 = (9, 8) := rfl
theorem hs_118 : HS 118 = (9, 128) := rfl
theorem hs_119 : HS 119 = (9, 16) := rfl
theorem hs_120 : HS 120 = (10, 16) := rfl
theorem hs_121 : HS 121 = (9, 5) := rfl
theorem hs_122 : HS 122 = (11, 12) := rfl
theorem hs_123 : HS 123 = (9, 192) := rfl
theorem hs_124 : HS 124 = (9, 120) := rfl
theorem hs_125 : HS 125 = (9, 16) := rfl
theorem hs_126 : HS 126 = (9, 4) := rfl
theorem hs_127 : HS 127 = (9, 4) := rfl
theorem hs_128 : HS 128 = (9, 3) := rfl
theorem hs_129 : HS 129 = (9, 12) := rfl
theorem hs_130 : HS 130 = (9, 4) := rfl
theorem hs_131 : HS 131 = (9, 4) := rfl
theorem hs_132 : HS 132 = (10, 5) := rfl
theorem hs_133 : HS 133 = (9, 16) := rfl
theorem hs_134 : HS 134 = (9, 16) := rfl
theorem hs_135 : HS 135 = (10, 5) := rfl
theorem hs_136 : HS 136 = (10, 8) := rfl
theorem hs_137 : HS 137 = (10, 8) := rfl
theorem hs_138 : HS 138 = (10, 8) := rfl
theorem hs_139 : HS 139 = (10, 4) := rfl
theorem hs_140 : HS 140 = (10, 4) := rfl
theorem hs_141 : HS 141 = (9, 4) := rfl
theorem hs_142 : HS 142 = (10, 5) := rfl
theorem hs_143 : HS 143 = (9, 4) := rfl
theorem hs_144 : HS 144 = (9, 4) := rfl
theorem hs_145 : HS 145 = (9, 4) := rfl
theorem hs_146 : HS 146 = (9, 257) := rfl
theorem hs_147 : HS 147 = (9, 257) := rfl
theorem hs_148 : HS 148 = (9, 300) := rfl
theorem hs_sheet : ∀ s, s < 8 → HS (39 + 2 * s) = (3, 2) ∧ HS (40 + 2 * s) = (9, 16) ∧ RF (39 + 2 * s) 0 = some (40 + 2 * s) ∧ RF 4 s = some (39 + 2 * s) := by decide +kernel
theorem hs_ground : ∀ q, q < 12 → HS (55 + 5 * q) = (1, 3) ∧ HS (56 + 5 * q) = (4, 6) ∧ HS (57 + 5 * q) = (10, 16) ∧ HS (58 + 5 * q) = (10, 5) ∧ HS (59 + 5 * q) = (9, 10) ∧ RF (55 + 5 * q) 1 = some (56 + 5 * q) ∧ RF (55 + 5 * q) 2 = some (59 + 5 * q) ∧ RF (56 + 5 * q) 0 = some (57 + 5 * q) ∧ RF (56 + 5 * q) 1 = some (58 + 5 * q) ∧ RF 5 q = some (55 + 5 * q) := by decide +kernel
theorem ki_m1 : Int32.ofInt (-1) = (-1) := by decide
theorem ki_0 : Int32.ofInt 0 = 0 := by decide
theorem ki_1 : Int32.ofInt 1 = 1 := by decide
theorem ki_2 : Int32.ofInt 2 = 2 := by decide
theorem ki_3 : Int32.ofInt 3 = 3 := by decide
theorem ki_4 : Int32.ofInt 4 = 4 := by decide
theorem ki_5 : Int32.ofInt 5 = 5 := by decide
theorem kb_m100 : (Int8.ofInt (-100)).toInt32 = (-100) := by decide
theorem kb_m64 : (Int8.ofInt (-64)).toInt32 = (-64) := by decide
theorem kb_m30 : (Int8.ofInt (-30)).toInt32 = (-30) := by decide
theorem kb_m9 : (Int8.ofInt (-9)).toInt32 = (-9) := by decide
theorem kb_m6 : (Int8.ofInt (-6)).toInt32 = (-6) := by decide
theorem kb_m4 : (Int8.ofInt (-4)).toInt32 = (-4) := by decide
theorem kb_m3 : (Int8.ofInt (-3)).toInt32 = (-3) := by decide
theorem kb_m2 : (Int8.ofInt (-2)).toInt32 = (-2) := by decide
theorem kb_6 : (Int8.ofInt 6).toInt32 = 6 := by decide
theorem kb_7 : (Int8.ofInt 7).toInt32 = 7 := by decide
theorem kb_8 : (Int8.ofInt 8).toInt32 = 8 := by decide
theorem kb_9 : (Int8.ofInt 9).toInt32 = 9 := by decide
theorem kb_10 : (Int8.ofInt 10).toInt32 = 10 := by decide
theorem kb_11 : (Int8.ofInt 11).toInt32 = 11 := by decide
theorem kb_12 : (Int8.ofInt 12).toInt32 = 12 := by decide
theorem kb_13 : (Int8.ofInt 13).toInt32 = 13 := by decide
theorem kb_15 : (Int8.ofInt 15).toInt32 = 15 := by decide
theorem kb_16 : (Int8.ofInt 16).toInt32 = 16 := by decide
theorem kb_20 : (Int8.ofInt 20).toInt32 = 20 := by decide
theorem kb_22 : (Int8.ofInt 22).toInt32 = 22 := by decide
theorem kb_25 : (Int8.ofInt 25).toInt32 = 25 := by decide
theorem kb_30 : (Int8.ofInt 30).toInt32 = 30 := by decide
theorem kb_31 : (Int8.ofInt 31).toInt32 = 31 := by decide
theorem kb_55 : (Int8.ofInt 55).toInt32 = 55 := by decide
theorem kb_60 : (Int8.ofInt 60).toInt32 = 60 := by decide
theorem kb_63 : (Int8.ofInt 63).toInt32 = 63 := by decide
theorem kb_64 : (Int8.ofInt 64).toInt32 = 64 := by decide
theorem kb_100 : (Int8.ofInt 100).toInt32 = 100 := by decide
theorem kb_112 : (Int8.ofInt 112).toInt32 = 112 := by decide
theorem kb_115 : (Int8.ofInt 115).toInt32 = 115 := by decide
theorem kb_120 : (Int8.ofInt 120).toInt32 = 120 := by decide
theorem kb_121 : (Int8.ofInt 121).toInt32 = 121 := by decide
theorem ks_128 : (Int16.ofInt 128).toInt32 = 128 := by decide
theorem ks_192 : (Int16.ofInt 192).toInt32 = 192 := by decide
theorem ks_211 : (Int16.ofInt 211).toInt32 = 211 := by decide
theorem ks_256 : (Int16.ofInt 256).toInt32 = 256 := by decide
theorem ks_257 : (Int16.ofInt 257).toInt32 = 257 := by decide
theorem ks_300 : (Int16.ofInt 300).toInt32 = 300 := by decide
theorem ks_1000 : (Int16.ofInt 1000).toInt32 = 1000 := by decide
theorem ks_1111 : (Int16.ofInt 1111).toInt32 = 1111 := by decide
theorem kl_0 : Int64.ofNat ((0 : Fin 2) : Nat) = 0 := by decide
theorem kl_1 : Int64.ofNat ((1 : Fin 2) : Nat) = 1 := by decide
