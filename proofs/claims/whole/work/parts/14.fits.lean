theorem gL_0 : gm_L 0 = 2 := rfl
theorem gL_1 : gm_L 1 = 1 := rfl
theorem gL_2 : gm_L 2 = 2 := rfl
theorem gL_3 : gm_L 3 = 2 := rfl
theorem gL_4 : gm_L 4 = 2 := rfl
theorem gL_5 : gm_L 5 = 4 := rfl
theorem gL_6 : gm_L 6 = 5 := rfl
theorem gL_7 : gm_L 7 = 3 := rfl
theorem gL_8 : gm_L 8 = 3 := rfl
theorem gL_9 : gm_L 9 = 4 := rfl
theorem gL_10 : gm_L 10 = 5 := rfl
theorem gL_11 : gm_L 11 = 8 := rfl
theorem gL_12 : gm_L 12 = 1 := rfl
theorem gL_13 : gm_L 13 = 1 := rfl
theorem gL_14 : gm_L 14 = 2 := rfl
theorem gL_15 : gm_L 15 = 2 := rfl
theorem gL_16 : gm_L 16 = 3 := rfl
theorem gL_17 : gm_L 17 = 6 := rfl
theorem gL_18 : gm_L 18 = 7 := rfl
theorem gL_19 : gm_L 19 = 11 := rfl
theorem gL_20 : gm_L 20 = 3 := rfl
theorem gL_21 : gm_L 21 = 4 := rfl
theorem gL_22 : gm_L 22 = 2 := rfl
theorem gL_23 : gm_L 23 = 1 := rfl
theorem gL_24 : gm_L 24 = 4 := rfl
theorem gL_25 : gm_L 25 = 5 := rfl
theorem gL_26 : gm_L 26 = 5 := rfl
theorem gL_27 : gm_L 27 = 2 := rfl
theorem gL_28 : gm_L 28 = 2 := rfl
theorem gL_29 : gm_L 29 = 3 := rfl
theorem gL_30 : gm_L 30 = 3 := rfl
theorem gL_31 : gm_L 31 = 1 := rfl
theorem gL_32 : gm_L 32 = 4 := rfl
theorem gL_33 : gm_L 33 = 1 := rfl
theorem gL_34 : gm_L 34 = 2 := rfl
theorem gL_35 : gm_L 35 = 4 := rfl
theorem gL_36 : gm_L 36 = 4 := rfl
theorem gL_37 : gm_L 37 = 1 := rfl
theorem gL_38 : gm_L 38 = 2 := rfl
theorem gL_39 : gm_L 39 = 2 := rfl
theorem gL_40 : gm_L 40 = 2 := rfl
theorem gL_41 : gm_L 41 = 2 := rfl
theorem gL_42 : gm_L 42 = 3 := rfl
theorem gL_43 : gm_L 43 = 2 := rfl
theorem gL_44 : gm_L 44 = 4 := rfl
theorem gL_45 : gm_L 45 = 2 := rfl
theorem gL_46 : gm_L 46 = 3 := rfl
theorem gL_47 : gm_L 47 = 4 := rfl
theorem gL_48 : gm_L 48 = 1 := rfl
theorem gL_49 : gm_L 49 = 2 := rfl
theorem gL_50 : gm_L 50 = 3 := rfl
theorem gL_51 : gm_L 51 = 1 := rfl
theorem gL_52 : gm_L 52 = 4 := rfl
theorem gL_53 : gm_L 53 = 6 := rfl
theorem gL_54 : gm_L 54 = 6 := rfl
theorem gL_55 : gm_L 55 = 6 := rfl
theorem gL_56 : gm_L 56 = 3 := rfl
theorem gL_57 : gm_L 57 = 8 := rfl
theorem gL_58 : gm_L 58 = 1 := rfl
theorem gL_59 : gm_L 59 = 2 := rfl
theorem gL_60 : gm_L 60 = 2 := rfl
theorem gL_61 : gm_L 61 = 1 := rfl
theorem gL_62 : gm_L 62 = 2 := rfl
theorem gL_63 : gm_L 63 = 1 := rfl
theorem gL_64 : gm_L 64 = 2 := rfl
theorem gL_65 : gm_L 65 = 2 := rfl
theorem gL_66 : gm_L 66 = 1 := rfl
theorem gL_67 : gm_L 67 = 1 := rfl
theorem gL_68 : gm_L 68 = 2 := rfl
theorem gL_69 : gm_L 69 = 2 := rfl
theorem gL_70 : gm_L 70 = 3 := rfl
theorem gL_71 : gm_L 71 = 1 := rfl
theorem gL_72 : gm_L 72 = 2 := rfl
theorem gL_73 : gm_L 73 = 2 := rfl
theorem gL_74 : gm_L 74 = 1 := rfl
theorem gL_75 : gm_L 75 = 2 := rfl
theorem gL_76 : gm_L 76 = 2 := rfl
theorem gL_77 : gm_L 77 = 4 := rfl
theorem gL_78 : gm_L 78 = 3 := rfl
theorem gL_79 : gm_L 79 = 4 := rfl
theorem gL_80 : gm_L 80 = 2 := rfl
theorem gL_81 : gm_L 81 = 2 := rfl
theorem gL_82 : gm_L 82 = 4 := rfl
theorem gL_83 : gm_L 83 = 2 := rfl
theorem gL_84 : gm_L 84 = 2 := rfl
theorem gL_85 : gm_L 85 = 4 := rfl
theorem gL_86 : gm_L 86 = 5 := rfl
theorem gL_87 : gm_L 87 = 3 := rfl
theorem gL_88 : gm_L 88 = 5 := rfl
theorem gL_89 : gm_L 89 = 4 := rfl
theorem gL_90 : gm_L 90 = 2 := rfl
theorem gL_91 : gm_L 91 = 2 := rfl
theorem gL_92 : gm_L 92 = 2 := rfl
theorem gL_93 : gm_L 93 = 1 := rfl
theorem gL_94 : gm_L 94 = 1 := rfl
theorem gL_95 : gm_L 95 = 1 := rfl
theorem gL_96 : gm_L 96 = 2 := rfl
theorem gL_97 : gm_L 97 = 1 := rfl
theorem gL_98 : gm_L 98 = 2 := rfl
theorem gL_99 : gm_L 99 = 4 := rfl
theorem gL_100 : gm_L 100 = 5 := rfl
theorem gL_101 : gm_L 101 = 3 := rfl
theorem gL_102 : gm_L 102 = 11 := rfl
theorem gL_103 : gm_L 103 = 5 := rfl
theorem gL_104 : gm_L 104 = 7 := rfl
theorem gL_105 : gm_L 105 = 7 := rfl
theorem gL_106 : gm_L 106 = 1 := rfl
theorem gL_107 : gm_L 107 = 6 := rfl
theorem gL_108 : gm_L 108 = 2 := rfl
theorem gL_109 : gm_L 109 = 3 := rfl
theorem gL_110 : gm_L 110 = 2 := rfl
theorem gL_111 : gm_L 111 = 2 := rfl
theorem gL_112 : gm_L 112 = 4 := rfl
theorem gL_113 : gm_L 113 = 1 := rfl
theorem gL_114 : gm_L 114 = 1 := rfl
theorem gL_115 : gm_L 115 = 2 := rfl
theorem gL_116 : gm_L 116 = 1 := rfl
theorem gL_117 : gm_L 117 = 2 := rfl
theorem gL_118 : gm_L 118 = 2 := rfl
theorem gL_119 : gm_L 119 = 2 := rfl
theorem gL_120 : gm_L 120 = 2 := rfl
theorem gL_121 : gm_L 121 = 3 := rfl
theorem gL_122 : gm_L 122 = 4 := rfl
theorem gL_123 : gm_L 123 = 3 := rfl
theorem gL_124 : gm_L 124 = 1 := rfl
theorem gL_125 : gm_L 125 = 7 := rfl
theorem gL_126 : gm_L 126 = 5 := rfl
theorem gL_127 : gm_L 127 = 8 := rfl
theorem gL_128 : gm_L 128 = 2 := rfl
theorem gL_129 : gm_L 129 = 4 := rfl
theorem gL_130 : gm_L 130 = 2 := rfl
theorem gL_131 : gm_L 131 = 2 := rfl
theorem gL_132 : gm_L 132 = 2 := rfl
theorem gL_133 : gm_L 133 = 2 := rfl
theorem gL_134 : gm_L 134 = 4 := rfl
theorem gL_135 : gm_L 135 = 1 := rfl
theorem gL_136 : gm_L 136 = 2 := rfl
theorem gL_137 : gm_L 137 = 6 := rfl
theorem gL_138 : gm_L 138 = 3 := rfl
theorem gL_139 : gm_L 139 = 5 := rfl
theorem gL_140 : gm_L 140 = 3 := rfl
theorem gL_141 : gm_L 141 = 10 := rfl
theorem gL_142 : gm_L 142 = 7 := rfl
theorem gL_143 : gm_L 143 = 3 := rfl
theorem gL_144 : gm_L 144 = 5 := rfl
theorem gL_145 : gm_L 145 = 2 := rfl
theorem gL_146 : gm_L 146 = 4 := rfl
theorem gL_147 : gm_L 147 = 4 := rfl
theorem gL_148 : gm_L 148 = 2 := rfl
theorem gL_149 : gm_L 149 = 6 := rfl
theorem gL_150 : gm_L 150 = 6 := rfl
theorem gL_151 : gm_L 151 = 13 := rfl
theorem gL_152 : gm_L 152 = 8 := rfl
theorem gL_153 : gm_L 153 = 9 := rfl
theorem gL_154 : gm_L 154 = 10 := rfl
theorem gL_155 : gm_L 155 = 2 := rfl
theorem gL_156 : gm_L 156 = 5 := rfl
theorem gL_157 : gm_L 157 = 6 := rfl
theorem gL_158 : gm_L 158 = 5 := rfl
theorem gL_159 : gm_L 159 = 4 := rfl
theorem gL_160 : gm_L 160 = 3 := rfl
theorem gL_161 : gm_L 161 = 3 := rfl
theorem gL_162 : gm_L 162 = 2 := rfl
theorem gL_163 : gm_L 163 = 1 := rfl
theorem gL_164 : gm_L 164 = 4 := rfl
theorem gq_2_15 : gw_fit 2 15 0 0 := by unfold gw_fit; decide +kernel
theorem gq_3_15 : gw_fit 3 15 0 0 := by unfold gw_fit; decide +kernel
theorem gq_5_7 : gw_fit 5 7 0 0 := by unfold gw_fit; decide +kernel
theorem gq_5_51 : gw_fit 5 51 0 0 := by unfold gw_fit; decide +kernel
theorem gq_5_52 : gw_fit 5 52 0 0 := by unfold gw_fit; decide +kernel
theorem gq_5_53 : gw_fit 5 53 0 0 := by unfold gw_fit; decide +kernel
theorem gq_5_58 : gw_fit 5 58 0 0 := by unfold gw_fit; decide +kernel
theorem gq_6_7 : gw_fit 6 7 0 0 := by unfold gw_fit; decide +kernel
theorem gq_6_51 : gw_fit 6 51 0 0 := by unfold gw_fit; decide +kernel
theorem gq_6_52 : gw_fit 6 52 0 0 := by unfold gw_fit; decide +kernel
theorem gq_6_53 : gw_fit 6 53 0 0 := by unfold gw_fit; decide +kernel
theorem gq_6_61 : gw_fit 6 61 0 0 := by unfold gw_fit; decide +kernel
theorem gq_7_163 : gw_fit 7 163 0 0 := by unfold gw_fit; decide +kernel
theorem gq_9_10 : gw_fit 9 10 0 0 := by unfold gw_fit; decide +kernel
theorem gq_9_51 : gw_fit 9 51 0 0 := by unfold gw_fit; decide +kernel
theorem gq_9_52 : gw_fit 9 52 0 0 := by unfold gw_fit; decide +kernel
theorem gq_9_53 : gw_fit 9 53 0 0 := by unfold gw_fit; decide +kernel
theorem gq_10_60 : gw_fit 10 60 0 0 := by unfold gw_fit; decide +kernel
theorem gq_10_163 : gw_fit 10 163 0 0 := by unfold gw_fit; decide +kernel
theorem gq_11_96 : gw_fit 11 96 0 0 := by unfold gw_fit; decide +kernel
theorem gq_11_163 : gw_fit 11 163 0 0 := by unfold gw_fit; decide +kernel
theorem gq_13_14 : gw_fit 13 14 0 0 := by unfold gw_fit; decide +kernel
theorem gq_17_18 : gw_fit 17 18 0 0 := by unfold gw_fit; decide +kernel
theorem gq_17_19 : gw_fit 17 19 0 0 := by unfold gw_fit; decide +kernel
theorem gq_17_20 : gw_fit 17 20 0 0 := by unfold gw_fit; decide +kernel
theorem gq_18_50 : gw_fit 18 50 0 0 := by unfold gw_fit; decide +kernel
theorem gq_18_53 : gw_fit 18 53 0 0 := by unfold gw_fit; decide +kernel
theorem gq_19_36 : gw_fit 19 36 0 0 := by unfold gw_fit; decide +kernel
theorem gq_20_21 : gw_fit 20 21 0 0 := by unfold gw_fit; decide +kernel
theorem gq_20_22 : gw_fit 20 22 0 0 := by unfold gw_fit; decide +kernel
theorem gq_25_26 : gw_fit 25 26 0 0 := by unfold gw_fit; decide +kernel
theorem gq_25_51 : gw_fit 25 51 0 0 := by unfold gw_fit; decide +kernel
theorem gq_25_52 : gw_fit 25 52 0 0 := by unfold gw_fit; decide +kernel
theorem gq_25_53 : gw_fit 25 53 0 0 := by unfold gw_fit; decide +kernel
theorem gq_26_96 : gw_fit 26 96 0 0 := by unfold gw_fit; decide +kernel
theorem gq_29_15 : gw_fit 29 15 0 0 := by unfold gw_fit; decide +kernel
theorem gq_30_15 : gw_fit 30 15 0 0 := by unfold gw_fit; decide +kernel
theorem gq_32_33 : gw_fit 32 33 0 0 := by unfold gw_fit; decide +kernel
theorem gq_32_39 : gw_fit 32 39 0 0 := by unfold gw_fit; decide +kernel
theorem gq_32_40 : gw_fit 32 40 0 0 := by unfold gw_fit; decide +kernel
theorem gq_32_41 : gw_fit 32 41 0 0 := by unfold gw_fit; decide +kernel
theorem gq_40_39 : gw_fit 40 39 0 0 := by unfold gw_fit; decide +kernel
theorem gq_41_39 : gw_fit 41 39 0 0 := by unfold gw_fit; decide +kernel
theorem gq_41_48 : gw_fit 41 48 0 0 := by unfold gw_fit; decide +kernel
theorem gq_42_41 : gw_fit 42 41 0 0 := by unfold gw_fit; decide +kernel
theorem gq_42_43 : gw_fit 42 43 0 0 := by unfold gw_fit; decide +kernel
theorem gq_42_44 : gw_fit 42 44 0 0 := by unfold gw_fit; decide +kernel
theorem gq_44_45 : gw_fit 44 45 0 0 := by unfold gw_fit; decide +kernel
theorem gq_44_46 : gw_fit 44 46 0 0 := by unfold gw_fit; decide +kernel
theorem gq_45_39 : gw_fit 45 39 0 0 := by unfold gw_fit; decide +kernel
theorem gq_45_47 : gw_fit 45 47 0 0 := by unfold gw_fit; decide +kernel
theorem gq_46_39 : gw_fit 46 39 0 0 := by unfold gw_fit; decide +kernel
theorem gq_46_47 : gw_fit 46 47 0 0 := by unfold gw_fit; decide +kernel
theorem gq_47_40 : gw_fit 47 40 0 0 := by unfold gw_fit; decide +kernel
theorem gq_52_96 : gw_fit 52 96 0 0 := by unfold gw_fit; decide +kernel
theorem gq_53_54 : gw_fit 53 54 0 0 := by unfold gw_fit; decide +kernel
theorem gq_53_96 : gw_fit 53 96 0 0 := by unfold gw_fit; decide +kernel
theorem gq_54_55 : gw_fit 54 55 0 0 := by unfold gw_fit; decide +kernel
theorem gq_54_56 : gw_fit 54 56 0 0 := by unfold gw_fit; decide +kernel
theorem gq_54_57 : gw_fit 54 57 0 0 := by unfold gw_fit; decide +kernel
theorem gq_54_96 : gw_fit 54 96 0 0 := by unfold gw_fit; decide +kernel
theorem gq_56_96 : gw_fit 56 96 0 0 := by unfold gw_fit; decide +kernel
theorem gq_57_35 : gw_fit 57 35 0 0 := by unfold gw_fit; decide +kernel
theorem gq_57_36 : gw_fit 57 36 0 0 := by unfold gw_fit; decide +kernel
theorem gq_57_96 : gw_fit 57 96 0 0 := by unfold gw_fit; decide +kernel
theorem gq_64_38 : gw_fit 64 38 0 0 := by unfold gw_fit; decide +kernel
theorem gq_66_42 : gw_fit 66 42 0 0 := by unfold gw_fit; decide +kernel
theorem gq_67_1 : gw_fit 67 1 0 0 := by unfold gw_fit; decide +kernel
theorem gq_67_13 : gw_fit 67 13 0 0 := by unfold gw_fit; decide +kernel
theorem gq_67_28 : gw_fit 67 28 0 0 := by unfold gw_fit; decide +kernel
theorem gq_67_32 : gw_fit 67 32 0 0 := by unfold gw_fit; decide +kernel
theorem gq_67_42 : gw_fit 67 42 0 0 := by unfold gw_fit; decide +kernel
theorem gq_68_93 : gw_fit 68 93 0 0 := by unfold gw_fit; decide +kernel
theorem gq_70_34 : gw_fit 70 34 0 0 := by unfold gw_fit; decide +kernel
theorem gq_70_35 : gw_fit 70 35 0 0 := by unfold gw_fit; decide +kernel
theorem gq_70_96 : gw_fit 70 96 0 0 := by unfold gw_fit; decide +kernel
theorem gq_72_2 : gw_fit 72 2 0 0 := by unfold gw_fit; decide +kernel
theorem gq_72_50 : gw_fit 72 50 0 0 := by unfold gw_fit; decide +kernel
theorem gq_72_53 : gw_fit 72 53 0 0 := by unfold gw_fit; decide +kernel
theorem gq_72_62 : gw_fit 72 62 0 0 := by unfold gw_fit; decide +kernel
theorem gq_72_97 : gw_fit 72 97 0 0 := by unfold gw_fit; decide +kernel
theorem gq_73_2 : gw_fit 73 2 0 0 := by unfold gw_fit; decide +kernel
theorem gq_73_93 : gw_fit 73 93 0 0 := by unfold gw_fit; decide +kernel
theorem gq_73_96 : gw_fit 73 96 0 0 := by unfold gw_fit; decide +kernel
theorem gq_73_97 : gw_fit 73 97 0 0 := by unfold gw_fit; decide +kernel
theorem gq_74_3 : gw_fit 74 3 0 0 := by unfold gw_fit; decide +kernel
theorem gq_75_58 : gw_fit 75 58 0 0 := by unfold gw_fit; decide +kernel
theorem gq_75_94 : gw_fit 75 94 0 0 := by unfold gw_fit; decide +kernel
theorem gq_75_98 : gw_fit 75 98 0 0 := by unfold gw_fit; decide +kernel
theorem gq_76_5 : gw_fit 76 5 0 0 := by unfold gw_fit; decide +kernel
theorem gq_76_50 : gw_fit 76 50 0 0 := by unfold gw_fit; decide +kernel
theorem gq_77_5 : gw_fit 77 5 0 0 := by unfold gw_fit; decide +kernel
theorem gq_77_15 : gw_fit 77 15 0 0 := by unfold gw_fit; decide +kernel
theorem gq_77_50 : gw_fit 77 50 0 0 := by unfold gw_fit; decide +kernel
theorem gq_77_76 : gw_fit 77 76 0 0 := by unfold gw_fit; decide +kernel
theorem gq_78_9 : gw_fit 78 9 0 0 := by unfold gw_fit; decide +kernel
theorem gq_78_11 : gw_fit 78 11 0 0 := by unfold gw_fit; decide +kernel
theorem gq_78_34 : gw_fit 78 34 0 0 := by unfold gw_fit; decide +kernel
theorem gq_78_50 : gw_fit 78 50 0 0 := by unfold gw_fit; decide +kernel
theorem gq_78_104 : gw_fit 78 104 0 0 := by unfold gw_fit; decide +kernel
theorem gq_79_59 : gw_fit 79 59 0 0 := by unfold gw_fit; decide +kernel
theorem gq_79_98 : gw_fit 79 98 0 0 := by unfold gw_fit; decide +kernel
theorem gq_79_99 : gw_fit 79 99 0 0 := by unfold gw_fit; decide +kernel
theorem gq_79_100 : gw_fit 79 100 0 0 := by unfold gw_fit; decide +kernel
theorem gq_80_61 : gw_fit 80 61 0 0 := by unfold gw_fit; decide +kernel
theorem gq_80_94 : gw_fit 80 94 0 0 := by unfold gw_fit; decide +kernel
theorem gq_80_98 : gw_fit 80 98 0 0 := by unfold gw_fit; decide +kernel
theorem gq_81_6 : gw_fit 81 6 0 0 := by unfold gw_fit; decide +kernel
theorem gq_81_50 : gw_fit 81 50 0 0 := by unfold gw_fit; decide +kernel
theorem gq_82_24 : gw_fit 82 24 0 0 := by unfold gw_fit; decide +kernel
theorem gq_82_34 : gw_fit 82 34 0 0 := by unfold gw_fit; decide +kernel
theorem gq_84_13 : gw_fit 84 13 0 0 := by unfold gw_fit; decide +kernel
theorem gq_84_25 : gw_fit 84 25 0 0 := by unfold gw_fit; decide +kernel
theorem gq_84_50 : gw_fit 84 50 0 0 := by unfold gw_fit; decide +kernel
theorem gq_85_94 : gw_fit 85 94 0 0 := by unfold gw_fit; decide +kernel
theorem gq_85_95 : gw_fit 85 95 0 0 := by unfold gw_fit; decide +kernel
theorem gq_85_97 : gw_fit 85 97 0 0 := by unfold gw_fit; decide +kernel
theorem gq_85_102 : gw_fit 85 102 0 0 := by unfold gw_fit; decide +kernel
theorem gq_85_103 : gw_fit 85 103 0 0 := by unfold gw_fit; decide +kernel
theorem gq_85_104 : gw_fit 85 104 0 0 := by unfold gw_fit; decide +kernel
theorem gq_86_34 : gw_fit 86 34 0 0 := by unfold gw_fit; decide +kernel
theorem gq_86_94 : gw_fit 86 94 0 0 := by unfold gw_fit; decide +kernel
theorem gq_86_95 : gw_fit 86 95 0 0 := by unfold gw_fit; decide +kernel
theorem gq_86_97 : gw_fit 86 97 0 0 := by unfold gw_fit; decide +kernel
theorem gq_86_102 : gw_fit 86 102 0 0 := by unfold gw_fit; decide +kernel
theorem gq_86_103 : gw_fit 86 103 0 0 := by unfold gw_fit; decide +kernel
theorem gq_86_104 : gw_fit 86 104 0 0 := by unfold gw_fit; decide +kernel
theorem gq_87_14 : gw_fit 87 14 0 0 := by unfold gw_fit; decide +kernel
theorem gq_87_15 : gw_fit 87 15 0 0 := by unfold gw_fit; decide +kernel
theorem gq_87_17 : gw_fit 87 17 0 0 := by unfold gw_fit; decide +kernel
theorem gq_87_93 : gw_fit 87 93 0 0 := by unfold gw_fit; decide +kernel
theorem gq_89_58 : gw_fit 89 58 0 0 := by unfold gw_fit; decide +kernel
theorem gq_89_98 : gw_fit 89 98 0 0 := by unfold gw_fit; decide +kernel
theorem gq_89_101 : gw_fit 89 101 0 0 := by unfold gw_fit; decide +kernel
theorem gq_90_29 : gw_fit 90 29 0 0 := by unfold gw_fit; decide +kernel
theorem gq_91_1 : gw_fit 91 1 0 0 := by unfold gw_fit; decide +kernel
theorem gq_91_30 : gw_fit 91 30 0 0 := by unfold gw_fit; decide +kernel
theorem gq_92_35 : gw_fit 92 35 0 0 := by unfold gw_fit; decide +kernel
theorem gq_98_50 : gw_fit 98 50 0 0 := by unfold gw_fit; decide +kernel
theorem gq_98_53 : gw_fit 98 53 0 0 := by unfold gw_fit; decide +kernel
theorem gq_100_99 : gw_fit 100 99 0 0 := by unfold gw_fit; decide +kernel
theorem gq_102_50 : gw_fit 102 50 0 0 := by unfold gw_fit; decide +kernel
theorem gq_102_51 : gw_fit 102 51 0 0 := by unfold gw_fit; decide +kernel
theorem gq_102_52 : gw_fit 102 52 0 0 := by unfold gw_fit; decide +kernel
theorem gq_102_53 : gw_fit 102 53 0 0 := by unfold gw_fit; decide +kernel
theorem gq_102_58 : gw_fit 102 58 0 0 := by unfold gw_fit; decide +kernel
theorem gq_102_60 : gw_fit 102 60 0 0 := by unfold gw_fit; decide +kernel
theorem gq_102_103 : gw_fit 102 103 0 0 := by unfold gw_fit; decide +kernel
theorem gq_102_163 : gw_fit 102 163 0 0 := by unfold gw_fit; decide +kernel
theorem gq_104_105 : gw_fit 104 105 0 0 := by unfold gw_fit; decide +kernel
theorem gq_110_107 : gw_fit 110 107 0 0 := by unfold gw_fit; decide +kernel
theorem gq_112_107 : gw_fit 112 107 0 0 := by unfold gw_fit; decide +kernel
theorem gq_114_112 : gw_fit 114 112 0 0 := by unfold gw_fit; decide +kernel
theorem gq_114_113 : gw_fit 114 113 0 0 := by unfold gw_fit; decide +kernel
theorem gq_114_115 : gw_fit 114 115 0 0 := by unfold gw_fit; decide +kernel
theorem gq_115_112 : gw_fit 115 112 0 0 := by unfold gw_fit; decide +kernel
theorem gq_116_114 : gw_fit 116 114 0 0 := by unfold gw_fit; decide +kernel
theorem gq_117_114 : gw_fit 117 114 0 0 := by unfold gw_fit; decide +kernel
theorem gq_118_107 : gw_fit 118 107 0 0 := by unfold gw_fit; decide +kernel
theorem gq_119_107 : gw_fit 119 107 0 0 := by unfold gw_fit; decide +kernel
theorem gq_120_107 : gw_fit 120 107 0 0 := by unfold gw_fit; decide +kernel
theorem gq_122_121 : gw_fit 122 121 0 0 := by unfold gw_fit; decide +kernel
theorem gq_123_107 : gw_fit 123 107 0 0 := by unfold gw_fit; decide +kernel
theorem gq_123_118 : gw_fit 123 118 0 0 := by unfold gw_fit; decide +kernel
theorem gq_123_121 : gw_fit 123 121 0 0 := by unfold gw_fit; decide +kernel
theorem gq_125_107 : gw_fit 125 107 0 0 := by unfold gw_fit; decide +kernel
theorem gq_125_108 : gw_fit 125 108 0 0 := by unfold gw_fit; decide +kernel
theorem gq_127_108 : gw_fit 127 108 0 0 := by unfold gw_fit; decide +kernel
theorem gq_127_121 : gw_fit 127 121 0 0 := by unfold gw_fit; decide +kernel
theorem gq_127_125 : gw_fit 127 125 0 0 := by unfold gw_fit; decide +kernel
theorem gq_127_126 : gw_fit 127 126 0 0 := by unfold gw_fit; decide +kernel
theorem gq_131_122 : gw_fit 131 122 0 0 := by unfold gw_fit; decide +kernel
theorem gq_131_127 : gw_fit 131 127 0 0 := by unfold gw_fit; decide +kernel
theorem gq_131_128 : gw_fit 131 128 0 0 := by unfold gw_fit; decide +kernel
theorem gq_131_130 : gw_fit 131 130 0 0 := by unfold gw_fit; decide +kernel
theorem gq_132_107 : gw_fit 132 107 0 0 := by unfold gw_fit; decide +kernel
theorem gq_132_130 : gw_fit 132 130 0 0 := by unfold gw_fit; decide +kernel
theorem gq_134_108 : gw_fit 134 108 0 0 := by unfold gw_fit; decide +kernel
theorem gq_134_122 : gw_fit 134 122 0 0 := by unfold gw_fit; decide +kernel
theorem gq_134_127 : gw_fit 134 127 0 0 := by unfold gw_fit; decide +kernel
theorem gq_134_129 : gw_fit 134 129 0 0 := by unfold gw_fit; decide +kernel
theorem gq_136_107 : gw_fit 136 107 0 0 := by unfold gw_fit; decide +kernel
theorem gq_136_128 : gw_fit 136 128 0 0 := by unfold gw_fit; decide +kernel
theorem gq_136_134 : gw_fit 136 134 0 0 := by unfold gw_fit; decide +kernel
theorem gq_137_109 : gw_fit 137 109 0 0 := by unfold gw_fit; decide +kernel
theorem gq_137_128 : gw_fit 137 128 0 0 := by unfold gw_fit; decide +kernel
theorem gq_137_134 : gw_fit 137 134 0 0 := by unfold gw_fit; decide +kernel
theorem gq_137_135 : gw_fit 137 135 0 0 := by unfold gw_fit; decide +kernel
theorem gq_138_137 : gw_fit 138 137 0 0 := by unfold gw_fit; decide +kernel
theorem gq_139_137 : gw_fit 139 137 0 0 := by unfold gw_fit; decide +kernel
theorem gq_142_108 : gw_fit 142 108 0 0 := by unfold gw_fit; decide +kernel
theorem gq_142_109 : gw_fit 142 109 0 0 := by unfold gw_fit; decide +kernel
theorem gq_142_118 : gw_fit 142 118 0 0 := by unfold gw_fit; decide +kernel
theorem gq_142_137 : gw_fit 142 137 0 0 := by unfold gw_fit; decide +kernel
theorem gq_142_140 : gw_fit 142 140 0 0 := by unfold gw_fit; decide +kernel
theorem gq_142_141 : gw_fit 142 141 0 0 := by unfold gw_fit; decide +kernel
theorem gq_144_107 : gw_fit 144 107 0 0 := by unfold gw_fit; decide +kernel
theorem gq_144_127 : gw_fit 144 127 0 0 := by unfold gw_fit; decide +kernel
theorem gq_144_128 : gw_fit 144 128 0 0 := by unfold gw_fit; decide +kernel
theorem gq_144_129 : gw_fit 144 129 0 0 := by unfold gw_fit; decide +kernel
theorem gq_144_143 : gw_fit 144 143 0 0 := by unfold gw_fit; decide +kernel
theorem gq_145_107 : gw_fit 145 107 0 0 := by unfold gw_fit; decide +kernel
theorem gq_145_128 : gw_fit 145 128 0 0 := by unfold gw_fit; decide +kernel
theorem gq_145_134 : gw_fit 145 134 0 0 := by unfold gw_fit; decide +kernel
theorem gq_146_107 : gw_fit 146 107 0 0 := by unfold gw_fit; decide +kernel
theorem gq_146_109 : gw_fit 146 109 0 0 := by unfold gw_fit; decide +kernel
theorem gq_146_128 : gw_fit 146 128 0 0 := by unfold gw_fit; decide +kernel
theorem gq_146_134 : gw_fit 146 134 0 0 := by unfold gw_fit; decide +kernel
theorem gq_146_135 : gw_fit 146 135 0 0 := by unfold gw_fit; decide +kernel
theorem gq_147_107 : gw_fit 147 107 0 0 := by unfold gw_fit; decide +kernel
theorem gq_147_118 : gw_fit 147 118 0 0 := by unfold gw_fit; decide +kernel
theorem gq_149_108 : gw_fit 149 108 0 0 := by unfold gw_fit; decide +kernel
theorem gq_149_118 : gw_fit 149 118 0 0 := by unfold gw_fit; decide +kernel
theorem gq_149_121 : gw_fit 149 121 0 0 := by unfold gw_fit; decide +kernel
theorem gq_149_127 : gw_fit 149 127 0 0 := by unfold gw_fit; decide +kernel
theorem gq_150_107 : gw_fit 150 107 0 0 := by unfold gw_fit; decide +kernel
theorem gq_150_128 : gw_fit 150 128 0 0 := by unfold gw_fit; decide +kernel
theorem gq_150_149 : gw_fit 150 149 0 0 := by unfold gw_fit; decide +kernel
theorem gq_151_108 : gw_fit 151 108 0 0 := by unfold gw_fit; decide +kernel
theorem gq_151_109 : gw_fit 151 109 0 0 := by unfold gw_fit; decide +kernel
theorem gq_151_134 : gw_fit 151 134 0 0 := by unfold gw_fit; decide +kernel
theorem gq_151_135 : gw_fit 151 135 0 0 := by unfold gw_fit; decide +kernel
theorem gq_152_107 : gw_fit 152 107 0 0 := by unfold gw_fit; decide +kernel
theorem gq_152_141 : gw_fit 152 141 0 0 := by unfold gw_fit; decide +kernel
theorem gq_152_151 : gw_fit 152 151 0 0 := by unfold gw_fit; decide +kernel
theorem gq_153_107 : gw_fit 153 107 0 0 := by unfold gw_fit; decide +kernel
theorem gq_153_118 : gw_fit 153 118 0 0 := by unfold gw_fit; decide +kernel
theorem gq_153_141 : gw_fit 153 141 0 0 := by unfold gw_fit; decide +kernel
theorem gq_153_151 : gw_fit 153 151 0 0 := by unfold gw_fit; decide +kernel
theorem gq_154_125 : gw_fit 154 125 0 0 := by unfold gw_fit; decide +kernel
theorem gq_154_126 : gw_fit 154 126 0 0 := by unfold gw_fit; decide +kernel
theorem gq_154_128 : gw_fit 154 128 0 0 := by unfold gw_fit; decide +kernel
theorem gq_154_129 : gw_fit 154 129 0 0 := by unfold gw_fit; decide +kernel
theorem gq_155_107 : gw_fit 155 107 0 0 := by unfold gw_fit; decide +kernel
theorem gq_156_155 : gw_fit 156 155 0 0 := by unfold gw_fit; decide +kernel
theorem gq_157_107 : gw_fit 157 107 0 0 := by unfold gw_fit; decide +kernel
theorem gq_157_154 : gw_fit 157 154 0 0 := by unfold gw_fit; decide +kernel
theorem gq_157_155 : gw_fit 157 155 0 0 := by unfold gw_fit; decide +kernel
theorem gq_157_156 : gw_fit 157 156 0 0 := by unfold gw_fit; decide +kernel
theorem gq_159_107 : gw_fit 159 107 0 0 := by unfold gw_fit; decide +kernel
theorem gq_159_127 : gw_fit 159 127 0 0 := by unfold gw_fit; decide +kernel
theorem gq_159_128 : gw_fit 159 128 0 0 := by unfold gw_fit; decide +kernel
theorem gq_159_129 : gw_fit 159 129 0 0 := by unfold gw_fit; decide +kernel
theorem gq_160_107 : gw_fit 160 107 0 0 := by unfold gw_fit; decide +kernel
theorem gq_161_107 : gw_fit 161 107 0 0 := by unfold gw_fit; decide +kernel
theorem gq_162_122 : gw_fit 162 122 0 0 := by unfold gw_fit; decide +kernel
