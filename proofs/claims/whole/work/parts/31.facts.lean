-- FACTS of the layout: one handle each, and of the Tellings, Motions and laws by a name
theorem kd_0 : kd0 0 = 11 := rfl
theorem fi_0_0 : fi0 0 0 = some 1 := rfl
theorem fi_0_2 : fi0 0 2 = some 56 := rfl
theorem fi_0_5 : fi0 0 5 = some 60 := rfl
theorem fi_0_6 : fi0 0 6 = some 74 := rfl
theorem fi_0_8 : fi0 0 8 = some 88 := rfl
theorem fi_0_9 : fi0 0 9 = some 102 := rfl
theorem fi_0_10 : fi0 0 10 = some 105 := rfl
theorem fi_0_11 : fi0 0 11 = some 107 := rfl
theorem fi_0_12 : fi0 0 12 = some 112 := rfl
theorem fi_0_13 : fi0 0 13 = some 117 := rfl
theorem fi_0_14 : fi0 0 14 = some 120 := rfl
theorem fi_0_15 : fi0 0 15 = some 121 := rfl
theorem fi_0_16 : fi0 0 16 = some 122 := rfl
theorem kd_1 : kd0 1 = 13 := rfl
theorem ln_1 : ln0 1 = 700 := rfl
theorem kd_2 : kd0 2 = 9 := rfl
theorem fi_2_0 : fi0 2 0 = some 3 := rfl
theorem fi_2_1 : fi0 2 1 = some 5 := rfl
theorem fi_2_2 : fi0 2 2 = some 6 := rfl
theorem fi_2_3 : fi0 2 3 = some 7 := rfl
theorem fi_2_4 : fi0 2 4 = some 9 := rfl
theorem fi_2_5 : fi0 2 5 = some 10 := rfl
theorem fi_2_6 : fi0 2 6 = some 11 := rfl
theorem fi_2_7 : fi0 2 7 = some 12 := rfl
theorem fi_2_8 : fi0 2 8 = some 13 := rfl
theorem fi_2_9 : fi0 2 9 = some 14 := rfl
theorem fi_2_10 : fi0 2 10 = some 15 := rfl
theorem fi_2_11 : fi0 2 11 = some 16 := rfl
theorem fi_2_13 : fi0 2 13 = some 17 := rfl
theorem fi_2_14 : fi0 2 14 = some 19 := rfl
theorem fi_2_15 : fi0 2 15 = some 20 := rfl
theorem fi_2_16 : fi0 2 16 = some 21 := rfl
theorem fi_2_17 : fi0 2 17 = some 25 := rfl
theorem kd_3 : kd0 3 = 5 := rfl
theorem fi_3_0 : fi0 3 0 = some 4 := rfl
theorem kd_4 : kd0 4 = 14 := rfl
theorem ln_4 : ln0 4 = 3 := rfl
theorem kd_5 : kd0 5 = 14 := rfl
theorem ln_5 : ln0 5 = 3 := rfl
theorem kd_6 : kd0 6 = 14 := rfl
theorem ln_6 : ln0 6 = 3 := rfl
theorem kd_7 : kd0 7 = 5 := rfl
theorem fi_7_0 : fi0 7 0 = some 8 := rfl
theorem kd_8 : kd0 8 = 14 := rfl
theorem ln_8 : ln0 8 = 6 := rfl
theorem kd_9 : kd0 9 = 14 := rfl
theorem ln_9 : ln0 9 = 6 := rfl
theorem kd_10 : kd0 10 = 14 := rfl
theorem ln_10 : ln0 10 = 6 := rfl
theorem kd_11 : kd0 11 = 14 := rfl
theorem ln_11 : ln0 11 = 6 := rfl
theorem kd_12 : kd0 12 = 14 := rfl
theorem ln_12 : ln0 12 = 6 := rfl
theorem kd_13 : kd0 13 = 14 := rfl
theorem ln_13 : ln0 13 = 6 := rfl
theorem kd_14 : kd0 14 = 14 := rfl
theorem ln_14 : ln0 14 = 6 := rfl
theorem kd_15 : kd0 15 = 14 := rfl
theorem ln_15 : ln0 15 = 6 := rfl
theorem kd_16 : kd0 16 = 14 := rfl
theorem ln_16 : ln0 16 = 6 := rfl
theorem kd_17 : kd0 17 = 5 := rfl
theorem fi_17_0 : fi0 17 0 = some 18 := rfl
theorem kd_18 : kd0 18 = 14 := rfl
theorem ln_18 : ln0 18 = 4 := rfl
theorem kd_19 : kd0 19 = 14 := rfl
theorem ln_19 : ln0 19 = 24 := rfl
theorem kd_20 : kd0 20 = 14 := rfl
theorem ln_20 : ln0 20 = 24 := rfl
theorem kd_21 : kd0 21 = 2 := rfl
theorem fi_21_2 : fi0 21 2 = some 22 := rfl
theorem fi_21_3 : fi0 21 3 = some 23 := rfl
theorem fi_21_4 : fi0 21 4 = some 24 := rfl
theorem kd_22 : kd0 22 = 14 := rfl
theorem ln_22 : ln0 22 = 64 := rfl
theorem kd_23 : kd0 23 = 14 := rfl
theorem ln_23 : ln0 23 = 64 := rfl
theorem kd_24 : kd0 24 = 15 := rfl
theorem ln_24 : ln0 24 = 64 := rfl
theorem kd_25 : kd0 25 = 2 := rfl
theorem fi_25_2 : fi0 25 2 = some 26 := rfl
theorem fi_25_3 : fi0 25 3 = some 27 := rfl
theorem fi_25_4 : fi0 25 4 = some 28 := rfl
theorem kd_26 : kd0 26 = 14 := rfl
theorem ln_26 : ln0 26 = 64 := rfl
theorem kd_27 : kd0 27 = 14 := rfl
theorem ln_27 : ln0 27 = 64 := rfl
theorem kd_28 : kd0 28 = 15 := rfl
theorem ln_28 : ln0 28 = 64 := rfl
theorem kd_29 : kd0 29 = 9 := rfl
theorem fi_29_0 : fi0 29 0 = some 30 := rfl
theorem fi_29_1 : fi0 29 1 = some 32 := rfl
theorem fi_29_2 : fi0 29 2 = some 33 := rfl
theorem fi_29_3 : fi0 29 3 = some 34 := rfl
theorem fi_29_4 : fi0 29 4 = some 36 := rfl
theorem fi_29_5 : fi0 29 5 = some 37 := rfl
theorem fi_29_6 : fi0 29 6 = some 38 := rfl
theorem fi_29_7 : fi0 29 7 = some 39 := rfl
theorem fi_29_8 : fi0 29 8 = some 40 := rfl
theorem fi_29_9 : fi0 29 9 = some 41 := rfl
theorem fi_29_10 : fi0 29 10 = some 42 := rfl
theorem fi_29_11 : fi0 29 11 = some 43 := rfl
theorem fi_29_13 : fi0 29 13 = some 44 := rfl
theorem fi_29_14 : fi0 29 14 = some 46 := rfl
theorem fi_29_15 : fi0 29 15 = some 47 := rfl
theorem fi_29_16 : fi0 29 16 = some 48 := rfl
theorem fi_29_17 : fi0 29 17 = some 52 := rfl
theorem kd_30 : kd0 30 = 5 := rfl
theorem fi_30_0 : fi0 30 0 = some 31 := rfl
theorem kd_31 : kd0 31 = 14 := rfl
theorem ln_31 : ln0 31 = 3 := rfl
theorem kd_32 : kd0 32 = 14 := rfl
theorem ln_32 : ln0 32 = 3 := rfl
theorem kd_33 : kd0 33 = 14 := rfl
theorem ln_33 : ln0 33 = 3 := rfl
theorem kd_34 : kd0 34 = 5 := rfl
theorem fi_34_0 : fi0 34 0 = some 35 := rfl
theorem kd_35 : kd0 35 = 14 := rfl
theorem ln_35 : ln0 35 = 6 := rfl
theorem kd_36 : kd0 36 = 14 := rfl
theorem ln_36 : ln0 36 = 6 := rfl
theorem kd_37 : kd0 37 = 14 := rfl
theorem ln_37 : ln0 37 = 6 := rfl
theorem kd_38 : kd0 38 = 14 := rfl
theorem ln_38 : ln0 38 = 6 := rfl
theorem kd_39 : kd0 39 = 14 := rfl
theorem ln_39 : ln0 39 = 6 := rfl
theorem kd_40 : kd0 40 = 14 := rfl
theorem ln_40 : ln0 40 = 6 := rfl
theorem kd_41 : kd0 41 = 14 := rfl
theorem ln_41 : ln0 41 = 6 := rfl
theorem kd_42 : kd0 42 = 14 := rfl
theorem ln_42 : ln0 42 = 6 := rfl
theorem kd_43 : kd0 43 = 14 := rfl
theorem ln_43 : ln0 43 = 6 := rfl
theorem kd_44 : kd0 44 = 5 := rfl
theorem fi_44_0 : fi0 44 0 = some 45 := rfl
theorem kd_45 : kd0 45 = 14 := rfl
theorem ln_45 : ln0 45 = 4 := rfl
theorem kd_46 : kd0 46 = 14 := rfl
theorem ln_46 : ln0 46 = 24 := rfl
theorem kd_47 : kd0 47 = 14 := rfl
theorem ln_47 : ln0 47 = 24 := rfl
theorem kd_48 : kd0 48 = 2 := rfl
theorem fi_48_2 : fi0 48 2 = some 49 := rfl
theorem fi_48_3 : fi0 48 3 = some 50 := rfl
theorem fi_48_4 : fi0 48 4 = some 51 := rfl
theorem kd_49 : kd0 49 = 14 := rfl
theorem ln_49 : ln0 49 = 64 := rfl
theorem kd_50 : kd0 50 = 14 := rfl
theorem ln_50 : ln0 50 = 64 := rfl
theorem kd_51 : kd0 51 = 15 := rfl
theorem ln_51 : ln0 51 = 64 := rfl
theorem kd_52 : kd0 52 = 2 := rfl
theorem fi_52_2 : fi0 52 2 = some 53 := rfl
theorem fi_52_3 : fi0 52 3 = some 54 := rfl
theorem fi_52_4 : fi0 52 4 = some 55 := rfl
theorem kd_53 : kd0 53 = 14 := rfl
theorem ln_53 : ln0 53 = 64 := rfl
theorem kd_54 : kd0 54 = 14 := rfl
theorem ln_54 : ln0 54 = 64 := rfl
theorem kd_55 : kd0 55 = 15 := rfl
theorem ln_55 : ln0 55 = 64 := rfl
theorem kd_56 : kd0 56 = 7 := rfl
theorem fi_56_0 : fi0 56 0 = some 57 := rfl
theorem fi_56_10 : fi0 56 10 = some 59 := rfl
theorem kd_57 : kd0 57 = 10 := rfl
theorem fi_57_0 : fi0 57 0 = some 1 := rfl
theorem fi_57_1 : fi0 57 1 = some 58 := rfl
theorem kd_58 : kd0 58 = 14 := rfl
theorem ln_58 : ln0 58 = 21 := rfl
theorem kd_59 : kd0 59 = 14 := rfl
theorem ln_59 : ln0 59 = 72 := rfl
theorem kd_60 : kd0 60 = 4 := rfl
theorem fi_60_5 : fi0 60 5 = some 61 := rfl
theorem fi_60_6 : fi0 60 6 = some 62 := rfl
theorem fi_60_7 : fi0 60 7 = some 63 := rfl
theorem fi_60_8 : fi0 60 8 = some 64 := rfl
theorem fi_60_9 : fi0 60 9 = some 65 := rfl
theorem fi_60_10 : fi0 60 10 = some 66 := rfl
theorem fi_60_11 : fi0 60 11 = some 67 := rfl
theorem fi_60_12 : fi0 60 12 = some 68 := rfl
theorem fi_60_13 : fi0 60 13 = some 69 := rfl
theorem fi_60_14 : fi0 60 14 = some 70 := rfl
theorem fi_60_15 : fi0 60 15 = some 71 := rfl
theorem fi_60_16 : fi0 60 16 = some 72 := rfl
theorem fi_60_17 : fi0 60 17 = some 73 := rfl
theorem kd_61 : kd0 61 = 14 := rfl
theorem ln_61 : ln0 61 = 3 := rfl
theorem kd_62 : kd0 62 = 14 := rfl
theorem ln_62 : ln0 62 = 6 := rfl
theorem kd_63 : kd0 63 = 14 := rfl
theorem ln_63 : ln0 63 = 6 := rfl
theorem kd_64 : kd0 64 = 14 := rfl
theorem ln_64 : ln0 64 = 6 := rfl
theorem kd_65 : kd0 65 = 14 := rfl
theorem ln_65 : ln0 65 = 6 := rfl
theorem kd_66 : kd0 66 = 14 := rfl
theorem ln_66 : ln0 66 = 6 := rfl
theorem kd_67 : kd0 67 = 14 := rfl
theorem ln_67 : ln0 67 = 6 := rfl
theorem kd_68 : kd0 68 = 14 := rfl
theorem ln_68 : ln0 68 = 6 := rfl
theorem kd_69 : kd0 69 = 14 := rfl
theorem ln_69 : ln0 69 = 6 := rfl
theorem kd_70 : kd0 70 = 14 := rfl
theorem ln_70 : ln0 70 = 6 := rfl
theorem kd_71 : kd0 71 = 14 := rfl
theorem ln_71 : ln0 71 = 36 := rfl
theorem kd_72 : kd0 72 = 14 := rfl
theorem ln_72 : ln0 72 = 6 := rfl
theorem kd_73 : kd0 73 = 15 := rfl
theorem ln_73 : ln0 73 = 7 := rfl
theorem kd_74 : kd0 74 = 4 := rfl
theorem fi_74_5 : fi0 74 5 = some 75 := rfl
theorem fi_74_6 : fi0 74 6 = some 76 := rfl
theorem fi_74_7 : fi0 74 7 = some 77 := rfl
theorem fi_74_8 : fi0 74 8 = some 78 := rfl
theorem fi_74_9 : fi0 74 9 = some 79 := rfl
theorem fi_74_10 : fi0 74 10 = some 80 := rfl
theorem fi_74_11 : fi0 74 11 = some 81 := rfl
theorem fi_74_12 : fi0 74 12 = some 82 := rfl
theorem fi_74_13 : fi0 74 13 = some 83 := rfl
theorem fi_74_14 : fi0 74 14 = some 84 := rfl
theorem fi_74_15 : fi0 74 15 = some 85 := rfl
theorem fi_74_16 : fi0 74 16 = some 86 := rfl
theorem fi_74_17 : fi0 74 17 = some 87 := rfl
theorem kd_75 : kd0 75 = 14 := rfl
theorem ln_75 : ln0 75 = 3 := rfl
theorem kd_76 : kd0 76 = 14 := rfl
theorem ln_76 : ln0 76 = 6 := rfl
theorem kd_77 : kd0 77 = 14 := rfl
theorem ln_77 : ln0 77 = 6 := rfl
theorem kd_78 : kd0 78 = 14 := rfl
theorem ln_78 : ln0 78 = 6 := rfl
theorem kd_79 : kd0 79 = 14 := rfl
theorem ln_79 : ln0 79 = 6 := rfl
theorem kd_80 : kd0 80 = 14 := rfl
theorem ln_80 : ln0 80 = 6 := rfl
theorem kd_81 : kd0 81 = 14 := rfl
theorem ln_81 : ln0 81 = 6 := rfl
theorem kd_82 : kd0 82 = 14 := rfl
theorem ln_82 : ln0 82 = 6 := rfl
theorem kd_83 : kd0 83 = 14 := rfl
theorem ln_83 : ln0 83 = 6 := rfl
theorem kd_84 : kd0 84 = 14 := rfl
theorem ln_84 : ln0 84 = 6 := rfl
theorem kd_85 : kd0 85 = 14 := rfl
theorem ln_85 : ln0 85 = 36 := rfl
theorem kd_86 : kd0 86 = 14 := rfl
theorem ln_86 : ln0 86 = 6 := rfl
theorem kd_87 : kd0 87 = 15 := rfl
theorem ln_87 : ln0 87 = 7 := rfl
theorem kd_88 : kd0 88 = 4 := rfl
theorem fi_88_5 : fi0 88 5 = some 89 := rfl
theorem fi_88_6 : fi0 88 6 = some 90 := rfl
theorem fi_88_7 : fi0 88 7 = some 91 := rfl
theorem fi_88_8 : fi0 88 8 = some 92 := rfl
theorem fi_88_9 : fi0 88 9 = some 93 := rfl
theorem fi_88_10 : fi0 88 10 = some 94 := rfl
theorem fi_88_11 : fi0 88 11 = some 95 := rfl
theorem fi_88_12 : fi0 88 12 = some 96 := rfl
theorem fi_88_13 : fi0 88 13 = some 97 := rfl
theorem fi_88_14 : fi0 88 14 = some 98 := rfl
theorem fi_88_15 : fi0 88 15 = some 99 := rfl
theorem fi_88_16 : fi0 88 16 = some 100 := rfl
theorem fi_88_17 : fi0 88 17 = some 101 := rfl
theorem kd_89 : kd0 89 = 14 := rfl
theorem ln_89 : ln0 89 = 3 := rfl
theorem kd_90 : kd0 90 = 14 := rfl
theorem ln_90 : ln0 90 = 6 := rfl
theorem kd_91 : kd0 91 = 14 := rfl
theorem ln_91 : ln0 91 = 6 := rfl
theorem kd_92 : kd0 92 = 14 := rfl
theorem ln_92 : ln0 92 = 6 := rfl
theorem kd_93 : kd0 93 = 14 := rfl
theorem ln_93 : ln0 93 = 6 := rfl
theorem kd_94 : kd0 94 = 14 := rfl
theorem ln_94 : ln0 94 = 6 := rfl
theorem kd_95 : kd0 95 = 14 := rfl
theorem ln_95 : ln0 95 = 6 := rfl
theorem kd_96 : kd0 96 = 14 := rfl
theorem ln_96 : ln0 96 = 6 := rfl
theorem kd_97 : kd0 97 = 14 := rfl
theorem ln_97 : ln0 97 = 6 := rfl
theorem kd_98 : kd0 98 = 14 := rfl
theorem ln_98 : ln0 98 = 6 := rfl
theorem kd_99 : kd0 99 = 14 := rfl
theorem ln_99 : ln0 99 = 36 := rfl
theorem kd_100 : kd0 100 = 14 := rfl
theorem ln_100 : ln0 100 = 6 := rfl
theorem kd_101 : kd0 101 = 15 := rfl
theorem ln_101 : ln0 101 = 7 := rfl
theorem kd_102 : kd0 102 = 8 := rfl
theorem fi_102_0 : fi0 102 0 = some 103 := rfl
theorem fi_102_1 : fi0 102 1 = some 104 := rfl
theorem kd_103 : kd0 103 = 16 := rfl
theorem ln_103 : ln0 103 = 24000 := rfl
theorem kd_104 : kd0 104 = 13 := rfl
theorem ln_104 : ln0 104 = 4000 := rfl
theorem kd_105 : kd0 105 = 0 := rfl
theorem fi_105_0 : fi0 105 0 = some 106 := rfl
theorem kd_106 : kd0 106 = 14 := rfl
theorem ln_106 : ln0 106 = 100 := rfl
theorem kd_107 : kd0 107 = 1 := rfl
theorem fi_107_0 : fi0 107 0 = some 108 := rfl
theorem fi_107_1 : fi0 107 1 = some 109 := rfl
theorem fi_107_2 : fi0 107 2 = some 110 := rfl
theorem fi_107_3 : fi0 107 3 = some 111 := rfl
theorem kd_108 : kd0 108 = 14 := rfl
theorem ln_108 : ln0 108 = 40 := rfl
theorem kd_109 : kd0 109 = 14 := rfl
theorem ln_109 : ln0 109 = 40 := rfl
theorem kd_110 : kd0 110 = 14 := rfl
theorem ln_110 : ln0 110 = 40 := rfl
theorem kd_111 : kd0 111 = 17 := rfl
theorem ln_111 : ln0 111 = 40 := rfl
theorem kd_112 : kd0 112 = 3 := rfl
theorem fi_112_0 : fi0 112 0 = some 88 := rfl
theorem fi_112_2 : fi0 112 2 = some 113 := rfl
theorem fi_112_3 : fi0 112 3 = some 114 := rfl
theorem fi_112_4 : fi0 112 4 = some 115 := rfl
theorem fi_112_5 : fi0 112 5 = some 116 := rfl
theorem kd_113 : kd0 113 = 14 := rfl
theorem ln_113 : ln0 113 = 6 := rfl
theorem kd_114 : kd0 114 = 14 := rfl
theorem ln_114 : ln0 114 = 6 := rfl
theorem kd_115 : kd0 115 = 14 := rfl
theorem ln_115 : ln0 115 = 6 := rfl
theorem kd_116 : kd0 116 = 14 := rfl
theorem ln_116 : ln0 116 = 6 := rfl
theorem kd_117 : kd0 117 = 6 := rfl
theorem fi_117_0 : fi0 117 0 = some 88 := rfl
theorem fi_117_1 : fi0 117 1 = some 118 := rfl
theorem fi_117_2 : fi0 117 2 = some 119 := rfl
theorem kd_118 : kd0 118 = 14 := rfl
theorem ln_118 : ln0 118 = 6 := rfl
theorem kd_119 : kd0 119 = 14 := rfl
theorem ln_119 : ln0 119 = 6 := rfl
theorem kd_120 : kd0 120 = 14 := rfl
theorem ln_120 : ln0 120 = 6 := rfl
theorem kd_121 : kd0 121 = 14 := rfl
theorem ln_121 : ln0 121 = 6 := rfl
theorem kd_122 : kd0 122 = 13 := rfl
theorem ln_122 : ln0 122 = 2000 := rfl
theorem kd_123 : kd0 123 = 12 := rfl
theorem fi_123_0 : fi0 123 0 = some 124 := rfl
theorem fi_123_3 : fi0 123 3 = some 125 := rfl
theorem fi_123_23 : fi0 123 23 = some 126 := rfl
theorem fi_123_24 : fi0 123 24 = some 127 := rfl
theorem fi_123_25 : fi0 123 25 = some 128 := rfl
theorem fi_123_26 : fi0 123 26 = some 129 := rfl
theorem fi_123_27 : fi0 123 27 = some 130 := rfl
theorem fi_123_28 : fi0 123 28 = some 131 := rfl
theorem fi_123_29 : fi0 123 29 = some 132 := rfl
theorem fi_123_30 : fi0 123 30 = some 133 := rfl
theorem fi_123_31 : fi0 123 31 = some 134 := rfl
theorem fi_123_32 : fi0 123 32 = some 135 := rfl
theorem fi_123_33 : fi0 123 33 = some 136 := rfl
theorem fi_123_34 : fi0 123 34 = some 137 := rfl
theorem fi_123_35 : fi0 123 35 = some 138 := rfl
theorem fi_123_36 : fi0 123 36 = some 139 := rfl
theorem fi_123_37 : fi0 123 37 = some 140 := rfl
theorem fi_123_38 : fi0 123 38 = some 141 := rfl
theorem fi_123_39 : fi0 123 39 = some 142 := rfl
theorem fi_123_40 : fi0 123 40 = some 143 := rfl
theorem fi_123_41 : fi0 123 41 = some 144 := rfl
theorem fi_123_42 : fi0 123 42 = some 145 := rfl
theorem fi_123_43 : fi0 123 43 = some 146 := rfl
theorem fi_123_44 : fi0 123 44 = some 147 := rfl
theorem fi_123_45 : fi0 123 45 = some 148 := rfl
theorem fi_123_52 : fi0 123 52 = some 149 := rfl
theorem fi_123_53 : fi0 123 53 = some 150 := rfl
theorem fi_123_55 : fi0 123 55 = some 151 := rfl
theorem fi_123_56 : fi0 123 56 = some 152 := rfl
theorem fi_123_57 : fi0 123 57 = some 153 := rfl
theorem fi_123_58 : fi0 123 58 = some 154 := rfl
theorem fi_123_59 : fi0 123 59 = some 155 := rfl
theorem fi_123_60 : fi0 123 60 = some 156 := rfl
theorem fi_123_66 : fi0 123 66 = some 157 := rfl
theorem fi_123_67 : fi0 123 67 = some 158 := rfl
theorem fi_123_68 : fi0 123 68 = some 159 := rfl
theorem fi_123_71 : fi0 123 71 = some 160 := rfl
theorem fi_123_72 : fi0 123 72 = some 161 := rfl
theorem fi_123_74 : fi0 123 74 = some 162 := rfl
theorem fi_123_75 : fi0 123 75 = some 163 := rfl
theorem fi_123_76 : fi0 123 76 = some 164 := rfl
theorem fi_123_77 : fi0 123 77 = some 165 := rfl
theorem fi_123_78 : fi0 123 78 = some 166 := rfl
theorem fi_123_81 : fi0 123 81 = some 167 := rfl
theorem fi_123_82 : fi0 123 82 = some 168 := rfl
theorem fi_123_83 : fi0 123 83 = some 169 := rfl
theorem fi_123_86 : fi0 123 86 = some 170 := rfl
theorem kd_124 : kd0 124 = 14 := rfl
theorem ln_124 : ln0 124 = 700 := rfl
theorem kd_125 : kd0 125 = 14 := rfl
theorem ln_125 : ln0 125 = 107 := rfl
theorem kd_126 : kd0 126 = 14 := rfl
theorem ln_126 : ln0 126 = 6 := rfl
theorem kd_127 : kd0 127 = 14 := rfl
theorem ln_127 : ln0 127 = 6 := rfl
theorem kd_128 : kd0 128 = 14 := rfl
theorem ln_128 : ln0 128 = 6 := rfl
theorem kd_129 : kd0 129 = 14 := rfl
theorem ln_129 : ln0 129 = 12 := rfl
theorem kd_130 : kd0 130 = 14 := rfl
theorem ln_130 : ln0 130 = 12 := rfl
theorem kd_131 : kd0 131 = 14 := rfl
theorem ln_131 : ln0 131 = 12 := rfl
theorem kd_132 : kd0 132 = 14 := rfl
theorem ln_132 : ln0 132 = 12 := rfl
theorem kd_133 : kd0 133 = 14 := rfl
theorem ln_133 : ln0 133 = 12 := rfl
theorem kd_134 : kd0 134 = 14 := rfl
theorem ln_134 : ln0 134 = 12 := rfl
theorem kd_135 : kd0 135 = 14 := rfl
theorem ln_135 : ln0 135 = 12 := rfl
theorem kd_136 : kd0 136 = 14 := rfl
theorem ln_136 : ln0 136 = 12 := rfl
theorem kd_137 : kd0 137 = 14 := rfl
theorem ln_137 : ln0 137 = 12 := rfl
theorem kd_138 : kd0 138 = 14 := rfl
theorem ln_138 : ln0 138 = 8 := rfl
theorem kd_139 : kd0 139 = 14 := rfl
theorem ln_139 : ln0 139 = 48 := rfl
theorem kd_140 : kd0 140 = 14 := rfl
theorem ln_140 : ln0 140 = 48 := rfl
theorem kd_141 : kd0 141 = 17 := rfl
theorem ln_141 : ln0 141 = 4 := rfl
theorem kd_142 : kd0 142 = 14 := rfl
theorem ln_142 : ln0 142 = 4 := rfl
theorem kd_143 : kd0 143 = 14 := rfl
theorem ln_143 : ln0 143 = 4 := rfl
theorem kd_144 : kd0 144 = 14 := rfl
theorem ln_144 : ln0 144 = 128 := rfl
theorem kd_145 : kd0 145 = 14 := rfl
theorem ln_145 : ln0 145 = 128 := rfl
theorem kd_146 : kd0 146 = 14 := rfl
theorem ln_146 : ln0 146 = 128 := rfl
theorem kd_147 : kd0 147 = 14 := rfl
theorem ln_147 : ln0 147 = 96 := rfl
theorem kd_148 : kd0 148 = 14 := rfl
theorem ln_148 : ln0 148 = 96 := rfl
theorem kd_149 : kd0 149 = 15 := rfl
theorem ln_149 : ln0 149 = 7 := rfl
theorem kd_150 : kd0 150 = 15 := rfl
theorem ln_150 : ln0 150 = 64 := rfl
theorem kd_151 : kd0 151 = 14 := rfl
theorem ln_151 : ln0 151 = 12 := rfl
theorem kd_152 : kd0 152 = 14 := rfl
theorem ln_152 : ln0 152 = 12 := rfl
theorem kd_153 : kd0 153 = 14 := rfl
theorem ln_153 : ln0 153 = 12 := rfl
theorem kd_154 : kd0 154 = 14 := rfl
theorem ln_154 : ln0 154 = 12 := rfl
theorem kd_155 : kd0 155 = 14 := rfl
theorem ln_155 : ln0 155 = 12 := rfl
theorem kd_156 : kd0 156 = 14 := rfl
theorem ln_156 : ln0 156 = 12 := rfl
theorem kd_157 : kd0 157 = 14 := rfl
theorem ln_157 : ln0 157 = 6 := rfl
theorem kd_158 : kd0 158 = 14 := rfl
theorem ln_158 : ln0 158 = 6 := rfl
theorem kd_159 : kd0 159 = 14 := rfl
theorem ln_159 : ln0 159 = 6 := rfl
theorem kd_160 : kd0 160 = 14 := rfl
theorem ln_160 : ln0 160 = 24000 := rfl
theorem kd_161 : kd0 161 = 14 := rfl
theorem ln_161 : ln0 161 = 4000 := rfl
theorem kd_162 : kd0 162 = 14 := rfl
theorem ln_162 : ln0 162 = 100 := rfl
theorem kd_163 : kd0 163 = 14 := rfl
theorem ln_163 : ln0 163 = 6 := rfl
theorem kd_164 : kd0 164 = 14 := rfl
theorem ln_164 : ln0 164 = 7 := rfl
theorem kd_165 : kd0 165 = 14 := rfl
theorem ln_165 : ln0 165 = 6 := rfl
theorem kd_166 : kd0 166 = 14 := rfl
theorem ln_166 : ln0 166 = 6 := rfl
theorem kd_167 : kd0 167 = 14 := rfl
theorem ln_167 : ln0 167 = 120 := rfl
theorem kd_168 : kd0 168 = 17 := rfl
theorem ln_168 : ln0 168 = 40 := rfl
theorem kd_169 : kd0 169 = 14 := rfl
theorem ln_169 : ln0 169 = 2000 := rfl
theorem kd_170 : kd0 170 = 14 := rfl
theorem ln_170 : ln0 170 = 36 := rfl
def isTe (m : Nat) : Prop := m = 2 ∨ m = 29
theorem te_k0 {m : Nat} (h : isTe m) : kd0 m = 9 := by
  rcases h with rfl | rfl <;> rfl
theorem te_f0_0 {m : Nat} (h : isTe m) : fi0 m 0 = some (m + 1) := by
  rcases h with rfl | rfl <;> rfl
theorem te_f0_1 {m : Nat} (h : isTe m) : fi0 m 1 = some (m + 3) := by
  rcases h with rfl | rfl <;> rfl
theorem te_f0_2 {m : Nat} (h : isTe m) : fi0 m 2 = some (m + 4) := by
  rcases h with rfl | rfl <;> rfl
theorem te_f0_3 {m : Nat} (h : isTe m) : fi0 m 3 = some (m + 5) := by
  rcases h with rfl | rfl <;> rfl
theorem te_f0_4 {m : Nat} (h : isTe m) : fi0 m 4 = some (m + 7) := by
  rcases h with rfl | rfl <;> rfl
theorem te_f0_5 {m : Nat} (h : isTe m) : fi0 m 5 = some (m + 8) := by
  rcases h with rfl | rfl <;> rfl
theorem te_f0_6 {m : Nat} (h : isTe m) : fi0 m 6 = some (m + 9) := by
  rcases h with rfl | rfl <;> rfl
theorem te_f0_7 {m : Nat} (h : isTe m) : fi0 m 7 = some (m + 10) := by
  rcases h with rfl | rfl <;> rfl
theorem te_f0_8 {m : Nat} (h : isTe m) : fi0 m 8 = some (m + 11) := by
  rcases h with rfl | rfl <;> rfl
theorem te_f0_9 {m : Nat} (h : isTe m) : fi0 m 9 = some (m + 12) := by
  rcases h with rfl | rfl <;> rfl
theorem te_f0_10 {m : Nat} (h : isTe m) : fi0 m 10 = some (m + 13) := by
  rcases h with rfl | rfl <;> rfl
theorem te_f0_11 {m : Nat} (h : isTe m) : fi0 m 11 = some (m + 14) := by
  rcases h with rfl | rfl <;> rfl
theorem te_f0_13 {m : Nat} (h : isTe m) : fi0 m 13 = some (m + 15) := by
  rcases h with rfl | rfl <;> rfl
theorem te_f0_14 {m : Nat} (h : isTe m) : fi0 m 14 = some (m + 17) := by
  rcases h with rfl | rfl <;> rfl
theorem te_f0_15 {m : Nat} (h : isTe m) : fi0 m 15 = some (m + 18) := by
  rcases h with rfl | rfl <;> rfl
theorem te_f0_16 {m : Nat} (h : isTe m) : fi0 m 16 = some (m + 19) := by
  rcases h with rfl | rfl <;> rfl
theorem te_f0_17 {m : Nat} (h : isTe m) : fi0 m 17 = some (m + 23) := by
  rcases h with rfl | rfl <;> rfl
theorem te_k1 {m : Nat} (h : isTe m) : kd0 (m + 1) = 5 := by
  rcases h with rfl | rfl <;> rfl
theorem te_f1_0 {m : Nat} (h : isTe m) : fi0 (m + 1) 0 = some (m + 2) := by
  rcases h with rfl | rfl <;> rfl
theorem te_k2 {m : Nat} (h : isTe m) : kd0 (m + 2) = 14 := by
  rcases h with rfl | rfl <;> rfl
theorem te_n2 {m : Nat} (h : isTe m) : ln0 (m + 2) = 3 := by
  rcases h with rfl | rfl <;> rfl
theorem te_k3 {m : Nat} (h : isTe m) : kd0 (m + 3) = 14 := by
  rcases h with rfl | rfl <;> rfl
theorem te_n3 {m : Nat} (h : isTe m) : ln0 (m + 3) = 3 := by
  rcases h with rfl | rfl <;> rfl
theorem te_k4 {m : Nat} (h : isTe m) : kd0 (m + 4) = 14 := by
  rcases h with rfl | rfl <;> rfl
theorem te_n4 {m : Nat} (h : isTe m) : ln0 (m + 4) = 3 := by
  rcases h with rfl | rfl <;> rfl
theorem te_k5 {m : Nat} (h : isTe m) : kd0 (m + 5) = 5 := by
  rcases h with rfl | rfl <;> rfl
theorem te_f5_0 {m : Nat} (h : isTe m) : fi0 (m + 5) 0 = some (m + 6) := by
  rcases h with rfl | rfl <;> rfl
theorem te_k6 {m : Nat} (h : isTe m) : kd0 (m + 6) = 14 := by
  rcases h with rfl | rfl <;> rfl
theorem te_n6 {m : Nat} (h : isTe m) : ln0 (m + 6) = 6 := by
  rcases h with rfl | rfl <;> rfl
theorem te_k7 {m : Nat} (h : isTe m) : kd0 (m + 7) = 14 := by
  rcases h with rfl | rfl <;> rfl
theorem te_n7 {m : Nat} (h : isTe m) : ln0 (m + 7) = 6 := by
  rcases h with rfl | rfl <;> rfl
theorem te_k8 {m : Nat} (h : isTe m) : kd0 (m + 8) = 14 := by
  rcases h with rfl | rfl <;> rfl
theorem te_n8 {m : Nat} (h : isTe m) : ln0 (m + 8) = 6 := by
  rcases h with rfl | rfl <;> rfl
theorem te_k9 {m : Nat} (h : isTe m) : kd0 (m + 9) = 14 := by
  rcases h with rfl | rfl <;> rfl
theorem te_n9 {m : Nat} (h : isTe m) : ln0 (m + 9) = 6 := by
  rcases h with rfl | rfl <;> rfl
theorem te_k10 {m : Nat} (h : isTe m) : kd0 (m + 10) = 14 := by
  rcases h with rfl | rfl <;> rfl
theorem te_n10 {m : Nat} (h : isTe m) : ln0 (m + 10) = 6 := by
  rcases h with rfl | rfl <;> rfl
theorem te_k11 {m : Nat} (h : isTe m) : kd0 (m + 11) = 14 := by
  rcases h with rfl | rfl <;> rfl
theorem te_n11 {m : Nat} (h : isTe m) : ln0 (m + 11) = 6 := by
  rcases h with rfl | rfl <;> rfl
theorem te_k12 {m : Nat} (h : isTe m) : kd0 (m + 12) = 14 := by
  rcases h with rfl | rfl <;> rfl
theorem te_n12 {m : Nat} (h : isTe m) : ln0 (m + 12) = 6 := by
  rcases h with rfl | rfl <;> rfl
theorem te_k13 {m : Nat} (h : isTe m) : kd0 (m + 13) = 14 := by
  rcases h with rfl | rfl <;> rfl
theorem te_n13 {m : Nat} (h : isTe m) : ln0 (m + 13) = 6 := by
  rcases h with rfl | rfl <;> rfl
theorem te_k14 {m : Nat} (h : isTe m) : kd0 (m + 14) = 14 := by
  rcases h with rfl | rfl <;> rfl
theorem te_n14 {m : Nat} (h : isTe m) : ln0 (m + 14) = 6 := by
  rcases h with rfl | rfl <;> rfl
theorem te_k15 {m : Nat} (h : isTe m) : kd0 (m + 15) = 5 := by
  rcases h with rfl | rfl <;> rfl
theorem te_f15_0 {m : Nat} (h : isTe m) : fi0 (m + 15) 0 = some (m + 16) := by
  rcases h with rfl | rfl <;> rfl
theorem te_k16 {m : Nat} (h : isTe m) : kd0 (m + 16) = 14 := by
  rcases h with rfl | rfl <;> rfl
theorem te_n16 {m : Nat} (h : isTe m) : ln0 (m + 16) = 4 := by
  rcases h with rfl | rfl <;> rfl
theorem te_k17 {m : Nat} (h : isTe m) : kd0 (m + 17) = 14 := by
  rcases h with rfl | rfl <;> rfl
theorem te_n17 {m : Nat} (h : isTe m) : ln0 (m + 17) = 24 := by
  rcases h with rfl | rfl <;> rfl
theorem te_k18 {m : Nat} (h : isTe m) : kd0 (m + 18) = 14 := by
  rcases h with rfl | rfl <;> rfl
theorem te_n18 {m : Nat} (h : isTe m) : ln0 (m + 18) = 24 := by
  rcases h with rfl | rfl <;> rfl
theorem te_k19 {m : Nat} (h : isTe m) : kd0 (m + 19) = 2 := by
  rcases h with rfl | rfl <;> rfl
theorem te_f19_2 {m : Nat} (h : isTe m) : fi0 (m + 19) 2 = some (m + 20) := by
  rcases h with rfl | rfl <;> rfl
theorem te_f19_3 {m : Nat} (h : isTe m) : fi0 (m + 19) 3 = some (m + 21) := by
  rcases h with rfl | rfl <;> rfl
theorem te_f19_4 {m : Nat} (h : isTe m) : fi0 (m + 19) 4 = some (m + 22) := by
  rcases h with rfl | rfl <;> rfl
theorem te_k20 {m : Nat} (h : isTe m) : kd0 (m + 20) = 14 := by
  rcases h with rfl | rfl <;> rfl
theorem te_n20 {m : Nat} (h : isTe m) : ln0 (m + 20) = 64 := by
  rcases h with rfl | rfl <;> rfl
theorem te_k21 {m : Nat} (h : isTe m) : kd0 (m + 21) = 14 := by
  rcases h with rfl | rfl <;> rfl
theorem te_n21 {m : Nat} (h : isTe m) : ln0 (m + 21) = 64 := by
  rcases h with rfl | rfl <;> rfl
theorem te_k22 {m : Nat} (h : isTe m) : kd0 (m + 22) = 15 := by
  rcases h with rfl | rfl <;> rfl
theorem te_n22 {m : Nat} (h : isTe m) : ln0 (m + 22) = 64 := by
  rcases h with rfl | rfl <;> rfl
theorem te_k23 {m : Nat} (h : isTe m) : kd0 (m + 23) = 2 := by
  rcases h with rfl | rfl <;> rfl
theorem te_f23_2 {m : Nat} (h : isTe m) : fi0 (m + 23) 2 = some (m + 24) := by
  rcases h with rfl | rfl <;> rfl
theorem te_f23_3 {m : Nat} (h : isTe m) : fi0 (m + 23) 3 = some (m + 25) := by
  rcases h with rfl | rfl <;> rfl
theorem te_f23_4 {m : Nat} (h : isTe m) : fi0 (m + 23) 4 = some (m + 26) := by
  rcases h with rfl | rfl <;> rfl
theorem te_k24 {m : Nat} (h : isTe m) : kd0 (m + 24) = 14 := by
  rcases h with rfl | rfl <;> rfl
theorem te_n24 {m : Nat} (h : isTe m) : ln0 (m + 24) = 64 := by
  rcases h with rfl | rfl <;> rfl
theorem te_k25 {m : Nat} (h : isTe m) : kd0 (m + 25) = 14 := by
  rcases h with rfl | rfl <;> rfl
theorem te_n25 {m : Nat} (h : isTe m) : ln0 (m + 25) = 64 := by
  rcases h with rfl | rfl <;> rfl
theorem te_k26 {m : Nat} (h : isTe m) : kd0 (m + 26) = 15 := by
  rcases h with rfl | rfl <;> rfl
theorem te_n26 {m : Nat} (h : isTe m) : ln0 (m + 26) = 64 := by
  rcases h with rfl | rfl <;> rfl
def isMo (m : Nat) : Prop := m = 60 ∨ m = 74 ∨ m = 88
theorem mo_k0 {m : Nat} (h : isMo m) : kd0 m = 4 := by
  rcases h with rfl | rfl | rfl <;> rfl
theorem mo_f0_5 {m : Nat} (h : isMo m) : fi0 m 5 = some (m + 1) := by
  rcases h with rfl | rfl | rfl <;> rfl
theorem mo_f0_6 {m : Nat} (h : isMo m) : fi0 m 6 = some (m + 2) := by
  rcases h with rfl | rfl | rfl <;> rfl
theorem mo_f0_7 {m : Nat} (h : isMo m) : fi0 m 7 = some (m + 3) := by
  rcases h with rfl | rfl | rfl <;> rfl
theorem mo_f0_8 {m : Nat} (h : isMo m) : fi0 m 8 = some (m + 4) := by
  rcases h with rfl | rfl | rfl <;> rfl
theorem mo_f0_9 {m : Nat} (h : isMo m) : fi0 m 9 = some (m + 5) := by
  rcases h with rfl | rfl | rfl <;> rfl
theorem mo_f0_10 {m : Nat} (h : isMo m) : fi0 m 10 = some (m + 6) := by
  rcases h with rfl | rfl | rfl <;> rfl
theorem mo_f0_11 {m : Nat} (h : isMo m) : fi0 m 11 = some (m + 7) := by
  rcases h with rfl | rfl | rfl <;> rfl
theorem mo_f0_12 {m : Nat} (h : isMo m) : fi0 m 12 = some (m + 8) := by
  rcases h with rfl | rfl | rfl <;> rfl
theorem mo_f0_13 {m : Nat} (h : isMo m) : fi0 m 13 = some (m + 9) := by
  rcases h with rfl | rfl | rfl <;> rfl
theorem mo_f0_14 {m : Nat} (h : isMo m) : fi0 m 14 = some (m + 10) := by
  rcases h with rfl | rfl | rfl <;> rfl
theorem mo_f0_15 {m : Nat} (h : isMo m) : fi0 m 15 = some (m + 11) := by
  rcases h with rfl | rfl | rfl <;> rfl
theorem mo_f0_16 {m : Nat} (h : isMo m) : fi0 m 16 = some (m + 12) := by
  rcases h with rfl | rfl | rfl <;> rfl
theorem mo_f0_17 {m : Nat} (h : isMo m) : fi0 m 17 = some (m + 13) := by
  rcases h with rfl | rfl | rfl <;> rfl
theorem mo_k1 {m : Nat} (h : isMo m) : kd0 (m + 1) = 14 := by
  rcases h with rfl | rfl | rfl <;> rfl
theorem mo_n1 {m : Nat} (h : isMo m) : ln0 (m + 1) = 3 := by
  rcases h with rfl | rfl | rfl <;> rfl
theorem mo_k2 {m : Nat} (h : isMo m) : kd0 (m + 2) = 14 := by
  rcases h with rfl | rfl | rfl <;> rfl
theorem mo_n2 {m : Nat} (h : isMo m) : ln0 (m + 2) = 6 := by
  rcases h with rfl | rfl | rfl <;> rfl
theorem mo_k3 {m : Nat} (h : isMo m) : kd0 (m + 3) = 14 := by
  rcases h with rfl | rfl | rfl <;> rfl
theorem mo_n3 {m : Nat} (h : isMo m) : ln0 (m + 3) = 6 := by
  rcases h with rfl | rfl | rfl <;> rfl
theorem mo_k4 {m : Nat} (h : isMo m) : kd0 (m + 4) = 14 := by
  rcases h with rfl | rfl | rfl <;> rfl
theorem mo_n4 {m : Nat} (h : isMo m) : ln0 (m + 4) = 6 := by
  rcases h with rfl | rfl | rfl <;> rfl
theorem mo_k5 {m : Nat} (h : isMo m) : kd0 (m + 5) = 14 := by
  rcases h with rfl | rfl | rfl <;> rfl
theorem mo_n5 {m : Nat} (h : isMo m) : ln0 (m + 5) = 6 := by
  rcases h with rfl | rfl | rfl <;> rfl
theorem mo_k6 {m : Nat} (h : isMo m) : kd0 (m + 6) = 14 := by
  rcases h with rfl | rfl | rfl <;> rfl
theorem mo_n6 {m : Nat} (h : isMo m) : ln0 (m + 6) = 6 := by
  rcases h with rfl | rfl | rfl <;> rfl
theorem mo_k7 {m : Nat} (h : isMo m) : kd0 (m + 7) = 14 := by
  rcases h with rfl | rfl | rfl <;> rfl
theorem mo_n7 {m : Nat} (h : isMo m) : ln0 (m + 7) = 6 := by
  rcases h with rfl | rfl | rfl <;> rfl
theorem mo_k8 {m : Nat} (h : isMo m) : kd0 (m + 8) = 14 := by
  rcases h with rfl | rfl | rfl <;> rfl
theorem mo_n8 {m : Nat} (h : isMo m) : ln0 (m + 8) = 6 := by
  rcases h with rfl | rfl | rfl <;> rfl
theorem mo_k9 {m : Nat} (h : isMo m) : kd0 (m + 9) = 14 := by
  rcases h with rfl | rfl | rfl <;> rfl
theorem mo_n9 {m : Nat} (h : isMo m) : ln0 (m + 9) = 6 := by
  rcases h with rfl | rfl | rfl <;> rfl
theorem mo_k10 {m : Nat} (h : isMo m) : kd0 (m + 10) = 14 := by
  rcases h with rfl | rfl | rfl <;> rfl
theorem mo_n10 {m : Nat} (h : isMo m) : ln0 (m + 10) = 6 := by
  rcases h with rfl | rfl | rfl <;> rfl
theorem mo_k11 {m : Nat} (h : isMo m) : kd0 (m + 11) = 14 := by
  rcases h with rfl | rfl | rfl <;> rfl
theorem mo_n11 {m : Nat} (h : isMo m) : ln0 (m + 11) = 36 := by
  rcases h with rfl | rfl | rfl <;> rfl
theorem mo_k12 {m : Nat} (h : isMo m) : kd0 (m + 12) = 14 := by
  rcases h with rfl | rfl | rfl <;> rfl
theorem mo_n12 {m : Nat} (h : isMo m) : ln0 (m + 12) = 6 := by
  rcases h with rfl | rfl | rfl <;> rfl
theorem mo_k13 {m : Nat} (h : isMo m) : kd0 (m + 13) = 15 := by
  rcases h with rfl | rfl | rfl <;> rfl
theorem mo_n13 {m : Nat} (h : isMo m) : ln0 (m + 13) = 7 := by
  rcases h with rfl | rfl | rfl <;> rfl
def isLw (m : Nat) : Prop := m = 21 ∨ m = 25 ∨ m = 48 ∨ m = 52
theorem lw_k0 {m : Nat} (h : isLw m) : kd0 m = 2 := by
  rcases h with rfl | rfl | rfl | rfl <;> rfl
theorem lw_f0_2 {m : Nat} (h : isLw m) : fi0 m 2 = some (m + 1) := by
  rcases h with rfl | rfl | rfl | rfl <;> rfl
theorem lw_f0_3 {m : Nat} (h : isLw m) : fi0 m 3 = some (m + 2) := by
  rcases h with rfl | rfl | rfl | rfl <;> rfl
theorem lw_f0_4 {m : Nat} (h : isLw m) : fi0 m 4 = some (m + 3) := by
  rcases h with rfl | rfl | rfl | rfl <;> rfl
theorem lw_k1 {m : Nat} (h : isLw m) : kd0 (m + 1) = 14 := by
  rcases h with rfl | rfl | rfl | rfl <;> rfl
theorem lw_n1 {m : Nat} (h : isLw m) : ln0 (m + 1) = 64 := by
  rcases h with rfl | rfl | rfl | rfl <;> rfl
theorem lw_k2 {m : Nat} (h : isLw m) : kd0 (m + 2) = 14 := by
  rcases h with rfl | rfl | rfl | rfl <;> rfl
theorem lw_n2 {m : Nat} (h : isLw m) : ln0 (m + 2) = 64 := by
  rcases h with rfl | rfl | rfl | rfl <;> rfl
theorem lw_k3 {m : Nat} (h : isLw m) : kd0 (m + 3) = 15 := by
  rcases h with rfl | rfl | rfl | rfl <;> rfl
theorem lw_n3 {m : Nat} (h : isLw m) : ln0 (m + 3) = 64 := by
  rcases h with rfl | rfl | rfl | rfl <;> rfl
