/-! THE TABLES LOOKED UP (printed by wip/gen/look.py) -/
theorem ow_0 : am_ow 0 = 7 := rfl
theorem ow_1 : am_ow 1 = 7 := rfl
theorem ow_2 : am_ow 2 = 7 := rfl
theorem ow_3 : am_ow 3 = 7 := rfl
theorem ow_4 : am_ow 4 = 7 := rfl
theorem ow_5 : am_ow 5 = 7 := rfl
theorem ow_6 : am_ow 6 = 7 := rfl
theorem ow_7 : am_ow 7 = 7 := rfl
theorem ow_8 : am_ow 8 = 7 := rfl
theorem ow_9 : am_ow 9 = 7 := rfl
theorem ow_10 : am_ow 10 = 7 := rfl
theorem ow_11 : am_ow 11 = 7 := rfl
theorem ow_12 : am_ow 12 = 7 := rfl
theorem ow_13 : am_ow 13 = 7 := rfl
theorem ow_14 : am_ow 14 = 7 := rfl
theorem ow_15 : am_ow 15 = 7 := rfl
theorem ow_16 : am_ow 16 = 7 := rfl
theorem ow_17 : am_ow 17 = 7 := rfl
theorem ow_18 : am_ow 18 = 7 := rfl
theorem ow_19 : am_ow 19 = 7 := rfl
theorem ow_20 : am_ow 20 = 7 := rfl
theorem ow_21 : am_ow 21 = 7 := rfl
theorem ow_22 : am_ow 22 = 7 := rfl
theorem ow_23 : am_ow 23 = 7 := rfl
theorem ow_24 : am_ow 24 = 8 := rfl
theorem ow_25 : am_ow 25 = 8 := rfl
theorem ow_26 : am_ow 26 = 8 := rfl
theorem ow_27 : am_ow 27 = 8 := rfl
theorem ow_28 : am_ow 28 = 8 := rfl
theorem ow_29 : am_ow 29 = 8 := rfl
theorem ow_30 : am_ow 30 = 8 := rfl
theorem ow_31 : am_ow 31 = 8 := rfl
theorem ow_32 : am_ow 32 = 8 := rfl
theorem ow_33 : am_ow 33 = 8 := rfl
theorem ow_34 : am_ow 34 = 8 := rfl
theorem ow_35 : am_ow 35 = 8 := rfl
theorem ow_36 : am_ow 36 = 8 := rfl
theorem ow_37 : am_ow 37 = 8 := rfl
theorem ow_38 : am_ow 38 = 8 := rfl
theorem ow_39 : am_ow 39 = 8 := rfl
theorem ow_40 : am_ow 40 = 8 := rfl
theorem ow_41 : am_ow 41 = 8 := rfl
theorem ow_42 : am_ow 42 = 8 := rfl
theorem ow_43 : am_ow 43 = 8 := rfl
theorem ow_44 : am_ow 44 = 8 := rfl
theorem ow_45 : am_ow 45 = 8 := rfl
theorem ow_46 : am_ow 46 = 8 := rfl
theorem ow_47 : am_ow 47 = 8 := rfl
theorem ow_48 : am_ow 48 = 8 := rfl
theorem ow_49 : am_ow 49 = 8 := rfl
theorem ow_50 : am_ow 50 = 8 := rfl
theorem ow_51 : am_ow 51 = 8 := rfl
theorem ow_52 : am_ow 52 = 8 := rfl
theorem ow_53 : am_ow 53 = 8 := rfl
theorem ow_54 : am_ow 54 = 8 := rfl
theorem ow_55 : am_ow 55 = 8 := rfl
theorem ow_56 : am_ow 56 = 8 := rfl
theorem ow_57 : am_ow 57 = 8 := rfl
theorem ow_58 : am_ow 58 = 8 := rfl
theorem ow_59 : am_ow 59 = 8 := rfl
theorem ow_60 : am_ow 60 = 0 := rfl
theorem ow_61 : am_ow 61 = 0 := rfl
theorem ow_62 : am_ow 62 = 0 := rfl
theorem ow_63 : am_ow 63 = 0 := rfl
theorem ow_64 : am_ow 64 = 0 := rfl
theorem ow_65 : am_ow 65 = 0 := rfl
theorem ow_66 : am_ow 66 = 0 := rfl
theorem ow_67 : am_ow 67 = 9 := rfl
theorem ow_68 : am_ow 68 = 9 := rfl
theorem ow_69 : am_ow 69 = 9 := rfl
theorem ow_70 : am_ow 70 = 1 := rfl
theorem ow_71 : am_ow 71 = 1 := rfl
theorem ow_72 : am_ow 72 = 2 := rfl
theorem ow_73 : am_ow 73 = 2 := rfl
theorem ow_74 : am_ow 74 = 2 := rfl
theorem ow_75 : am_ow 75 = 2 := rfl
theorem ow_76 : am_ow 76 = 2 := rfl
theorem ow_77 : am_ow 77 = 2 := rfl
theorem ow_78 : am_ow 78 = 2 := rfl
theorem ow_79 : am_ow 79 = 2 := rfl
theorem ow_80 : am_ow 80 = 3 := rfl
theorem ow_81 : am_ow 81 = 3 := rfl
theorem ow_82 : am_ow 82 = 3 := rfl
theorem ow_83 : am_ow 83 = 3 := rfl
theorem ow_84 : am_ow 84 = 3 := rfl
theorem ow_85 : am_ow 85 = 3 := rfl
theorem ow_86 : am_ow 86 = 3 := rfl
theorem ow_87 : am_ow 87 = 3 := rfl
theorem ow_88 : am_ow 88 = 3 := rfl
theorem ow_89 : am_ow 89 = 3 := rfl
theorem ow_90 : am_ow 90 = 3 := rfl
theorem ow_91 : am_ow 91 = 3 := rfl
theorem ow_92 : am_ow 92 = 4 := rfl
theorem ow_93 : am_ow 93 = 4 := rfl
theorem ow_94 : am_ow 94 = 4 := rfl
theorem ow_95 : am_ow 95 = 4 := rfl
theorem ow_96 : am_ow 96 = 4 := rfl
theorem ow_97 : am_ow 97 = 4 := rfl
theorem ow_98 : am_ow 98 = 4 := rfl
theorem ow_99 : am_ow 99 = 4 := rfl
theorem ow_100 : am_ow 100 = 4 := rfl
theorem ow_101 : am_ow 101 = 4 := rfl
theorem ow_102 : am_ow 102 = 4 := rfl
theorem ow_103 : am_ow 103 = 4 := rfl
theorem ow_104 : am_ow 104 = 4 := rfl
theorem ow_105 : am_ow 105 = 4 := rfl
theorem ow_106 : am_ow 106 = 4 := rfl
theorem ow_107 : am_ow 107 = 5 := rfl
theorem ow_108 : am_ow 108 = 5 := rfl
theorem ow_109 : am_ow 109 = 5 := rfl
theorem ow_110 : am_ow 110 = 5 := rfl
theorem ow_111 : am_ow 111 = 5 := rfl
theorem ow_112 : am_ow 112 = 5 := rfl
theorem ow_113 : am_ow 113 = 5 := rfl
theorem ow_114 : am_ow 114 = 5 := rfl
theorem ow_115 : am_ow 115 = 5 := rfl
theorem ow_116 : am_ow 116 = 5 := rfl
theorem ow_117 : am_ow 117 = 6 := rfl
theorem ow_118 : am_ow 118 = 6 := rfl
theorem ow_119 : am_ow 119 = 6 := rfl
theorem ow_120 : am_ow 120 = 6 := rfl
theorem ow_121 : am_ow 121 = 6 := rfl
theorem ow_122 : am_ow 122 = 6 := rfl
theorem ow_123 : am_ow 123 = 6 := rfl
theorem ow_124 : am_ow 124 = 6 := rfl
theorem ow_125 : am_ow 125 = 6 := rfl
theorem ow_126 : am_ow 126 = 6 := rfl
theorem ow_127 : am_ow 127 = 6 := rfl
theorem ow_128 : am_ow 128 = 6 := rfl
theorem ow_129 : am_ow 129 = 6 := rfl
theorem ow_130 : am_ow 130 = 6 := rfl
theorem ow_131 : am_ow 131 = 6 := rfl
theorem ow_132 : am_ow 132 = 6 := rfl
theorem ow_133 : am_ow 133 = 6 := rfl
theorem ow_134 : am_ow 134 = 6 := rfl
theorem ow_135 : am_ow 135 = 6 := rfl
theorem ow_136 : am_ow 136 = 6 := rfl
theorem ow_137 : am_ow 137 = 6 := rfl
theorem ow_138 : am_ow 138 = 6 := rfl
theorem ow_139 : am_ow 139 = 10 := rfl
theorem ow_140 : am_ow 140 = 10 := rfl
theorem na_0 : am_na 0 = 1 := rfl
theorem mc_0 : am_mc 0 = 30 := rfl
theorem ms_0 : am_ms 0 = 14185 := rfl
theorem rt_0 : am_rt 0 = 3 := rfl
theorem mL_0 : am_mL 0 = 1 := rfl
theorem na_1 : am_na 1 = 3 := rfl
theorem mc_1 : am_mc 1 = 0 := rfl
theorem ms_1 : am_ms 1 = 0 := rfl
theorem rt_1 : am_rt 1 = 0 := rfl
theorem mL_1 : am_mL 1 = 5 := rfl
theorem na_2 : am_na 2 = 6 := rfl
theorem mc_2 : am_mc 2 = 0 := rfl
theorem ms_2 : am_ms 2 = 0 := rfl
theorem rt_2 : am_rt 2 = 0 := rfl
theorem mL_2 : am_mL 2 = 8 := rfl
theorem na_3 : am_na 3 = 4 := rfl
theorem mc_3 : am_mc 3 = 0 := rfl
theorem ms_3 : am_ms 3 = 0 := rfl
theorem rt_3 : am_rt 3 = 0 := rfl
theorem mL_3 : am_mL 3 = 4 := rfl
theorem na_4 : am_na 4 = 3 := rfl
theorem mc_4 : am_mc 4 = 0 := rfl
theorem ms_4 : am_ms 4 = 0 := rfl
theorem rt_4 : am_rt 4 = 0 := rfl
theorem mL_4 : am_mL 4 = 4 := rfl
theorem na_5 : am_na 5 = 5 := rfl
theorem mc_5 : am_mc 5 = 0 := rfl
theorem ms_5 : am_ms 5 = 0 := rfl
theorem rt_5 : am_rt 5 = 0 := rfl
theorem mL_5 : am_mL 5 = 6 := rfl
theorem na_6 : am_na 6 = 2 := rfl
theorem mc_6 : am_mc 6 = 0 := rfl
theorem ms_6 : am_ms 6 = 0 := rfl
theorem rt_6 : am_rt 6 = 0 := rfl
theorem mL_6 : am_mL 6 = 2 := rfl
theorem na_7 : am_na 7 = 1 := rfl
theorem mc_7 : am_mc 7 = 0 := rfl
theorem ms_7 : am_ms 7 = 0 := rfl
theorem rt_7 : am_rt 7 = 2 := rfl
theorem mL_7 : am_mL 7 = 1 := rfl
theorem na_8 : am_na 8 = 4 := rfl
theorem mc_8 : am_mc 8 = 0 := rfl
theorem ms_8 : am_ms 8 = 0 := rfl
theorem rt_8 : am_rt 8 = 0 := rfl
theorem mL_8 : am_mL 8 = 12 := rfl
theorem na_9 : am_na 9 = 4 := rfl
theorem mc_9 : am_mc 9 = 0 := rfl
theorem ms_9 : am_ms 9 = 0 := rfl
theorem rt_9 : am_rt 9 = 0 := rfl
theorem mL_9 : am_mL 9 = 6 := rfl
theorem na_10 : am_na 10 = 2 := rfl
theorem mc_10 : am_mc 10 = 0 := rfl
theorem ms_10 : am_ms 10 = 0 := rfl
theorem rt_10 : am_rt 10 = 0 := rfl
theorem mL_10 : am_mL 10 = 3 := rfl
theorem na_11 : am_na 11 = 3 := rfl
theorem mc_11 : am_mc 11 = 0 := rfl
theorem ms_11 : am_ms 11 = 0 := rfl
theorem rt_11 : am_rt 11 = 0 := rfl
theorem mL_11 : am_mL 11 = 3 := rfl
theorem na_12 : am_na 12 = 2 := rfl
theorem mc_12 : am_mc 12 = 0 := rfl
theorem ms_12 : am_ms 12 = 0 := rfl
theorem rt_12 : am_rt 12 = 0 := rfl
theorem mL_12 : am_mL 12 = 2 := rfl
theorem na_13 : am_na 13 = 1 := rfl
theorem mc_13 : am_mc 13 = 0 := rfl
theorem ms_13 : am_ms 13 = 0 := rfl
theorem rt_13 : am_rt 13 = 0 := rfl
theorem mL_13 : am_mL 13 = 1 := rfl
theorem na_14 : am_na 14 = 3 := rfl
theorem mc_14 : am_mc 14 = 0 := rfl
theorem ms_14 : am_ms 14 = 0 := rfl
theorem rt_14 : am_rt 14 = 0 := rfl
theorem mL_14 : am_mL 14 = 3 := rfl
theorem na_15 : am_na 15 = 2 := rfl
theorem mc_15 : am_mc 15 = 0 := rfl
theorem ms_15 : am_ms 15 = 0 := rfl
theorem rt_15 : am_rt 15 = 1 := rfl
theorem mL_15 : am_mL 15 = 4 := rfl
theorem na_16 : am_na 16 = 1 := rfl
theorem mc_16 : am_mc 16 = 0 := rfl
theorem ms_16 : am_ms 16 = 0 := rfl
theorem rt_16 : am_rt 16 = 1 := rfl
theorem mL_16 : am_mL 16 = 2 := rfl
theorem na_17 : am_na 17 = 1 := rfl
theorem mc_17 : am_mc 17 = 0 := rfl
theorem ms_17 : am_ms 17 = 0 := rfl
theorem rt_17 : am_rt 17 = 3 := rfl
theorem mL_17 : am_mL 17 = 2 := rfl
theorem na_18 : am_na 18 = 2 := rfl
theorem mc_18 : am_mc 18 = 0 := rfl
theorem ms_18 : am_ms 18 = 0 := rfl
theorem rt_18 : am_rt 18 = 1 := rfl
theorem mL_18 : am_mL 18 = 5 := rfl
theorem na_19 : am_na 19 = 2 := rfl
theorem mc_19 : am_mc 19 = 0 := rfl
theorem ms_19 : am_ms 19 = 0 := rfl
theorem rt_19 : am_rt 19 = 2 := rfl
theorem mL_19 : am_mL 19 = 2 := rfl
theorem na_20 : am_na 20 = 2 := rfl
theorem mc_20 : am_mc 20 = 0 := rfl
theorem ms_20 : am_ms 20 = 0 := rfl
theorem rt_20 : am_rt 20 = 2 := rfl
theorem mL_20 : am_mL 20 = 2 := rfl
theorem na_21 : am_na 21 = 3 := rfl
theorem mc_21 : am_mc 21 = 0 := rfl
theorem ms_21 : am_ms 21 = 0 := rfl
theorem rt_21 : am_rt 21 = 0 := rfl
theorem mL_21 : am_mL 21 = 3 := rfl
theorem na_22 : am_na 22 = 3 := rfl
theorem mc_22 : am_mc 22 = 0 := rfl
theorem ms_22 : am_ms 22 = 0 := rfl
theorem rt_22 : am_rt 22 = 1 := rfl
theorem mL_22 : am_mL 22 = 5 := rfl
theorem na_23 : am_na 23 = 4 := rfl
theorem mc_23 : am_mc 23 = 0 := rfl
theorem ms_23 : am_ms 23 = 0 := rfl
theorem rt_23 : am_rt 23 = 2 := rfl
theorem mL_23 : am_mL 23 = 7 := rfl
theorem na_24 : am_na 24 = 1 := rfl
theorem mc_24 : am_mc 24 = 20 := rfl
theorem ms_24 : am_ms 24 = 33659 := rfl
theorem rt_24 : am_rt 24 = 3 := rfl
theorem mL_24 : am_mL 24 = 1 := rfl
theorem na_25 : am_na 25 = 1 := rfl
theorem mc_25 : am_mc 25 = 0 := rfl
theorem ms_25 : am_ms 25 = 0 := rfl
theorem rt_25 : am_rt 25 = 0 := rfl
theorem mL_25 : am_mL 25 = 1 := rfl
theorem na_26 : am_na 26 = 2 := rfl
theorem mc_26 : am_mc 26 = 0 := rfl
theorem ms_26 : am_ms 26 = 0 := rfl
theorem rt_26 : am_rt 26 = 1 := rfl
theorem mL_26 : am_mL 26 = 2 := rfl
theorem na_27 : am_na 27 = 2 := rfl
theorem mc_27 : am_mc 27 = 0 := rfl
theorem ms_27 : am_ms 27 = 0 := rfl
theorem rt_27 : am_rt 27 = 1 := rfl
theorem mL_27 : am_mL 27 = 2 := rfl
theorem na_28 : am_na 28 = 3 := rfl
theorem mc_28 : am_mc 28 = 0 := rfl
theorem ms_28 : am_ms 28 = 0 := rfl
theorem rt_28 : am_rt 28 = 0 := rfl
theorem mL_28 : am_mL 28 = 5 := rfl
theorem na_29 : am_na 29 = 6 := rfl
theorem mc_29 : am_mc 29 = 0 := rfl
theorem ms_29 : am_ms 29 = 0 := rfl
theorem rt_29 : am_rt 29 = 0 := rfl
theorem mL_29 : am_mL 29 = 8 := rfl
theorem na_30 : am_na 30 = 4 := rfl
theorem mc_30 : am_mc 30 = 0 := rfl
theorem ms_30 : am_ms 30 = 0 := rfl
theorem rt_30 : am_rt 30 = 0 := rfl
theorem mL_30 : am_mL 30 = 5 := rfl
theorem na_31 : am_na 31 = 3 := rfl
theorem mc_31 : am_mc 31 = 0 := rfl
theorem ms_31 : am_ms 31 = 0 := rfl
theorem rt_31 : am_rt 31 = 0 := rfl
theorem mL_31 : am_mL 31 = 6 := rfl
theorem na_32 : am_na 32 = 4 := rfl
theorem mc_32 : am_mc 32 = 0 := rfl
theorem ms_32 : am_ms 32 = 0 := rfl
theorem rt_32 : am_rt 32 = 0 := rfl
theorem mL_32 : am_mL 32 = 8 := rfl
theorem na_33 : am_na 33 = 2 := rfl
theorem mc_33 : am_mc 33 = 0 := rfl
theorem ms_33 : am_ms 33 = 0 := rfl
theorem rt_33 : am_rt 33 = 2 := rfl
theorem mL_33 : am_mL 33 = 4 := rfl
theorem na_34 : am_na 34 = 2 := rfl
theorem mc_34 : am_mc 34 = 0 := rfl
theorem ms_34 : am_ms 34 = 0 := rfl
theorem rt_34 : am_rt 34 = 2 := rfl
theorem mL_34 : am_mL 34 = 2 := rfl
theorem na_35 : am_na 35 = 1 := rfl
theorem mc_35 : am_mc 35 = 0 := rfl
theorem ms_35 : am_ms 35 = 0 := rfl
theorem rt_35 : am_rt 35 = 0 := rfl
theorem mL_35 : am_mL 35 = 1 := rfl
theorem na_36 : am_na 36 = 2 := rfl
theorem mc_36 : am_mc 36 = 0 := rfl
theorem ms_36 : am_ms 36 = 0 := rfl
theorem rt_36 : am_rt 36 = 0 := rfl
theorem mL_36 : am_mL 36 = 2 := rfl
theorem na_37 : am_na 37 = 2 := rfl
theorem mc_37 : am_mc 37 = 0 := rfl
theorem ms_37 : am_ms 37 = 0 := rfl
theorem rt_37 : am_rt 37 = 0 := rfl
theorem mL_37 : am_mL 37 = 2 := rfl
theorem na_38 : am_na 38 = 4 := rfl
theorem mc_38 : am_mc 38 = 0 := rfl
theorem ms_38 : am_ms 38 = 0 := rfl
theorem rt_38 : am_rt 38 = 1 := rfl
theorem mL_38 : am_mL 38 = 4 := rfl
theorem na_39 : am_na 39 = 4 := rfl
theorem mc_39 : am_mc 39 = 0 := rfl
theorem ms_39 : am_ms 39 = 0 := rfl
theorem rt_39 : am_rt 39 = 1 := rfl
theorem mL_39 : am_mL 39 = 5 := rfl
theorem na_40 : am_na 40 = 1 := rfl
theorem mc_40 : am_mc 40 = 0 := rfl
theorem ms_40 : am_ms 40 = 0 := rfl
theorem rt_40 : am_rt 40 = 3 := rfl
theorem mL_40 : am_mL 40 = 9 := rfl
theorem na_41 : am_na 41 = 1 := rfl
theorem mc_41 : am_mc 41 = 0 := rfl
theorem ms_41 : am_ms 41 = 0 := rfl
theorem rt_41 : am_rt 41 = 3 := rfl
theorem mL_41 : am_mL 41 = 6 := rfl
theorem na_42 : am_na 42 = 2 := rfl
theorem mc_42 : am_mc 42 = 0 := rfl
theorem ms_42 : am_ms 42 = 0 := rfl
theorem rt_42 : am_rt 42 = 1 := rfl
theorem mL_42 : am_mL 42 = 7 := rfl
theorem na_43 : am_na 43 = 1 := rfl
theorem mc_43 : am_mc 43 = 0 := rfl
theorem ms_43 : am_ms 43 = 0 := rfl
theorem rt_43 : am_rt 43 = 1 := rfl
theorem mL_43 : am_mL 43 = 5 := rfl
theorem na_44 : am_na 44 = 2 := rfl
theorem mc_44 : am_mc 44 = 0 := rfl
theorem ms_44 : am_ms 44 = 0 := rfl
theorem rt_44 : am_rt 44 = 2 := rfl
theorem mL_44 : am_mL 44 = 2 := rfl
theorem na_45 : am_na 45 = 2 := rfl
theorem mc_45 : am_mc 45 = 0 := rfl
theorem ms_45 : am_ms 45 = 0 := rfl
theorem rt_45 : am_rt 45 = 3 := rfl
theorem mL_45 : am_mL 45 = 8 := rfl
theorem na_46 : am_na 46 = 1 := rfl
theorem mc_46 : am_mc 46 = 0 := rfl
theorem ms_46 : am_ms 46 = 0 := rfl
theorem rt_46 : am_rt 46 = 3 := rfl
theorem mL_46 : am_mL 46 = 2 := rfl
theorem na_47 : am_na 47 = 5 := rfl
theorem mc_47 : am_mc 47 = 0 := rfl
theorem ms_47 : am_ms 47 = 0 := rfl
theorem rt_47 : am_rt 47 = 0 := rfl
theorem mL_47 : am_mL 47 = 7 := rfl
theorem na_48 : am_na 48 = 1 := rfl
theorem mc_48 : am_mc 48 = 0 := rfl
theorem ms_48 : am_ms 48 = 0 := rfl
theorem rt_48 : am_rt 48 = 2 := rfl
theorem mL_48 : am_mL 48 = 8 := rfl
theorem na_49 : am_na 49 = 2 := rfl
theorem mc_49 : am_mc 49 = 0 := rfl
theorem ms_49 : am_ms 49 = 0 := rfl
theorem rt_49 : am_rt 49 = 0 := rfl
theorem mL_49 : am_mL 49 = 7 := rfl
theorem na_50 : am_na 50 = 2 := rfl
theorem mc_50 : am_mc 50 = 0 := rfl
theorem ms_50 : am_ms 50 = 0 := rfl
theorem rt_50 : am_rt 50 = 0 := rfl
theorem mL_50 : am_mL 50 = 2 := rfl
theorem na_51 : am_na 51 = 1 := rfl
theorem mc_51 : am_mc 51 = 0 := rfl
theorem ms_51 : am_ms 51 = 0 := rfl
theorem rt_51 : am_rt 51 = 2 := rfl
theorem mL_51 : am_mL 51 = 1 := rfl
theorem na_52 : am_na 52 = 1 := rfl
theorem mc_52 : am_mc 52 = 0 := rfl
theorem ms_52 : am_ms 52 = 0 := rfl
theorem rt_52 : am_rt 52 = 0 := rfl
theorem mL_52 : am_mL 52 = 1 := rfl
theorem na_53 : am_na 53 = 3 := rfl
theorem mc_53 : am_mc 53 = 0 := rfl
theorem ms_53 : am_ms 53 = 0 := rfl
theorem rt_53 : am_rt 53 = 0 := rfl
theorem mL_53 : am_mL 53 = 19 := rfl
theorem na_54 : am_na 54 = 2 := rfl
theorem mc_54 : am_mc 54 = 0 := rfl
theorem ms_54 : am_ms 54 = 0 := rfl
theorem rt_54 : am_rt 54 = 0 := rfl
theorem mL_54 : am_mL 54 = 4 := rfl
theorem na_55 : am_na 55 = 4 := rfl
theorem mc_55 : am_mc 55 = 0 := rfl
theorem ms_55 : am_ms 55 = 0 := rfl
theorem rt_55 : am_rt 55 = 2 := rfl
theorem mL_55 : am_mL 55 = 20 := rfl
theorem na_56 : am_na 56 = 4 := rfl
theorem mc_56 : am_mc 56 = 0 := rfl
theorem ms_56 : am_ms 56 = 0 := rfl
theorem rt_56 : am_rt 56 = 0 := rfl
theorem mL_56 : am_mL 56 = 15 := rfl
theorem na_57 : am_na 57 = 2 := rfl
theorem mc_57 : am_mc 57 = 0 := rfl
theorem ms_57 : am_ms 57 = 0 := rfl
theorem rt_57 : am_rt 57 = 0 := rfl
theorem mL_57 : am_mL 57 = 2 := rfl
theorem na_58 : am_na 58 = 2 := rfl
theorem mc_58 : am_mc 58 = 0 := rfl
theorem ms_58 : am_ms 58 = 0 := rfl
theorem rt_58 : am_rt 58 = 0 := rfl
theorem mL_58 : am_mL 58 = 6 := rfl
theorem na_59 : am_na 59 = 3 := rfl
theorem mc_59 : am_mc 59 = 0 := rfl
theorem ms_59 : am_ms 59 = 0 := rfl
theorem rt_59 : am_rt 59 = 0 := rfl
theorem mL_59 : am_mL 59 = 4 := rfl
theorem na_60 : am_na 60 = 1 := rfl
theorem mc_60 : am_mc 60 = 3 := rfl
theorem ms_60 : am_ms 60 = 7624 := rfl
theorem rt_60 : am_rt 60 = 3 := rfl
theorem mL_60 : am_mL 60 = 1 := rfl
theorem na_61 : am_na 61 = 2 := rfl
theorem mc_61 : am_mc 61 = 0 := rfl
theorem ms_61 : am_ms 61 = 0 := rfl
theorem rt_61 : am_rt 61 = 3 := rfl
theorem mL_61 : am_mL 61 = 3 := rfl
theorem na_62 : am_na 62 = 2 := rfl
theorem mc_62 : am_mc 62 = 0 := rfl
theorem ms_62 : am_ms 62 = 0 := rfl
theorem rt_62 : am_rt 62 = 2 := rfl
theorem mL_62 : am_mL 62 = 2 := rfl
theorem na_63 : am_na 63 = 3 := rfl
theorem mc_63 : am_mc 63 = 0 := rfl
theorem ms_63 : am_ms 63 = 0 := rfl
theorem rt_63 : am_rt 63 = 3 := rfl
theorem mL_63 : am_mL 63 = 4 := rfl
theorem na_64 : am_na 64 = 1 := rfl
theorem mc_64 : am_mc 64 = 0 := rfl
theorem ms_64 : am_ms 64 = 0 := rfl
theorem rt_64 : am_rt 64 = 0 := rfl
theorem mL_64 : am_mL 64 = 3 := rfl
theorem na_65 : am_na 65 = 2 := rfl
theorem mc_65 : am_mc 65 = 0 := rfl
theorem ms_65 : am_ms 65 = 0 := rfl
theorem rt_65 : am_rt 65 = 3 := rfl
theorem mL_65 : am_mL 65 = 5 := rfl
theorem na_66 : am_na 66 = 2 := rfl
theorem mc_66 : am_mc 66 = 0 := rfl
theorem ms_66 : am_ms 66 = 0 := rfl
theorem rt_66 : am_rt 66 = 3 := rfl
theorem mL_66 : am_mL 66 = 6 := rfl
theorem na_67 : am_na 67 = 4 := rfl
theorem mc_67 : am_mc 67 = 0 := rfl
theorem ms_67 : am_ms 67 = 0 := rfl
theorem rt_67 : am_rt 67 = 0 := rfl
theorem mL_67 : am_mL 67 = 14 := rfl
theorem na_68 : am_na 68 = 2 := rfl
theorem mc_68 : am_mc 68 = 0 := rfl
theorem ms_68 : am_ms 68 = 0 := rfl
theorem rt_68 : am_rt 68 = 0 := rfl
theorem mL_68 : am_mL 68 = 4 := rfl
theorem na_69 : am_na 69 = 4 := rfl
theorem mc_69 : am_mc 69 = 0 := rfl
theorem ms_69 : am_ms 69 = 0 := rfl
theorem rt_69 : am_rt 69 = 2 := rfl
theorem mL_69 : am_mL 69 = 14 := rfl
theorem na_70 : am_na 70 = 1 := rfl
theorem mc_70 : am_mc 70 = 0 := rfl
theorem ms_70 : am_ms 70 = 0 := rfl
theorem rt_70 : am_rt 70 = 3 := rfl
theorem mL_70 : am_mL 70 = 1 := rfl
theorem na_71 : am_na 71 = 3 := rfl
theorem mc_71 : am_mc 71 = 0 := rfl
theorem ms_71 : am_ms 71 = 0 := rfl
theorem rt_71 : am_rt 71 = 1 := rfl
theorem mL_71 : am_mL 71 = 3 := rfl
theorem na_72 : am_na 72 = 1 := rfl
theorem mc_72 : am_mc 72 = 1 := rfl
theorem ms_72 : am_ms 72 = 3 := rfl
theorem rt_72 : am_rt 72 = 3 := rfl
theorem mL_72 : am_mL 72 = 1 := rfl
theorem na_73 : am_na 73 = 2 := rfl
theorem mc_73 : am_mc 73 = 0 := rfl
theorem ms_73 : am_ms 73 = 0 := rfl
theorem rt_73 : am_rt 73 = 1 := rfl
theorem mL_73 : am_mL 73 = 2 := rfl
theorem na_74 : am_na 74 = 1 := rfl
theorem mc_74 : am_mc 74 = 0 := rfl
theorem ms_74 : am_ms 74 = 0 := rfl
theorem rt_74 : am_rt 74 = 1 := rfl
theorem mL_74 : am_mL 74 = 1 := rfl
theorem na_75 : am_na 75 = 1 := rfl
theorem mc_75 : am_mc 75 = 0 := rfl
theorem ms_75 : am_ms 75 = 0 := rfl
theorem rt_75 : am_rt 75 = 3 := rfl
theorem mL_75 : am_mL 75 = 1 := rfl
theorem na_76 : am_na 76 = 2 := rfl
theorem mc_76 : am_mc 76 = 0 := rfl
theorem ms_76 : am_ms 76 = 0 := rfl
theorem rt_76 : am_rt 76 = 3 := rfl
theorem mL_76 : am_mL 76 = 2 := rfl
theorem na_77 : am_na 77 = 2 := rfl
theorem mc_77 : am_mc 77 = 0 := rfl
theorem ms_77 : am_ms 77 = 0 := rfl
theorem rt_77 : am_rt 77 = 0 := rfl
theorem mL_77 : am_mL 77 = 4 := rfl
theorem na_78 : am_na 78 = 2 := rfl
theorem mc_78 : am_mc 78 = 0 := rfl
theorem ms_78 : am_ms 78 = 0 := rfl
theorem rt_78 : am_rt 78 = 1 := rfl
theorem mL_78 : am_mL 78 = 3 := rfl
theorem na_79 : am_na 79 = 2 := rfl
theorem mc_79 : am_mc 79 = 0 := rfl
theorem ms_79 : am_ms 79 = 0 := rfl
theorem rt_79 : am_rt 79 = 0 := rfl
theorem mL_79 : am_mL 79 = 2 := rfl
theorem na_80 : am_na 80 = 1 := rfl
theorem mc_80 : am_mc 80 = 3 := rfl
theorem ms_80 : am_ms 80 = 183 := rfl
theorem rt_80 : am_rt 80 = 3 := rfl
theorem mL_80 : am_mL 80 = 1 := rfl
theorem na_81 : am_na 81 = 1 := rfl
theorem mc_81 : am_mc 81 = 0 := rfl
theorem ms_81 : am_ms 81 = 0 := rfl
theorem rt_81 : am_rt 81 = 0 := rfl
theorem mL_81 : am_mL 81 = 1 := rfl
theorem na_82 : am_na 82 = 2 := rfl
theorem mc_82 : am_mc 82 = 0 := rfl
theorem ms_82 : am_ms 82 = 0 := rfl
theorem rt_82 : am_rt 82 = 1 := rfl
theorem mL_82 : am_mL 82 = 2 := rfl
theorem na_83 : am_na 83 = 1 := rfl
theorem mc_83 : am_mc 83 = 0 := rfl
theorem ms_83 : am_ms 83 = 0 := rfl
theorem rt_83 : am_rt 83 = 1 := rfl
theorem mL_83 : am_mL 83 = 1 := rfl
theorem na_84 : am_na 84 = 3 := rfl
theorem mc_84 : am_mc 84 = 0 := rfl
theorem ms_84 : am_ms 84 = 0 := rfl
theorem rt_84 : am_rt 84 = 0 := rfl
theorem mL_84 : am_mL 84 = 5 := rfl
theorem na_85 : am_na 85 = 2 := rfl
theorem mc_85 : am_mc 85 = 0 := rfl
theorem ms_85 : am_ms 85 = 0 := rfl
theorem rt_85 : am_rt 85 = 2 := rfl
theorem mL_85 : am_mL 85 = 2 := rfl
theorem na_86 : am_na 86 = 2 := rfl
theorem mc_86 : am_mc 86 = 0 := rfl
theorem ms_86 : am_ms 86 = 0 := rfl
theorem rt_86 : am_rt 86 = 2 := rfl
theorem mL_86 : am_mL 86 = 2 := rfl
theorem na_87 : am_na 87 = 3 := rfl
theorem mc_87 : am_mc 87 = 0 := rfl
theorem ms_87 : am_ms 87 = 0 := rfl
theorem rt_87 : am_rt 87 = 2 := rfl
theorem mL_87 : am_mL 87 = 7 := rfl
theorem na_88 : am_na 88 = 3 := rfl
theorem mc_88 : am_mc 88 = 0 := rfl
theorem ms_88 : am_ms 88 = 0 := rfl
theorem rt_88 : am_rt 88 = 3 := rfl
theorem mL_88 : am_mL 88 = 4 := rfl
theorem na_89 : am_na 89 = 2 := rfl
theorem mc_89 : am_mc 89 = 0 := rfl
theorem ms_89 : am_ms 89 = 0 := rfl
theorem rt_89 : am_rt 89 = 1 := rfl
theorem mL_89 : am_mL 89 = 2 := rfl
theorem na_90 : am_na 90 = 2 := rfl
theorem mc_90 : am_mc 90 = 0 := rfl
theorem ms_90 : am_ms 90 = 0 := rfl
theorem rt_90 : am_rt 90 = 2 := rfl
theorem mL_90 : am_mL 90 = 4 := rfl
theorem na_91 : am_na 91 = 1 := rfl
theorem mc_91 : am_mc 91 = 0 := rfl
theorem ms_91 : am_ms 91 = 0 := rfl
theorem rt_91 : am_rt 91 = 0 := rfl
theorem mL_91 : am_mL 91 = 3 := rfl
theorem na_92 : am_na 92 = 1 := rfl
theorem mc_92 : am_mc 92 = 8 := rfl
theorem ms_92 : am_ms 92 = 1089 := rfl
theorem rt_92 : am_rt 92 = 3 := rfl
theorem mL_92 : am_mL 92 = 1 := rfl
theorem na_93 : am_na 93 = 1 := rfl
theorem mc_93 : am_mc 93 = 0 := rfl
theorem ms_93 : am_ms 93 = 0 := rfl
theorem rt_93 : am_rt 93 = 0 := rfl
theorem mL_93 : am_mL 93 = 1 := rfl
theorem na_94 : am_na 94 = 2 := rfl
theorem mc_94 : am_mc 94 = 0 := rfl
theorem ms_94 : am_ms 94 = 0 := rfl
theorem rt_94 : am_rt 94 = 1 := rfl
theorem mL_94 : am_mL 94 = 2 := rfl
theorem na_95 : am_na 95 = 1 := rfl
theorem mc_95 : am_mc 95 = 0 := rfl
theorem ms_95 : am_ms 95 = 0 := rfl
theorem rt_95 : am_rt 95 = 1 := rfl
theorem mL_95 : am_mL 95 = 1 := rfl
theorem na_96 : am_na 96 = 6 := rfl
theorem mc_96 : am_mc 96 = 0 := rfl
theorem ms_96 : am_ms 96 = 0 := rfl
theorem rt_96 : am_rt 96 = 0 := rfl
theorem mL_96 : am_mL 96 = 8 := rfl
theorem na_97 : am_na 97 = 2 := rfl
theorem mc_97 : am_mc 97 = 0 := rfl
theorem ms_97 : am_ms 97 = 0 := rfl
theorem rt_97 : am_rt 97 = 3 := rfl
theorem mL_97 : am_mL 97 = 2 := rfl
theorem na_98 : am_na 98 = 2 := rfl
theorem mc_98 : am_mc 98 = 0 := rfl
theorem ms_98 : am_ms 98 = 0 := rfl
theorem rt_98 : am_rt 98 = 0 := rfl
theorem mL_98 : am_mL 98 = 2 := rfl
theorem na_99 : am_na 99 = 2 := rfl
theorem mc_99 : am_mc 99 = 0 := rfl
theorem ms_99 : am_ms 99 = 0 := rfl
theorem rt_99 : am_rt 99 = 0 := rfl
theorem mL_99 : am_mL 99 = 2 := rfl
theorem na_100 : am_na 100 = 2 := rfl
theorem mc_100 : am_mc 100 = 0 := rfl
theorem ms_100 : am_ms 100 = 0 := rfl
theorem rt_100 : am_rt 100 = 2 := rfl
theorem mL_100 : am_mL 100 = 2 := rfl
theorem na_101 : am_na 101 = 2 := rfl
theorem mc_101 : am_mc 101 = 0 := rfl
theorem ms_101 : am_ms 101 = 0 := rfl
theorem rt_101 : am_rt 101 = 0 := rfl
theorem mL_101 : am_mL 101 = 2 := rfl
theorem na_102 : am_na 102 = 3 := rfl
theorem mc_102 : am_mc 102 = 0 := rfl
theorem ms_102 : am_ms 102 = 0 := rfl
theorem rt_102 : am_rt 102 = 1 := rfl
theorem mL_102 : am_mL 102 = 3 := rfl
theorem na_103 : am_na 103 = 3 := rfl
theorem mc_103 : am_mc 103 = 0 := rfl
theorem ms_103 : am_ms 103 = 0 := rfl
theorem rt_103 : am_rt 103 = 3 := rfl
theorem mL_103 : am_mL 103 = 3 := rfl
theorem na_104 : am_na 104 = 4 := rfl
theorem mc_104 : am_mc 104 = 0 := rfl
theorem ms_104 : am_ms 104 = 0 := rfl
theorem rt_104 : am_rt 104 = 3 := rfl
theorem mL_104 : am_mL 104 = 6 := rfl
theorem na_105 : am_na 105 = 2 := rfl
theorem mc_105 : am_mc 105 = 0 := rfl
theorem ms_105 : am_ms 105 = 0 := rfl
theorem rt_105 : am_rt 105 = 0 := rfl
theorem mL_105 : am_mL 105 = 5 := rfl
theorem na_106 : am_na 106 = 3 := rfl
theorem mc_106 : am_mc 106 = 0 := rfl
theorem ms_106 : am_ms 106 = 0 := rfl
theorem rt_106 : am_rt 106 = 2 := rfl
theorem mL_106 : am_mL 106 = 6 := rfl
theorem na_107 : am_na 107 = 1 := rfl
theorem mc_107 : am_mc 107 = 1 := rfl
theorem ms_107 : am_ms 107 = 2400 := rfl
theorem rt_107 : am_rt 107 = 3 := rfl
theorem mL_107 : am_mL 107 = 1 := rfl
theorem na_108 : am_na 108 = 1 := rfl
theorem mc_108 : am_mc 108 = 0 := rfl
theorem ms_108 : am_ms 108 = 0 := rfl
theorem rt_108 : am_rt 108 = 1 := rfl
theorem mL_108 : am_mL 108 = 1 := rfl
theorem na_109 : am_na 109 = 1 := rfl
theorem mc_109 : am_mc 109 = 0 := rfl
theorem ms_109 : am_ms 109 = 0 := rfl
theorem rt_109 : am_rt 109 = 0 := rfl
theorem mL_109 : am_mL 109 = 1 := rfl
theorem na_110 : am_na 110 = 1 := rfl
theorem mc_110 : am_mc 110 = 0 := rfl
theorem ms_110 : am_ms 110 = 0 := rfl
theorem rt_110 : am_rt 110 = 2 := rfl
theorem mL_110 : am_mL 110 = 1 := rfl
theorem na_111 : am_na 111 = 2 := rfl
theorem mc_111 : am_mc 111 = 0 := rfl
theorem ms_111 : am_ms 111 = 0 := rfl
theorem rt_111 : am_rt 111 = 0 := rfl
theorem mL_111 : am_mL 111 = 2 := rfl
theorem na_112 : am_na 112 = 1 := rfl
theorem mc_112 : am_mc 112 = 0 := rfl
theorem ms_112 : am_ms 112 = 0 := rfl
theorem rt_112 : am_rt 112 = 3 := rfl
theorem mL_112 : am_mL 112 = 1 := rfl
theorem na_113 : am_na 113 = 2 := rfl
theorem mc_113 : am_mc 113 = 0 := rfl
theorem ms_113 : am_ms 113 = 0 := rfl
theorem rt_113 : am_rt 113 = 3 := rfl
theorem mL_113 : am_mL 113 = 2 := rfl
theorem na_114 : am_na 114 = 2 := rfl
theorem mc_114 : am_mc 114 = 0 := rfl
theorem ms_114 : am_ms 114 = 0 := rfl
theorem rt_114 : am_rt 114 = 3 := rfl
theorem mL_114 : am_mL 114 = 3 := rfl
theorem na_115 : am_na 115 = 2 := rfl
theorem mc_115 : am_mc 115 = 0 := rfl
theorem ms_115 : am_ms 115 = 0 := rfl
theorem rt_115 : am_rt 115 = 1 := rfl
theorem mL_115 : am_mL 115 = 2 := rfl
theorem na_116 : am_na 116 = 2 := rfl
theorem mc_116 : am_mc 116 = 0 := rfl
theorem ms_116 : am_ms 116 = 0 := rfl
theorem rt_116 : am_rt 116 = 1 := rfl
theorem mL_116 : am_mL 116 = 3 := rfl
theorem na_117 : am_na 117 = 3 := rfl
theorem mc_117 : am_mc 117 = 9 := rfl
theorem ms_117 : am_ms 117 = 8073 := rfl
theorem rt_117 : am_rt 117 = 3 := rfl
theorem mL_117 : am_mL 117 = 3 := rfl
theorem na_118 : am_na 118 = 5 := rfl
theorem mc_118 : am_mc 118 = 0 := rfl
theorem ms_118 : am_ms 118 = 0 := rfl
theorem rt_118 : am_rt 118 = 3 := rfl
theorem mL_118 : am_mL 118 = 5 := rfl
theorem na_119 : am_na 119 = 2 := rfl
theorem mc_119 : am_mc 119 = 0 := rfl
theorem ms_119 : am_ms 119 = 0 := rfl
theorem rt_119 : am_rt 119 = 3 := rfl
theorem mL_119 : am_mL 119 = 8 := rfl
theorem na_120 : am_na 120 = 2 := rfl
theorem mc_120 : am_mc 120 = 0 := rfl
theorem ms_120 : am_ms 120 = 0 := rfl
theorem rt_120 : am_rt 120 = 1 := rfl
theorem mL_120 : am_mL 120 = 4 := rfl
theorem na_121 : am_na 121 = 2 := rfl
theorem mc_121 : am_mc 121 = 0 := rfl
theorem ms_121 : am_ms 121 = 0 := rfl
theorem rt_121 : am_rt 121 = 2 := rfl
theorem mL_121 : am_mL 121 = 5 := rfl
theorem na_122 : am_na 122 = 1 := rfl
theorem mc_122 : am_mc 122 = 0 := rfl
theorem ms_122 : am_ms 122 = 0 := rfl
theorem rt_122 : am_rt 122 = 0 := rfl
theorem mL_122 : am_mL 122 = 7 := rfl
theorem na_123 : am_na 123 = 1 := rfl
theorem mc_123 : am_mc 123 = 0 := rfl
theorem ms_123 : am_ms 123 = 0 := rfl
theorem rt_123 : am_rt 123 = 0 := rfl
theorem mL_123 : am_mL 123 = 1 := rfl
theorem na_124 : am_na 124 = 1 := rfl
theorem mc_124 : am_mc 124 = 0 := rfl
theorem ms_124 : am_ms 124 = 0 := rfl
theorem rt_124 : am_rt 124 = 0 := rfl
theorem mL_124 : am_mL 124 = 1 := rfl
theorem na_125 : am_na 125 = 3 := rfl
theorem mc_125 : am_mc 125 = 0 := rfl
theorem ms_125 : am_ms 125 = 0 := rfl
theorem rt_125 : am_rt 125 = 1 := rfl
theorem mL_125 : am_mL 125 = 3 := rfl
theorem na_126 : am_na 126 = 1 := rfl
theorem mc_126 : am_mc 126 = 0 := rfl
theorem ms_126 : am_ms 126 = 0 := rfl
theorem rt_126 : am_rt 126 = 3 := rfl
theorem mL_126 : am_mL 126 = 5 := rfl
theorem na_127 : am_na 127 = 4 := rfl
theorem mc_127 : am_mc 127 = 0 := rfl
theorem ms_127 : am_ms 127 = 0 := rfl
theorem rt_127 : am_rt 127 = 3 := rfl
theorem mL_127 : am_mL 127 = 10 := rfl
theorem na_128 : am_na 128 = 3 := rfl
theorem mc_128 : am_mc 128 = 0 := rfl
theorem ms_128 : am_ms 128 = 0 := rfl
theorem rt_128 : am_rt 128 = 3 := rfl
theorem mL_128 : am_mL 128 = 7 := rfl
theorem na_129 : am_na 129 = 3 := rfl
theorem mc_129 : am_mc 129 = 0 := rfl
theorem ms_129 : am_ms 129 = 0 := rfl
theorem rt_129 : am_rt 129 = 0 := rfl
theorem mL_129 : am_mL 129 = 5 := rfl
theorem na_130 : am_na 130 = 3 := rfl
theorem mc_130 : am_mc 130 = 0 := rfl
theorem ms_130 : am_ms 130 = 0 := rfl
theorem rt_130 : am_rt 130 = 1 := rfl
theorem mL_130 : am_mL 130 = 8 := rfl
theorem na_131 : am_na 131 = 1 := rfl
theorem mc_131 : am_mc 131 = 0 := rfl
theorem ms_131 : am_ms 131 = 0 := rfl
theorem rt_131 : am_rt 131 = 3 := rfl
theorem mL_131 : am_mL 131 = 2 := rfl
theorem na_132 : am_na 132 = 2 := rfl
theorem mc_132 : am_mc 132 = 0 := rfl
theorem ms_132 : am_ms 132 = 0 := rfl
theorem rt_132 : am_rt 132 = 3 := rfl
theorem mL_132 : am_mL 132 = 5 := rfl
theorem na_133 : am_na 133 = 2 := rfl
theorem mc_133 : am_mc 133 = 0 := rfl
theorem ms_133 : am_ms 133 = 0 := rfl
theorem rt_133 : am_rt 133 = 3 := rfl
theorem mL_133 : am_mL 133 = 4 := rfl
theorem na_134 : am_na 134 = 1 := rfl
theorem mc_134 : am_mc 134 = 0 := rfl
theorem ms_134 : am_ms 134 = 0 := rfl
theorem rt_134 : am_rt 134 = 2 := rfl
theorem mL_134 : am_mL 134 = 4 := rfl
theorem na_135 : am_na 135 = 1 := rfl
theorem mc_135 : am_mc 135 = 0 := rfl
theorem ms_135 : am_ms 135 = 0 := rfl
theorem rt_135 : am_rt 135 = 3 := rfl
theorem mL_135 : am_mL 135 = 4 := rfl
theorem na_136 : am_na 136 = 2 := rfl
theorem mc_136 : am_mc 136 = 0 := rfl
theorem ms_136 : am_ms 136 = 0 := rfl
theorem rt_136 : am_rt 136 = 1 := rfl
theorem mL_136 : am_mL 136 = 5 := rfl
theorem na_137 : am_na 137 = 3 := rfl
theorem mc_137 : am_mc 137 = 0 := rfl
theorem ms_137 : am_ms 137 = 0 := rfl
theorem rt_137 : am_rt 137 = 0 := rfl
theorem mL_137 : am_mL 137 = 3 := rfl
theorem na_138 : am_na 138 = 2 := rfl
theorem mc_138 : am_mc 138 = 0 := rfl
theorem ms_138 : am_ms 138 = 0 := rfl
theorem rt_138 : am_rt 138 = 1 := rfl
theorem mL_138 : am_mL 138 = 3 := rfl
theorem na_139 : am_na 139 = 7 := rfl
theorem mc_139 : am_mc 139 = 2 := rfl
theorem ms_139 : am_ms 139 = 16 := rfl
theorem rt_139 : am_rt 139 = 0 := rfl
theorem mL_139 : am_mL 139 = 10 := rfl
theorem na_140 : am_na 140 = 1 := rfl
theorem mc_140 : am_mc 140 = 1078 := rfl
theorem ms_140 : am_ms 140 = 56089 := rfl
theorem rt_140 : am_rt 140 = 1 := rfl
theorem mL_140 : am_mL 140 = 7 := rfl
theorem rf_0_11 : am_rf 0 11 = some (0, 0) := rfl
theorem rf_0_15 : am_rf 0 15 = some (0, 1) := rfl
theorem rf_0_19 : am_rf 0 19 = some (0, 2) := rfl
theorem rf_0_22 : am_rf 0 22 = some (0, 3) := rfl
theorem rm_0_3 : am_rm 0 3 = (1, 0) := rfl
theorem rm_0_28 : am_rm 0 28 = (6, 65) := rfl
theorem rm_0_32 : am_rm 0 32 = (6, 66) := rfl
theorem kl_0_26 : am_kL 0 26 = some (2305843009213693951) := rfl
theorem rf_1_9 : am_rf 1 9 = some (1, 0) := rfl
theorem rf_1_13 : am_rf 1 13 = some (1, 1) := rfl
theorem rm_1_3 : am_rm 1 3 = (1, 0) := rfl
theorem rf_2_9 : am_rf 2 9 = some (2, 0) := rfl
theorem rf_2_13 : am_rf 2 13 = some (2, 1) := rfl
theorem rm_2_1 : am_rm 2 1 = (1, 0) := rfl
theorem rm_2_17 : am_rm 2 17 = (6, 78) := rfl
theorem rm_2_21 : am_rm 2 21 = (0, 79) := rfl
theorem rf_3_9 : am_rf 3 9 = some (3, 0) := rfl
theorem rf_3_15 : am_rf 3 15 = some (3, 1) := rfl
theorem rf_3_18 : am_rf 3 18 = some (3, 2) := rfl
theorem rf_3_21 : am_rf 3 21 = some (3, 3) := rfl
theorem rm_3_3 : am_rm 3 3 = (1, 0) := rfl
theorem rm_3_27 : am_rm 3 27 = (4, 0) := rfl
theorem rm_3_33 : am_rm 3 33 = (6, 89) := rfl
theorem kl_3_25 : am_kL 3 25 = some (1000) := rfl
theorem rf_4_9 : am_rf 4 9 = some (4, 0) := rfl
theorem rf_4_15 : am_rf 4 15 = some (4, 1) := rfl
theorem rf_4_18 : am_rf 4 18 = some (4, 2) := rfl
theorem rf_4_22 : am_rf 4 22 = some (4, 3) := rfl
theorem rf_4_25 : am_rf 4 25 = some (4, 4) := rfl
theorem rf_4_28 : am_rf 4 28 = some (4, 5) := rfl
theorem rf_4_31 : am_rf 4 31 = some (4, 6) := rfl
theorem rf_4_34 : am_rf 4 34 = some (4, 7) := rfl
theorem rf_4_37 : am_rf 4 37 = some (4, 8) := rfl
theorem rm_4_3 : am_rm 4 3 = (1, 0) := rfl
theorem kl_4_41 : am_kL 4 41 = some (20000) := rfl
theorem kl_4_43 : am_kL 4 43 = some (1000) := rfl
theorem kl_4_45 : am_kL 4 45 = some (-1) := rfl
theorem rf_5_9 : am_rf 5 9 = some (5, 0) := rfl
theorem rf_5_15 : am_rf 5 15 = some (5, 1) := rfl
theorem rf_5_19 : am_rf 5 19 = some (5, 2) := rfl
theorem rf_5_23 : am_rf 5 23 = some (5, 3) := rfl
theorem rm_5_3 : am_rm 5 3 = (1, 0) := rfl
theorem rm_5_27 : am_rm 5 27 = (2, 0) := rfl
theorem rm_5_33 : am_rm 5 33 = (6, 111) := rfl
theorem rf_6_12 : am_rf 6 12 = some (6, 2) := rfl
theorem rf_6_18 : am_rf 6 18 = some (6, 3) := rfl
theorem rf_6_22 : am_rf 6 22 = some (6, 4) := rfl
theorem rf_6_26 : am_rf 6 26 = some (6, 5) := rfl
theorem rf_6_29 : am_rf 6 29 = some (6, 6) := rfl
theorem rf_6_32 : am_rf 6 32 = some (6, 7) := rfl
theorem rf_6_35 : am_rf 6 35 = some (6, 8) := rfl
theorem rf_6_39 : am_rf 6 39 = some (6, 9) := rfl
theorem rf_6_42 : am_rf 6 42 = some (6, 10) := rfl
theorem rf_6_45 : am_rf 6 45 = some (6, 11) := rfl
theorem rf_6_48 : am_rf 6 48 = some (6, 0) := rfl
theorem rf_6_52 : am_rf 6 52 = some (6, 1) := rfl
theorem rm_6_3 : am_rm 6 3 = (1, 0) := rfl
theorem rm_6_11 : am_rm 6 11 = (7, 60) := rfl
theorem rm_6_56 : am_rm 6 56 = (6, 97) := rfl
theorem rm_6_62 : am_rm 6 62 = (6, 81) := rfl
theorem rm_6_68 : am_rm 6 68 = (6, 90) := rfl
theorem rm_6_74 : am_rm 6 74 = (6, 93) := rfl
theorem rm_6_75 : am_rm 6 75 = (6, 106) := rfl
theorem rm_6_79 : am_rm 6 79 = (6, 100) := rfl
theorem rm_6_84 : am_rm 6 84 = (6, 101) := rfl
theorem rm_6_88 : am_rm 6 88 = (6, 112) := rfl
theorem rm_6_93 : am_rm 6 93 = (6, 114) := rfl
theorem rm_6_97 : am_rm 6 97 = (6, 126) := rfl
theorem rm_6_100 : am_rm 6 100 = (6, 124) := rfl
theorem rm_6_103 : am_rm 6 103 = (6, 62) := rfl
theorem rm_6_108 : am_rm 6 108 = (6, 128) := rfl
theorem rm_6_112 : am_rm 6 112 = (6, 131) := rfl
theorem rm_6_115 : am_rm 6 115 = (6, 109) := rfl
theorem rm_6_118 : am_rm 6 118 = (6, 111) := rfl
theorem rm_6_121 : am_rm 6 121 = (6, 125) := rfl
theorem rm_6_125 : am_rm 6 125 = (6, 99) := rfl
theorem rm_6_128 : am_rm 6 128 = (6, 132) := rfl
theorem rm_6_131 : am_rm 6 131 = (6, 133) := rfl
theorem rm_6_134 : am_rm 6 134 = (6, 134) := rfl
theorem rm_6_138 : am_rm 6 138 = (6, 135) := rfl
theorem rm_6_141 : am_rm 6 141 = (6, 89) := rfl
theorem rm_6_145 : am_rm 6 145 = (6, 138) := rfl
theorem rm_6_148 : am_rm 6 148 = (6, 87) := rfl
theorem rm_6_152 : am_rm 6 152 = (6, 98) := rfl
theorem rm_6_155 : am_rm 6 155 = (6, 102) := rfl
theorem rm_6_158 : am_rm 6 158 = (6, 123) := rfl
theorem rm_6_161 : am_rm 6 161 = (6, 61) := rfl
theorem rm_6_164 : am_rm 6 164 = (6, 63) := rfl
theorem rm_6_168 : am_rm 6 168 = (6, 64) := rfl
theorem rm_6_171 : am_rm 6 171 = (6, 127) := rfl
theorem rm_6_175 : am_rm 6 175 = (6, 129) := rfl
theorem rm_6_179 : am_rm 6 179 = (6, 113) := rfl
theorem rm_6_182 : am_rm 6 182 = (6, 130) := rfl
theorem rm_6_186 : am_rm 6 186 = (5, 0) := rfl
theorem rm_6_192 : am_rm 6 192 = (6, 137) := rfl
theorem rm_6_196 : am_rm 6 196 = (6, 136) := rfl
theorem rn_6_9 : am_rn 6 9 = some 0 := rfl
theorem kl_6_72 : am_kL 6 72 = some (4096) := rfl
theorem kl_6_82 : am_kL 6 82 = some (-1) := rfl
theorem kl_6_106 : am_kL 6 106 = some (2305843009213693951) := rfl
theorem rf_7_14 : am_rf 7 14 = some (7, 0) := rfl
theorem rf_7_21 : am_rf 7 21 = some (7, 1) := rfl
theorem rf_7_30 : am_rf 7 30 = some (7, 2) := rfl
theorem rf_7_37 : am_rf 7 37 = some (7, 3) := rfl
theorem rf_7_44 : am_rf 7 44 = some (7, 4) := rfl
theorem rf_7_51 : am_rf 7 51 = some (7, 5) := rfl
theorem rf_7_55 : am_rf 7 55 = some (7, 6) := rfl
theorem rf_7_58 : am_rf 7 58 = some (7, 7) := rfl
theorem rf_7_62 : am_rf 7 62 = some (7, 8) := rfl
theorem rf_7_66 : am_rf 7 66 = some (7, 9) := rfl
theorem rm_7_5 : am_rm 7 5 = (1, 0) := rfl
theorem rm_7_13 : am_rm 7 13 = (7, 80) := rfl
theorem rm_7_20 : am_rm 7 20 = (7, 92) := rfl
theorem rm_7_27 : am_rm 7 27 = (7, 117) := rfl
theorem rm_7_36 : am_rm 7 36 = (7, 72) := rfl
theorem rm_7_43 : am_rm 7 43 = (7, 70) := rfl
theorem rm_7_50 : am_rm 7 50 = (7, 107) := rfl
theorem rm_7_72 : am_rm 7 72 = (0, 15) := rfl
theorem rm_7_76 : am_rm 7 76 = (6, 83) := rfl
theorem rm_7_80 : am_rm 7 80 = (6, 84) := rfl
theorem rm_7_84 : am_rm 7 84 = (6, 82) := rfl
theorem rm_7_92 : am_rm 7 92 = (6, 95) := rfl
theorem rm_7_100 : am_rm 7 100 = (6, 96) := rfl
theorem rm_7_103 : am_rm 7 103 = (6, 94) := rfl
theorem rm_7_104 : am_rm 7 104 = (6, 98) := rfl
theorem rm_7_108 : am_rm 7 108 = (6, 99) := rfl
theorem rm_7_111 : am_rm 7 111 = (6, 102) := rfl
theorem rm_7_115 : am_rm 7 115 = (6, 103) := rfl
theorem rm_7_121 : am_rm 7 121 = (6, 88) := rfl
theorem rm_7_125 : am_rm 7 125 = (6, 91) := rfl
theorem rm_7_131 : am_rm 7 131 = (6, 118) := rfl
theorem rm_7_135 : am_rm 7 135 = (6, 16) := rfl
theorem rm_7_138 : am_rm 7 138 = (6, 112) := rfl
theorem rm_7_141 : am_rm 7 141 = (6, 17) := rfl
theorem rm_7_144 : am_rm 7 144 = (6, 109) := rfl
theorem rm_7_147 : am_rm 7 147 = (6, 111) := rfl
theorem rm_7_150 : am_rm 7 150 = (6, 108) := rfl
theorem rm_7_153 : am_rm 7 153 = (6, 110) := rfl
theorem rm_7_163 : am_rm 7 163 = (6, 93) := rfl
theorem rm_7_166 : am_rm 7 166 = (6, 22) := rfl
theorem rm_7_169 : am_rm 7 169 = (6, 23) := rfl
theorem rm_7_173 : am_rm 7 173 = (6, 104) := rfl
theorem rm_7_177 : am_rm 7 177 = (6, 105) := rfl
theorem rm_7_181 : am_rm 7 181 = (6, 18) := rfl
theorem rm_7_185 : am_rm 7 185 = (6, 21) := rfl
theorem rm_7_189 : am_rm 7 189 = (6, 115) := rfl
theorem rm_7_192 : am_rm 7 192 = (6, 73) := rfl
theorem rm_7_195 : am_rm 7 195 = (6, 75) := rfl
theorem rm_7_198 : am_rm 7 198 = (6, 74) := rfl
theorem rm_7_199 : am_rm 7 199 = (6, 76) := rfl
theorem rm_7_202 : am_rm 7 202 = (6, 81) := rfl
theorem rm_7_203 : am_rm 7 203 = (6, 77) := rfl
theorem rm_7_206 : am_rm 7 206 = (6, 71) := rfl
theorem rm_7_209 : am_rm 7 209 = (6, 119) := rfl
theorem rm_7_213 : am_rm 7 213 = (6, 120) := rfl
theorem rm_7_217 : am_rm 7 217 = (6, 122) := rfl
theorem rm_7_220 : am_rm 7 220 = (6, 121) := rfl
theorem rm_7_224 : am_rm 7 224 = (6, 116) := rfl
theorem rm_7_227 : am_rm 7 227 = (6, 85) := rfl
theorem rm_7_231 : am_rm 7 231 = (6, 86) := rfl
theorem rm_7_234 : am_rm 7 234 = (6, 19) := rfl
theorem rm_7_237 : am_rm 7 237 = (6, 20) := rfl
theorem rm_7_240 : am_rm 7 240 = (0, 67) := rfl
theorem rm_7_246 : am_rm 7 246 = (0, 68) := rfl
theorem rm_7_249 : am_rm 7 249 = (0, 69) := rfl
theorem rn_7_11 : am_rn 7 11 = some 3 := rfl
theorem rn_7_18 : am_rn 7 18 = some 4 := rfl
theorem rn_7_25 : am_rn 7 25 = some 6 := rfl
theorem rn_7_34 : am_rn 7 34 = some 2 := rfl
theorem rn_7_41 : am_rn 7 41 = some 1 := rfl
theorem rn_7_48 : am_rn 7 48 = some 5 := rfl
theorem kl_7_70 : am_kL 7 70 = some (10000) := rfl
theorem kl_7_88 : am_kL 7 88 = some (100000) := rfl
theorem kl_7_90 : am_kL 7 90 = some (1000) := rfl
theorem kl_7_119 : am_kL 7 119 = some (1000000) := rfl
theorem kl_7_129 : am_kL 7 129 = some (20) := rfl
theorem kl_7_157 : am_kL 7 157 = some (-1) := rfl
theorem kl_7_159 : am_kL 7 159 = some (20000) := rfl
theorem kl_7_161 : am_kL 7 161 = some (2501) := rfl
theorem rf_8_7 : am_rf 8 7 = some (8, 2) := rfl
theorem rf_8_13 : am_rf 8 13 = some (8, 3) := rfl
theorem rf_8_16 : am_rf 8 16 = some (8, 4) := rfl
theorem rf_8_19 : am_rf 8 19 = some (8, 6) := rfl
theorem rf_8_23 : am_rf 8 23 = some (8, 7) := rfl
theorem rf_8_26 : am_rf 8 26 = some (8, 8) := rfl
theorem rf_8_29 : am_rf 8 29 = some (8, 9) := rfl
theorem rf_8_32 : am_rf 8 32 = some (8, 10) := rfl
theorem rf_8_35 : am_rf 8 35 = some (8, 11) := rfl
theorem rf_8_38 : am_rf 8 38 = some (8, 12) := rfl
theorem rf_8_41 : am_rf 8 41 = some (8, 13) := rfl
theorem rf_8_45 : am_rf 8 45 = some (8, 17) := rfl
theorem rf_8_49 : am_rf 8 49 = some (8, 19) := rfl
theorem rf_8_52 : am_rf 8 52 = some (8, 20) := rfl
theorem rf_8_55 : am_rf 8 55 = some (8, 21) := rfl
theorem rf_8_58 : am_rf 8 58 = some (8, 22) := rfl
theorem rf_8_61 : am_rf 8 61 = some (8, 24) := rfl
theorem rf_8_66 : am_rf 8 66 = some (8, 25) := rfl
theorem rf_8_70 : am_rf 8 70 = some (8, 26) := rfl
theorem rf_8_73 : am_rf 8 73 = some (8, 28) := rfl
theorem rf_8_76 : am_rf 8 76 = some (8, 31) := rfl
theorem rf_8_79 : am_rf 8 79 = some (8, 33) := rfl
theorem rf_8_82 : am_rf 8 82 = some (8, 0) := rfl
theorem rf_8_85 : am_rf 8 85 = some (8, 1) := rfl
theorem rf_8_88 : am_rf 8 88 = some (8, 5) := rfl
theorem rf_8_110 : am_rf 8 110 = some (8, 14) := rfl
theorem rf_8_113 : am_rf 8 113 = some (8, 15) := rfl
theorem rf_8_131 : am_rf 8 131 = some (8, 16) := rfl
theorem rf_8_145 : am_rf 8 145 = some (8, 18) := rfl
theorem rf_8_151 : am_rf 8 151 = some (8, 27) := rfl
theorem rf_8_154 : am_rf 8 154 = some (8, 30) := rfl
theorem rf_8_161 : am_rf 8 161 = some (8, 29) := rfl
theorem rf_8_173 : am_rf 8 173 = some (8, 23) := rfl
theorem rf_8_207 : am_rf 8 207 = some (8, 32) := rfl
theorem rf_8_214 : am_rf 8 214 = some (8, 35) := rfl
theorem rf_8_217 : am_rf 8 217 = some (8, 34) := rfl
theorem rm_8_1 : am_rm 8 1 = (1, 0) := rfl
theorem rm_8_95 : am_rm 8 95 = (6, 26) := rfl
theorem rm_8_105 : am_rm 8 105 = (6, 27) := rfl
theorem rm_8_116 : am_rm 8 116 = (6, 37) := rfl
theorem rm_8_120 : am_rm 8 120 = (6, 33) := rfl
theorem rm_8_124 : am_rm 8 124 = (6, 36) := rfl
theorem rm_8_127 : am_rm 8 127 = (6, 35) := rfl
theorem rm_8_134 : am_rm 8 134 = (6, 34) := rfl
theorem rm_8_137 : am_rm 8 137 = (6, 39) := rfl
theorem rm_8_141 : am_rm 8 141 = (6, 38) := rfl
theorem rm_8_148 : am_rm 8 148 = (6, 40) := rfl
theorem rm_8_157 : am_rm 8 157 = (6, 45) := rfl
theorem rm_8_164 : am_rm 8 164 = (6, 41) := rfl
theorem rm_8_167 : am_rm 8 167 = (6, 42) := rfl
theorem rm_8_170 : am_rm 8 170 = (6, 44) := rfl
theorem rm_8_178 : am_rm 8 178 = (6, 43) := rfl
theorem rm_8_182 : am_rm 8 182 = (6, 46) := rfl
theorem rm_8_185 : am_rm 8 185 = (6, 48) := rfl
theorem rm_8_195 : am_rm 8 195 = (0, 54) := rfl
theorem rm_8_199 : am_rm 8 199 = (6, 55) := rfl
theorem rm_8_210 : am_rm 8 210 = (0, 57) := rfl
theorem kl_8_64 : am_kL 8 64 = some (-1) := rfl
theorem kl_8_91 : am_kL 8 91 = some (-10000) := rfl
theorem kl_8_93 : am_kL 8 93 = some (10000) := rfl
theorem kl_8_99 : am_kL 8 99 = some (100000) := rfl
theorem kl_8_101 : am_kL 8 101 = some (1000) := rfl
theorem kl_8_103 : am_kL 8 103 = some (20000) := rfl
theorem kl_8_108 : am_kL 8 108 = some (1000000) := rfl
theorem kl_8_176 : am_kL 8 176 = some (20) := rfl
theorem kl_8_189 : am_kL 8 189 = some (-2) := rfl
theorem kl_8_191 : am_kL 8 191 = some (2) := rfl
theorem kl_8_193 : am_kL 8 193 = some (-20000) := rfl
theorem kl_8_203 : am_kL 8 203 = some (2501) := rfl
theorem kl_8_205 : am_kL 8 205 = some (2500) := rfl
theorem rm_9_9 : am_rm 9 9 = (3, 0) := rfl
theorem kl_9_7 : am_kL 9 7 = some (2) := rfl
theorem rm_10_7 : am_rm 10 7 = (6, 2) := rfl
theorem rm_10_15 : am_rm 10 15 = (7, 0) := rfl
theorem rm_10_18 : am_rm 10 18 = (7, 24) := rfl
theorem rm_10_21 : am_rm 10 21 = (6, 1) := rfl
theorem rm_10_25 : am_rm 10 25 = (6, 28) := rfl
theorem rm_10_26 : am_rm 10 26 = (0, 139) := rfl
theorem rm_10_31 : am_rm 10 31 = (6, 29) := rfl
theorem rm_10_32 : am_rm 10 32 = (6, 25) := rfl
theorem rm_10_36 : am_rm 10 36 = (6, 3) := rfl
theorem rm_10_40 : am_rm 10 40 = (6, 30) := rfl
theorem rm_10_41 : am_rm 10 41 = (6, 4) := rfl
theorem rm_10_45 : am_rm 10 45 = (6, 31) := rfl
theorem rm_10_46 : am_rm 10 46 = (6, 5) := rfl
theorem rm_10_50 : am_rm 10 50 = (6, 47) := rfl
theorem rm_10_51 : am_rm 10 51 = (6, 6) := rfl
theorem rm_10_55 : am_rm 10 55 = (6, 50) := rfl
theorem rm_10_56 : am_rm 10 56 = (6, 7) := rfl
theorem rm_10_60 : am_rm 10 60 = (6, 51) := rfl
theorem rm_10_61 : am_rm 10 61 = (6, 8) := rfl
theorem rm_10_65 : am_rm 10 65 = (6, 56) := rfl
theorem rm_10_66 : am_rm 10 66 = (6, 9) := rfl
theorem rm_10_70 : am_rm 10 70 = (6, 32) := rfl
theorem rm_10_71 : am_rm 10 71 = (6, 10) := rfl
theorem rm_10_75 : am_rm 10 75 = (6, 49) := rfl
theorem rm_10_76 : am_rm 10 76 = (6, 11) := rfl
theorem rm_10_80 : am_rm 10 80 = (6, 53) := rfl
theorem rm_10_81 : am_rm 10 81 = (6, 12) := rfl
theorem rm_10_84 : am_rm 10 84 = (6, 58) := rfl
theorem rm_10_85 : am_rm 10 85 = (6, 13) := rfl
theorem rm_10_88 : am_rm 10 88 = (6, 52) := rfl
theorem rm_10_89 : am_rm 10 89 = (6, 14) := rfl
theorem rm_10_92 : am_rm 10 92 = (6, 59) := rfl
theorem rn_10_8 : am_rn 10 8 = some 7 := rfl
theorem rn_10_16 : am_rn 10 16 = some 8 := rfl
theorem kl_10_19 : am_kL 10 19 = some (4294967295) := rfl
theorem kd_at_0 : am_kd 0 = kd_0 := rfl
theorem kc_0_0 : am_code 0 0 = [.aload_n 0, .invokespecial 5, .aload_n 0, .new 11, .dup, .invokespecial 13, .putfield 14, .aload_n 0, .new 18, .dup, .invokespecial 20, .putfield 21, .aload_n 0, .new 25, .dup, .aload_n 0, .getfield 14, .aload_n 0, .getfield 21, .invokespecial 27, .putfield 30, .aload_n 0, .new 34, .dup, .invokespecial 36, .putfield 37, .aload_n 0, .new 41, .dup, .invokespecial 43, .putfield 44, .aload_n 0, .new 48, .dup, .invokespecial 50, .putfield 51, .aload_n 0, .new 48, .dup, .invokespecial 50, .putfield 55, .aload_n 0, .iconst (0), .putfield 58, .aload_n 0, .lconst 0, .putfield 62, .aload_n 0, .iconst (0), .putfield 66, .return_] := by unfold am_code; rw [kd_at_0]; rfl
theorem kd_at_1 : am_kd 1 = kd_1 := rfl
theorem kc_1_0 : am_code 1 0 = [.lload_n 1, .ldc2_w 70, .invokestatic 72, .ifCond .eq (13)] := by unfold am_code; rw [kd_at_1]; rfl
theorem kc_1_10 : am_code 1 10 = [.lload_n 3, .ldc2_w 70, .invokestatic 72, .ifCond .ne (6)] := by unfold am_code; rw [kd_at_1]; rfl
theorem kc_1_20 : am_code 1 20 = [.bipush (-2), .ireturn] := by unfold am_code; rw [kd_at_1]; rfl
theorem kc_1_23 : am_code 1 23 = [.aload_n 0, .getfield 14, .invokevirtual 76, .ifCond .eq (6)] := by unfold am_code; rw [kd_at_1]; rfl
theorem kc_1_33 : am_code 1 33 = [.bipush (-4), .ireturn] := by unfold am_code; rw [kd_at_1]; rfl
theorem kc_1_36 : am_code 1 36 = [.aload_n 0, .getfield 14, .lload_n 1, .lload_n 3, .invokevirtual 80, .ireturn] := by unfold am_code; rw [kd_at_1]; rfl
theorem kd_at_2 : am_kd 2 = kd_2 := rfl
theorem kc_2_0 : am_code 2 0 = [.aload_n 0, .getfield 14, .iload_n 1, .invokevirtual 84, .ifCond .eq (14)] := by unfold am_code; rw [kd_at_2]; rfl
theorem kc_2_11 : am_code 2 11 = [.aload_n 0, .getfield 14, .iload_n 2, .invokevirtual 84, .ifCond .ne (5)] := by unfold am_code; rw [kd_at_2]; rfl
theorem kc_2_22 : am_code 2 22 = [.iconst (-1), .ireturn] := by unfold am_code; rw [kd_at_2]; rfl
theorem kc_2_24 : am_code 2 24 = [.iload_n 1, .iload_n 2, .if_icmp .eq (17)] := by unfold am_code; rw [kd_at_2]; rfl
theorem kc_2_29 : am_code 2 29 = [.lload_n 3, .lconst 1, .lcmp, .ifCond .lt (11)] := by unfold am_code; rw [kd_at_2]; rfl
theorem kc_2_35 : am_code 2 35 = [.lload_n 3, .ldc2_w 88, .lcmp, .ifCond .le (6)] := by unfold am_code; rw [kd_at_2]; rfl
theorem kc_2_43 : am_code 2 43 = [.bipush (-2), .ireturn] := by unfold am_code; rw [kd_at_2]; rfl
theorem kc_2_46 : am_code 2 46 = [.lload 5, .lconst 0, .lcmp, .ifCond .lt (23)] := by unfold am_code; rw [kd_at_2]; rfl
theorem kc_2_53 : am_code 2 53 = [.lload 5, .ldc2_w 90, .lcmp, .ifCond .gt (14)] := by unfold am_code; rw [kd_at_2]; rfl
theorem kc_2_62 : am_code 2 62 = [.iload 7, .ifCond .lt (9)] := by unfold am_code; rw [kd_at_2]; rfl
theorem kc_2_67 : am_code 2 67 = [.iload 7, .iconst (3), .if_icmp .le (6)] := by unfold am_code; rw [kd_at_2]; rfl
theorem kc_2_73 : am_code 2 73 = [.bipush (-2), .ireturn] := by unfold am_code; rw [kd_at_2]; rfl
theorem kc_2_76 : am_code 2 76 = [.aload_n 0, .getfield 21, .invokevirtual 92, .ifCond .eq (6)] := by unfold am_code; rw [kd_at_2]; rfl
theorem kc_2_86 : am_code 2 86 = [.bipush (-4), .ireturn] := by unfold am_code; rw [kd_at_2]; rfl
theorem kc_2_89 : am_code 2 89 = [.lload 5, .lconst 0, .lcmp, .ifCond .ne (13)] := by unfold am_code; rw [kd_at_2]; rfl
theorem kc_2_96 : am_code 2 96 = [.new 93, .dup, .ldc 95, .invokespecial 97, .athrow] := by unfold am_code; rw [kd_at_2]; rfl
theorem kc_2_106 : am_code 2 106 = [.aload_n 0, .getfield 21, .iload_n 1, .iload_n 2, .lload_n 3, .lload 5, .iload 7, .invokevirtual 100, .ireturn] := by unfold am_code; rw [kd_at_2]; rfl
theorem kd_at_3 : am_kd 3 = kd_3 := rfl
theorem kc_3_0 : am_code 3 0 = [.aload_n 0, .getfield 21, .iload_n 1, .invokevirtual 103, .ifCond .eq (14)] := by unfold am_code; rw [kd_at_3]; rfl
theorem kc_3_11 : am_code 3 11 = [.aload_n 0, .getfield 21, .iload_n 2, .invokevirtual 103, .ifCond .ne (5)] := by unfold am_code; rw [kd_at_3]; rfl
theorem kc_3_22 : am_code 3 22 = [.iconst (-1), .ireturn] := by unfold am_code; rw [kd_at_3]; rfl
theorem kc_3_24 : am_code 3 24 = [.aload_n 0, .getfield 21, .iload_n 2, .invokevirtual 104, .aload_n 0, .getfield 21, .iload_n 1, .invokevirtual 108, .if_icmp .eq (6)] := by unfold am_code; rw [kd_at_3]; rfl
theorem kc_3_43 : am_code 3 43 = [.bipush (-2), .ireturn] := by unfold am_code; rw [kd_at_3]; rfl
theorem kc_3_46 : am_code 3 46 = [.aload_n 0, .getfield 21, .iload_n 1, .iload_n 2, .invokevirtual 111, .iload_n 3, .if_icmp .ne (5)] := by unfold am_code; rw [kd_at_3]; rfl
theorem kc_3_59 : am_code 3 59 = [.iconst (0), .ireturn] := by unfold am_code; rw [kd_at_3]; rfl
theorem kc_3_61 : am_code 3 61 = [.aload_n 0, .getfield 21, .iload_n 1, .iload_n 2, .invokevirtual 115, .iconst (1), .ireturn] := by unfold am_code; rw [kd_at_3]; rfl
theorem kd_at_4 : am_kd 4 = kd_4 := rfl
theorem kc_4_0 : am_code 4 0 = [.aload_n 0, .getfield 14, .iload_n 1, .invokevirtual 84, .ifCond .ne (5)] := by unfold am_code; rw [kd_at_4]; rfl
theorem kc_4_11 : am_code 4 11 = [.iconst (-1), .ireturn] := by unfold am_code; rw [kd_at_4]; rfl
theorem kc_4_13 : am_code 4 13 = [.lload_n 2, .lconst 0, .lcmp, .ifCond .lt (11)] := by unfold am_code; rw [kd_at_4]; rfl
theorem kc_4_19 : am_code 4 19 = [.lload_n 2, .ldc2_w 119, .lcmp, .ifCond .le (6)] := by unfold am_code; rw [kd_at_4]; rfl
theorem kc_4_27 : am_code 4 27 = [.bipush (-2), .ireturn] := by unfold am_code; rw [kd_at_4]; rfl
theorem kc_4_30 : am_code 4 30 = [.aload_n 0, .getfield 14, .iload_n 1, .lload_n 2, .invokevirtual 121, .aload_n 0, .getfield 14, .invokevirtual 125, .ireturn] := by unfold am_code; rw [kd_at_4]; rfl
theorem kd_at_5 : am_kd 5 = kd_5 := rfl
theorem kc_5_0 : am_code 5 0 = [.aload_n 0, .getfield 14, .iload_n 1, .invokevirtual 84, .ifCond .eq (23)] := by unfold am_code; rw [kd_at_5]; rfl
theorem kc_5_11 : am_code 5 11 = [.aload_n 0, .getfield 14, .iload_n 2, .invokevirtual 84, .ifCond .eq (12)] := by unfold am_code; rw [kd_at_5]; rfl
theorem kc_5_22 : am_code 5 22 = [.iload_n 3, .ifCond .lt (8)] := by unfold am_code; rw [kd_at_5]; rfl
theorem kc_5_26 : am_code 5 26 = [.iload_n 3, .iconst (2), .if_icmp .le (6)] := by unfold am_code; rw [kd_at_5]; rfl
theorem kc_5_31 : am_code 5 31 = [.bipush (-2), .ireturn] := by unfold am_code; rw [kd_at_5]; rfl
theorem kc_5_34 : am_code 5 34 = [.iload_n 3, .iconst (2), .if_icmp .ne (22)] := by unfold am_code; rw [kd_at_5]; rfl
theorem kc_5_39 : am_code 5 39 = [.lload 4, .lconst 0, .lcmp, .ifCond .lt (12)] := by unfold am_code; rw [kd_at_5]; rfl
theorem kc_5_46 : am_code 5 46 = [.lload 4, .ldc2_w 129, .lcmp, .ifCond .le (6)] := by unfold am_code; rw [kd_at_5]; rfl
theorem kc_5_55 : am_code 5 55 = [.bipush (-2), .ireturn] := by unfold am_code; rw [kd_at_5]; rfl
theorem kc_5_58 : am_code 5 58 = [.aload_n 0, .getfield 30, .iload_n 1, .iload_n 2, .iload_n 3, .iload_n 3, .iconst (2), .if_icmp .ne (9)] := by unfold am_code; rw [kd_at_5]; rfl
theorem kc_5_70 : am_code 5 70 = [.lload 4, .l2i, .goto (4)] := by unfold am_code; rw [kd_at_5]; rfl
theorem kc_5_76 : am_code 5 76 = [.iconst (0)] := by unfold am_code; rw [kd_at_5]; rfl
theorem kc_5_77 : am_code 5 77 = [.invokevirtual 131, .aload_n 0, .iconst (1), .putfield 58, .aload_n 0, .invokevirtual 135, .ifCond .ne (12)] := by unfold am_code; rw [kd_at_5]; rfl
theorem kc_5_92 : am_code 5 92 = [.aload_n 0, .getfield 51, .invokevirtual 138, .iconst (-1), .ireturn] := by unfold am_code; rw [kd_at_5]; rfl
theorem kc_5_101 : am_code 5 101 = [.aload_n 0, .invokevirtual 141, .aload_n 0, .getfield 51, .invokevirtual 144, .ireturn] := by unfold am_code; rw [kd_at_5]; rfl
theorem kd_at_6 : am_kd 6 = kd_6 := rfl
theorem kc_6_0 : am_code 6 0 = [.aload_n 0, .getfield 51, .iload_n 1, .invokevirtual 147, .ireturn] := by unfold am_code; rw [kd_at_6]; rfl
theorem kd_at_7 : am_kd 7 = kd_7 := rfl
theorem kc_7_0 : am_code 7 0 = [.aload_n 0, .getfield 51, .invokevirtual 150, .ifCond .eq (13)] := by unfold am_code; rw [kd_at_7]; rfl
theorem kc_7_10 : am_code 7 10 = [.aload_n 0, .getfield 51, .invokevirtual 153, .goto (6)] := by unfold am_code; rw [kd_at_7]; rfl
theorem kc_7_20 : am_code 7 20 = [.ldc2_w 157] := by unfold am_code; rw [kd_at_7]; rfl
theorem kc_7_23 : am_code 7 23 = [.lreturn] := by unfold am_code; rw [kd_at_7]; rfl
theorem kd_at_8 : am_kd 8 = kd_8 := rfl
theorem kc_8_0 : am_code 8 0 = [.lload_n 1, .ldc2_w 159, .invokestatic 72, .ifCond .eq (13)] := by unfold am_code; rw [kd_at_8]; rfl
theorem kc_8_10 : am_code 8 10 = [.lload_n 3, .ldc2_w 159, .invokestatic 72, .ifCond .ne (6)] := by unfold am_code; rw [kd_at_8]; rfl
theorem kc_8_20 : am_code 8 20 = [.bipush (-2), .ireturn] := by unfold am_code; rw [kd_at_8]; rfl
theorem kc_8_23 : am_code 8 23 = [.iload 5, .iconst (-1), .if_icmp .lt (10)] := by unfold am_code; rw [kd_at_8]; rfl
theorem kc_8_29 : am_code 8 29 = [.iload 5, .bipush (7), .if_icmp .le (6)] := by unfold am_code; rw [kd_at_8]; rfl
theorem kc_8_36 : am_code 8 36 = [.bipush (-2), .ireturn] := by unfold am_code; rw [kd_at_8]; rfl
theorem kc_8_39 : am_code 8 39 = [.iconst (0), .istore 6, .ldc2_w 161, .lstore 7, .iconst (1), .istore 9] := by unfold am_code; rw [kd_at_8]; rfl
theorem kc_8_50 : am_code 8 50 = [.iload 9, .aload_n 0, .getfield 21, .invokevirtual 163, .if_icmp .gt (46)] := by unfold am_code; rw [kd_at_8]; rfl
theorem kc_8_62 : am_code 8 62 = [.aload_n 0, .iload 9, .iload 5, .invokevirtual 166, .ifCond .eq (29)] := by unfold am_code; rw [kd_at_8]; rfl
theorem kc_8_73 : am_code 8 73 = [.aload_n 0, .iload 9, .lload_n 1, .lload_n 3, .invokevirtual 169, .lstore 10, .lload 10, .lload 7, .lcmp, .ifCond .ge (11)] := by unfold am_code; rw [kd_at_8]; rfl
theorem kc_8_91 : am_code 8 91 = [.lload 10, .lstore 7, .iload 9, .istore 6] := by unfold am_code; rw [kd_at_8]; rfl
theorem kc_8_99 : am_code 8 99 = [.iinc 9 (1), .goto (-52)] := by unfold am_code; rw [kd_at_8]; rfl
theorem kc_8_105 : am_code 8 105 = [.iload 6, .ireturn] := by unfold am_code; rw [kd_at_8]; rfl
theorem kd_at_9 : am_kd 9 = kd_9 := rfl
theorem kc_9_0 : am_code 9 0 = [.aload_n 0, .getfield 21, .iload_n 1, .invokevirtual 103, .ifCond .ne (5)] := by unfold am_code; rw [kd_at_9]; rfl
theorem kc_9_11 : am_code 9 11 = [.iconst (-1), .ireturn] := by unfold am_code; rw [kd_at_9]; rfl
theorem kc_9_13 : am_code 9 13 = [.lload_n 2, .lconst 0, .lcmp, .ifCond .lt (18)] := by unfold am_code; rw [kd_at_9]; rfl
theorem kc_9_19 : am_code 9 19 = [.lload_n 2, .ldc2_w 90, .lcmp, .ifCond .gt (10)] := by unfold am_code; rw [kd_at_9]; rfl
theorem kc_9_27 : am_code 9 27 = [.lload 4, .lconst 0, .lcmp, .ifCond .ge (6)] := by unfold am_code; rw [kd_at_9]; rfl
theorem kc_9_34 : am_code 9 34 = [.bipush (-2), .ireturn] := by unfold am_code; rw [kd_at_9]; rfl
theorem kc_9_37 : am_code 9 37 = [.aload_n 0, .getfield 21, .iload_n 1, .lload_n 2, .lload 4, .invokevirtual 173, .aload_n 0, .getfield 21, .aload_n 0, .getfield 62, .lconst 1, .ladd, .invokevirtual 177, .ireturn] := by unfold am_code; rw [kd_at_9]; rfl
theorem kd_at_10 : am_kd 10 = kd_10 := rfl
theorem kc_10_0 : am_code 10 0 = [.lload_n 1, .lconst 0, .lcmp, .ifCond .ge (6)] := by unfold am_code; rw [kd_at_10]; rfl
theorem kc_10_6 : am_code 10 6 = [.bipush (-2), .ireturn] := by unfold am_code; rw [kd_at_10]; rfl
theorem kc_10_9 : am_code 10 9 = [.aload_n 0, .getfield 58, .ifCond .ne (6)] := by unfold am_code; rw [kd_at_10]; rfl
theorem kc_10_16 : am_code 10 16 = [.bipush (-3), .ireturn] := by unfold am_code; rw [kd_at_10]; rfl
theorem kc_10_19 : am_code 10 19 = [.aload_n 0, .invokevirtual 135, .ifCond .eq (11)] := by unfold am_code; rw [kd_at_10]; rfl
theorem kc_10_26 : am_code 10 26 = [.aload_n 0, .lload_n 1, .invokevirtual 181, .ifCond .ne (5)] := by unfold am_code; rw [kd_at_10]; rfl
theorem kc_10_34 : am_code 10 34 = [.iconst (0), .ireturn] := by unfold am_code; rw [kd_at_10]; rfl
theorem kc_10_36 : am_code 10 36 = [.aload_n 0, .invokevirtual 141, .iconst (1), .ireturn] := by unfold am_code; rw [kd_at_10]; rfl
theorem kd_at_11 : am_kd 11 = kd_11 := rfl
theorem kc_11_0 : am_code 11 0 = [.iload_n 1, .ifCond .lt (16)] := by unfold am_code; rw [kd_at_11]; rfl
theorem kc_11_4 : am_code 11 4 = [.iload_n 1, .aload_n 0, .getfield 51, .invokevirtual 144, .iconst (1), .isub, .if_icmp .lt (5)] := by unfold am_code; rw [kd_at_11]; rfl
theorem kc_11_17 : am_code 11 17 = [.iconst (-1), .ireturn] := by unfold am_code; rw [kd_at_11]; rfl
theorem kc_11_19 : am_code 11 19 = [.iload_n 2, .tableswitch (79) (0) (2) #[(28), (51), (62)]] := by unfold am_code; rw [kd_at_11]; rfl
theorem kc_11_48 : am_code 11 48 = [.aload_n 0, .aload_n 0, .getfield 51, .iload_n 1, .invokevirtual 147, .aload_n 0, .getfield 51, .iload_n 1, .iconst (1), .iadd, .invokevirtual 147, .invokevirtual 185, .ireturn] := by unfold am_code; rw [kd_at_11]; rfl
theorem kc_11_71 : am_code 11 71 = [.aload_n 0, .getfield 51, .iload_n 1, .iconst (1), .iadd, .invokevirtual 147, .ireturn] := by unfold am_code; rw [kd_at_11]; rfl
theorem kc_11_82 : am_code 11 82 = [.aload_n 0, .getfield 51, .iload_n 1, .invokevirtual 189, .ifCond .eq (7)] := by unfold am_code; rw [kd_at_11]; rfl
theorem kc_11_93 : am_code 11 93 = [.iconst (1), .goto (4)] := by unfold am_code; rw [kd_at_11]; rfl
theorem kc_11_97 : am_code 11 97 = [.iconst (0)] := by unfold am_code; rw [kd_at_11]; rfl
theorem kc_11_98 : am_code 11 98 = [.ireturn] := by unfold am_code; rw [kd_at_11]; rfl
theorem kc_11_99 : am_code 11 99 = [.bipush (-2), .ireturn] := by unfold am_code; rw [kd_at_11]; rfl
theorem kd_at_12 : am_kd 12 = kd_12 := rfl
theorem kc_12_0 : am_code 12 0 = [.iload_n 1, .ifCond .eq (17)] := by unfold am_code; rw [kd_at_12]; rfl
theorem kc_12_4 : am_code 12 4 = [.aload_n 0, .getfield 37, .iload_n 1, .invokevirtual 192, .ifCond .ne (6)] := by unfold am_code; rw [kd_at_12]; rfl
theorem kc_12_15 : am_code 12 15 = [.bipush (-2), .ireturn] := by unfold am_code; rw [kd_at_12]; rfl
theorem kc_12_18 : am_code 12 18 = [.iload_n 1, .ifCond .ne (13)] := by unfold am_code; rw [kd_at_12]; rfl
theorem kc_12_22 : am_code 12 22 = [.aload_n 0, .getfield 37, .invokevirtual 195, .goto (24)] := by unfold am_code; rw [kd_at_12]; rfl
theorem kc_12_32 : am_code 12 32 = [.aload_n 0, .getfield 37, .invokevirtual 198, .ifCond .eq (6)] := by unfold am_code; rw [kd_at_12]; rfl
theorem kc_12_42 : am_code 12 42 = [.bipush (-3), .ireturn] := by unfold am_code; rw [kd_at_12]; rfl
theorem kc_12_45 : am_code 12 45 = [.aload_n 0, .getfield 37, .iload_n 1, .invokevirtual 199] := by unfold am_code; rw [kd_at_12]; rfl
theorem kc_12_53 : am_code 12 53 = [.aload_n 0, .getfield 37, .aload_n 0, .getfield 14, .invokevirtual 202, .invokevirtual 203, .ireturn] := by unfold am_code; rw [kd_at_12]; rfl
theorem kd_at_13 : am_kd 13 = kd_13 := rfl
theorem kc_13_0 : am_code 13 0 = [.aload_n 0, .getfield 66, .ireturn] := by unfold am_code; rw [kd_at_13]; rfl
theorem kd_at_14 : am_kd 14 = kd_14 := rfl
theorem kc_14_0 : am_code 14 0 = [.iload_n 2, .ifCond .lt (14)] := by unfold am_code; rw [kd_at_14]; rfl
theorem kc_14_4 : am_code 14 4 = [.iload_n 2, .bipush (8), .if_icmp .ge (8)] := by unfold am_code; rw [kd_at_14]; rfl
theorem kc_14_10 : am_code 14 10 = [.iload_n 1, .iconst (1), .if_icmp .ge (6)] := by unfold am_code; rw [kd_at_14]; rfl
theorem kc_14_15 : am_code 14 15 = [.bipush (-2), .ireturn] := by unfold am_code; rw [kd_at_14]; rfl
theorem kc_14_18 : am_code 14 18 = [.aload_n 0, .getfield 44, .iload_n 1, .iload_n 2, .invokevirtual 206, .ifCond .eq (7)] := by unfold am_code; rw [kd_at_14]; rfl
theorem kc_14_30 : am_code 14 30 = [.iconst (1), .goto (4)] := by unfold am_code; rw [kd_at_14]; rfl
theorem kc_14_34 : am_code 14 34 = [.iconst (0)] := by unfold am_code; rw [kd_at_14]; rfl
theorem kc_14_35 : am_code 14 35 = [.ireturn] := by unfold am_code; rw [kd_at_14]; rfl
theorem kd_at_15 : am_kd 15 = kd_15 := rfl
theorem kc_15_0 : am_code 15 0 = [.lload_n 0, .lload_n 2, .lneg, .lcmp, .ifCond .lt (13)] := by unfold am_code; rw [kd_at_15]; rfl
theorem kc_15_7 : am_code 15 7 = [.lload_n 0, .lload_n 2, .lcmp, .ifCond .gt (7)] := by unfold am_code; rw [kd_at_15]; rfl
theorem kc_15_13 : am_code 15 13 = [.iconst (1), .goto (4)] := by unfold am_code; rw [kd_at_15]; rfl
theorem kc_15_17 : am_code 15 17 = [.iconst (0)] := by unfold am_code; rw [kd_at_15]; rfl
theorem kc_15_18 : am_code 15 18 = [.ireturn] := by unfold am_code; rw [kd_at_15]; rfl
theorem kd_at_16 : am_kd 16 = kd_16 := rfl
theorem kc_16_0 : am_code 16 0 = [.aload_n 0, .dup, .getfield 62, .lconst 1, .ladd, .putfield 62, .aload_n 0, .getfield 30, .aload_n 0, .getfield 62, .invokevirtual 209, .aload_n 0, .getfield 30, .aload_n 0, .getfield 55, .invokevirtual 213, .istore_n 1, .aload_n 0, .iload_n 1, .ifCond .eq (7)] := by unfold am_code; rw [kd_at_16]; rfl
theorem kc_16_38 : am_code 16 38 = [.iconst (0), .goto (10)] := by unfold am_code; rw [kd_at_16]; rfl
theorem kc_16_42 : am_code 16 42 = [.aload_n 0, .getfield 30, .invokevirtual 217] := by unfold am_code; rw [kd_at_16]; rfl
theorem kc_16_49 : am_code 16 49 = [.putfield 66, .iload_n 1, .ireturn] := by unfold am_code; rw [kd_at_16]; rfl
theorem kd_at_17 : am_kd 17 = kd_17 := rfl
theorem kc_17_0 : am_code 17 0 = [.aload_n 0, .getfield 51, .astore_n 1, .aload_n 0, .aload_n 0, .getfield 55, .putfield 51, .aload_n 0, .aload_n 1, .putfield 55, .return_] := by unfold am_code; rw [kd_at_17]; rfl
theorem kd_at_18 : am_kd 18 = kd_18 := rfl
theorem kc_18_0 : am_code 18 0 = [.aload_n 0, .getfield 51, .invokevirtual 150, .ifCond .ne (5)] := by unfold am_code; rw [kd_at_18]; rfl
theorem kc_18_10 : am_code 18 10 = [.iconst (1), .ireturn] := by unfold am_code; rw [kd_at_18]; rfl
theorem kc_18_12 : am_code 18 12 = [.aload_n 0, .getfield 30, .aload_n 0, .getfield 51, .invokevirtual 220, .lstore_n 3, .lload_n 3, .lconst 0, .lcmp, .ifCond .ge (5)] := by unfold am_code; rw [kd_at_18]; rfl
theorem kc_18_30 : am_code 18 30 = [.iconst (1), .ireturn] := by unfold am_code; rw [kd_at_18]; rfl
theorem kc_18_32 : am_code 18 32 = [.lload_n 3, .aload_n 0, .getfield 55, .invokevirtual 153, .lsub, .lload_n 1, .lcmp, .ifCond .lt (21)] := by unfold am_code; rw [kd_at_18]; rfl
theorem kc_18_46 : am_code 18 46 = [.aload_n 0, .getfield 51, .aload_n 0, .getfield 55, .invokevirtual 224, .ifCond .ne (7)] := by unfold am_code; rw [kd_at_18]; rfl
theorem kc_18_60 : am_code 18 60 = [.iconst (1), .goto (4)] := by unfold am_code; rw [kd_at_18]; rfl
theorem kc_18_64 : am_code 18 64 = [.iconst (0)] := by unfold am_code; rw [kd_at_18]; rfl
theorem kc_18_65 : am_code 18 65 = [.ireturn] := by unfold am_code; rw [kd_at_18]; rfl
theorem kd_at_19 : am_kd 19 = kd_19 := rfl
theorem kc_19_0 : am_code 19 0 = [.aload_n 0, .getfield 14, .aload_n 0, .getfield 21, .iload_n 1, .invokevirtual 108, .invokevirtual 227, .aload_n 0, .getfield 14, .aload_n 0, .getfield 21, .iload_n 1, .invokevirtual 104, .invokevirtual 227, .lsub, .lreturn] := by unfold am_code; rw [kd_at_19]; rfl
theorem kd_at_20 : am_kd 20 = kd_20 := rfl
theorem kc_20_0 : am_code 20 0 = [.aload_n 0, .getfield 14, .aload_n 0, .getfield 21, .iload_n 1, .invokevirtual 108, .invokevirtual 231, .aload_n 0, .getfield 14, .aload_n 0, .getfield 21, .iload_n 1, .invokevirtual 104, .invokevirtual 231, .lsub, .lreturn] := by unfold am_code; rw [kd_at_20]; rfl
theorem kd_at_21 : am_kd 21 = kd_21 := rfl
theorem kc_21_0 : am_code 21 0 = [.aload_n 0, .iload_n 1, .invokevirtual 234, .aload_n 0, .iload_n 1, .invokevirtual 237, .aload_n 0, .iload_n 2, .invokevirtual 234, .aload_n 0, .iload_n 2, .invokevirtual 237, .invokestatic 240, .ireturn] := by unfold am_code; rw [kd_at_21]; rfl
theorem kd_at_22 : am_kd 22 = kd_22 := rfl
theorem kc_22_0 : am_code 22 0 = [.iload_n 2, .ifCond .ge (5)] := by unfold am_code; rw [kd_at_22]; rfl
theorem kc_22_4 : am_code 22 4 = [.iconst (1), .ireturn] := by unfold am_code; rw [kd_at_22]; rfl
theorem kc_22_6 : am_code 22 6 = [.aload_n 0, .iload_n 1, .invokevirtual 234, .aload_n 0, .iload_n 1, .invokevirtual 237, .invokestatic 246, .istore_n 3, .iload_n 3, .ifCond .ge (5)] := by unfold am_code; rw [kd_at_22]; rfl
theorem kc_22_24 : am_code 22 24 = [.iconst (0), .ireturn] := by unfold am_code; rw [kd_at_22]; rfl
theorem kc_22_26 : am_code 22 26 = [.iload_n 3, .iload_n 2, .isub, .bipush (7), .iand, .istore 4, .iload 4, .iconst (1), .if_icmp .le (10)] := by unfold am_code; rw [kd_at_22]; rfl
theorem kc_22_40 : am_code 22 40 = [.iload 4, .bipush (7), .if_icmp .ne (7)] := by unfold am_code; rw [kd_at_22]; rfl
theorem kc_22_47 : am_code 22 47 = [.iconst (1), .goto (4)] := by unfold am_code; rw [kd_at_22]; rfl
theorem kc_22_51 : am_code 22 51 = [.iconst (0)] := by unfold am_code; rw [kd_at_22]; rfl
theorem kc_22_52 : am_code 22 52 = [.ireturn] := by unfold am_code; rw [kd_at_22]; rfl
theorem kd_at_23 : am_kd 23 = kd_23 := rfl
theorem kc_23_0 : am_code 23 0 = [.aload_n 0, .getfield 21, .iload_n 1, .invokevirtual 104, .istore 6, .lload_n 2, .aload_n 0, .getfield 14, .iload 6, .invokevirtual 227, .lsub, .lload 4, .aload_n 0, .getfield 14, .iload 6, .invokevirtual 231, .lsub, .aload_n 0, .iload_n 1, .invokevirtual 234, .aload_n 0, .iload_n 1, .invokevirtual 237, .invokestatic 249, .lreturn] := by unfold am_code; rw [kd_at_23]; rfl
theorem kd_at_24 : am_kd 24 = kd_24 := rfl
theorem kc_24_0 : am_code 24 0 = [.aload_n 0, .invokespecial 1, .aload_n 0, .bipush (61), .newarray .long, .putfield 7, .aload_n 0, .bipush (61), .newarray .long, .putfield 13, .aload_n 0, .bipush (61), .newarray .long, .putfield 16, .aload_n 0, .bipush (121), .newarray .int, .putfield 19, .aload_n 0, .bipush (121), .newarray .int, .putfield 23, .aload_n 0, .bipush (121), .newarray .long, .putfield 26, .aload_n 0, .bipush (121), .newarray .long, .putfield 29, .aload_n 0, .bipush (121), .newarray .int, .putfield 32, .aload_n 0, .bipush (121), .newarray .long, .putfield 35, .aload_n 0, .bipush (121), .newarray .long, .putfield 38, .aload_n 0, .sipush (14641), .newarray .boolean, .putfield 41, .aload_n 0, .iconst (-1), .putfield 45, .aload_n 0, .sipush (2541), .newarray .long, .putfield 49, .aload_n 0, .sipush (2541), .newarray .int, .putfield 52, .aload_n 0, .sipush (2541), .newarray .boolean, .putfield 55, .aload_n 0, .sipush (2541), .newarray .boolean, .putfield 58, .aload_n 0, .sipush (2600), .newarray .int, .putfield 61, .aload_n 0, .ldc2_w 64, .putfield 66, .aload_n 0, .sipush (2600), .newarray .boolean, .putfield 70, .aload_n 0, .sipush (2600), .newarray .int, .putfield 73, .aload_n 0, .bipush (21), .newarray .long, .putfield 76, .aload_n 0, .iconst (3), .newarray .int, .putfield 79, .return_] := by unfold am_code; rw [kd_at_24]; rfl
theorem kd_at_25 : am_kd 25 = kd_25 := rfl
theorem kc_25_0 : am_code 25 0 = [.aload_n 0, .getfield 82, .ireturn] := by unfold am_code; rw [kd_at_25]; rfl
theorem kd_at_26 : am_kd 26 = kd_26 := rfl
theorem kc_26_0 : am_code 26 0 = [.iload_n 1, .iconst (1), .if_icmp .lt (11)] := by unfold am_code; rw [kd_at_26]; rfl
theorem kc_26_5 : am_code 26 5 = [.iload_n 1, .aload_n 0, .getfield 85, .if_icmp .le (7)] := by unfold am_code; rw [kd_at_26]; rfl
theorem kc_26_13 : am_code 26 13 = [.iconst (1), .goto (4)] := by unfold am_code; rw [kd_at_26]; rfl
theorem kc_26_17 : am_code 26 17 = [.iconst (0)] := by unfold am_code; rw [kd_at_26]; rfl
theorem kc_26_18 : am_code 26 18 = [.ireturn] := by unfold am_code; rw [kd_at_26]; rfl
theorem kd_at_27 : am_kd 27 = kd_27 := rfl
theorem kc_27_0 : am_code 27 0 = [.iload_n 1, .iconst (1), .if_icmp .lt (11)] := by unfold am_code; rw [kd_at_27]; rfl
theorem kc_27_5 : am_code 27 5 = [.iload_n 1, .aload_n 0, .getfield 88, .if_icmp .le (7)] := by unfold am_code; rw [kd_at_27]; rfl
theorem kc_27_13 : am_code 27 13 = [.iconst (1), .goto (4)] := by unfold am_code; rw [kd_at_27]; rfl
theorem kc_27_17 : am_code 27 17 = [.iconst (0)] := by unfold am_code; rw [kd_at_27]; rfl
theorem kc_27_18 : am_code 27 18 = [.ireturn] := by unfold am_code; rw [kd_at_27]; rfl
theorem kd_at_28 : am_kd 28 = kd_28 := rfl
theorem kc_28_0 : am_code 28 0 = [.aload_n 0, .iconst (0), .putfield 82, .lload_n 1, .ldc2_w 91, .lcmp, .ifCond .lt (27)] := by unfold am_code; rw [kd_at_28]; rfl
theorem kc_28_13 : am_code 28 13 = [.lload_n 1, .ldc2_w 93, .lcmp, .ifCond .gt (19)] := by unfold am_code; rw [kd_at_28]; rfl
theorem kc_28_21 : am_code 28 21 = [.lload_n 3, .ldc2_w 91, .lcmp, .ifCond .lt (11)] := by unfold am_code; rw [kd_at_28]; rfl
theorem kc_28_29 : am_code 28 29 = [.lload_n 3, .ldc2_w 93, .lcmp, .ifCond .le (6)] := by unfold am_code; rw [kd_at_28]; rfl
theorem kc_28_37 : am_code 28 37 = [.bipush (-2), .ireturn] := by unfold am_code; rw [kd_at_28]; rfl
theorem kc_28_40 : am_code 28 40 = [.aload_n 0, .getfield 85, .bipush (60), .if_icmp .ne (6)] := by unfold am_code; rw [kd_at_28]; rfl
theorem kc_28_49 : am_code 28 49 = [.bipush (-4), .ireturn] := by unfold am_code; rw [kd_at_28]; rfl
theorem kc_28_52 : am_code 28 52 = [.aload_n 0, .dup, .getfield 85, .iconst (1), .iadd, .putfield 85, .aload_n 0, .getfield 7, .aload_n 0, .getfield 85, .lload_n 1, .lastore, .aload_n 0, .getfield 13, .aload_n 0, .getfield 85, .lload_n 3, .lastore, .aload_n 0, .getfield 85, .ireturn] := by unfold am_code; rw [kd_at_28]; rfl
theorem kd_at_29 : am_kd 29 = kd_29 := rfl
theorem kc_29_0 : am_code 29 0 = [.aload_n 0, .iconst (0), .putfield 82, .aload_n 0, .iload_n 1, .invokevirtual 95, .ifCond .ne (11)] := by unfold am_code; rw [kd_at_29]; rfl
theorem kc_29_13 : am_code 29 13 = [.aload_n 0, .iload_n 2, .invokevirtual 95, .ifCond .eq (5)] := by unfold am_code; rw [kd_at_29]; rfl
theorem kc_29_21 : am_code 29 21 = [.iconst (-1), .ireturn] := by unfold am_code; rw [kd_at_29]; rfl
theorem kc_29_23 : am_code 29 23 = [.iload_n 1, .iload_n 2, .if_icmp .eq (44)] := by unfold am_code; rw [kd_at_29]; rfl
theorem kc_29_28 : am_code 29 28 = [.lload_n 3, .lconst 1, .lcmp, .ifCond .lt (38)] := by unfold am_code; rw [kd_at_29]; rfl
theorem kc_29_34 : am_code 29 34 = [.lload_n 3, .ldc2_w 99, .lcmp, .ifCond .gt (30)] := by unfold am_code; rw [kd_at_29]; rfl
theorem kc_29_42 : am_code 29 42 = [.lload 5, .lconst 0, .lcmp, .ifCond .lt (23)] := by unfold am_code; rw [kd_at_29]; rfl
theorem kc_29_49 : am_code 29 49 = [.lload 5, .ldc2_w 101, .lcmp, .ifCond .gt (14)] := by unfold am_code; rw [kd_at_29]; rfl
theorem kc_29_58 : am_code 29 58 = [.iload 7, .ifCond .lt (9)] := by unfold am_code; rw [kd_at_29]; rfl
theorem kc_29_63 : am_code 29 63 = [.iload 7, .iconst (3), .if_icmp .le (6)] := by unfold am_code; rw [kd_at_29]; rfl
theorem kc_29_69 : am_code 29 69 = [.bipush (-2), .ireturn] := by unfold am_code; rw [kd_at_29]; rfl
theorem kc_29_72 : am_code 29 72 = [.aload_n 0, .getfield 88, .bipush (120), .if_icmp .ne (6)] := by unfold am_code; rw [kd_at_29]; rfl
theorem kc_29_81 : am_code 29 81 = [.bipush (-4), .ireturn] := by unfold am_code; rw [kd_at_29]; rfl
theorem kc_29_84 : am_code 29 84 = [.aload_n 0, .lload 5, .lconst 0, .lcmp, .ifCond .ne (7)] := by unfold am_code; rw [kd_at_29]; rfl
theorem kc_29_92 : am_code 29 92 = [.iconst (1), .goto (4)] := by unfold am_code; rw [kd_at_29]; rfl
theorem kc_29_96 : am_code 29 96 = [.iconst (0)] := by unfold am_code; rw [kd_at_29]; rfl
theorem kc_29_97 : am_code 29 97 = [.putfield 82, .aload_n 0, .getfield 82, .ifCond .le (5)] := by unfold am_code; rw [kd_at_29]; rfl
theorem kc_29_107 : am_code 29 107 = [.iconst (0), .ireturn] := by unfold am_code; rw [kd_at_29]; rfl
theorem kc_29_109 : am_code 29 109 = [.aload_n 0, .dup, .getfield 88, .iconst (1), .iadd, .putfield 88, .aload_n 0, .getfield 19, .aload_n 0, .getfield 88, .iload_n 1, .iastore, .aload_n 0, .getfield 23, .aload_n 0, .getfield 88, .iload_n 2, .iastore, .aload_n 0, .getfield 26, .aload_n 0, .getfield 88, .lload_n 3, .lastore, .aload_n 0, .getfield 29, .aload_n 0, .getfield 88, .lload 5, .lastore, .aload_n 0, .getfield 32, .aload_n 0, .getfield 88, .lconst 1, .lload_n 3, .lload_n 3, .iload 7, .i2l, .lmul, .ladd, .ldc2_w 103, .ldiv, .ladd, .l2i, .iastore, .aload_n 0, .getfield 38, .aload_n 0, .getfield 88, .ldc2_w 64, .lastore, .aload_n 0, .getfield 88, .ireturn] := by unfold am_code; rw [kd_at_29]; rfl
theorem kd_at_30 : am_kd 30 = kd_30 := rfl
theorem kc_30_0 : am_code 30 0 = [.aload_n 0, .iconst (0), .putfield 82, .aload_n 0, .iload_n 1, .invokevirtual 105, .ifCond .ne (11)] := by unfold am_code; rw [kd_at_30]; rfl
theorem kc_30_13 : am_code 30 13 = [.aload_n 0, .iload_n 2, .invokevirtual 105, .ifCond .eq (5)] := by unfold am_code; rw [kd_at_30]; rfl
theorem kc_30_21 : am_code 30 21 = [.iconst (-1), .ireturn] := by unfold am_code; rw [kd_at_30]; rfl
theorem kc_30_23 : am_code 30 23 = [.aload_n 0, .getfield 23, .iload_n 1, .iaload, .aload_n 0, .getfield 19, .iload_n 2, .iaload, .if_icmp .eq (6)] := by unfold am_code; rw [kd_at_30]; rfl
theorem kc_30_38 : am_code 30 38 = [.bipush (-2), .ireturn] := by unfold am_code; rw [kd_at_30]; rfl
theorem kc_30_41 : am_code 30 41 = [.aload_n 0, .getfield 41, .bipush (121), .iload_n 1, .imul, .iload_n 2, .iadd, .baload, .istore 4, .aload_n 0, .getfield 41, .bipush (121), .iload_n 1, .imul, .iload_n 2, .iadd, .iload_n 3, .bastore, .iload 4, .iload_n 3, .if_icmp .ne (7)] := by unfold am_code; rw [kd_at_30]; rfl
theorem kc_30_72 : am_code 30 72 = [.iconst (0), .goto (4)] := by unfold am_code; rw [kd_at_30]; rfl
theorem kc_30_76 : am_code 30 76 = [.iconst (1)] := by unfold am_code; rw [kd_at_30]; rfl
theorem kc_30_77 : am_code 30 77 = [.ireturn] := by unfold am_code; rw [kd_at_30]; rfl
theorem kd_at_31 : am_kd 31 = kd_31 := rfl
theorem kc_31_0 : am_code 31 0 = [.aload_n 0, .iconst (0), .putfield 82, .aload_n 0, .iload_n 1, .invokevirtual 95, .ifCond .eq (5)] := by unfold am_code; rw [kd_at_31]; rfl
theorem kc_31_13 : am_code 31 13 = [.iconst (-1), .ireturn] := by unfold am_code; rw [kd_at_31]; rfl
theorem kc_31_15 : am_code 31 15 = [.lload_n 2, .lconst 0, .lcmp, .ifCond .lt (11)] := by unfold am_code; rw [kd_at_31]; rfl
theorem kc_31_21 : am_code 31 21 = [.lload_n 2, .ldc2_w 108, .lcmp, .ifCond .le (6)] := by unfold am_code; rw [kd_at_31]; rfl
theorem kc_31_29 : am_code 31 29 = [.bipush (-2), .ireturn] := by unfold am_code; rw [kd_at_31]; rfl
theorem kc_31_32 : am_code 31 32 = [.aload_n 0, .getfield 16, .iload_n 1, .lload_n 2, .lastore, .iconst (0), .istore 4, .iconst (1), .istore 5] := by unfold am_code; rw [kd_at_31]; rfl
theorem kc_31_45 : am_code 31 45 = [.iload 5, .aload_n 0, .getfield 85, .if_icmp .gt (32)] := by unfold am_code; rw [kd_at_31]; rfl
theorem kc_31_54 : am_code 31 54 = [.aload_n 0, .getfield 16, .iload 5, .laload, .lconst 0, .lcmp, .ifCond .le (10)] := by unfold am_code; rw [kd_at_31]; rfl
theorem kc_31_66 : am_code 31 66 = [.iload 4, .iconst (1), .iadd, .goto (5)] := by unfold am_code; rw [kd_at_31]; rfl
theorem kc_31_73 : am_code 31 73 = [.iload 4] := by unfold am_code; rw [kd_at_31]; rfl
theorem kc_31_75 : am_code 31 75 = [.istore 4, .iinc 5 (1), .goto (-35)] := by unfold am_code; rw [kd_at_31]; rfl
theorem kc_31_83 : am_code 31 83 = [.iload 4, .ireturn] := by unfold am_code; rw [kd_at_31]; rfl
theorem kd_at_32 : am_kd 32 = kd_32 := rfl
theorem kc_32_0 : am_code 32 0 = [.aload_n 0, .iconst (0), .putfield 82, .aload_n 0, .iload_n 1, .invokevirtual 105, .ifCond .eq (5)] := by unfold am_code; rw [kd_at_32]; rfl
theorem kc_32_13 : am_code 32 13 = [.iconst (-1), .ireturn] := by unfold am_code; rw [kd_at_32]; rfl
theorem kc_32_15 : am_code 32 15 = [.lload_n 2, .lconst 0, .lcmp, .ifCond .lt (18)] := by unfold am_code; rw [kd_at_32]; rfl
theorem kc_32_21 : am_code 32 21 = [.lload_n 2, .ldc2_w 101, .lcmp, .ifCond .gt (10)] := by unfold am_code; rw [kd_at_32]; rfl
theorem kc_32_29 : am_code 32 29 = [.lload 4, .lconst 0, .lcmp, .ifCond .ge (6)] := by unfold am_code; rw [kd_at_32]; rfl
theorem kc_32_36 : am_code 32 36 = [.bipush (-2), .ireturn] := by unfold am_code; rw [kd_at_32]; rfl
theorem kc_32_39 : am_code 32 39 = [.aload_n 0, .getfield 35, .iload_n 1, .lload_n 2, .lastore, .aload_n 0, .getfield 38, .iload_n 1, .lload 4, .lastore, .iconst (0), .istore 6, .iconst (1), .istore 7] := by unfold am_code; rw [kd_at_32]; rfl
theorem kc_32_60 : am_code 32 60 = [.iload 7, .aload_n 0, .getfield 88, .if_icmp .gt (35)] := by unfold am_code; rw [kd_at_32]; rfl
theorem kc_32_69 : am_code 32 69 = [.aload_n 0, .getfield 38, .iload 7, .laload, .aload_n 0, .getfield 110, .lcmp, .ifCond .le (10)] := by unfold am_code; rw [kd_at_32]; rfl
theorem kc_32_84 : am_code 32 84 = [.iload 6, .iconst (1), .iadd, .goto (5)] := by unfold am_code; rw [kd_at_32]; rfl
theorem kc_32_91 : am_code 32 91 = [.iload 6] := by unfold am_code; rw [kd_at_32]; rfl
theorem kc_32_93 : am_code 32 93 = [.istore 6, .iinc 7 (1), .goto (-38)] := by unfold am_code; rw [kd_at_32]; rfl
theorem kc_32_101 : am_code 32 101 = [.iload 6, .ireturn] := by unfold am_code; rw [kd_at_32]; rfl
theorem kd_at_33 : am_kd 33 = kd_33 := rfl
theorem kc_33_0 : am_code 33 0 = [.aload_n 0, .getfield 38, .iload_n 1, .laload, .aload_n 0, .getfield 110, .lcmp, .ifCond .lt (12)] := by unfold am_code; rw [kd_at_33]; rfl
theorem kc_33_14 : am_code 33 14 = [.aload_n 0, .getfield 35, .iload_n 1, .laload, .goto (9)] := by unfold am_code; rw [kd_at_33]; rfl
theorem kc_33_23 : am_code 33 23 = [.aload_n 0, .getfield 29, .iload_n 1, .laload] := by unfold am_code; rw [kd_at_33]; rfl
theorem kc_33_29 : am_code 33 29 = [.lstore_n 2, .lload_n 2, .lconst 0, .lcmp, .ifCond .ne (7)] := by unfold am_code; rw [kd_at_33]; rfl
theorem kc_33_36 : am_code 33 36 = [.ldc2_w 64, .lreturn] := by unfold am_code; rw [kd_at_33]; rfl
theorem kc_33_40 : am_code 33 40 = [.aload_n 0, .getfield 45, .iconst (1), .if_icmp .ne (12)] := by unfold am_code; rw [kd_at_33]; rfl
theorem kc_33_48 : am_code 33 48 = [.aload_n 0, .getfield 26, .iload_n 1, .laload, .goto (15)] := by unfold am_code; rw [kd_at_33]; rfl
theorem kc_33_57 : am_code 33 57 = [.aload_n 0, .getfield 26, .iload_n 1, .laload, .ldc2_w 101, .lmul, .lload_n 2, .ldiv] := by unfold am_code; rw [kd_at_33]; rfl
theorem kc_33_69 : am_code 33 69 = [.lreturn] := by unfold am_code; rw [kd_at_33]; rfl
theorem kd_at_34 : am_kd 34 = kd_34 := rfl
theorem kc_34_0 : am_code 34 0 = [.aload_n 0, .getfield 45, .iconst (2), .if_icmp .ne (14)] := by unfold am_code; rw [kd_at_34]; rfl
theorem kc_34_8 : am_code 34 8 = [.aload_n 0, .getfield 16, .iload_n 1, .laload, .lconst 0, .lcmp, .ifCond .ne (7)] := by unfold am_code; rw [kd_at_34]; rfl
theorem kc_34_19 : am_code 34 19 = [.ldc2_w 64, .lreturn] := by unfold am_code; rw [kd_at_34]; rfl
theorem kc_34_23 : am_code 34 23 = [.aload_n 0, .getfield 16, .iload_n 1, .laload, .ldc2_w 101, .lcmp, .ifCond .le (7)] := by unfold am_code; rw [kd_at_34]; rfl
theorem kc_34_36 : am_code 34 36 = [.lconst 1, .goto (13)] := by unfold am_code; rw [kd_at_34]; rfl
theorem kc_34_40 : am_code 34 40 = [.ldc2_w 101, .aload_n 0, .getfield 16, .iload_n 1, .laload, .ldiv] := by unfold am_code; rw [kd_at_34]; rfl
theorem kc_34_50 : am_code 34 50 = [.lreturn] := by unfold am_code; rw [kd_at_34]; rfl
theorem kd_at_35 : am_kd 35 = kd_35 := rfl
theorem kc_35_0 : am_code 35 0 = [.aload_n 0, .getfield 45, .iconst (2), .if_icmp .ne (8)] := by unfold am_code; rw [kd_at_35]; rfl
theorem kc_35_8 : am_code 35 8 = [.bipush (20), .goto (4)] := by unfold am_code; rw [kd_at_35]; rfl
theorem kc_35_13 : am_code 35 13 = [.iconst (0)] := by unfold am_code; rw [kd_at_35]; rfl
theorem kc_35_14 : am_code 35 14 = [.ireturn] := by unfold am_code; rw [kd_at_35]; rfl
theorem kd_at_36 : am_kd 36 = kd_36 := rfl
theorem kc_36_0 : am_code 36 0 = [.aload_n 0, .getfield 45, .iconst (2), .if_icmp .ne (12)] := by unfold am_code; rw [kd_at_36]; rfl
theorem kc_36_8 : am_code 36 8 = [.aload_n 0, .getfield 32, .iload_n 1, .iaload, .goto (4)] := by unfold am_code; rw [kd_at_36]; rfl
theorem kc_36_17 : am_code 36 17 = [.iconst (0)] := by unfold am_code; rw [kd_at_36]; rfl
theorem kc_36_18 : am_code 36 18 = [.ireturn] := by unfold am_code; rw [kd_at_36]; rfl
theorem kd_at_37 : am_kd 37 = kd_37 := rfl
theorem kc_37_0 : am_code 37 0 = [.iload_n 1, .ifCond .ne (10)] := by unfold am_code; rw [kd_at_37]; rfl
theorem kc_37_4 : am_code 37 4 = [.aload_n 0, .getfield 113, .goto (9)] := by unfold am_code; rw [kd_at_37]; rfl
theorem kc_37_11 : am_code 37 11 = [.aload_n 0, .getfield 23, .iload_n 1, .iaload] := by unfold am_code; rw [kd_at_37]; rfl
theorem kc_37_17 : am_code 37 17 = [.ireturn] := by unfold am_code; rw [kd_at_37]; rfl
theorem kd_at_38 : am_kd 38 = kd_38 := rfl
theorem kc_38_0 : am_code 38 0 = [.aload_n 0, .getfield 19, .iload_n 3, .iaload, .aload_n 0, .iload_n 1, .invokevirtual 116, .if_icmp .ne (44)] := by unfold am_code; rw [kd_at_38]; rfl
theorem kc_38_14 : am_code 38 14 = [.aload_n 0, .iload_n 3, .invokevirtual 120, .lconst 0, .lcmp, .ifCond .lt (34)] := by unfold am_code; rw [kd_at_38]; rfl
theorem kc_38_24 : am_code 38 24 = [.iload_n 2, .aload_n 0, .iload_n 3, .invokevirtual 124, .if_icmp .lt (25)] := by unfold am_code; rw [kd_at_38]; rfl
theorem kc_38_33 : am_code 38 33 = [.iload_n 1, .ifCond .eq (17)] := by unfold am_code; rw [kd_at_38]; rfl
theorem kc_38_37 : am_code 38 37 = [.aload_n 0, .getfield 41, .bipush (121), .iload_n 1, .imul, .iload_n 3, .iadd, .baload, .ifCond .ne (7)] := by unfold am_code; rw [kd_at_38]; rfl
theorem kc_38_51 : am_code 38 51 = [.iconst (1), .goto (4)] := by unfold am_code; rw [kd_at_38]; rfl
theorem kc_38_55 : am_code 38 55 = [.iconst (0)] := by unfold am_code; rw [kd_at_38]; rfl
theorem kc_38_56 : am_code 38 56 = [.ireturn] := by unfold am_code; rw [kd_at_38]; rfl
theorem kd_at_39 : am_kd 39 = kd_39 := rfl
theorem kc_39_0 : am_code 39 0 = [.aload_n 0, .getfield 49, .iload_n 1, .laload, .lconst 0, .lcmp, .ifCond .lt (38)] := by unfold am_code; rw [kd_at_39]; rfl
theorem kc_39_11 : am_code 39 11 = [.aload_n 0, .getfield 49, .iload_n 1, .laload, .lload_n 2, .lcmp, .ifCond .lt (25)] := by unfold am_code; rw [kd_at_39]; rfl
theorem kc_39_22 : am_code 39 22 = [.aload_n 0, .getfield 49, .iload_n 1, .laload, .lload_n 2, .lcmp, .ifCond .ne (16)] := by unfold am_code; rw [kd_at_39]; rfl
theorem kc_39_33 : am_code 39 33 = [.aload_n 0, .getfield 52, .iload_n 1, .iaload, .iload 4, .if_icmp .gt (5)] := by unfold am_code; rw [kd_at_39]; rfl
theorem kc_39_44 : am_code 39 44 = [.iconst (0), .ireturn] := by unfold am_code; rw [kd_at_39]; rfl
theorem kc_39_46 : am_code 39 46 = [.aload_n 0, .getfield 49, .iload_n 1, .lload_n 2, .lastore, .aload_n 0, .getfield 52, .iload_n 1, .iload 4, .iastore, .iconst (1), .ireturn] := by unfold am_code; rw [kd_at_39]; rfl
theorem kd_at_40 : am_kd 40 = kd_40 := rfl
theorem kc_40_0 : am_code 40 0 = [.iconst (0), .istore_n 1] := by unfold am_code; rw [kd_at_40]; rfl
theorem kc_40_2 : am_code 40 2 = [.iload_n 1, .sipush (2541), .if_icmp .ge (76)] := by unfold am_code; rw [kd_at_40]; rfl
theorem kc_40_9 : am_code 40 9 = [.iload_n 1, .bipush (21), .idiv, .aload_n 0, .getfield 88, .if_icmp .gt (33)] := by unfold am_code; rw [kd_at_40]; rfl
theorem kc_40_20 : am_code 40 20 = [.iload_n 1, .bipush (21), .irem, .aload_n 0, .invokevirtual 127, .if_icmp .gt (22)] := by unfold am_code; rw [kd_at_40]; rfl
theorem kc_40_31 : am_code 40 31 = [.aload_n 0, .iload_n 1, .bipush (21), .idiv, .invokevirtual 116, .aload_n 0, .getfield 131, .if_icmp .ne (7)] := by unfold am_code; rw [kd_at_40]; rfl
theorem kc_40_46 : am_code 40 46 = [.iconst (1), .goto (4)] := by unfold am_code; rw [kd_at_40]; rfl
theorem kc_40_50 : am_code 40 50 = [.iconst (0)] := by unfold am_code; rw [kd_at_40]; rfl
theorem kc_40_51 : am_code 40 51 = [.istore_n 2, .aload_n 0, .getfield 49, .iload_n 1, .iload_n 2, .ifCond .eq (7)] := by unfold am_code; rw [kd_at_40]; rfl
theorem kc_40_61 : am_code 40 61 = [.lconst 0, .goto (6)] := by unfold am_code; rw [kd_at_40]; rfl
theorem kc_40_65 : am_code 40 65 = [.ldc2_w 64] := by unfold am_code; rw [kd_at_40]; rfl
theorem kc_40_68 : am_code 40 68 = [.lastore, .aload_n 0, .getfield 52, .iload_n 1, .iconst (0), .iastore, .iinc 1 (1), .goto (-77)] := by unfold am_code; rw [kd_at_40]; rfl
theorem kc_40_82 : am_code 40 82 = [.iconst (1), .istore_n 1] := by unfold am_code; rw [kd_at_40]; rfl
theorem kc_40_84 : am_code 40 84 = [.iload_n 1, .ifCond .eq (239)] := by unfold am_code; rw [kd_at_40]; rfl
theorem kc_40_88 : am_code 40 88 = [.iconst (0), .istore_n 1, .aload_n 0, .getfield 88, .istore_n 2] := by unfold am_code; rw [kd_at_40]; rfl
theorem kc_40_95 : am_code 40 95 = [.iload_n 2, .ifCond .lt (225)] := by unfold am_code; rw [kd_at_40]; rfl
theorem kc_40_99 : am_code 40 99 = [.iconst (0), .istore_n 3] := by unfold am_code; rw [kd_at_40]; rfl
theorem kc_40_101 : am_code 40 101 = [.iload_n 3, .aload_n 0, .invokevirtual 127, .if_icmp .gt (209)] := by unfold am_code; rw [kd_at_40]; rfl
theorem kc_40_109 : am_code 40 109 = [.bipush (21), .iload_n 2, .imul, .iload_n 3, .iadd, .istore 4, .aload_n 0, .aload_n 0, .iload_n 2, .invokevirtual 116, .invokevirtual 134, .lstore 5, .lload 5, .lconst 0, .lcmp, .ifCond .lt (63)] := by unfold am_code; rw [kd_at_40]; rfl
theorem kc_40_135 : am_code 40 135 = [.iload_n 3, .bipush (20), .if_icmp .ge (57)] := by unfold am_code; rw [kd_at_40]; rfl
theorem kc_40_141 : am_code 40 141 = [.aload_n 0, .getfield 49, .iload 4, .iconst (1), .iadd, .laload, .lconst 0, .lcmp, .ifCond .lt (43)] := by unfold am_code; rw [kd_at_40]; rfl
theorem kc_40_155 : am_code 40 155 = [.aload_n 0, .iload 4, .aload_n 0, .getfield 49, .iload 4, .iconst (1), .iadd, .laload, .lload 5, .ladd, .aload_n 0, .getfield 52, .iload 4, .iconst (1), .iadd, .iaload, .invokevirtual 137, .ifCond .ne (7)] := by unfold am_code; rw [kd_at_40]; rfl
theorem kc_40_185 : am_code 40 185 = [.iload_n 1, .ifCond .eq (7)] := by unfold am_code; rw [kd_at_40]; rfl
theorem kc_40_189 : am_code 40 189 = [.iconst (1), .goto (4)] := by unfold am_code; rw [kd_at_40]; rfl
theorem kc_40_193 : am_code 40 193 = [.iconst (0)] := by unfold am_code; rw [kd_at_40]; rfl
theorem kc_40_194 : am_code 40 194 = [.istore_n 1] := by unfold am_code; rw [kd_at_40]; rfl
theorem kc_40_195 : am_code 40 195 = [.iconst (1), .istore 7] := by unfold am_code; rw [kd_at_40]; rfl
theorem kc_40_198 : am_code 40 198 = [.iload 7, .aload_n 0, .getfield 88, .if_icmp .gt (105)] := by unfold am_code; rw [kd_at_40]; rfl
theorem kc_40_207 : am_code 40 207 = [.bipush (21), .iload 7, .imul, .iload_n 3, .iadd, .aload_n 0, .iload 7, .invokevirtual 124, .isub, .istore 8, .aload_n 0, .getfield 19, .iload 7, .iaload, .aload_n 0, .iload_n 2, .invokevirtual 116, .if_icmp .ne (68)] := by unfold am_code; rw [kd_at_40]; rfl
theorem kc_40_238 : am_code 40 238 = [.aload_n 0, .iload_n 2, .iload_n 3, .iload 7, .invokevirtual 141, .ifCond .eq (57)] := by unfold am_code; rw [kd_at_40]; rfl
theorem kc_40_249 : am_code 40 249 = [.aload_n 0, .getfield 49, .iload 8, .laload, .lconst 0, .lcmp, .ifCond .lt (45)] := by unfold am_code; rw [kd_at_40]; rfl
theorem kc_40_261 : am_code 40 261 = [.aload_n 0, .iload 4, .aload_n 0, .getfield 49, .iload 8, .laload, .aload_n 0, .iload 7, .invokevirtual 120, .ladd, .aload_n 0, .getfield 52, .iload 8, .iaload, .iconst (1), .iadd, .invokevirtual 137, .ifCond .ne (7)] := by unfold am_code; rw [kd_at_40]; rfl
theorem kc_40_293 : am_code 40 293 = [.iload_n 1, .ifCond .eq (7)] := by unfold am_code; rw [kd_at_40]; rfl
theorem kc_40_297 : am_code 40 297 = [.iconst (1), .goto (4)] := by unfold am_code; rw [kd_at_40]; rfl
theorem kc_40_301 : am_code 40 301 = [.iconst (0)] := by unfold am_code; rw [kd_at_40]; rfl
theorem kc_40_302 : am_code 40 302 = [.istore_n 1] := by unfold am_code; rw [kd_at_40]; rfl
theorem kc_40_303 : am_code 40 303 = [.iinc 7 (1), .goto (-108)] := by unfold am_code; rw [kd_at_40]; rfl
theorem kc_40_309 : am_code 40 309 = [.iinc 3 (1), .goto (-211)] := by unfold am_code; rw [kd_at_40]; rfl
theorem kc_40_315 : am_code 40 315 = [.iinc 2 (-1), .goto (-223)] := by unfold am_code; rw [kd_at_40]; rfl
theorem kc_40_321 : am_code 40 321 = [.goto (-237)] := by unfold am_code; rw [kd_at_40]; rfl
theorem kc_40_324 : am_code 40 324 = [.return_] := by unfold am_code; rw [kd_at_40]; rfl
theorem kd_at_41 : am_kd 41 = kd_41 := rfl
theorem kc_41_0 : am_code 41 0 = [.iconst (0), .istore_n 1] := by unfold am_code; rw [kd_at_41]; rfl
theorem kc_41_2 : am_code 41 2 = [.iload_n 1, .aload_n 0, .getfield 88, .if_icmp .gt (127)] := by unfold am_code; rw [kd_at_41]; rfl
theorem kc_41_10 : am_code 41 10 = [.aload_n 0, .aload_n 0, .iload_n 1, .invokevirtual 116, .invokevirtual 134, .lstore_n 2, .iconst (0), .istore 4] := by unfold am_code; rw [kd_at_41]; rfl
theorem kc_41_23 : am_code 41 23 = [.iload 4, .aload_n 0, .invokevirtual 127, .if_icmp .ge (99)] := by unfold am_code; rw [kd_at_41]; rfl
theorem kc_41_32 : am_code 41 32 = [.lload_n 2, .lconst 0, .lcmp, .ifCond .lt (93)] := by unfold am_code; rw [kd_at_41]; rfl
theorem kc_41_38 : am_code 41 38 = [.bipush (21), .iload_n 1, .imul, .iload 4, .iadd, .istore 5, .aload_n 0, .getfield 55, .iload 5, .baload, .ifCond .eq (68)] := by unfold am_code; rw [kd_at_41]; rfl
theorem kc_41_57 : am_code 41 57 = [.aload_n 0, .getfield 49, .iload 5, .iconst (1), .iadd, .laload, .lconst 0, .lcmp, .ifCond .lt (54)] := by unfold am_code; rw [kd_at_41]; rfl
theorem kc_41_71 : am_code 41 71 = [.aload_n 0, .getfield 49, .iload 5, .iconst (1), .iadd, .laload, .lload_n 2, .ladd, .aload_n 0, .getfield 49, .iload 5, .laload, .lcmp, .ifCond .ne (32)] := by unfold am_code; rw [kd_at_41]; rfl
theorem kc_41_93 : am_code 41 93 = [.aload_n 0, .getfield 52, .iload 5, .iconst (1), .iadd, .iaload, .aload_n 0, .getfield 52, .iload 5, .iaload, .if_icmp .ne (13)] := by unfold am_code; rw [kd_at_41]; rfl
theorem kc_41_112 : am_code 41 112 = [.aload_n 0, .getfield 55, .iload 5, .iconst (1), .iadd, .iconst (1), .bastore] := by unfold am_code; rw [kd_at_41]; rfl
theorem kc_41_122 : am_code 41 122 = [.iinc 4 (1), .goto (-102)] := by unfold am_code; rw [kd_at_41]; rfl
theorem kc_41_128 : am_code 41 128 = [.iinc 1 (1), .goto (-129)] := by unfold am_code; rw [kd_at_41]; rfl
theorem kc_41_134 : am_code 41 134 = [.return_] := by unfold am_code; rw [kd_at_41]; rfl
theorem kd_at_42 : am_kd 42 = kd_42 := rfl
theorem kc_42_0 : am_code 42 0 = [.iconst (0), .istore_n 2, .iconst (0), .istore_n 3] := by unfold am_code; rw [kd_at_42]; rfl
theorem kc_42_4 : am_code 42 4 = [.iload_n 3, .aload_n 0, .getfield 88, .if_icmp .gt (141)] := by unfold am_code; rw [kd_at_42]; rfl
theorem kc_42_12 : am_code 42 12 = [.aload_n 0, .iload_n 1, .invokevirtual 124, .istore 4] := by unfold am_code; rw [kd_at_42]; rfl
theorem kc_42_19 : am_code 42 19 = [.iload 4, .aload_n 0, .invokevirtual 127, .if_icmp .gt (119)] := by unfold am_code; rw [kd_at_42]; rfl
theorem kc_42_28 : am_code 42 28 = [.bipush (21), .iload_n 3, .imul, .iload 4, .iadd, .istore 5, .bipush (21), .iload_n 1, .imul, .iload 4, .iadd, .aload_n 0, .iload_n 1, .invokevirtual 124, .isub, .istore 6, .aload_n 0, .getfield 55, .iload 5, .baload, .ifCond .eq (79)] := by unfold am_code; rw [kd_at_42]; rfl
theorem kc_42_62 : am_code 42 62 = [.aload_n 0, .iload_n 3, .iload 4, .iload_n 1, .invokevirtual 141, .ifCond .eq (68)] := by unfold am_code; rw [kd_at_42]; rfl
theorem kc_42_73 : am_code 42 73 = [.aload_n 0, .getfield 49, .iload 6, .laload, .lconst 0, .lcmp, .ifCond .lt (56)] := by unfold am_code; rw [kd_at_42]; rfl
theorem kc_42_85 : am_code 42 85 = [.aload_n 0, .getfield 49, .iload 6, .laload, .aload_n 0, .iload_n 1, .invokevirtual 120, .ladd, .aload_n 0, .getfield 49, .iload 5, .laload, .lcmp, .ifCond .ne (32)] := by unfold am_code; rw [kd_at_42]; rfl
theorem kc_42_109 : am_code 42 109 = [.aload_n 0, .getfield 52, .iload 6, .iaload, .iconst (1), .iadd, .aload_n 0, .getfield 52, .iload 5, .iaload, .if_icmp .ne (13)] := by unfold am_code; rw [kd_at_42]; rfl
theorem kc_42_128 : am_code 42 128 = [.aload_n 0, .getfield 58, .iload 6, .iconst (1), .bastore, .iconst (1), .istore_n 2] := by unfold am_code; rw [kd_at_42]; rfl
theorem kc_42_138 : am_code 42 138 = [.iinc 4 (1), .goto (-122)] := by unfold am_code; rw [kd_at_42]; rfl
theorem kc_42_144 : am_code 42 144 = [.iinc 3 (1), .goto (-143)] := by unfold am_code; rw [kd_at_42]; rfl
theorem kc_42_150 : am_code 42 150 = [.iload_n 2, .ireturn] := by unfold am_code; rw [kd_at_42]; rfl
theorem kd_at_43 : am_kd 43 = kd_43 := rfl
theorem kc_43_0 : am_code 43 0 = [.aload_n 0, .dup, .getfield 110, .lconst 1, .ladd, .putfield 110, .aload_n 0, .getfield 45, .iconst (2), .if_icmp .ne (10)] := by unfold am_code; rw [kd_at_43]; rfl
theorem kc_43_18 : am_code 43 18 = [.aload_n 0, .getfield 145, .goto (4)] := by unfold am_code; rw [kd_at_43]; rfl
theorem kc_43_25 : am_code 43 25 = [.iconst (0)] := by unfold am_code; rw [kd_at_43]; rfl
theorem kc_43_26 : am_code 43 26 = [.istore_n 1, .aload_n 0, .invokevirtual 148, .aload_n 0, .iconst (0), .putfield 151, .aload_n 0, .iconst (0), .putfield 154, .aload_n 0, .getfield 49, .iload_n 1, .laload, .lconst 0, .lcmp, .ifCond .ge (18)] := by unfold am_code; rw [kd_at_43]; rfl
theorem kc_43_52 : am_code 43 52 = [.aload_n 0, .getfield 45, .iconst (2), .if_icmp .ne (8)] := by unfold am_code; rw [kd_at_43]; rfl
theorem kc_43_60 : am_code 43 60 = [.aload_n 0, .iload_n 1, .invokevirtual 157] := by unfold am_code; rw [kd_at_43]; rfl
theorem kc_43_65 : am_code 43 65 = [.iconst (0), .ireturn] := by unfold am_code; rw [kd_at_43]; rfl
theorem kc_43_67 : am_code 43 67 = [.aload_n 0, .aload_n 0, .getfield 49, .iload_n 1, .laload, .putfield 161, .iconst (0), .istore_n 2] := by unfold am_code; rw [kd_at_43]; rfl
theorem kc_43_79 : am_code 43 79 = [.iload_n 2, .sipush (2541), .if_icmp .ge (25)] := by unfold am_code; rw [kd_at_43]; rfl
theorem kc_43_86 : am_code 43 86 = [.aload_n 0, .getfield 55, .iload_n 2, .iload_n 2, .iload_n 1, .if_icmp .ne (7)] := by unfold am_code; rw [kd_at_43]; rfl
theorem kc_43_96 : am_code 43 96 = [.iconst (1), .goto (4)] := by unfold am_code; rw [kd_at_43]; rfl
theorem kc_43_100 : am_code 43 100 = [.iconst (0)] := by unfold am_code; rw [kd_at_43]; rfl
theorem kc_43_101 : am_code 43 101 = [.bastore, .iinc 2 (1), .goto (-26)] := by unfold am_code; rw [kd_at_43]; rfl
theorem kc_43_108 : am_code 43 108 = [.aload_n 0, .getfield 52, .iload_n 1, .iaload, .istore_n 2] := by unfold am_code; rw [kd_at_43]; rfl
theorem kc_43_115 : am_code 43 115 = [.aload_n 0, .getfield 151, .iload_n 2, .if_icmp .ge (99)] := by unfold am_code; rw [kd_at_43]; rfl
theorem kc_43_123 : am_code 43 123 = [.aload_n 0, .invokevirtual 164, .iconst (0), .istore_n 3] := by unfold am_code; rw [kd_at_43]; rfl
theorem kc_43_129 : am_code 43 129 = [.iload_n 3, .sipush (2541), .if_icmp .ge (16)] := by unfold am_code; rw [kd_at_43]; rfl
theorem kc_43_136 : am_code 43 136 = [.aload_n 0, .getfield 58, .iload_n 3, .iconst (0), .bastore, .iinc 3 (1), .goto (-17)] := by unfold am_code; rw [kd_at_43]; rfl
theorem kc_43_149 : am_code 43 149 = [.iconst (1), .istore_n 3] := by unfold am_code; rw [kd_at_43]; rfl
theorem kc_43_151 : am_code 43 151 = [.aload_n 0, .iload_n 3, .invokevirtual 167, .ifCond .ne (9)] := by unfold am_code; rw [kd_at_43]; rfl
theorem kc_43_159 : am_code 43 159 = [.iinc 3 (1), .goto (-11)] := by unfold am_code; rw [kd_at_43]; rfl
theorem kc_43_165 : am_code 43 165 = [.aload_n 0, .getfield 73, .aload_n 0, .getfield 151, .iload_n 3, .iastore, .aload_n 0, .dup, .getfield 151, .iconst (1), .iadd, .putfield 151, .iconst (0), .istore 4] := by unfold am_code; rw [kd_at_43]; rfl
theorem kc_43_188 : am_code 43 188 = [.iload 4, .sipush (2541), .if_icmp .ge (23)] := by unfold am_code; rw [kd_at_43]; rfl
theorem kc_43_196 : am_code 43 196 = [.aload_n 0, .getfield 55, .iload 4, .aload_n 0, .getfield 58, .iload 4, .baload, .bastore, .iinc 4 (1), .goto (-25)] := by unfold am_code; rw [kd_at_43]; rfl
theorem kc_43_216 : am_code 43 216 = [.goto (-101)] := by unfold am_code; rw [kd_at_43]; rfl
theorem kc_43_219 : am_code 43 219 = [.iconst (1), .ireturn] := by unfold am_code; rw [kd_at_43]; rfl
theorem kd_at_44 : am_kd 44 = kd_44 := rfl
theorem kc_44_0 : am_code 44 0 = [.aload_n 0, .getfield 7, .iload_n 1, .laload, .aload_n 0, .getfield 7, .aload_n 0, .getfield 131, .laload, .lsub, .aload_n 0, .getfield 7, .iload_n 1, .laload, .aload_n 0, .getfield 7, .aload_n 0, .getfield 131, .laload, .lsub, .lmul, .aload_n 0, .getfield 13, .iload_n 1, .laload, .aload_n 0, .getfield 13, .aload_n 0, .getfield 131, .laload, .lsub, .aload_n 0, .getfield 13, .iload_n 1, .laload, .aload_n 0, .getfield 13, .aload_n 0, .getfield 131, .laload, .lsub, .lmul, .ladd, .lreturn] := by unfold am_code; rw [kd_at_44]; rfl
theorem kd_at_45 : am_kd 45 = kd_45 := rfl
theorem kc_45_0 : am_code 45 0 = [.iconst (0), .istore_n 2] := by unfold am_code; rw [kd_at_45]; rfl
theorem kc_45_2 : am_code 45 2 = [.iload_n 2, .sipush (2541), .if_icmp .ge (25)] := by unfold am_code; rw [kd_at_45]; rfl
theorem kc_45_9 : am_code 45 9 = [.aload_n 0, .getfield 55, .iload_n 2, .iload_n 2, .iload_n 1, .if_icmp .ne (7)] := by unfold am_code; rw [kd_at_45]; rfl
theorem kc_45_19 : am_code 45 19 = [.iconst (1), .goto (4)] := by unfold am_code; rw [kd_at_45]; rfl
theorem kc_45_23 : am_code 45 23 = [.iconst (0)] := by unfold am_code; rw [kd_at_45]; rfl
theorem kc_45_24 : am_code 45 24 = [.bastore, .iinc 2 (1), .goto (-26)] := by unfold am_code; rw [kd_at_45]; rfl
theorem kc_45_31 : am_code 45 31 = [.iconst (1), .istore_n 2] := by unfold am_code; rw [kd_at_45]; rfl
theorem kc_45_33 : am_code 45 33 = [.iload_n 2, .ifCond .eq (174)] := by unfold am_code; rw [kd_at_45]; rfl
theorem kc_45_37 : am_code 45 37 = [.iconst (0), .istore_n 2, .iconst (0), .istore_n 3] := by unfold am_code; rw [kd_at_45]; rfl
theorem kc_45_41 : am_code 45 41 = [.iload_n 3, .aload_n 0, .getfield 88, .if_icmp .gt (159)] := by unfold am_code; rw [kd_at_45]; rfl
theorem kc_45_49 : am_code 45 49 = [.iconst (0), .istore 4] := by unfold am_code; rw [kd_at_45]; rfl
theorem kc_45_52 : am_code 45 52 = [.iload 4, .bipush (20), .if_icmp .gt (143)] := by unfold am_code; rw [kd_at_45]; rfl
theorem kc_45_59 : am_code 45 59 = [.bipush (21), .iload_n 3, .imul, .iload 4, .iadd, .istore 5, .aload_n 0, .getfield 55, .iload 5, .baload, .ifCond .ne (6)] := by unfold am_code; rw [kd_at_45]; rfl
theorem kc_45_78 : am_code 45 78 = [.goto (115)] := by unfold am_code; rw [kd_at_45]; rfl
theorem kc_45_81 : am_code 45 81 = [.aload_n 0, .aload_n 0, .iload_n 3, .invokevirtual 116, .invokevirtual 134, .lconst 0, .lcmp, .ifCond .lt (34)] := by unfold am_code; rw [kd_at_45]; rfl
theorem kc_45_95 : am_code 45 95 = [.iload 4, .bipush (20), .if_icmp .ge (27)] := by unfold am_code; rw [kd_at_45]; rfl
theorem kc_45_102 : am_code 45 102 = [.aload_n 0, .getfield 55, .iload 5, .iconst (1), .iadd, .baload, .ifCond .ne (15)] := by unfold am_code; rw [kd_at_45]; rfl
theorem kc_45_114 : am_code 45 114 = [.aload_n 0, .getfield 55, .iload 5, .iconst (1), .iadd, .iconst (1), .bastore, .iconst (1), .istore_n 2] := by unfold am_code; rw [kd_at_45]; rfl
theorem kc_45_126 : am_code 45 126 = [.iconst (1), .istore 6] := by unfold am_code; rw [kd_at_45]; rfl
theorem kc_45_129 : am_code 45 129 = [.iload 6, .aload_n 0, .getfield 88, .if_icmp .gt (58)] := by unfold am_code; rw [kd_at_45]; rfl
theorem kc_45_138 : am_code 45 138 = [.bipush (21), .iload 6, .imul, .iload 4, .iadd, .aload_n 0, .iload 6, .invokevirtual 124, .isub, .istore 7, .aload_n 0, .iload_n 3, .iload 4, .iload 6, .invokevirtual 141, .ifCond .eq (23)] := by unfold am_code; rw [kd_at_45]; rfl
theorem kc_45_167 : am_code 45 167 = [.aload_n 0, .getfield 55, .iload 7, .baload, .ifCond .ne (13)] := by unfold am_code; rw [kd_at_45]; rfl
theorem kc_45_177 : am_code 45 177 = [.aload_n 0, .getfield 55, .iload 7, .iconst (1), .bastore, .iconst (1), .istore_n 2] := by unfold am_code; rw [kd_at_45]; rfl
theorem kc_45_187 : am_code 45 187 = [.iinc 6 (1), .goto (-61)] := by unfold am_code; rw [kd_at_45]; rfl
theorem kc_45_193 : am_code 45 193 = [.iinc 4 (1), .goto (-144)] := by unfold am_code; rw [kd_at_45]; rfl
theorem kc_45_199 : am_code 45 199 = [.iinc 3 (1), .goto (-161)] := by unfold am_code; rw [kd_at_45]; rfl
theorem kc_45_205 : am_code 45 205 = [.goto (-172)] := by unfold am_code; rw [kd_at_45]; rfl
theorem kc_45_208 : am_code 45 208 = [.iconst (1), .istore_n 3] := by unfold am_code; rw [kd_at_45]; rfl
theorem kc_45_210 : am_code 45 210 = [.iload_n 3, .aload_n 0, .getfield 85, .if_icmp .gt (116)] := by unfold am_code; rw [kd_at_45]; rfl
theorem kc_45_218 : am_code 45 218 = [.iconst (0), .istore 4, .iconst (0), .istore 5] := by unfold am_code; rw [kd_at_45]; rfl
theorem kc_45_224 : am_code 45 224 = [.iload 5, .bipush (21), .aload_n 0, .getfield 88, .imul, .bipush (21), .iadd, .if_icmp .ge (44)] := by unfold am_code; rw [kd_at_45]; rfl
theorem kc_45_239 : am_code 45 239 = [.iload 4, .ifCond .ne (26)] := by unfold am_code; rw [kd_at_45]; rfl
theorem kc_45_244 : am_code 45 244 = [.aload_n 0, .getfield 55, .iload 5, .baload, .ifCond .eq (20)] := by unfold am_code; rw [kd_at_45]; rfl
theorem kc_45_254 : am_code 45 254 = [.aload_n 0, .iload 5, .bipush (21), .idiv, .invokevirtual 116, .iload_n 3, .if_icmp .ne (7)] := by unfold am_code; rw [kd_at_45]; rfl
theorem kc_45_267 : am_code 45 267 = [.iconst (1), .goto (4)] := by unfold am_code; rw [kd_at_45]; rfl
theorem kc_45_271 : am_code 45 271 = [.iconst (0)] := by unfold am_code; rw [kd_at_45]; rfl
theorem kc_45_272 : am_code 45 272 = [.istore 4, .iinc 5 (1), .goto (-53)] := by unfold am_code; rw [kd_at_45]; rfl
theorem kc_45_280 : am_code 45 280 = [.iload 4, .ifCond .eq (43)] := by unfold am_code; rw [kd_at_45]; rfl
theorem kc_45_285 : am_code 45 285 = [.aload_n 0, .getfield 16, .iload_n 3, .laload, .lconst 0, .lcmp, .ifCond .le (32)] := by unfold am_code; rw [kd_at_45]; rfl
theorem kc_45_296 : am_code 45 296 = [.aload_n 0, .getfield 154, .ifCond .eq (20)] := by unfold am_code; rw [kd_at_45]; rfl
theorem kc_45_303 : am_code 45 303 = [.aload_n 0, .iload_n 3, .invokevirtual 170, .aload_n 0, .aload_n 0, .getfield 154, .invokevirtual 170, .lcmp, .ifCond .ge (8)] := by unfold am_code; rw [kd_at_45]; rfl
theorem kc_45_320 : am_code 45 320 = [.aload_n 0, .iload_n 3, .putfield 154] := by unfold am_code; rw [kd_at_45]; rfl
theorem kc_45_325 : am_code 45 325 = [.iinc 3 (1), .goto (-118)] := by unfold am_code; rw [kd_at_45]; rfl
theorem kc_45_331 : am_code 45 331 = [.return_] := by unfold am_code; rw [kd_at_45]; rfl
theorem kd_at_46 : am_kd 46 = kd_46 := rfl
theorem kc_46_0 : am_code 46 0 = [.aload_n 0, .aload_n 0, .getfield 151, .putfield 173, .iconst (0), .istore_n 1] := by unfold am_code; rw [kd_at_46]; rfl
theorem kc_46_10 : am_code 46 10 = [.iload_n 1, .aload_n 0, .getfield 151, .if_icmp .ge (21)] := by unfold am_code; rw [kd_at_46]; rfl
theorem kc_46_18 : am_code 46 18 = [.aload_n 0, .getfield 61, .iload_n 1, .aload_n 0, .getfield 73, .iload_n 1, .iaload, .iastore, .iinc 1 (1), .goto (-23)] := by unfold am_code; rw [kd_at_46]; rfl
theorem kc_46_36 : am_code 46 36 = [.iconst (0), .istore_n 1] := by unfold am_code; rw [kd_at_46]; rfl
theorem kc_46_38 : am_code 46 38 = [.iload_n 1, .sipush (2600), .if_icmp .ge (16)] := by unfold am_code; rw [kd_at_46]; rfl
theorem kc_46_45 : am_code 46 45 = [.aload_n 0, .getfield 70, .iload_n 1, .iconst (0), .bastore, .iinc 1 (1), .goto (-17)] := by unfold am_code; rw [kd_at_46]; rfl
theorem kc_46_58 : am_code 46 58 = [.aload_n 0, .aload_n 0, .getfield 161, .putfield 66, .return_] := by unfold am_code; rw [kd_at_46]; rfl
theorem kd_at_47 : am_kd 47 = kd_47 := rfl
theorem kc_47_0 : am_code 47 0 = [.aload_n 0, .iconst (0), .putfield 82, .aload_n 0, .iload_n 1, .invokevirtual 95, .ifCond .ne (41)] := by unfold am_code; rw [kd_at_47]; rfl
theorem kc_47_13 : am_code 47 13 = [.aload_n 0, .iload_n 2, .invokevirtual 95, .ifCond .ne (33)] := by unfold am_code; rw [kd_at_47]; rfl
theorem kc_47_21 : am_code 47 21 = [.iload_n 3, .ifCond .lt (29)] := by unfold am_code; rw [kd_at_47]; rfl
theorem kc_47_25 : am_code 47 25 = [.iload_n 3, .iconst (2), .if_icmp .gt (24)] := by unfold am_code; rw [kd_at_47]; rfl
theorem kc_47_30 : am_code 47 30 = [.iload_n 3, .iconst (2), .if_icmp .ne (22)] := by unfold am_code; rw [kd_at_47]; rfl
theorem kc_47_35 : am_code 47 35 = [.lload 4, .lconst 0, .lcmp, .ifCond .lt (12)] := by unfold am_code; rw [kd_at_47]; rfl
theorem kc_47_42 : am_code 47 42 = [.lload 4, .ldc2_w 176, .lcmp, .ifCond .le (6)] := by unfold am_code; rw [kd_at_47]; rfl
theorem kc_47_51 : am_code 47 51 = [.bipush (-2), .ireturn] := by unfold am_code; rw [kd_at_47]; rfl
theorem kc_47_54 : am_code 47 54 = [.aload_n 0, .iload_n 1, .putfield 113, .aload_n 0, .iload_n 2, .putfield 131, .aload_n 0, .iload_n 3, .putfield 45, .aload_n 0, .iload_n 3, .iconst (2), .if_icmp .ne (9)] := by unfold am_code; rw [kd_at_47]; rfl
theorem kc_47_75 : am_code 47 75 = [.lload 4, .l2i, .goto (4)] := by unfold am_code; rw [kd_at_47]; rfl
theorem kc_47_81 : am_code 47 81 = [.iconst (0)] := by unfold am_code; rw [kd_at_47]; rfl
theorem kc_47_82 : am_code 47 82 = [.putfield 145, .aload_n 0, .invokevirtual 178, .istore 6, .aload_n 0, .iload 6, .ifCond .eq (10)] := by unfold am_code; rw [kd_at_47]; rfl
theorem kc_47_97 : am_code 47 97 = [.aload_n 0, .getfield 151, .goto (4)] := by unfold am_code; rw [kd_at_47]; rfl
theorem kc_47_104 : am_code 47 104 = [.iconst (0)] := by unfold am_code; rw [kd_at_47]; rfl
theorem kc_47_105 : am_code 47 105 = [.putfield 151, .aload_n 0, .iload 6, .ifCond .eq (10)] := by unfold am_code; rw [kd_at_47]; rfl
theorem kc_47_114 : am_code 47 114 = [.aload_n 0, .getfield 161, .goto (6)] := by unfold am_code; rw [kd_at_47]; rfl
theorem kc_47_121 : am_code 47 121 = [.ldc2_w 64] := by unfold am_code; rw [kd_at_47]; rfl
theorem kc_47_124 : am_code 47 124 = [.putfield 161, .aload_n 0, .invokevirtual 182, .iload 6, .ifCond .eq (10)] := by unfold am_code; rw [kd_at_47]; rfl
theorem kc_47_136 : am_code 47 136 = [.aload_n 0, .getfield 173, .goto (4)] := by unfold am_code; rw [kd_at_47]; rfl
theorem kc_47_143 : am_code 47 143 = [.iconst (-1)] := by unfold am_code; rw [kd_at_47]; rfl
theorem kc_47_144 : am_code 47 144 = [.ireturn] := by unfold am_code; rw [kd_at_47]; rfl
theorem kd_at_48 : am_kd 48 = kd_48 := rfl
theorem kc_48_0 : am_code 48 0 = [.iconst (0), .istore_n 1] := by unfold am_code; rw [kd_at_48]; rfl
theorem kc_48_2 : am_code 48 2 = [.iload_n 1, .bipush (21), .if_icmp .ge (30)] := by unfold am_code; rw [kd_at_48]; rfl
theorem kc_48_8 : am_code 48 8 = [.aload_n 0, .getfield 76, .iload_n 1, .iload_n 1, .aload_n 0, .getfield 145, .if_icmp .ne (7)] := by unfold am_code; rw [kd_at_48]; rfl
theorem kc_48_21 : am_code 48 21 = [.lconst 0, .goto (6)] := by unfold am_code; rw [kd_at_48]; rfl
theorem kc_48_25 : am_code 48 25 = [.ldc2_w 64] := by unfold am_code; rw [kd_at_48]; rfl
theorem kc_48_28 : am_code 48 28 = [.lastore, .iinc 1 (1), .goto (-30)] := by unfold am_code; rw [kd_at_48]; rfl
theorem kc_48_35 : am_code 48 35 = [.iconst (0), .istore_n 1] := by unfold am_code; rw [kd_at_48]; rfl
theorem kc_48_37 : am_code 48 37 = [.iload_n 1, .aload_n 0, .getfield 173, .if_icmp .ge (245)] := by unfold am_code; rw [kd_at_48]; rfl
theorem kc_48_45 : am_code 48 45 = [.aload_n 0, .getfield 61, .iload_n 1, .iaload, .istore_n 2, .iload_n 1, .ifCond .ne (7)] := by unfold am_code; rw [kd_at_48]; rfl
theorem kc_48_56 : am_code 48 56 = [.iconst (0), .goto (11)] := by unfold am_code; rw [kd_at_48]; rfl
theorem kc_48_60 : am_code 48 60 = [.aload_n 0, .getfield 61, .iload_n 1, .iconst (1), .isub, .iaload] := by unfold am_code; rw [kd_at_48]; rfl
theorem kc_48_68 : am_code 48 68 = [.istore_n 3, .aload_n 0, .iload_n 2, .invokevirtual 120, .lconst 0, .lcmp, .ifCond .lt (21)] := by unfold am_code; rw [kd_at_48]; rfl
theorem kc_48_79 : am_code 48 79 = [.iload_n 3, .ifCond .le (21)] := by unfold am_code; rw [kd_at_48]; rfl
theorem kc_48_83 : am_code 48 83 = [.aload_n 0, .getfield 41, .bipush (121), .iload_n 3, .imul, .iload_n 2, .iadd, .baload, .ifCond .eq (7)] := by unfold am_code; rw [kd_at_48]; rfl
theorem kc_48_97 : am_code 48 97 = [.ldc2_w 64, .lreturn] := by unfold am_code; rw [kd_at_48]; rfl
theorem kc_48_101 : am_code 48 101 = [.aload_n 0, .aload_n 0, .getfield 19, .iload_n 2, .iaload, .invokevirtual 134, .lstore 4, .iconst (1), .istore 6] := by unfold am_code; rw [kd_at_48]; rfl
theorem kc_48_116 : am_code 48 116 = [.iload 6, .aload_n 0, .invokevirtual 127, .if_icmp .gt (84)] := by unfold am_code; rw [kd_at_48]; rfl
theorem kc_48_125 : am_code 48 125 = [.lload 4, .lconst 0, .lcmp, .ifCond .lt (77)] := by unfold am_code; rw [kd_at_48]; rfl
theorem kc_48_132 : am_code 48 132 = [.aload_n 0, .getfield 76, .iload 6, .iconst (1), .isub, .laload, .lconst 0, .lcmp, .ifCond .lt (57)] := by unfold am_code; rw [kd_at_48]; rfl
theorem kc_48_146 : am_code 48 146 = [.aload_n 0, .getfield 76, .iload 6, .laload, .lconst 0, .lcmp, .ifCond .lt (26)] := by unfold am_code; rw [kd_at_48]; rfl
theorem kc_48_158 : am_code 48 158 = [.aload_n 0, .getfield 76, .iload 6, .laload, .aload_n 0, .getfield 76, .iload 6, .iconst (1), .isub, .laload, .lload 4, .ladd, .lcmp, .ifCond .le (22)] := by unfold am_code; rw [kd_at_48]; rfl
theorem kc_48_181 : am_code 48 181 = [.aload_n 0, .getfield 76, .iload 6, .aload_n 0, .getfield 76, .iload 6, .iconst (1), .isub, .laload, .lload 4, .ladd, .lastore] := by unfold am_code; rw [kd_at_48]; rfl
theorem kc_48_200 : am_code 48 200 = [.iinc 6 (1), .goto (-87)] := by unfold am_code; rw [kd_at_48]; rfl
theorem kc_48_206 : am_code 48 206 = [.iconst (0), .istore 6] := by unfold am_code; rw [kd_at_48]; rfl
theorem kc_48_209 : am_code 48 209 = [.iload 6, .aload_n 0, .invokevirtual 127, .if_icmp .gt (66)] := by unfold am_code; rw [kd_at_48]; rfl
theorem kc_48_218 : am_code 48 218 = [.iload 6, .aload_n 0, .iload_n 2, .invokevirtual 124, .iadd, .istore 7, .aload_n 0, .getfield 76, .iload 6, .iload 7, .aload_n 0, .invokevirtual 127, .if_icmp .gt (31)] := by unfold am_code; rw [kd_at_48]; rfl
theorem kc_48_243 : am_code 48 243 = [.aload_n 0, .getfield 76, .iload 7, .laload, .lconst 0, .lcmp, .ifCond .lt (19)] := by unfold am_code; rw [kd_at_48]; rfl
theorem kc_48_255 : am_code 48 255 = [.aload_n 0, .getfield 76, .iload 7, .laload, .aload_n 0, .iload_n 2, .invokevirtual 120, .ladd, .goto (6)] := by unfold am_code; rw [kd_at_48]; rfl
theorem kc_48_271 : am_code 48 271 = [.ldc2_w 64] := by unfold am_code; rw [kd_at_48]; rfl
theorem kc_48_274 : am_code 48 274 = [.lastore, .iinc 6 (1), .goto (-69)] := by unfold am_code; rw [kd_at_48]; rfl
theorem kc_48_281 : am_code 48 281 = [.iinc 1 (1), .goto (-247)] := by unfold am_code; rw [kd_at_48]; rfl
theorem kc_48_287 : am_code 48 287 = [.ldc2_w 64, .lstore_n 1, .iconst (0), .istore_n 3] := by unfold am_code; rw [kd_at_48]; rfl
theorem kc_48_293 : am_code 48 293 = [.iload_n 3, .aload_n 0, .invokevirtual 127, .if_icmp .gt (48)] := by unfold am_code; rw [kd_at_48]; rfl
theorem kc_48_301 : am_code 48 301 = [.aload_n 0, .getfield 76, .iload_n 3, .laload, .lconst 0, .lcmp, .ifCond .lt (29)] := by unfold am_code; rw [kd_at_48]; rfl
theorem kc_48_312 : am_code 48 312 = [.lload_n 1, .lconst 0, .lcmp, .ifCond .lt (14)] := by unfold am_code; rw [kd_at_48]; rfl
theorem kc_48_318 : am_code 48 318 = [.aload_n 0, .getfield 76, .iload_n 3, .laload, .lload_n 1, .lcmp, .ifCond .ge (12)] := by unfold am_code; rw [kd_at_48]; rfl
theorem kc_48_329 : am_code 48 329 = [.aload_n 0, .getfield 76, .iload_n 3, .laload, .goto (4)] := by unfold am_code; rw [kd_at_48]; rfl
theorem kc_48_338 : am_code 48 338 = [.lload_n 1] := by unfold am_code; rw [kd_at_48]; rfl
theorem kc_48_339 : am_code 48 339 = [.lstore_n 1, .iinc 3 (1), .goto (-50)] := by unfold am_code; rw [kd_at_48]; rfl
theorem kc_48_346 : am_code 48 346 = [.lload_n 1, .lreturn] := by unfold am_code; rw [kd_at_48]; rfl
theorem kd_at_49 : am_kd 49 = kd_49 := rfl
theorem kc_49_0 : am_code 49 0 = [.aload_n 0, .iconst (0), .putfield 82, .lload_n 1, .lconst 0, .lcmp, .ifCond .ge (6)] := by unfold am_code; rw [kd_at_49]; rfl
theorem kc_49_11 : am_code 49 11 = [.bipush (-2), .ireturn] := by unfold am_code; rw [kd_at_49]; rfl
theorem kc_49_14 : am_code 49 14 = [.aload_n 0, .getfield 45, .ifCond .ge (6)] := by unfold am_code; rw [kd_at_49]; rfl
theorem kc_49_21 : am_code 49 21 = [.bipush (-3), .ireturn] := by unfold am_code; rw [kd_at_49]; rfl
theorem kc_49_24 : am_code 49 24 = [.aload_n 0, .invokevirtual 178, .ifCond .ne (5)] := by unfold am_code; rw [kd_at_49]; rfl
theorem kc_49_31 : am_code 49 31 = [.iconst (0), .ireturn] := by unfold am_code; rw [kd_at_49]; rfl
theorem kc_49_33 : am_code 49 33 = [.aload_n 0, .getfield 66, .lconst 0, .lcmp, .ifCond .ge (9)] := by unfold am_code; rw [kd_at_49]; rfl
theorem kc_49_42 : am_code 49 42 = [.ldc2_w 64, .goto (7)] := by unfold am_code; rw [kd_at_49]; rfl
theorem kc_49_48 : am_code 49 48 = [.aload_n 0, .invokevirtual 185] := by unfold am_code; rw [kd_at_49]; rfl
theorem kc_49_52 : am_code 49 52 = [.lstore_n 3, .aload_n 0, .getfield 173, .aload_n 0, .getfield 151, .if_icmp .ne (7)] := by unfold am_code; rw [kd_at_49]; rfl
theorem kc_49_64 : am_code 49 64 = [.iconst (1), .goto (4)] := by unfold am_code; rw [kd_at_49]; rfl
theorem kc_49_68 : am_code 49 68 = [.iconst (0)] := by unfold am_code; rw [kd_at_49]; rfl
theorem kc_49_69 : am_code 49 69 = [.istore 5, .iconst (0), .istore 6] := by unfold am_code; rw [kd_at_49]; rfl
theorem kc_49_74 : am_code 49 74 = [.iload 6, .aload_n 0, .getfield 173, .if_icmp .ge (38)] := by unfold am_code; rw [kd_at_49]; rfl
theorem kc_49_83 : am_code 49 83 = [.iload 5, .ifCond .eq (33)] := by unfold am_code; rw [kd_at_49]; rfl
theorem kc_49_88 : am_code 49 88 = [.aload_n 0, .getfield 61, .iload 6, .iaload, .aload_n 0, .getfield 73, .iload 6, .iaload, .if_icmp .ne (7)] := by unfold am_code; rw [kd_at_49]; rfl
theorem kc_49_105 : am_code 49 105 = [.iconst (1), .goto (4)] := by unfold am_code; rw [kd_at_49]; rfl
theorem kc_49_109 : am_code 49 109 = [.iconst (0)] := by unfold am_code; rw [kd_at_49]; rfl
theorem kc_49_110 : am_code 49 110 = [.istore 5, .iinc 6 (1), .goto (-41)] := by unfold am_code; rw [kd_at_49]; rfl
theorem kc_49_118 : am_code 49 118 = [.lload_n 3, .lconst 0, .lcmp, .ifCond .lt (21)] := by unfold am_code; rw [kd_at_49]; rfl
theorem kc_49_124 : am_code 49 124 = [.iload 5, .ifCond .ne (14)] := by unfold am_code; rw [kd_at_49]; rfl
theorem kc_49_129 : am_code 49 129 = [.lload_n 3, .aload_n 0, .getfield 161, .lsub, .lload_n 1, .lcmp, .ifCond .ge (5)] := by unfold am_code; rw [kd_at_49]; rfl
theorem kc_49_140 : am_code 49 140 = [.iconst (0), .ireturn] := by unfold am_code; rw [kd_at_49]; rfl
theorem kc_49_142 : am_code 49 142 = [.aload_n 0, .invokevirtual 182, .iconst (1), .ireturn] := by unfold am_code; rw [kd_at_49]; rfl
theorem kd_at_50 : am_kd 50 = kd_50 := rfl
theorem kc_50_0 : am_code 50 0 = [.aload_n 0, .iconst (0), .putfield 82, .iload_n 1, .ifCond .lt (11)] := by unfold am_code; rw [kd_at_50]; rfl
theorem kc_50_9 : am_code 50 9 = [.iload_n 1, .aload_n 0, .getfield 173, .if_icmp .lt (7)] := by unfold am_code; rw [kd_at_50]; rfl
theorem kc_50_17 : am_code 50 17 = [.iconst (0), .goto (9)] := by unfold am_code; rw [kd_at_50]; rfl
theorem kc_50_21 : am_code 50 21 = [.aload_n 0, .getfield 61, .iload_n 1, .iaload] := by unfold am_code; rw [kd_at_50]; rfl
theorem kc_50_27 : am_code 50 27 = [.ireturn] := by unfold am_code; rw [kd_at_50]; rfl
theorem kd_at_51 : am_kd 51 = kd_51 := rfl
theorem kc_51_0 : am_code 51 0 = [.aload_n 0, .iconst (0), .putfield 82, .aload_n 0, .getfield 66, .lreturn] := by unfold am_code; rw [kd_at_51]; rfl
theorem kd_at_52 : am_kd 52 = kd_52 := rfl
theorem kc_52_0 : am_code 52 0 = [.aload_n 0, .iconst (0), .putfield 82, .aload_n 0, .getfield 154, .ireturn] := by unfold am_code; rw [kd_at_52]; rfl
theorem kd_at_53 : am_kd 53 = kd_53 := rfl
theorem kc_53_0 : am_code 53 0 = [.aload_n 0, .iconst (0), .putfield 82, .iload_n 1, .ifCond .lt (13)] := by unfold am_code; rw [kd_at_53]; rfl
theorem kc_53_9 : am_code 53 9 = [.iload_n 1, .aload_n 0, .getfield 173, .iconst (2), .isub, .if_icmp .le (5)] := by unfold am_code; rw [kd_at_53]; rfl
theorem kc_53_19 : am_code 53 19 = [.iconst (-1), .ireturn] := by unfold am_code; rw [kd_at_53]; rfl
theorem kc_53_21 : am_code 53 21 = [.iload_n 2, .ifCond .lt (8)] := by unfold am_code; rw [kd_at_53]; rfl
theorem kc_53_25 : am_code 53 25 = [.iload_n 2, .iconst (2), .if_icmp .le (6)] := by unfold am_code; rw [kd_at_53]; rfl
theorem kc_53_30 : am_code 53 30 = [.bipush (-2), .ireturn] := by unfold am_code; rw [kd_at_53]; rfl
theorem kc_53_33 : am_code 53 33 = [.aload_n 0, .getfield 61, .iload_n 1, .iaload, .istore_n 3, .aload_n 0, .getfield 61, .iload_n 1, .iconst (1), .iadd, .iaload, .istore 4, .iload_n 2, .iconst (1), .if_icmp .ne (6)] := by unfold am_code; rw [kd_at_53]; rfl
theorem kc_53_55 : am_code 53 55 = [.iload 4, .ireturn] := by unfold am_code; rw [kd_at_53]; rfl
theorem kc_53_58 : am_code 53 58 = [.iload_n 2, .iconst (2), .if_icmp .ne (29)] := by unfold am_code; rw [kd_at_53]; rfl
theorem kc_53_63 : am_code 53 63 = [.aload_n 0, .getfield 70, .iload_n 1, .baload, .ifCond .eq (7)] := by unfold am_code; rw [kd_at_53]; rfl
theorem kc_53_72 : am_code 53 72 = [.iconst (0), .goto (4)] := by unfold am_code; rw [kd_at_53]; rfl
theorem kc_53_76 : am_code 53 76 = [.iconst (1)] := by unfold am_code; rw [kd_at_53]; rfl
theorem kc_53_77 : am_code 53 77 = [.istore 5, .aload_n 0, .getfield 70, .iload_n 1, .iconst (1), .bastore, .iload 5, .ireturn] := by unfold am_code; rw [kd_at_53]; rfl
theorem kc_53_89 : am_code 53 89 = [.aload_n 0, .getfield 7, .aload_n 0, .getfield 23, .iload_n 3, .iaload, .laload, .aload_n 0, .getfield 7, .aload_n 0, .getfield 19, .iload_n 3, .iaload, .laload, .lsub, .lstore 5, .aload_n 0, .getfield 13, .aload_n 0, .getfield 23, .iload_n 3, .iaload, .laload, .aload_n 0, .getfield 13, .aload_n 0, .getfield 19, .iload_n 3, .iaload, .laload, .lsub, .lstore 7, .aload_n 0, .getfield 7, .aload_n 0, .getfield 23, .iload 4, .iaload, .laload, .aload_n 0, .getfield 7, .aload_n 0, .getfield 19, .iload 4, .iaload, .laload, .lsub, .lstore 9, .aload_n 0, .getfield 13, .aload_n 0, .getfield 23, .iload 4, .iaload, .laload, .aload_n 0, .getfield 13, .aload_n 0, .getfield 19, .iload 4, .iaload, .laload, .lsub, .lstore 11, .lload 5, .lload 11, .lmul, .lload 7, .lload 9, .lmul, .lsub, .lstore 13, .lload 5, .lload 9, .lmul, .lload 7, .lload 11, .lmul, .ladd, .lstore 15, .lload 13, .lconst 0, .lcmp, .ifCond .ge (12)] := by unfold am_code; rw [kd_at_53]; rfl
theorem kc_53_226 : am_code 53 226 = [.ldc2_w 189, .lload 13, .lmul, .goto (9)] := by unfold am_code; rw [kd_at_53]; rfl
theorem kc_53_235 : am_code 53 235 = [.ldc2_w 191, .lload 13, .lmul] := by unfold am_code; rw [kd_at_53]; rfl
theorem kc_53_241 : am_code 53 241 = [.lstore 17, .lload 17, .lload 15, .lcmp, .ifCond .gt (5)] := by unfold am_code; rw [kd_at_53]; rfl
theorem kc_53_251 : am_code 53 251 = [.iconst (0), .ireturn] := by unfold am_code; rw [kd_at_53]; rfl
theorem kc_53_253 : am_code 53 253 = [.lload 17, .lload 15, .ladd, .lconst 0, .lcmp, .ifCond .gt (5)] := by unfold am_code; rw [kd_at_53]; rfl
theorem kc_53_263 : am_code 53 263 = [.iconst (3), .ireturn] := by unfold am_code; rw [kd_at_53]; rfl
theorem kc_53_265 : am_code 53 265 = [.lload 13, .lconst 0, .lcmp, .ifCond .le (7)] := by unfold am_code; rw [kd_at_53]; rfl
theorem kc_53_272 : am_code 53 272 = [.iconst (2), .goto (4)] := by unfold am_code; rw [kd_at_53]; rfl
theorem kc_53_276 : am_code 53 276 = [.iconst (1)] := by unfold am_code; rw [kd_at_53]; rfl
theorem kc_53_277 : am_code 53 277 = [.ireturn] := by unfold am_code; rw [kd_at_53]; rfl
theorem kd_at_54 : am_kd 54 = kd_54 := rfl
theorem kc_54_0 : am_code 54 0 = [.lload_n 0, .lconst 0, .lcmp, .ifCond .ne (11)] := by unfold am_code; rw [kd_at_54]; rfl
theorem kc_54_6 : am_code 54 6 = [.lload_n 2, .lconst 0, .lcmp, .ifCond .ne (5)] := by unfold am_code; rw [kd_at_54]; rfl
theorem kc_54_12 : am_code 54 12 = [.iconst (-1), .ireturn] := by unfold am_code; rw [kd_at_54]; rfl
theorem kc_54_14 : am_code 54 14 = [.lload_n 0, .lconst 0, .lcmp, .ifCond .le (21)] := by unfold am_code; rw [kd_at_54]; rfl
theorem kc_54_20 : am_code 54 20 = [.lload_n 2, .lconst 0, .lcmp, .ifCond .lt (15)] := by unfold am_code; rw [kd_at_54]; rfl
theorem kc_54_26 : am_code 54 26 = [.lload_n 2, .lload_n 0, .lcmp, .ifCond .ge (7)] := by unfold am_code; rw [kd_at_54]; rfl
theorem kc_54_32 : am_code 54 32 = [.iconst (0), .goto (4)] := by unfold am_code; rw [kd_at_54]; rfl
theorem kc_54_36 : am_code 54 36 = [.iconst (1)] := by unfold am_code; rw [kd_at_54]; rfl
theorem kc_54_37 : am_code 54 37 = [.ireturn] := by unfold am_code; rw [kd_at_54]; rfl
theorem kc_54_38 : am_code 54 38 = [.lload_n 0, .lconst 0, .lcmp, .ifCond .gt (22)] := by unfold am_code; rw [kd_at_54]; rfl
theorem kc_54_44 : am_code 54 44 = [.lload_n 2, .lconst 0, .lcmp, .ifCond .le (16)] := by unfold am_code; rw [kd_at_54]; rfl
theorem kc_54_50 : am_code 54 50 = [.lload_n 0, .lneg, .lload_n 2, .lcmp, .ifCond .ge (7)] := by unfold am_code; rw [kd_at_54]; rfl
theorem kc_54_57 : am_code 54 57 = [.iconst (2), .goto (4)] := by unfold am_code; rw [kd_at_54]; rfl
theorem kc_54_61 : am_code 54 61 = [.iconst (3)] := by unfold am_code; rw [kd_at_54]; rfl
theorem kc_54_62 : am_code 54 62 = [.ireturn] := by unfold am_code; rw [kd_at_54]; rfl
theorem kc_54_63 : am_code 54 63 = [.lload_n 0, .lconst 0, .lcmp, .ifCond .ge (17)] := by unfold am_code; rw [kd_at_54]; rfl
theorem kc_54_69 : am_code 54 69 = [.lload_n 2, .lneg, .lload_n 0, .lneg, .lcmp, .ifCond .ge (7)] := by unfold am_code; rw [kd_at_54]; rfl
theorem kc_54_77 : am_code 54 77 = [.iconst (4), .goto (4)] := by unfold am_code; rw [kd_at_54]; rfl
theorem kc_54_81 : am_code 54 81 = [.iconst (5)] := by unfold am_code; rw [kd_at_54]; rfl
theorem kc_54_82 : am_code 54 82 = [.ireturn] := by unfold am_code; rw [kd_at_54]; rfl
theorem kc_54_83 : am_code 54 83 = [.lload_n 0, .lload_n 2, .lneg, .lcmp, .ifCond .ge (8)] := by unfold am_code; rw [kd_at_54]; rfl
theorem kc_54_90 : am_code 54 90 = [.bipush (6), .goto (5)] := by unfold am_code; rw [kd_at_54]; rfl
theorem kc_54_95 : am_code 54 95 = [.bipush (7)] := by unfold am_code; rw [kd_at_54]; rfl
theorem kc_54_97 : am_code 54 97 = [.ireturn] := by unfold am_code; rw [kd_at_54]; rfl
theorem kd_at_55 : am_kd 55 = kd_55 := rfl
theorem kc_55_0 : am_code 55 0 = [.aload_n 0, .getfield 7, .aload_n 0, .getfield 23, .iload_n 1, .iaload, .laload, .aload_n 0, .getfield 7, .aload_n 0, .getfield 19, .iload_n 1, .iaload, .laload, .lsub, .lstore 6, .aload_n 0, .getfield 13, .aload_n 0, .getfield 23, .iload_n 1, .iaload, .laload, .aload_n 0, .getfield 13, .aload_n 0, .getfield 19, .iload_n 1, .iaload, .laload, .lsub, .lstore 8, .lload_n 2, .aload_n 0, .getfield 7, .aload_n 0, .getfield 19, .iload_n 1, .iaload, .laload, .lsub, .lstore 10, .lload 4, .aload_n 0, .getfield 13, .aload_n 0, .getfield 19, .iload_n 1, .iaload, .laload, .lsub, .lstore 12, .lload_n 2, .aload_n 0, .getfield 7, .aload_n 0, .getfield 23, .iload_n 1, .iaload, .laload, .lsub, .lstore 14, .lload 4, .aload_n 0, .getfield 13, .aload_n 0, .getfield 23, .iload_n 1, .iaload, .laload, .lsub, .lstore 16, .lload 10, .lload 6, .lmul, .lload 12, .lload 8, .lmul, .ladd, .lconst 0, .lcmp, .ifCond .gt (15)] := by unfold am_code; rw [kd_at_55]; rfl
theorem kc_55_128 : am_code 55 128 = [.lload 10, .lload 10, .lmul, .lload 12, .lload 12, .lmul, .ladd, .lreturn] := by unfold am_code; rw [kd_at_55]; rfl
theorem kc_55_140 : am_code 55 140 = [.lload 14, .lload 6, .lmul, .lload 16, .lload 8, .lmul, .ladd, .lconst 0, .lcmp, .ifCond .lt (15)] := by unfold am_code; rw [kd_at_55]; rfl
theorem kc_55_156 : am_code 55 156 = [.lload 14, .lload 14, .lmul, .lload 16, .lload 16, .lmul, .ladd, .lreturn] := by unfold am_code; rw [kd_at_55]; rfl
theorem kc_55_168 : am_code 55 168 = [.lload 10, .lload 8, .lmul, .lload 12, .lload 6, .lmul, .lsub, .lstore 18, .lload 18, .lload 18, .lmul, .lload 6, .lload 6, .lmul, .lload 8, .lload 8, .lmul, .ladd, .ldiv, .lreturn] := by unfold am_code; rw [kd_at_55]; rfl
theorem kd_at_56 : am_kd 56 = kd_56 := rfl
theorem kc_56_0 : am_code 56 0 = [.aload_n 0, .iconst (0), .putfield 82, .lload_n 1, .ldc2_w 193, .lcmp, .ifCond .lt (40)] := by unfold am_code; rw [kd_at_56]; rfl
theorem kc_56_13 : am_code 56 13 = [.lload_n 1, .ldc2_w 103, .lcmp, .ifCond .gt (32)] := by unfold am_code; rw [kd_at_56]; rfl
theorem kc_56_21 : am_code 56 21 = [.lload_n 3, .ldc2_w 193, .lcmp, .ifCond .lt (24)] := by unfold am_code; rw [kd_at_56]; rfl
theorem kc_56_29 : am_code 56 29 = [.lload_n 3, .ldc2_w 103, .lcmp, .ifCond .gt (16)] := by unfold am_code; rw [kd_at_56]; rfl
theorem kc_56_37 : am_code 56 37 = [.iload 5, .iconst (-1), .if_icmp .lt (10)] := by unfold am_code; rw [kd_at_56]; rfl
theorem kc_56_43 : am_code 56 43 = [.iload 5, .bipush (7), .if_icmp .le (6)] := by unfold am_code; rw [kd_at_56]; rfl
theorem kc_56_50 : am_code 56 50 = [.bipush (-2), .ireturn] := by unfold am_code; rw [kd_at_56]; rfl
theorem kc_56_53 : am_code 56 53 = [.iconst (0), .istore 6, .lconst 0, .lstore 7, .iconst (1), .istore 9] := by unfold am_code; rw [kd_at_56]; rfl
theorem kc_56_62 : am_code 56 62 = [.iload 9, .aload_n 0, .getfield 88, .if_icmp .gt (167)] := by unfold am_code; rw [kd_at_56]; rfl
theorem kc_56_71 : am_code 56 71 = [.aload_n 0, .getfield 7, .aload_n 0, .getfield 23, .iload 9, .iaload, .laload, .aload_n 0, .getfield 7, .aload_n 0, .getfield 19, .iload 9, .iaload, .laload, .lsub, .aload_n 0, .getfield 13, .aload_n 0, .getfield 23, .iload 9, .iaload, .laload, .aload_n 0, .getfield 13, .aload_n 0, .getfield 19, .iload 9, .iaload, .laload, .lsub, .invokestatic 195, .istore 10, .iload 10, .iload 5, .if_icmp .ge (11)] := by unfold am_code; rw [kd_at_56]; rfl
theorem kc_56_133 : am_code 56 133 = [.iload 5, .iload 10, .isub, .goto (8)] := by unfold am_code; rw [kd_at_56]; rfl
theorem kc_56_141 : am_code 56 141 = [.iload 10, .iload 5, .isub] := by unfold am_code; rw [kd_at_56]; rfl
theorem kc_56_146 : am_code 56 146 = [.istore 11, .iload 5, .ifCond .lt (21)] := by unfold am_code; rw [kd_at_56]; rfl
theorem kc_56_153 : am_code 56 153 = [.iload 10, .ifCond .lt (20)] := by unfold am_code; rw [kd_at_56]; rfl
theorem kc_56_158 : am_code 56 158 = [.iload 11, .iconst (2), .if_icmp .lt (10)] := by unfold am_code; rw [kd_at_56]; rfl
theorem kc_56_164 : am_code 56 164 = [.iload 11, .bipush (7), .if_icmp .ne (7)] := by unfold am_code; rw [kd_at_56]; rfl
theorem kc_56_171 : am_code 56 171 = [.iconst (1), .goto (4)] := by unfold am_code; rw [kd_at_56]; rfl
theorem kc_56_175 : am_code 56 175 = [.iconst (0)] := by unfold am_code; rw [kd_at_56]; rfl
theorem kc_56_176 : am_code 56 176 = [.istore 12, .iload 12, .ifCond .eq (14)] := by unfold am_code; rw [kd_at_56]; rfl
theorem kc_56_183 : am_code 56 183 = [.aload_n 0, .iload 9, .lload_n 1, .lload_n 3, .invokevirtual 199, .goto (6)] := by unfold am_code; rw [kd_at_56]; rfl
theorem kc_56_194 : am_code 56 194 = [.ldc2_w 203] := by unfold am_code; rw [kd_at_56]; rfl
theorem kc_56_197 : am_code 56 197 = [.lstore 13, .lload 13, .ldc2_w 205, .lcmp, .ifCond .gt (24)] := by unfold am_code; rw [kd_at_56]; rfl
theorem kc_56_208 : am_code 56 208 = [.iload 6, .ifCond .eq (11)] := by unfold am_code; rw [kd_at_56]; rfl
theorem kc_56_213 : am_code 56 213 = [.lload 13, .lload 7, .lcmp, .ifCond .ge (11)] := by unfold am_code; rw [kd_at_56]; rfl
theorem kc_56_221 : am_code 56 221 = [.iload 9, .istore 6, .lload 13, .lstore 7] := by unfold am_code; rw [kd_at_56]; rfl
theorem kc_56_229 : am_code 56 229 = [.iinc 9 (1), .goto (-170)] := by unfold am_code; rw [kd_at_56]; rfl
theorem kc_56_235 : am_code 56 235 = [.iload 6, .ireturn] := by unfold am_code; rw [kd_at_56]; rfl
theorem kd_at_57 : am_kd 57 = kd_57 := rfl
theorem kc_57_0 : am_code 57 0 = [.bipush (97), .iload_n 1, .ifCond .ne (11)] := by unfold am_code; rw [kd_at_57]; rfl
theorem kc_57_6 : am_code 57 6 = [.iload_n 0, .sipush (676), .idiv, .goto (22)] := by unfold am_code; rw [kd_at_57]; rfl
theorem kc_57_14 : am_code 57 14 = [.iload_n 1, .iconst (1), .if_icmp .ne (13)] := by unfold am_code; rw [kd_at_57]; rfl
theorem kc_57_19 : am_code 57 19 = [.iload_n 0, .bipush (26), .idiv, .bipush (26), .irem, .goto (7)] := by unfold am_code; rw [kd_at_57]; rfl
theorem kc_57_29 : am_code 57 29 = [.iload_n 0, .bipush (26), .irem] := by unfold am_code; rw [kd_at_57]; rfl
theorem kc_57_33 : am_code 57 33 = [.iadd, .ireturn] := by unfold am_code; rw [kd_at_57]; rfl
theorem kd_at_58 : am_kd 58 = kd_58 := rfl
theorem kc_58_0 : am_code 58 0 = [.aload_n 0, .iconst (0), .putfield 82, .iload_n 1, .ifCond .eq (18)] := by unfold am_code; rw [kd_at_58]; rfl
theorem kc_58_9 : am_code 58 9 = [.iload_n 1, .bipush (97), .if_icmp .lt (9)] := by unfold am_code; rw [kd_at_58]; rfl
theorem kc_58_15 : am_code 58 15 = [.iload_n 1, .bipush (122), .if_icmp .le (6)] := by unfold am_code; rw [kd_at_58]; rfl
theorem kc_58_21 : am_code 58 21 = [.bipush (-2), .ireturn] := by unfold am_code; rw [kd_at_58]; rfl
theorem kc_58_24 : am_code 58 24 = [.iload_n 1, .ifCond .eq (14)] := by unfold am_code; rw [kd_at_58]; rfl
theorem kc_58_28 : am_code 58 28 = [.aload_n 0, .getfield 207, .iconst (3), .if_icmp .ne (6)] := by unfold am_code; rw [kd_at_58]; rfl
theorem kc_58_36 : am_code 58 36 = [.bipush (-3), .ireturn] := by unfold am_code; rw [kd_at_58]; rfl
theorem kc_58_39 : am_code 58 39 = [.iload_n 1, .ifCond .le (13)] := by unfold am_code; rw [kd_at_58]; rfl
theorem kc_58_43 : am_code 58 43 = [.aload_n 0, .getfield 79, .aload_n 0, .getfield 207, .iload_n 1, .iastore] := by unfold am_code; rw [kd_at_58]; rfl
theorem kc_58_53 : am_code 58 53 = [.aload_n 0, .iload_n 1, .ifCond .ne (7)] := by unfold am_code; rw [kd_at_58]; rfl
theorem kc_58_58 : am_code 58 58 = [.iconst (0), .goto (9)] := by unfold am_code; rw [kd_at_58]; rfl
theorem kc_58_62 : am_code 58 62 = [.aload_n 0, .getfield 207, .iconst (1), .iadd] := by unfold am_code; rw [kd_at_58]; rfl
theorem kc_58_68 : am_code 58 68 = [.putfield 207, .iconst (0), .istore_n 2, .iconst (1), .istore_n 3] := by unfold am_code; rw [kd_at_58]; rfl
theorem kc_58_75 : am_code 58 75 = [.iload_n 3, .aload_n 0, .getfield 85, .if_icmp .gt (71)] := by unfold am_code; rw [kd_at_58]; rfl
theorem kc_58_83 : am_code 58 83 = [.iconst (1), .istore 4, .iconst (0), .istore 5] := by unfold am_code; rw [kd_at_58]; rfl
theorem kc_58_89 : am_code 58 89 = [.iload 5, .aload_n 0, .getfield 207, .if_icmp .ge (37)] := by unfold am_code; rw [kd_at_58]; rfl
theorem kc_58_98 : am_code 58 98 = [.iload 4, .ifCond .eq (23)] := by unfold am_code; rw [kd_at_58]; rfl
theorem kc_58_103 : am_code 58 103 = [.iload_n 3, .iload 5, .invokestatic 210, .aload_n 0, .getfield 79, .iload 5, .iaload, .if_icmp .ne (7)] := by unfold am_code; rw [kd_at_58]; rfl
theorem kc_58_119 : am_code 58 119 = [.iconst (1), .goto (4)] := by unfold am_code; rw [kd_at_58]; rfl
theorem kc_58_123 : am_code 58 123 = [.iconst (0)] := by unfold am_code; rw [kd_at_58]; rfl
theorem kc_58_124 : am_code 58 124 = [.istore 4, .iinc 5 (1), .goto (-40)] := by unfold am_code; rw [kd_at_58]; rfl
theorem kc_58_132 : am_code 58 132 = [.iload 4, .ifCond .eq (9)] := by unfold am_code; rw [kd_at_58]; rfl
theorem kc_58_137 : am_code 58 137 = [.iload_n 2, .iconst (1), .iadd, .goto (4)] := by unfold am_code; rw [kd_at_58]; rfl
theorem kc_58_143 : am_code 58 143 = [.iload_n 2] := by unfold am_code; rw [kd_at_58]; rfl
theorem kc_58_144 : am_code 58 144 = [.istore_n 2, .iinc 3 (1), .goto (-73)] := by unfold am_code; rw [kd_at_58]; rfl
theorem kc_58_151 : am_code 58 151 = [.iload_n 2, .ireturn] := by unfold am_code; rw [kd_at_58]; rfl
theorem kd_at_59 : am_kd 59 = kd_59 := rfl
theorem kc_59_0 : am_code 59 0 = [.aload_n 0, .iconst (0), .putfield 82, .iload_n 2, .ifCond .lt (14)] := by unfold am_code; rw [kd_at_59]; rfl
theorem kc_59_9 : am_code 59 9 = [.iload_n 2, .bipush (7), .if_icmp .gt (8)] := by unfold am_code; rw [kd_at_59]; rfl
theorem kc_59_15 : am_code 59 15 = [.iload_n 1, .iconst (1), .if_icmp .ge (6)] := by unfold am_code; rw [kd_at_59]; rfl
theorem kc_59_20 : am_code 59 20 = [.bipush (-2), .ireturn] := by unfold am_code; rw [kd_at_59]; rfl
theorem kc_59_23 : am_code 59 23 = [.aload_n 0, .getfield 214, .ifCond .eq (13)] := by unfold am_code; rw [kd_at_59]; rfl
theorem kc_59_30 : am_code 59 30 = [.aload_n 0, .getfield 214, .sipush (255), .if_icmp .ne (7)] := by unfold am_code; rw [kd_at_59]; rfl
theorem kc_59_40 : am_code 59 40 = [.iconst (1), .goto (4)] := by unfold am_code; rw [kd_at_59]; rfl
theorem kc_59_44 : am_code 59 44 = [.iconst (0)] := by unfold am_code; rw [kd_at_59]; rfl
theorem kc_59_45 : am_code 59 45 = [.istore_n 3, .iload_n 3, .ifCond .eq (11)] := by unfold am_code; rw [kd_at_59]; rfl
theorem kc_59_50 : am_code 59 50 = [.iload_n 1, .aload_n 0, .getfield 217, .if_icmp .le (27)] := by unfold am_code; rw [kd_at_59]; rfl
theorem kc_59_58 : am_code 59 58 = [.iload_n 3, .ifCond .ne (25)] := by unfold am_code; rw [kd_at_59]; rfl
theorem kc_59_62 : am_code 59 62 = [.iload_n 1, .aload_n 0, .getfield 217, .if_icmp .ne (15)] := by unfold am_code; rw [kd_at_59]; rfl
theorem kc_59_70 : am_code 59 70 = [.aload_n 0, .getfield 214, .iload_n 2, .ishr, .iconst (1), .iand, .iconst (1), .if_icmp .ne (5)] := by unfold am_code; rw [kd_at_59]; rfl
theorem kc_59_82 : am_code 59 82 = [.iconst (0), .ireturn] := by unfold am_code; rw [kd_at_59]; rfl
theorem kc_59_84 : am_code 59 84 = [.aload_n 0, .iload_n 3, .ifCond .eq (9)] := by unfold am_code; rw [kd_at_59]; rfl
theorem kc_59_89 : am_code 59 89 = [.iconst (1), .iload_n 2, .ishl, .goto (11)] := by unfold am_code; rw [kd_at_59]; rfl
theorem kc_59_95 : am_code 59 95 = [.aload_n 0, .getfield 214, .iconst (1), .iload_n 2, .ishl, .ior] := by unfold am_code; rw [kd_at_59]; rfl
theorem kc_59_103 : am_code 59 103 = [.putfield 214, .aload_n 0, .iload_n 1, .putfield 217, .iconst (1), .ireturn] := by unfold am_code; rw [kd_at_59]; rfl
theorem kd_at_60 : am_kd 60 = kd_60 := rfl
theorem kc_60_0 : am_code 60 0 = [.aload_n 0, .invokespecial 3, .aload_n 0, .sipush (2541), .newarray .long, .putfield 11, .aload_n 0, .sipush (2541), .newarray .int, .putfield 15, .aload_n 0, .sipush (2542), .newarray .int, .putfield 19, .aload_n 0, .iconst (0), .putfield 22, .return_] := by unfold am_code; rw [kd_at_60]; rfl
theorem kd_at_61 : am_kd 61 = kd_61 := rfl
theorem kc_61_0 : am_code 61 0 = [.aload_n 0, .iconst (0), .putfield 22, .iconst (0), .istore_n 2] := by unfold am_code; rw [kd_at_61]; rfl
theorem kc_61_7 : am_code 61 7 = [.iload_n 2, .iload_n 1, .if_icmp .ge (32)] := by unfold am_code; rw [kd_at_61]; rfl
theorem kc_61_12 : am_code 61 12 = [.iload_n 2, .sipush (2541), .if_icmp .ge (25)] := by unfold am_code; rw [kd_at_61]; rfl
theorem kc_61_19 : am_code 61 19 = [.aload_n 0, .getfield 11, .iload_n 2, .ldc2_w 26, .lastore, .aload_n 0, .getfield 15, .iload_n 2, .iconst (0), .iastore, .iinc 2 (1), .goto (-31)] := by unfold am_code; rw [kd_at_61]; rfl
theorem kc_61_41 : am_code 61 41 = [.return_] := by unfold am_code; rw [kd_at_61]; rfl
theorem kd_at_62 : am_kd 62 = kd_62 := rfl
theorem kc_62_0 : am_code 62 0 = [.aload_n 0, .getfield 11, .iload_n 1, .laload, .lreturn] := by unfold am_code; rw [kd_at_62]; rfl
theorem kd_at_63 : am_kd 63 = kd_63 := rfl
theorem kc_63_0 : am_code 63 0 = [.lload_n 2, .aload_n 0, .getfield 11, .iload_n 1, .laload, .lcmp, .ifCond .lt (4)] := by unfold am_code; rw [kd_at_63]; rfl
theorem kc_63_11 : am_code 63 11 = [.return_] := by unfold am_code; rw [kd_at_63]; rfl
theorem kc_63_12 : am_code 63 12 = [.aload_n 0, .getfield 11, .iload_n 1, .lload_n 2, .lastore, .aload_n 0, .getfield 15, .iload_n 1, .iaload, .ifCond .ne (23)] := by unfold am_code; rw [kd_at_63]; rfl
theorem kc_63_28 : am_code 63 28 = [.aload_n 0, .dup, .getfield 22, .iconst (1), .iadd, .putfield 22, .aload_n 0, .getfield 15, .iload_n 1, .aload_n 0, .getfield 22, .iastore] := by unfold am_code; rw [kd_at_63]; rfl
theorem kc_63_48 : am_code 63 48 = [.aload_n 0, .iload_n 1, .invokevirtual 28, .return_] := by unfold am_code; rw [kd_at_63]; rfl
theorem kd_at_64 : am_kd 64 = kd_64 := rfl
theorem kc_64_0 : am_code 64 0 = [.aload_n 0, .getfield 22, .ifCond .ne (5)] := by unfold am_code; rw [kd_at_64]; rfl
theorem kc_64_7 : am_code 64 7 = [.iconst (-1), .ireturn] := by unfold am_code; rw [kd_at_64]; rfl
theorem kc_64_9 : am_code 64 9 = [.aload_n 0, .getfield 19, .iconst (1), .iaload, .istore_n 1, .aload_n 0, .getfield 19, .aload_n 0, .getfield 22, .iaload, .istore_n 2, .aload_n 0, .dup, .getfield 22, .iconst (1), .isub, .putfield 22, .aload_n 0, .getfield 22, .ifCond .le (8)] := by unfold am_code; rw [kd_at_64]; rfl
theorem kc_64_43 : am_code 64 43 = [.aload_n 0, .iload_n 2, .invokevirtual 32] := by unfold am_code; rw [kd_at_64]; rfl
theorem kc_64_48 : am_code 64 48 = [.iload_n 1, .ireturn] := by unfold am_code; rw [kd_at_64]; rfl
theorem kd_at_65 : am_kd 65 = kd_65 := rfl
theorem kc_65_0 : am_code 65 0 = [.aload_n 0, .getfield 15, .iload_n 1, .iaload, .istore_n 2, .iconst (0), .istore_n 3] := by unfold am_code; rw [kd_at_65]; rfl
theorem kc_65_9 : am_code 65 9 = [.iload_n 3, .bipush (32), .if_icmp .ge (64)] := by unfold am_code; rw [kd_at_65]; rfl
theorem kc_65_15 : am_code 65 15 = [.iload_n 2, .iconst (1), .if_icmp .le (59)] := by unfold am_code; rw [kd_at_65]; rfl
theorem kc_65_20 : am_code 65 20 = [.aload_n 0, .getfield 19, .iload_n 2, .iconst (2), .idiv, .iaload, .istore 4, .aload_n 0, .getfield 11, .iload 4, .laload, .aload_n 0, .getfield 11, .iload_n 1, .laload, .lcmp, .ifCond .gt (6)] := by unfold am_code; rw [kd_at_65]; rfl
theorem kc_65_47 : am_code 65 47 = [.goto (29)] := by unfold am_code; rw [kd_at_65]; rfl
theorem kc_65_50 : am_code 65 50 = [.aload_n 0, .getfield 19, .iload_n 2, .iload 4, .iastore, .aload_n 0, .getfield 15, .iload 4, .iload_n 2, .iastore, .iload_n 2, .iconst (2), .idiv, .istore_n 2, .iinc 3 (1), .goto (-64)] := by unfold am_code; rw [kd_at_65]; rfl
theorem kc_65_76 : am_code 65 76 = [.aload_n 0, .getfield 19, .iload_n 2, .iload_n 1, .iastore, .aload_n 0, .getfield 15, .iload_n 1, .iload_n 2, .iastore, .return_] := by unfold am_code; rw [kd_at_65]; rfl
theorem kd_at_66 : am_kd 66 = kd_66 := rfl
theorem kc_66_0 : am_code 66 0 = [.iconst (1), .istore_n 2, .iconst (0), .istore_n 3] := by unfold am_code; rw [kd_at_66]; rfl
theorem kc_66_4 : am_code 66 4 = [.iload_n 3, .bipush (32), .if_icmp .ge (114)] := by unfold am_code; rw [kd_at_66]; rfl
theorem kc_66_10 : am_code 66 10 = [.iconst (2), .iload_n 2, .imul, .aload_n 0, .getfield 22, .if_icmp .gt (104)] := by unfold am_code; rw [kd_at_66]; rfl
theorem kc_66_20 : am_code 66 20 = [.iconst (2), .iload_n 2, .imul, .istore 4, .iload 4, .aload_n 0, .getfield 22, .if_icmp .ge (36)] := by unfold am_code; rw [kd_at_66]; rfl
theorem kc_66_34 : am_code 66 34 = [.aload_n 0, .getfield 11, .aload_n 0, .getfield 19, .iload 4, .iconst (1), .iadd, .iaload, .laload, .aload_n 0, .getfield 11, .aload_n 0, .getfield 19, .iload 4, .iaload, .laload, .lcmp, .ifCond .ge (6)] := by unfold am_code; rw [kd_at_66]; rfl
theorem kc_66_64 : am_code 66 64 = [.iinc 4 (1)] := by unfold am_code; rw [kd_at_66]; rfl
theorem kc_66_67 : am_code 66 67 = [.aload_n 0, .getfield 19, .iload 4, .iaload, .istore 5, .aload_n 0, .getfield 11, .iload_n 1, .laload, .aload_n 0, .getfield 11, .iload 5, .laload, .lcmp, .ifCond .gt (6)] := by unfold am_code; rw [kd_at_66]; rfl
theorem kc_66_93 : am_code 66 93 = [.goto (28)] := by unfold am_code; rw [kd_at_66]; rfl
theorem kc_66_96 : am_code 66 96 = [.aload_n 0, .getfield 19, .iload_n 2, .iload 5, .iastore, .aload_n 0, .getfield 15, .iload 5, .iload_n 2, .iastore, .iload 4, .istore_n 2, .iinc 3 (1), .goto (-114)] := by unfold am_code; rw [kd_at_66]; rfl
theorem kc_66_121 : am_code 66 121 = [.aload_n 0, .getfield 19, .iload_n 2, .iload_n 1, .iastore, .aload_n 0, .getfield 15, .iload_n 1, .iload_n 2, .iastore, .return_] := by unfold am_code; rw [kd_at_66]; rfl
theorem kd_at_67 : am_kd 67 = kd_67 := rfl
theorem kc_67_0 : am_code 67 0 = [.lload_n 0, .lload 6, .lmul, .lload_n 2, .lload 4, .lmul, .lsub, .lstore 8, .lload_n 0, .lload 4, .lmul, .lload_n 2, .lload 6, .lmul, .ladd, .lstore 10, .ldc2_w 7, .lload 8, .invokestatic 9, .lmul, .lstore 12, .lload 12, .lload 10, .lcmp, .ifCond .gt (5)] := by unfold am_code; rw [kd_at_67]; rfl
theorem kc_67_41 : am_code 67 41 = [.iconst (0), .ireturn] := by unfold am_code; rw [kd_at_67]; rfl
theorem kc_67_43 : am_code 67 43 = [.lload 12, .lload 10, .lneg, .lcmp, .ifCond .gt (5)] := by unfold am_code; rw [kd_at_67]; rfl
theorem kc_67_52 : am_code 67 52 = [.iconst (3), .ireturn] := by unfold am_code; rw [kd_at_67]; rfl
theorem kc_67_54 : am_code 67 54 = [.lload 8, .lconst 0, .lcmp, .ifCond .le (7)] := by unfold am_code; rw [kd_at_67]; rfl
theorem kc_67_61 : am_code 67 61 = [.iconst (2), .goto (4)] := by unfold am_code; rw [kd_at_67]; rfl
theorem kc_67_65 : am_code 67 65 = [.iconst (1)] := by unfold am_code; rw [kd_at_67]; rfl
theorem kc_67_66 : am_code 67 66 = [.ireturn] := by unfold am_code; rw [kd_at_67]; rfl
theorem kd_at_68 : am_kd 68 = kd_68 := rfl
theorem kc_68_0 : am_code 68 0 = [.lload_n 0, .lconst 0, .lcmp, .ifCond .le (21)] := by unfold am_code; rw [kd_at_68]; rfl
theorem kc_68_6 : am_code 68 6 = [.lload_n 2, .lconst 0, .lcmp, .ifCond .lt (15)] := by unfold am_code; rw [kd_at_68]; rfl
theorem kc_68_12 : am_code 68 12 = [.lload_n 2, .lload_n 0, .lcmp, .ifCond .ge (7)] := by unfold am_code; rw [kd_at_68]; rfl
theorem kc_68_18 : am_code 68 18 = [.iconst (0), .goto (4)] := by unfold am_code; rw [kd_at_68]; rfl
theorem kc_68_22 : am_code 68 22 = [.iconst (1)] := by unfold am_code; rw [kd_at_68]; rfl
theorem kc_68_23 : am_code 68 23 = [.ireturn] := by unfold am_code; rw [kd_at_68]; rfl
theorem kc_68_24 : am_code 68 24 = [.lload_n 0, .lconst 0, .lcmp, .ifCond .gt (22)] := by unfold am_code; rw [kd_at_68]; rfl
theorem kc_68_30 : am_code 68 30 = [.lload_n 2, .lconst 0, .lcmp, .ifCond .le (16)] := by unfold am_code; rw [kd_at_68]; rfl
theorem kc_68_36 : am_code 68 36 = [.lload_n 0, .lneg, .lload_n 2, .lcmp, .ifCond .ge (7)] := by unfold am_code; rw [kd_at_68]; rfl
theorem kc_68_43 : am_code 68 43 = [.iconst (2), .goto (4)] := by unfold am_code; rw [kd_at_68]; rfl
theorem kc_68_47 : am_code 68 47 = [.iconst (3)] := by unfold am_code; rw [kd_at_68]; rfl
theorem kc_68_48 : am_code 68 48 = [.ireturn] := by unfold am_code; rw [kd_at_68]; rfl
theorem kc_68_49 : am_code 68 49 = [.lload_n 0, .lconst 0, .lcmp, .ifCond .ge (17)] := by unfold am_code; rw [kd_at_68]; rfl
theorem kc_68_55 : am_code 68 55 = [.lload_n 2, .lneg, .lload_n 0, .lneg, .lcmp, .ifCond .ge (7)] := by unfold am_code; rw [kd_at_68]; rfl
theorem kc_68_63 : am_code 68 63 = [.iconst (4), .goto (4)] := by unfold am_code; rw [kd_at_68]; rfl
theorem kc_68_67 : am_code 68 67 = [.iconst (5)] := by unfold am_code; rw [kd_at_68]; rfl
theorem kc_68_68 : am_code 68 68 = [.ireturn] := by unfold am_code; rw [kd_at_68]; rfl
theorem kc_68_69 : am_code 68 69 = [.lload_n 2, .lconst 0, .lcmp, .ifCond .ge (18)] := by unfold am_code; rw [kd_at_68]; rfl
theorem kc_68_75 : am_code 68 75 = [.lload_n 0, .lload_n 2, .lneg, .lcmp, .ifCond .ge (8)] := by unfold am_code; rw [kd_at_68]; rfl
theorem kc_68_82 : am_code 68 82 = [.bipush (6), .goto (5)] := by unfold am_code; rw [kd_at_68]; rfl
theorem kc_68_87 : am_code 68 87 = [.bipush (7)] := by unfold am_code; rw [kd_at_68]; rfl
theorem kc_68_89 : am_code 68 89 = [.ireturn] := by unfold am_code; rw [kd_at_68]; rfl
theorem kc_68_90 : am_code 68 90 = [.iconst (-1), .ireturn] := by unfold am_code; rw [kd_at_68]; rfl
theorem kd_at_69 : am_kd 69 = kd_69 := rfl
theorem kc_69_0 : am_code 69 0 = [.lload_n 0, .lload 4, .lmul, .lload_n 2, .lload 6, .lmul, .ladd, .lstore 8, .lload 4, .lload 4, .lmul, .lload 6, .lload 6, .lmul, .ladd, .lstore 10, .lload 8, .lconst 0, .lcmp, .ifCond .le (10)] := by unfold am_code; rw [kd_at_69]; rfl
theorem kc_69_31 : am_code 69 31 = [.lload 10, .lconst 0, .lcmp, .ifCond .gt (11)] := by unfold am_code; rw [kd_at_69]; rfl
theorem kc_69_38 : am_code 69 38 = [.lload_n 0, .lload_n 0, .lmul, .lload_n 2, .lload_n 2, .lmul, .ladd, .lreturn] := by unfold am_code; rw [kd_at_69]; rfl
theorem kc_69_46 : am_code 69 46 = [.lload 8, .lload 10, .lcmp, .ifCond .lt (23)] := by unfold am_code; rw [kd_at_69]; rfl
theorem kc_69_54 : am_code 69 54 = [.lload_n 0, .lload 4, .lsub, .lload_n 0, .lload 4, .lsub, .lmul, .lload_n 2, .lload 6, .lsub, .lload_n 2, .lload 6, .lsub, .lmul, .ladd, .lreturn] := by unfold am_code; rw [kd_at_69]; rfl
theorem kc_69_74 : am_code 69 74 = [.lload_n 0, .lload 6, .lmul, .lload_n 2, .lload 4, .lmul, .lsub, .lstore 12, .lload 12, .lload 12, .lmul, .lload 10, .ldiv, .lreturn] := by unfold am_code; rw [kd_at_69]; rfl
theorem kd_at_70 : am_kd 70 = kd_70 := rfl
theorem kc_70_0 : am_code 70 0 = [.aload_n 0, .invokespecial 3, .aload_n 0, .iconst (0), .putfield 9, .aload_n 0, .iconst (0), .putfield 13, .return_] := by unfold am_code; rw [kd_at_70]; rfl
theorem kd_at_71 : am_kd 71 = kd_71 := rfl
theorem kc_71_0 : am_code 71 0 = [.aload_n 0, .getfield 13, .ifCond .eq (21)] := by unfold am_code; rw [kd_at_71]; rfl
theorem kc_71_7 : am_code 71 7 = [.aload_n 0, .getfield 13, .sipush (255), .if_icmp .ne (25)] := by unfold am_code; rw [kd_at_71]; rfl
theorem kc_71_17 : am_code 71 17 = [.iload_n 1, .aload_n 0, .getfield 9, .if_icmp .le (17)] := by unfold am_code; rw [kd_at_71]; rfl
theorem kc_71_25 : am_code 71 25 = [.aload_n 0, .iload_n 1, .putfield 9, .aload_n 0, .iconst (1), .iload_n 2, .ishl, .putfield 13, .iconst (1), .ireturn] := by unfold am_code; rw [kd_at_71]; rfl
theorem kc_71_39 : am_code 71 39 = [.iload_n 1, .aload_n 0, .getfield 9, .if_icmp .ne (14)] := by unfold am_code; rw [kd_at_71]; rfl
theorem kc_71_47 : am_code 71 47 = [.aload_n 0, .getfield 13, .iload_n 2, .ishr, .iconst (1), .iand, .ifCond .eq (5)] := by unfold am_code; rw [kd_at_71]; rfl
theorem kc_71_58 : am_code 71 58 = [.iconst (0), .ireturn] := by unfold am_code; rw [kd_at_71]; rfl
theorem kc_71_60 : am_code 71 60 = [.aload_n 0, .dup, .getfield 13, .iconst (1), .iload_n 2, .ishl, .ior, .putfield 13, .iconst (1), .ireturn] := by unfold am_code; rw [kd_at_71]; rfl
theorem kd_at_72 : am_kd 72 = kd_72 := rfl
theorem kc_72_0 : am_code 72 0 = [.aload_n 0, .invokespecial 1, .aload_n 0, .iconst (3), .newarray .int, .putfield 9, .aload_n 0, .iconst (0), .putfield 13, .return_] := by unfold am_code; rw [kd_at_72]; rfl
theorem kd_at_73 : am_kd 73 = kd_73 := rfl
theorem kc_73_0 : am_code 73 0 = [.iload_n 1, .bipush (97), .if_icmp .lt (13)] := by unfold am_code; rw [kd_at_73]; rfl
theorem kc_73_6 : am_code 73 6 = [.iload_n 1, .bipush (122), .if_icmp .gt (7)] := by unfold am_code; rw [kd_at_73]; rfl
theorem kc_73_12 : am_code 73 12 = [.iconst (1), .goto (4)] := by unfold am_code; rw [kd_at_73]; rfl
theorem kc_73_16 : am_code 73 16 = [.iconst (0)] := by unfold am_code; rw [kd_at_73]; rfl
theorem kc_73_17 : am_code 73 17 = [.ireturn] := by unfold am_code; rw [kd_at_73]; rfl
theorem kd_at_74 : am_kd 74 = kd_74 := rfl
theorem kc_74_0 : am_code 74 0 = [.aload_n 0, .getfield 13, .iconst (3), .if_icmp .lt (7)] := by unfold am_code; rw [kd_at_74]; rfl
theorem kc_74_8 : am_code 74 8 = [.iconst (1), .goto (4)] := by unfold am_code; rw [kd_at_74]; rfl
theorem kc_74_12 : am_code 74 12 = [.iconst (0)] := by unfold am_code; rw [kd_at_74]; rfl
theorem kc_74_13 : am_code 74 13 = [.ireturn] := by unfold am_code; rw [kd_at_74]; rfl
theorem kd_at_75 : am_kd 75 = kd_75 := rfl
theorem kc_75_0 : am_code 75 0 = [.aload_n 0, .iconst (0), .putfield 13, .return_] := by unfold am_code; rw [kd_at_75]; rfl
theorem kd_at_76 : am_kd 76 = kd_76 := rfl
theorem kc_76_0 : am_code 76 0 = [.aload_n 0, .getfield 13, .iconst (3), .if_icmp .ge (26)] := by unfold am_code; rw [kd_at_76]; rfl
theorem kc_76_8 : am_code 76 8 = [.aload_n 0, .getfield 9, .aload_n 0, .getfield 13, .iload_n 1, .bipush (97), .isub, .iastore, .aload_n 0, .dup, .getfield 13, .iconst (1), .iadd, .putfield 13] := by unfold am_code; rw [kd_at_76]; rfl
theorem kc_76_31 : am_code 76 31 = [.return_] := by unfold am_code; rw [kd_at_76]; rfl
theorem kd_at_77 : am_kd 77 = kd_77 := rfl
theorem kc_77_0 : am_code 77 0 = [.iconst (0), .istore_n 2, .iconst (1), .istore_n 3] := by unfold am_code; rw [kd_at_77]; rfl
theorem kc_77_4 : am_code 77 4 = [.iload_n 3, .iload_n 1, .if_icmp .gt (20)] := by unfold am_code; rw [kd_at_77]; rfl
theorem kc_77_9 : am_code 77 9 = [.aload_n 0, .iload_n 3, .invokevirtual 17, .ifCond .eq (6)] := by unfold am_code; rw [kd_at_77]; rfl
theorem kc_77_17 : am_code 77 17 = [.iinc 2 (1)] := by unfold am_code; rw [kd_at_77]; rfl
theorem kc_77_20 : am_code 77 20 = [.iinc 3 (1), .goto (-19)] := by unfold am_code; rw [kd_at_77]; rfl
theorem kc_77_26 : am_code 77 26 = [.iload_n 2, .ireturn] := by unfold am_code; rw [kd_at_77]; rfl
theorem kd_at_78 : am_kd 78 = kd_78 := rfl
theorem kc_78_0 : am_code 78 0 = [.iconst (0), .istore_n 2] := by unfold am_code; rw [kd_at_78]; rfl
theorem kc_78_2 : am_code 78 2 = [.iload_n 2, .aload_n 0, .getfield 13, .if_icmp .ge (25)] := by unfold am_code; rw [kd_at_78]; rfl
theorem kc_78_10 : am_code 78 10 = [.aload_n 0, .getfield 9, .iload_n 2, .iaload, .iload_n 1, .iload_n 2, .invokestatic 21, .if_icmp .eq (5)] := by unfold am_code; rw [kd_at_78]; rfl
theorem kc_78_24 : am_code 78 24 = [.iconst (0), .ireturn] := by unfold am_code; rw [kd_at_78]; rfl
theorem kc_78_26 : am_code 78 26 = [.iinc 2 (1), .goto (-27)] := by unfold am_code; rw [kd_at_78]; rfl
theorem kc_78_32 : am_code 78 32 = [.iconst (1), .ireturn] := by unfold am_code; rw [kd_at_78]; rfl
theorem kd_at_79 : am_kd 79 = kd_79 := rfl
theorem kc_79_0 : am_code 79 0 = [.iload_n 1, .lookupswitch (41) #[((0), (27)), ((1), (33))]] := by unfold am_code; rw [kd_at_79]; rfl
theorem kc_79_28 : am_code 79 28 = [.iload_n 0, .sipush (676), .idiv, .ireturn] := by unfold am_code; rw [kd_at_79]; rfl
theorem kc_79_34 : am_code 79 34 = [.iload_n 0, .bipush (26), .idiv, .bipush (26), .irem, .ireturn] := by unfold am_code; rw [kd_at_79]; rfl
theorem kc_79_42 : am_code 79 42 = [.iload_n 0, .bipush (26), .irem, .ireturn] := by unfold am_code; rw [kd_at_79]; rfl
theorem kd_at_80 : am_kd 80 = kd_80 := rfl
theorem kc_80_0 : am_code 80 0 = [.aload_n 0, .invokespecial 3, .aload_n 0, .bipush (61), .newarray .long, .putfield 9, .aload_n 0, .bipush (61), .newarray .long, .putfield 15, .aload_n 0, .bipush (61), .newarray .long, .putfield 18, .aload_n 0, .iconst (0), .putfield 21, .return_] := by unfold am_code; rw [kd_at_80]; rfl
theorem kd_at_81 : am_kd 81 = kd_81 := rfl
theorem kc_81_0 : am_code 81 0 = [.aload_n 0, .getfield 21, .ireturn] := by unfold am_code; rw [kd_at_81]; rfl
theorem kd_at_82 : am_kd 82 = kd_82 := rfl
theorem kc_82_0 : am_code 82 0 = [.iload_n 1, .iconst (1), .if_icmp .lt (15)] := by unfold am_code; rw [kd_at_82]; rfl
theorem kc_82_5 : am_code 82 5 = [.iload_n 1, .aload_n 0, .getfield 21, .if_icmp .gt (7)] := by unfold am_code; rw [kd_at_82]; rfl
theorem kc_82_13 : am_code 82 13 = [.iconst (1), .goto (4)] := by unfold am_code; rw [kd_at_82]; rfl
theorem kc_82_17 : am_code 82 17 = [.iconst (0)] := by unfold am_code; rw [kd_at_82]; rfl
theorem kc_82_18 : am_code 82 18 = [.ireturn] := by unfold am_code; rw [kd_at_82]; rfl
theorem kd_at_83 : am_kd 83 = kd_83 := rfl
theorem kc_83_0 : am_code 83 0 = [.aload_n 0, .getfield 21, .bipush (60), .if_icmp .lt (7)] := by unfold am_code; rw [kd_at_83]; rfl
theorem kc_83_9 : am_code 83 9 = [.iconst (1), .goto (4)] := by unfold am_code; rw [kd_at_83]; rfl
theorem kc_83_13 : am_code 83 13 = [.iconst (0)] := by unfold am_code; rw [kd_at_83]; rfl
theorem kc_83_14 : am_code 83 14 = [.ireturn] := by unfold am_code; rw [kd_at_83]; rfl
theorem kd_at_84 : am_kd 84 = kd_84 := rfl
theorem kc_84_0 : am_code 84 0 = [.aload_n 0, .dup, .getfield 21, .iconst (1), .iadd, .putfield 21, .aload_n 0, .getfield 9, .aload_n 0, .getfield 21, .lload_n 1, .lastore, .aload_n 0, .getfield 15, .aload_n 0, .getfield 21, .lload_n 3, .lastore, .aload_n 0, .getfield 21, .ireturn] := by unfold am_code; rw [kd_at_84]; rfl
theorem kd_at_85 : am_kd 85 = kd_85 := rfl
theorem kc_85_0 : am_code 85 0 = [.aload_n 0, .getfield 9, .iload_n 1, .laload, .lreturn] := by unfold am_code; rw [kd_at_85]; rfl
theorem kd_at_86 : am_kd 86 = kd_86 := rfl
theorem kc_86_0 : am_code 86 0 = [.aload_n 0, .getfield 15, .iload_n 1, .laload, .lreturn] := by unfold am_code; rw [kd_at_86]; rfl
theorem kd_at_87 : am_kd 87 = kd_87 := rfl
theorem kc_87_0 : am_code 87 0 = [.aload_n 0, .getfield 9, .iload_n 1, .laload, .aload_n 0, .getfield 9, .iload_n 2, .laload, .lsub, .lstore_n 3, .aload_n 0, .getfield 15, .iload_n 1, .laload, .aload_n 0, .getfield 15, .iload_n 2, .laload, .lsub, .lstore 5, .lload_n 3, .lload_n 3, .lmul, .lload 5, .lload 5, .lmul, .ladd, .lreturn] := by unfold am_code; rw [kd_at_87]; rfl
theorem kd_at_88 : am_kd 88 = kd_88 := rfl
theorem kc_88_0 : am_code 88 0 = [.aload_n 0, .getfield 18, .iload_n 1, .lload_n 2, .lastore, .return_] := by unfold am_code; rw [kd_at_88]; rfl
theorem kd_at_89 : am_kd 89 = kd_89 := rfl
theorem kc_89_0 : am_code 89 0 = [.aload_n 0, .getfield 18, .iload_n 1, .laload, .lconst 0, .lcmp, .ifCond .le (7)] := by unfold am_code; rw [kd_at_89]; rfl
theorem kc_89_11 : am_code 89 11 = [.iconst (1), .goto (4)] := by unfold am_code; rw [kd_at_89]; rfl
theorem kc_89_15 : am_code 89 15 = [.iconst (0)] := by unfold am_code; rw [kd_at_89]; rfl
theorem kc_89_16 : am_code 89 16 = [.ireturn] := by unfold am_code; rw [kd_at_89]; rfl
theorem kd_at_90 : am_kd 90 = kd_90 := rfl
theorem kc_90_0 : am_code 90 0 = [.aload_n 0, .getfield 18, .iload_n 1, .laload, .lstore_n 2, .lload_n 2, .lconst 0, .lcmp, .ifCond .le (15)] := by unfold am_code; rw [kd_at_90]; rfl
theorem kc_90_13 : am_code 90 13 = [.lconst 1, .ldc2_w 25, .lload_n 2, .ldiv, .invokestatic 27, .goto (4)] := by unfold am_code; rw [kd_at_90]; rfl
theorem kc_90_25 : am_code 90 25 = [.lconst 0] := by unfold am_code; rw [kd_at_90]; rfl
theorem kc_90_26 : am_code 90 26 = [.lreturn] := by unfold am_code; rw [kd_at_90]; rfl
theorem kd_at_91 : am_kd 91 = kd_91 := rfl
theorem kc_91_0 : am_code 91 0 = [.iconst (0), .istore_n 1, .iconst (1), .istore_n 2] := by unfold am_code; rw [kd_at_91]; rfl
theorem kc_91_4 : am_code 91 4 = [.iload_n 2, .aload_n 0, .getfield 21, .if_icmp .gt (20)] := by unfold am_code; rw [kd_at_91]; rfl
theorem kc_91_12 : am_code 91 12 = [.aload_n 0, .iload_n 2, .invokevirtual 33, .ifCond .eq (6)] := by unfold am_code; rw [kd_at_91]; rfl
theorem kc_91_20 : am_code 91 20 = [.iinc 1 (1)] := by unfold am_code; rw [kd_at_91]; rfl
theorem kc_91_23 : am_code 91 23 = [.iinc 2 (1), .goto (-22)] := by unfold am_code; rw [kd_at_91]; rfl
theorem kc_91_29 : am_code 91 29 = [.iload_n 1, .ireturn] := by unfold am_code; rw [kd_at_91]; rfl
theorem kd_at_92 : am_kd 92 = kd_92 := rfl
theorem kc_92_0 : am_code 92 0 = [.aload_n 0, .invokespecial 3, .aload_n 0, .bipush (121), .newarray .int, .putfield 9, .aload_n 0, .bipush (121), .newarray .int, .putfield 15, .aload_n 0, .bipush (121), .newarray .long, .putfield 18, .aload_n 0, .bipush (121), .newarray .long, .putfield 22, .aload_n 0, .bipush (121), .newarray .int, .putfield 25, .aload_n 0, .bipush (121), .newarray .long, .putfield 28, .aload_n 0, .bipush (121), .newarray .long, .putfield 31, .aload_n 0, .sipush (242), .newarray .long, .putfield 34, .aload_n 0, .iconst (0), .putfield 37, .return_] := by unfold am_code; rw [kd_at_92]; rfl
theorem kd_at_93 : am_kd 93 = kd_93 := rfl
theorem kc_93_0 : am_code 93 0 = [.aload_n 0, .getfield 37, .ireturn] := by unfold am_code; rw [kd_at_93]; rfl
theorem kd_at_94 : am_kd 94 = kd_94 := rfl
theorem kc_94_0 : am_code 94 0 = [.iload_n 1, .iconst (1), .if_icmp .lt (15)] := by unfold am_code; rw [kd_at_94]; rfl
theorem kc_94_5 : am_code 94 5 = [.iload_n 1, .aload_n 0, .getfield 37, .if_icmp .gt (7)] := by unfold am_code; rw [kd_at_94]; rfl
theorem kc_94_13 : am_code 94 13 = [.iconst (1), .goto (4)] := by unfold am_code; rw [kd_at_94]; rfl
theorem kc_94_17 : am_code 94 17 = [.iconst (0)] := by unfold am_code; rw [kd_at_94]; rfl
theorem kc_94_18 : am_code 94 18 = [.ireturn] := by unfold am_code; rw [kd_at_94]; rfl
theorem kd_at_95 : am_kd 95 = kd_95 := rfl
theorem kc_95_0 : am_code 95 0 = [.aload_n 0, .getfield 37, .bipush (120), .if_icmp .lt (7)] := by unfold am_code; rw [kd_at_95]; rfl
theorem kc_95_9 : am_code 95 9 = [.iconst (1), .goto (4)] := by unfold am_code; rw [kd_at_95]; rfl
theorem kc_95_13 : am_code 95 13 = [.iconst (0)] := by unfold am_code; rw [kd_at_95]; rfl
theorem kc_95_14 : am_code 95 14 = [.ireturn] := by unfold am_code; rw [kd_at_95]; rfl
theorem kd_at_96 : am_kd 96 = kd_96 := rfl
theorem kc_96_0 : am_code 96 0 = [.aload_n 0, .dup, .getfield 37, .iconst (1), .iadd, .putfield 37, .aload_n 0, .getfield 9, .aload_n 0, .getfield 37, .iload_n 1, .iastore, .aload_n 0, .getfield 15, .aload_n 0, .getfield 37, .iload_n 2, .iastore, .aload_n 0, .getfield 18, .aload_n 0, .getfield 37, .lload_n 3, .lastore, .aload_n 0, .getfield 22, .aload_n 0, .getfield 37, .lload 5, .lastore, .aload_n 0, .getfield 25, .aload_n 0, .getfield 37, .iload 7, .iastore, .aload_n 0, .getfield 37, .ireturn] := by unfold am_code; rw [kd_at_96]; rfl
theorem kd_at_97 : am_kd 97 = kd_97 := rfl
theorem kc_97_0 : am_code 97 0 = [.aload_n 0, .getfield 15, .iconst (0), .iload_n 1, .iastore, .return_] := by unfold am_code; rw [kd_at_97]; rfl
theorem kd_at_98 : am_kd 98 = kd_98 := rfl
theorem kc_98_0 : am_code 98 0 = [.aload_n 0, .getfield 9, .iload_n 1, .iaload, .ireturn] := by unfold am_code; rw [kd_at_98]; rfl
theorem kd_at_99 : am_kd 99 = kd_99 := rfl
theorem kc_99_0 : am_code 99 0 = [.aload_n 0, .getfield 15, .iload_n 1, .iaload, .ireturn] := by unfold am_code; rw [kd_at_99]; rfl
theorem kd_at_100 : am_kd 100 = kd_100 := rfl
theorem kc_100_0 : am_code 100 0 = [.aload_n 0, .getfield 18, .iload_n 1, .laload, .lreturn] := by unfold am_code; rw [kd_at_100]; rfl
theorem kd_at_101 : am_kd 101 = kd_101 := rfl
theorem kc_101_0 : am_code 101 0 = [.lconst 1, .aload_n 0, .getfield 18, .iload_n 1, .laload, .lconst 1, .aload_n 0, .getfield 25, .iload_n 1, .iaload, .i2l, .ladd, .lmul, .ldc2_w 41, .ldiv, .ladd, .l2i, .ireturn] := by unfold am_code; rw [kd_at_101]; rfl
theorem kd_at_102 : am_kd 102 = kd_102 := rfl
theorem kc_102_0 : am_code 102 0 = [.aload_n 0, .getfield 34, .iload_n 1, .iconst (2), .imul, .iload_n 2, .bipush (64), .idiv, .iadd, .laload, .iload_n 2, .bipush (64), .irem, .lushr, .lconst 1, .land, .lconst 0, .lcmp, .ifCond .eq (7)] := by unfold am_code; rw [kd_at_102]; rfl
theorem kc_102_25 : am_code 102 25 = [.iconst (1), .goto (4)] := by unfold am_code; rw [kd_at_102]; rfl
theorem kc_102_29 : am_code 102 29 = [.iconst (0)] := by unfold am_code; rw [kd_at_102]; rfl
theorem kc_102_30 : am_code 102 30 = [.ireturn] := by unfold am_code; rw [kd_at_102]; rfl
theorem kd_at_103 : am_kd 103 = kd_103 := rfl
theorem kc_103_0 : am_code 103 0 = [.aload_n 0, .getfield 34, .iload_n 1, .iconst (2), .imul, .iload_n 2, .bipush (64), .idiv, .iadd, .dup2, .laload, .lconst 1, .iload_n 2, .bipush (64), .irem, .lshl, .lxor, .lastore, .return_] := by unfold am_code; rw [kd_at_103]; rfl
theorem kd_at_104 : am_kd 104 = kd_104 := rfl
theorem kc_104_0 : am_code 104 0 = [.aload_n 0, .getfield 28, .iload_n 1, .lload_n 2, .lastore, .aload_n 0, .getfield 31, .iload_n 1, .lload 4, .lastore, .return_] := by unfold am_code; rw [kd_at_104]; rfl
theorem kd_at_105 : am_kd 105 = kd_105 := rfl
theorem kc_105_0 : am_code 105 0 = [.iconst (0), .istore_n 3, .iconst (1), .istore 4] := by unfold am_code; rw [kd_at_105]; rfl
theorem kc_105_5 : am_code 105 5 = [.iload 4, .aload_n 0, .getfield 37, .if_icmp .gt (24)] := by unfold am_code; rw [kd_at_105]; rfl
theorem kc_105_14 : am_code 105 14 = [.lload_n 1, .aload_n 0, .getfield 31, .iload 4, .laload, .lcmp, .ifCond .gt (6)] := by unfold am_code; rw [kd_at_105]; rfl
theorem kc_105_26 : am_code 105 26 = [.iinc 3 (1)] := by unfold am_code; rw [kd_at_105]; rfl
theorem kc_105_29 : am_code 105 29 = [.iinc 4 (1), .goto (-27)] := by unfold am_code; rw [kd_at_105]; rfl
theorem kc_105_35 : am_code 105 35 = [.iload_n 3, .ireturn] := by unfold am_code; rw [kd_at_105]; rfl
theorem kd_at_106 : am_kd 106 = kd_106 := rfl
theorem kc_106_0 : am_code 106 0 = [.lload_n 2, .aload_n 0, .getfield 31, .iload_n 1, .laload, .lcmp, .ifCond .gt (12)] := by unfold am_code; rw [kd_at_106]; rfl
theorem kc_106_11 : am_code 106 11 = [.aload_n 0, .getfield 28, .iload_n 1, .laload, .goto (9)] := by unfold am_code; rw [kd_at_106]; rfl
theorem kc_106_20 : am_code 106 20 = [.aload_n 0, .getfield 22, .iload_n 1, .laload] := by unfold am_code; rw [kd_at_106]; rfl
theorem kc_106_26 : am_code 106 26 = [.lstore 4, .lload 4, .lconst 0, .lcmp, .ifCond .le (19)] := by unfold am_code; rw [kd_at_106]; rfl
theorem kc_106_35 : am_code 106 35 = [.ldc2_w 43, .aload_n 0, .getfield 18, .iload_n 1, .laload, .lmul, .lload 4, .ldiv, .goto (6)] := by unfold am_code; rw [kd_at_106]; rfl
theorem kc_106_51 : am_code 106 51 = [.ldc2_w 45] := by unfold am_code; rw [kd_at_106]; rfl
theorem kc_106_54 : am_code 106 54 = [.lreturn] := by unfold am_code; rw [kd_at_106]; rfl
theorem kd_at_107 : am_kd 107 = kd_107 := rfl
theorem kc_107_0 : am_code 107 0 = [.aload_n 0, .invokespecial 3, .aload_n 0, .sipush (2400), .newarray .int, .putfield 9, .aload_n 0, .iconst (0), .putfield 15, .aload_n 0, .lconst 0, .putfield 19, .aload_n 0, .iconst (0), .putfield 23, .return_] := by unfold am_code; rw [kd_at_107]; rfl
theorem kd_at_108 : am_kd 108 = kd_108 := rfl
theorem kc_108_0 : am_code 108 0 = [.aload_n 0, .getfield 23, .ireturn] := by unfold am_code; rw [kd_at_108]; rfl
theorem kd_at_109 : am_kd 109 = kd_109 := rfl
theorem kc_109_0 : am_code 109 0 = [.aload_n 0, .getfield 15, .ireturn] := by unfold am_code; rw [kd_at_109]; rfl
theorem kd_at_110 : am_kd 110 = kd_110 := rfl
theorem kc_110_0 : am_code 110 0 = [.aload_n 0, .getfield 19, .lreturn] := by unfold am_code; rw [kd_at_110]; rfl
theorem kd_at_111 : am_kd 111 = kd_111 := rfl
theorem kc_111_0 : am_code 111 0 = [.iload_n 1, .ifCond .lt (23)] := by unfold am_code; rw [kd_at_111]; rfl
theorem kc_111_4 : am_code 111 4 = [.iload_n 1, .aload_n 0, .getfield 15, .if_icmp .ge (15)] := by unfold am_code; rw [kd_at_111]; rfl
theorem kc_111_12 : am_code 111 12 = [.aload_n 0, .getfield 9, .iload_n 1, .iaload, .invokestatic 27, .goto (4)] := by unfold am_code; rw [kd_at_111]; rfl
theorem kc_111_24 : am_code 111 24 = [.iconst (0)] := by unfold am_code; rw [kd_at_111]; rfl
theorem kc_111_25 : am_code 111 25 = [.ireturn] := by unfold am_code; rw [kd_at_111]; rfl
theorem kd_at_112 : am_kd 112 = kd_112 := rfl
theorem kc_112_0 : am_code 112 0 = [.aload_n 0, .iconst (0), .putfield 23, .aload_n 0, .iconst (0), .putfield 15, .aload_n 0, .lconst 0, .putfield 19, .return_] := by unfold am_code; rw [kd_at_112]; rfl
theorem kd_at_113 : am_kd 113 = kd_113 := rfl
theorem kc_113_0 : am_code 113 0 = [.aload_n 0, .getfield 15, .sipush (2400), .if_icmp .ge (23)] := by unfold am_code; rw [kd_at_113]; rfl
theorem kc_113_10 : am_code 113 10 = [.aload_n 0, .getfield 9, .aload_n 0, .getfield 15, .iload_n 1, .iastore, .aload_n 0, .dup, .getfield 15, .iconst (1), .iadd, .putfield 15] := by unfold am_code; rw [kd_at_113]; rfl
theorem kc_113_30 : am_code 113 30 = [.return_] := by unfold am_code; rw [kd_at_113]; rfl
theorem kd_at_114 : am_kd 114 = kd_114 := rfl
theorem kc_114_0 : am_code 114 0 = [.aload_n 0, .iconst (1), .putfield 23, .aload_n 0, .lload_n 1, .putfield 19, .return_] := by unfold am_code; rw [kd_at_114]; rfl
theorem kd_at_115 : am_kd 115 = kd_115 := rfl
theorem kc_115_0 : am_code 115 0 = [.iload_n 1, .ifCond .lt (20)] := by unfold am_code; rw [kd_at_115]; rfl
theorem kc_115_4 : am_code 115 4 = [.iload_n 1, .aload_n 0, .getfield 15, .if_icmp .ge (12)] := by unfold am_code; rw [kd_at_115]; rfl
theorem kc_115_12 : am_code 115 12 = [.aload_n 0, .getfield 9, .iload_n 1, .iaload, .ifCond .ge (5)] := by unfold am_code; rw [kd_at_115]; rfl
theorem kc_115_21 : am_code 115 21 = [.iconst (0), .ireturn] := by unfold am_code; rw [kd_at_115]; rfl
theorem kc_115_23 : am_code 115 23 = [.aload_n 0, .getfield 9, .iload_n 1, .aload_n 0, .getfield 9, .iload_n 1, .iaload, .ineg, .iastore, .iconst (1), .ireturn] := by unfold am_code; rw [kd_at_115]; rfl
theorem kd_at_116 : am_kd 116 = kd_116 := rfl
theorem kc_116_0 : am_code 116 0 = [.aload_n 0, .getfield 15, .aload_n 1, .getfield 15, .if_icmp .eq (5)] := by unfold am_code; rw [kd_at_116]; rfl
theorem kc_116_11 : am_code 116 11 = [.iconst (0), .ireturn] := by unfold am_code; rw [kd_at_116]; rfl
theorem kc_116_13 : am_code 116 13 = [.iconst (0), .istore_n 2] := by unfold am_code; rw [kd_at_116]; rfl
theorem kc_116_15 : am_code 116 15 = [.iload_n 2, .aload_n 0, .getfield 15, .if_icmp .ge (24)] := by unfold am_code; rw [kd_at_116]; rfl
theorem kc_116_23 : am_code 116 23 = [.aload_n 0, .iload_n 2, .invokevirtual 33, .aload_n 1, .iload_n 2, .invokevirtual 33, .if_icmp .eq (5)] := by unfold am_code; rw [kd_at_116]; rfl
theorem kc_116_36 : am_code 116 36 = [.iconst (0), .ireturn] := by unfold am_code; rw [kd_at_116]; rfl
theorem kc_116_38 : am_code 116 38 = [.iinc 2 (1), .goto (-26)] := by unfold am_code; rw [kd_at_116]; rfl
theorem kc_116_44 : am_code 116 44 = [.iconst (1), .ireturn] := by unfold am_code; rw [kd_at_116]; rfl
theorem kd_at_117 : am_kd 117 = kd_117 := rfl
theorem kc_117_0 : am_code 117 0 = [.aload_n 0, .invokespecial 3, .aload_n 0, .new 9, .dup, .invokespecial 11, .putfield 12, .aload_n 0, .bipush (121), .newarray .long, .putfield 18, .aload_n 0, .bipush (121), .newarray .int, .putfield 22, .aload_n 0, .bipush (61), .newarray .long, .putfield 26, .aload_n 0, .bipush (121), .newarray .int, .putfield 29, .aload_n 0, .bipush (21), .newarray .long, .putfield 32, .aload_n 0, .iconst (0), .putfield 35, .aload_n 0, .iconst (0), .putfield 39, .aload_n 0, .iconst (0), .putfield 42, .aload_n 0, .iconst (0), .putfield 45, .aload_n 0, .aload_n 1, .putfield 48, .aload_n 0, .aload_n 2, .putfield 52, .return_] := by unfold am_code; rw [kd_at_117]; rfl
theorem kd_at_118 : am_kd 118 = kd_118 := rfl
theorem kc_118_0 : am_code 118 0 = [.aload_n 0, .iload_n 1, .putfield 35, .aload_n 0, .iload_n 2, .putfield 39, .aload_n 0, .iload_n 3, .putfield 42, .aload_n 0, .iload 4, .putfield 45, .aload_n 0, .getfield 52, .iload_n 1, .invokevirtual 56, .return_] := by unfold am_code; rw [kd_at_118]; rfl
theorem kd_at_119 : am_kd 119 = kd_119 := rfl
theorem kc_119_0 : am_code 119 0 = [.iconst (1), .istore_n 3] := by unfold am_code; rw [kd_at_119]; rfl
theorem kc_119_2 : am_code 119 2 = [.iload_n 3, .aload_n 0, .getfield 48, .invokevirtual 62, .if_icmp .gt (39)] := by unfold am_code; rw [kd_at_119]; rfl
theorem kc_119_13 : am_code 119 13 = [.aload_n 0, .getfield 26, .iload_n 3, .aload_n 0, .getfield 42, .iconst (2), .if_icmp .ne (18)] := by unfold am_code; rw [kd_at_119]; rfl
theorem kc_119_26 : am_code 119 26 = [.aload_n 0, .getfield 48, .iload_n 3, .invokevirtual 68, .ldc2_w 72, .lmul, .goto (4)] := by unfold am_code; rw [kd_at_119]; rfl
theorem kc_119_41 : am_code 119 41 = [.lconst 0] := by unfold am_code; rw [kd_at_119]; rfl
theorem kc_119_42 : am_code 119 42 = [.lastore, .iinc 3 (1), .goto (-44)] := by unfold am_code; rw [kd_at_119]; rfl
theorem kc_119_49 : am_code 119 49 = [.iconst (1), .istore_n 3] := by unfold am_code; rw [kd_at_119]; rfl
theorem kc_119_51 : am_code 119 51 = [.iload_n 3, .aload_n 0, .getfield 52, .invokevirtual 74, .if_icmp .gt (98)] := by unfold am_code; rw [kd_at_119]; rfl
theorem kc_119_62 : am_code 119 62 = [.aload_n 0, .getfield 52, .iload_n 3, .lload_n 1, .invokevirtual 75, .lstore 4, .aload_n 0, .getfield 42, .iconst (1), .if_icmp .ne (14)] := by unfold am_code; rw [kd_at_119]; rfl
theorem kc_119_81 : am_code 119 81 = [.aload_n 0, .getfield 52, .iload_n 3, .invokevirtual 79, .goto (5)] := by unfold am_code; rw [kd_at_119]; rfl
theorem kc_119_92 : am_code 119 92 = [.lload 4] := by unfold am_code; rw [kd_at_119]; rfl
theorem kc_119_94 : am_code 119 94 = [.lstore 6, .aload_n 0, .getfield 18, .iload_n 3, .lload 4, .ldc2_w 82, .lcmp, .ifCond .ne (9)] := by unfold am_code; rw [kd_at_119]; rfl
theorem kc_119_110 : am_code 119 110 = [.ldc2_w 82, .goto (11)] := by unfold am_code; rw [kd_at_119]; rfl
theorem kc_119_116 : am_code 119 116 = [.lload 6, .ldc2_w 72, .lmul, .lconst 1, .ladd] := by unfold am_code; rw [kd_at_119]; rfl
theorem kc_119_124 : am_code 119 124 = [.lastore, .aload_n 0, .getfield 22, .iload_n 3, .aload_n 0, .getfield 42, .iconst (2), .if_icmp .ne (14)] := by unfold am_code; rw [kd_at_119]; rfl
theorem kc_119_138 : am_code 119 138 = [.aload_n 0, .getfield 52, .iload_n 3, .invokevirtual 84, .goto (4)] := by unfold am_code; rw [kd_at_119]; rfl
theorem kc_119_149 : am_code 119 149 = [.iconst (0)] := by unfold am_code; rw [kd_at_119]; rfl
theorem kc_119_150 : am_code 119 150 = [.iastore, .iinc 3 (1), .goto (-103)] := by unfold am_code; rw [kd_at_119]; rfl
theorem kc_119_157 : am_code 119 157 = [.return_] := by unfold am_code; rw [kd_at_119]; rfl
theorem kd_at_120 : am_kd 120 = kd_120 := rfl
theorem kc_120_0 : am_code 120 0 = [.aload_n 1, .invokevirtual 88, .aload_n 0, .getfield 35, .aload_n 0, .getfield 39, .if_icmp .ne (10)] := by unfold am_code; rw [kd_at_120]; rfl
theorem kc_120_15 : am_code 120 15 = [.aload_n 1, .lconst 0, .invokevirtual 93, .iconst (1), .ireturn] := by unfold am_code; rw [kd_at_120]; rfl
theorem kc_120_22 : am_code 120 22 = [.aload_n 0, .invokevirtual 97, .aload_n 0, .getfield 12, .aload_n 0, .invokevirtual 100, .invokevirtual 103, .lstore_n 2, .lload_n 2, .ldc2_w 106, .lcmp, .ifCond .lt (5)] := by unfold am_code; rw [kd_at_120]; rfl
theorem kc_120_46 : am_code 120 46 = [.iconst (0), .ireturn] := by unfold am_code; rw [kd_at_120]; rfl
theorem kc_120_48 : am_code 120 48 = [.aload_n 0, .aload_n 1, .lload_n 2, .invokevirtual 108, .aload_n 1, .lload_n 2, .ldc2_w 72, .ldiv, .invokevirtual 93, .iconst (1), .ireturn] := by unfold am_code; rw [kd_at_120]; rfl
theorem kd_at_121 : am_kd 121 = kd_121 := rfl
theorem kc_121_0 : am_code 121 0 = [.aload_n 0, .invokevirtual 112, .iconst (0), .istore_n 2, .iconst (0), .istore_n 3] := by unfold am_code; rw [kd_at_121]; rfl
theorem kc_121_8 : am_code 121 8 = [.iload_n 3, .aload_n 1, .invokevirtual 115, .if_icmp .ge (51)] := by unfold am_code; rw [kd_at_121]; rfl
theorem kc_121_16 : am_code 121 16 = [.aload_n 1, .iload_n 3, .invokevirtual 118, .istore 4, .aload_n 0, .iload_n 2, .iload 4, .invokevirtual 121, .ifCond .ne (7)] := by unfold am_code; rw [kd_at_121]; rfl
theorem kc_121_33 : am_code 121 33 = [.ldc2_w 82, .lreturn] := by unfold am_code; rw [kd_at_121]; rfl
theorem kc_121_37 : am_code 121 37 = [.aload_n 0, .aload_n 0, .getfield 52, .iload_n 2, .invokevirtual 125, .invokevirtual 128, .aload_n 0, .iload 4, .invokevirtual 131, .iload 4, .istore_n 2, .iinc 3 (1), .goto (-53)] := by unfold am_code; rw [kd_at_121]; rfl
theorem kc_121_64 : am_code 121 64 = [.aload_n 0, .invokevirtual 134, .lstore_n 3, .lload_n 3, .ldc2_w 106, .lcmp, .ifCond .lt (9)] := by unfold am_code; rw [kd_at_121]; rfl
theorem kc_121_77 : am_code 121 77 = [.ldc2_w 82, .goto (8)] := by unfold am_code; rw [kd_at_121]; rfl
theorem kc_121_83 : am_code 121 83 = [.lload_n 3, .ldc2_w 72, .ldiv] := by unfold am_code; rw [kd_at_121]; rfl
theorem kc_121_88 : am_code 121 88 = [.lreturn] := by unfold am_code; rw [kd_at_121]; rfl
theorem kd_at_122 : am_kd 122 = kd_122 := rfl
theorem kc_122_0 : am_code 122 0 = [.aload_n 0, .getfield 42, .iconst (2), .if_icmp .eq (5)] := by unfold am_code; rw [kd_at_122]; rfl
theorem kc_122_8 : am_code 122 8 = [.iconst (0), .ireturn] := by unfold am_code; rw [kd_at_122]; rfl
theorem kc_122_10 : am_code 122 10 = [.aload_n 0, .invokevirtual 138, .iconst (0), .istore_n 1, .lconst 0, .lstore_n 2, .iconst (1), .istore 4] := by unfold am_code; rw [kd_at_122]; rfl
theorem kc_122_21 : am_code 122 21 = [.iload 4, .aload_n 0, .getfield 48, .invokevirtual 62, .if_icmp .gt (62)] := by unfold am_code; rw [kd_at_122]; rfl
theorem kc_122_33 : am_code 122 33 = [.aload_n 0, .getfield 48, .iload 4, .invokevirtual 141, .ifCond .eq (44)] := by unfold am_code; rw [kd_at_122]; rfl
theorem kc_122_45 : am_code 122 45 = [.aload_n 0, .iload 4, .invokevirtual 145, .ifCond .eq (35)] := by unfold am_code; rw [kd_at_122]; rfl
theorem kc_122_54 : am_code 122 54 = [.aload_n 0, .getfield 48, .iload 4, .aload_n 0, .getfield 39, .invokevirtual 148, .lstore 5, .iload_n 1, .ifCond .eq (10)] := by unfold am_code; rw [kd_at_122]; rfl
theorem kc_122_73 : am_code 122 73 = [.lload 5, .lload_n 2, .lcmp, .ifCond .ge (9)] := by unfold am_code; rw [kd_at_122]; rfl
theorem kc_122_80 : am_code 122 80 = [.iload 4, .istore_n 1, .lload 5, .lstore_n 2] := by unfold am_code; rw [kd_at_122]; rfl
theorem kc_122_86 : am_code 122 86 = [.iinc 4 (1), .goto (-68)] := by unfold am_code; rw [kd_at_122]; rfl
theorem kc_122_92 : am_code 122 92 = [.iload_n 1, .ireturn] := by unfold am_code; rw [kd_at_122]; rfl
theorem kd_at_123 : am_kd 123 = kd_123 := rfl
theorem kc_123_0 : am_code 123 0 = [.aload_n 0, .getfield 42, .iconst (2), .if_icmp .ne (8)] := by unfold am_code; rw [kd_at_123]; rfl
theorem kc_123_8 : am_code 123 8 = [.bipush (21), .goto (4)] := by unfold am_code; rw [kd_at_123]; rfl
theorem kc_123_13 : am_code 123 13 = [.iconst (1)] := by unfold am_code; rw [kd_at_123]; rfl
theorem kc_123_14 : am_code 123 14 = [.ireturn] := by unfold am_code; rw [kd_at_123]; rfl
theorem kd_at_124 : am_kd 124 = kd_124 := rfl
theorem kc_124_0 : am_code 124 0 = [.aload_n 0, .getfield 45, .ireturn] := by unfold am_code; rw [kd_at_124]; rfl
theorem kd_at_125 : am_kd 125 = kd_125 := rfl
theorem kc_125_0 : am_code 125 0 = [.aload_n 0, .getfield 18, .iload_n 2, .laload, .ldc2_w 82, .lcmp, .ifCond .eq (38)] := by unfold am_code; rw [kd_at_125]; rfl
theorem kc_125_13 : am_code 125 13 = [.aload_n 0, .getfield 52, .iload_n 2, .invokevirtual 152, .aload_n 0, .getfield 52, .iload_n 1, .invokevirtual 125, .if_icmp .ne (19)] := by unfold am_code; rw [kd_at_125]; rfl
theorem kc_125_32 : am_code 125 32 = [.aload_n 0, .getfield 52, .iload_n 1, .iload_n 2, .invokevirtual 155, .ifCond .ne (7)] := by unfold am_code; rw [kd_at_125]; rfl
theorem kc_125_44 : am_code 125 44 = [.iconst (1), .goto (4)] := by unfold am_code; rw [kd_at_125]; rfl
theorem kc_125_48 : am_code 125 48 = [.iconst (0)] := by unfold am_code; rw [kd_at_125]; rfl
theorem kc_125_49 : am_code 125 49 = [.ireturn] := by unfold am_code; rw [kd_at_125]; rfl
theorem kd_at_126 : am_kd 126 = kd_126 := rfl
theorem kc_126_0 : am_code 126 0 = [.aload_n 0, .invokevirtual 158, .istore_n 1, .aload_n 0, .getfield 52, .invokevirtual 74, .iconst (1), .iadd, .iload_n 1, .imul, .istore_n 2, .aload_n 0, .getfield 12, .iload_n 2, .invokevirtual 161, .iconst (1), .istore_n 3] := by unfold am_code; rw [kd_at_126]; rfl
theorem kc_126_27 : am_code 126 27 = [.iload_n 3, .aload_n 0, .getfield 52, .invokevirtual 74, .if_icmp .gt (53)] := by unfold am_code; rw [kd_at_126]; rfl
theorem kc_126_38 : am_code 126 38 = [.iconst (0), .istore 4] := by unfold am_code; rw [kd_at_126]; rfl
theorem kc_126_41 : am_code 126 41 = [.iload 4, .iload_n 1, .if_icmp .ge (38)] := by unfold am_code; rw [kd_at_126]; rfl
theorem kc_126_47 : am_code 126 47 = [.aload_n 0, .getfield 52, .iload_n 3, .invokevirtual 125, .aload_n 0, .getfield 39, .if_icmp .ne (23)] := by unfold am_code; rw [kd_at_126]; rfl
theorem kc_126_62 : am_code 126 62 = [.aload_n 0, .getfield 12, .iload_n 3, .iload_n 1, .imul, .iload 4, .iadd, .lconst 0, .invokevirtual 164, .iinc 4 (1), .goto (-38)] := by unfold am_code; rw [kd_at_126]; rfl
theorem kc_126_82 : am_code 126 82 = [.iinc 3 (1), .goto (-58)] := by unfold am_code; rw [kd_at_126]; rfl
theorem kc_126_88 : am_code 126 88 = [.iconst (0), .istore_n 3] := by unfold am_code; rw [kd_at_126]; rfl
theorem kc_126_90 : am_code 126 90 = [.iload_n 3, .iload_n 2, .if_icmp .ge (54)] := by unfold am_code; rw [kd_at_126]; rfl
theorem kc_126_95 : am_code 126 95 = [.aload_n 0, .getfield 12, .invokevirtual 168, .istore 4, .iload 4, .ifCond .lt (12)] := by unfold am_code; rw [kd_at_126]; rfl
theorem kc_126_109 : am_code 126 109 = [.iload 4, .aload_n 0, .invokevirtual 100, .if_icmp .ne (4)] := by unfold am_code; rw [kd_at_126]; rfl
theorem kc_126_118 : am_code 126 118 = [.return_] := by unfold am_code; rw [kd_at_126]; rfl
theorem kc_126_119 : am_code 126 119 = [.aload_n 0, .iload 4, .iload_n 1, .idiv, .iload 4, .iload_n 1, .irem, .aload_n 0, .getfield 12, .iload 4, .invokevirtual 103, .invokevirtual 171, .iinc 3 (1), .goto (-53)] := by unfold am_code; rw [kd_at_126]; rfl
theorem kc_126_146 : am_code 126 146 = [.return_] := by unfold am_code; rw [kd_at_126]; rfl
theorem kd_at_127 : am_kd 127 = kd_127 := rfl
theorem kc_127_0 : am_code 127 0 = [.aload_n 0, .invokevirtual 158, .istore 5, .aload_n 0, .getfield 26, .aload_n 0, .getfield 52, .iload_n 1, .invokevirtual 125, .laload, .lstore 6, .iload_n 2, .ifCond .le (29)] := by unfold am_code; rw [kd_at_127]; rfl
theorem kc_127_25 : am_code 127 25 = [.lload 6, .lconst 0, .lcmp, .ifCond .le (22)] := by unfold am_code; rw [kd_at_127]; rfl
theorem kc_127_32 : am_code 127 32 = [.aload_n 0, .getfield 12, .iload_n 1, .iload 5, .imul, .iload_n 2, .iadd, .iconst (1), .isub, .lload_n 3, .lload 6, .ladd, .invokevirtual 164] := by unfold am_code; rw [kd_at_127]; rfl
theorem kc_127_51 : am_code 127 51 = [.iload_n 2, .aload_n 0, .getfield 22, .iload_n 1, .iaload, .iadd, .istore 8, .iload_n 1, .ifCond .eq (10)] := by unfold am_code; rw [kd_at_127]; rfl
theorem kc_127_65 : am_code 127 65 = [.iload 8, .iload 5, .if_icmp .lt (4)] := by unfold am_code; rw [kd_at_127]; rfl
theorem kc_127_72 : am_code 127 72 = [.return_] := by unfold am_code; rw [kd_at_127]; rfl
theorem kc_127_73 : am_code 127 73 = [.iconst (0), .istore 9] := by unfold am_code; rw [kd_at_127]; rfl
theorem kc_127_76 : am_code 127 76 = [.iload 9, .aload_n 0, .getfield 52, .invokevirtual 74, .if_icmp .gt (42)] := by unfold am_code; rw [kd_at_127]; rfl
theorem kc_127_88 : am_code 127 88 = [.aload_n 0, .iload 9, .iload_n 1, .invokevirtual 121, .ifCond .eq (26)] := by unfold am_code; rw [kd_at_127]; rfl
theorem kc_127_98 : am_code 127 98 = [.aload_n 0, .getfield 12, .iload 9, .iload 5, .imul, .iload 8, .iadd, .lload_n 3, .aload_n 0, .getfield 18, .iload_n 1, .laload, .ladd, .invokevirtual 164] := by unfold am_code; rw [kd_at_127]; rfl
theorem kc_127_121 : am_code 127 121 = [.iinc 9 (1), .goto (-48)] := by unfold am_code; rw [kd_at_127]; rfl
theorem kc_127_127 : am_code 127 127 = [.return_] := by unfold am_code; rw [kd_at_127]; rfl
theorem kd_at_128 : am_kd 128 = kd_128 := rfl
theorem kc_128_0 : am_code 128 0 = [.aload_n 0, .invokevirtual 112, .iconst (0), .istore 4, .iconst (0), .istore 5] := by unfold am_code; rw [kd_at_128]; rfl
theorem kc_128_10 : am_code 128 10 = [.iload 5, .sipush (2400), .if_icmp .ge (69)] := by unfold am_code; rw [kd_at_128]; rfl
theorem kc_128_18 : am_code 128 18 = [.aload_n 0, .getfield 52, .iload 4, .invokevirtual 125, .aload_n 0, .getfield 39, .if_icmp .eq (53)] := by unfold am_code; rw [kd_at_128]; rfl
theorem kc_128_34 : am_code 128 34 = [.aload_n 0, .aload_n 0, .getfield 52, .iload 4, .invokevirtual 125, .invokevirtual 128, .aload_n 0, .iload 4, .lload_n 2, .invokevirtual 175, .istore 6, .iload 6, .ifCond .ne (4)] := by unfold am_code; rw [kd_at_128]; rfl
theorem kc_128_61 : am_code 128 61 = [.return_] := by unfold am_code; rw [kd_at_128]; rfl
theorem kc_128_62 : am_code 128 62 = [.aload_n 0, .iload 6, .invokevirtual 131, .aload_n 1, .iload 6, .invokevirtual 179, .iload 6, .istore 4, .iinc 5 (1), .goto (-71)] := by unfold am_code; rw [kd_at_128]; rfl
theorem kc_128_84 : am_code 128 84 = [.return_] := by unfold am_code; rw [kd_at_128]; rfl
theorem kd_at_129 : am_kd 129 = kd_129 := rfl
theorem kc_129_0 : am_code 129 0 = [.iconst (1), .istore 4] := by unfold am_code; rw [kd_at_129]; rfl
theorem kc_129_3 : am_code 129 3 = [.iload 4, .aload_n 0, .getfield 52, .invokevirtual 74, .if_icmp .gt (32)] := by unfold am_code; rw [kd_at_129]; rfl
theorem kc_129_15 : am_code 129 15 = [.aload_n 0, .iload_n 1, .iload 4, .invokevirtual 121, .ifCond .eq (16)] := by unfold am_code; rw [kd_at_129]; rfl
theorem kc_129_25 : am_code 129 25 = [.aload_n 0, .iload 4, .lload_n 2, .invokevirtual 182, .ifCond .eq (6)] := by unfold am_code; rw [kd_at_129]; rfl
theorem kc_129_35 : am_code 129 35 = [.iload 4, .ireturn] := by unfold am_code; rw [kd_at_129]; rfl
theorem kc_129_38 : am_code 129 38 = [.iinc 4 (1), .goto (-38)] := by unfold am_code; rw [kd_at_129]; rfl
theorem kc_129_44 : am_code 129 44 = [.iconst (0), .ireturn] := by unfold am_code; rw [kd_at_129]; rfl
theorem kd_at_130 : am_kd 130 = kd_130 := rfl
theorem kc_130_0 : am_code 130 0 = [.aload_n 0, .invokevirtual 158, .istore 4, .aload_n 0, .getfield 22, .iload_n 1, .iaload, .istore 5] := by unfold am_code; rw [kd_at_130]; rfl
theorem kc_130_14 : am_code 130 14 = [.iload 5, .iload 4, .if_icmp .ge (56)] := by unfold am_code; rw [kd_at_130]; rfl
theorem kc_130_21 : am_code 130 21 = [.aload_n 0, .getfield 12, .iload_n 1, .iload 4, .imul, .iload 5, .iadd, .aload_n 0, .getfield 22, .iload_n 1, .iaload, .isub, .invokevirtual 103, .lstore 6, .aload_n 0, .getfield 32, .iload 5, .laload, .aload_n 0, .getfield 18, .iload_n 1, .laload, .ladd, .lload 6, .ladd, .lload_n 2, .lcmp, .ifCond .ne (5)] := by unfold am_code; rw [kd_at_130]; rfl
theorem kc_130_66 : am_code 130 66 = [.iconst (1), .ireturn] := by unfold am_code; rw [kd_at_130]; rfl
theorem kc_130_68 : am_code 130 68 = [.iinc 5 (1), .goto (-57)] := by unfold am_code; rw [kd_at_130]; rfl
theorem kc_130_74 : am_code 130 74 = [.iconst (0), .ireturn] := by unfold am_code; rw [kd_at_130]; rfl
theorem kd_at_131 : am_kd 131 = kd_131 := rfl
theorem kc_131_0 : am_code 131 0 = [.iconst (0), .istore_n 1] := by unfold am_code; rw [kd_at_131]; rfl
theorem kc_131_2 : am_code 131 2 = [.iload_n 1, .bipush (21), .if_icmp .ge (18)] := by unfold am_code; rw [kd_at_131]; rfl
theorem kc_131_8 : am_code 131 8 = [.aload_n 0, .getfield 32, .iload_n 1, .ldc2_w 106, .lastore, .iinc 1 (1), .goto (-18)] := by unfold am_code; rw [kd_at_131]; rfl
theorem kc_131_23 : am_code 131 23 = [.aload_n 0, .getfield 32, .aload_n 0, .getfield 45, .lconst 0, .lastore, .return_] := by unfold am_code; rw [kd_at_131]; rfl
theorem kd_at_132 : am_kd 132 = kd_132 := rfl
theorem kc_132_0 : am_code 132 0 = [.aload_n 0, .getfield 26, .iload_n 1, .laload, .lstore_n 2, .lload_n 2, .lconst 0, .lcmp, .ifCond .ne (4)] := by unfold am_code; rw [kd_at_132]; rfl
theorem kc_132_13 : am_code 132 13 = [.return_] := by unfold am_code; rw [kd_at_132]; rfl
theorem kc_132_14 : am_code 132 14 = [.iconst (0), .istore 4] := by unfold am_code; rw [kd_at_132]; rfl
theorem kc_132_17 : am_code 132 17 = [.iload 4, .bipush (20), .if_icmp .ge (39)] := by unfold am_code; rw [kd_at_132]; rfl
theorem kc_132_24 : am_code 132 24 = [.aload_n 0, .getfield 32, .iload 4, .iconst (1), .iadd, .aload_n 0, .getfield 32, .iload 4, .iconst (1), .iadd, .laload, .aload_n 0, .getfield 32, .iload 4, .laload, .lload_n 2, .ladd, .invokestatic 186, .lastore, .iinc 4 (1), .goto (-40)] := by unfold am_code; rw [kd_at_132]; rfl
theorem kc_132_60 : am_code 132 60 = [.return_] := by unfold am_code; rw [kd_at_132]; rfl
theorem kd_at_133 : am_kd 133 = kd_133 := rfl
theorem kc_133_0 : am_code 133 0 = [.iconst (0), .istore_n 2] := by unfold am_code; rw [kd_at_133]; rfl
theorem kc_133_2 : am_code 133 2 = [.iload_n 2, .bipush (21), .if_icmp .ge (62)] := by unfold am_code; rw [kd_at_133]; rfl
theorem kc_133_8 : am_code 133 8 = [.iload_n 2, .aload_n 0, .getfield 22, .iload_n 1, .iaload, .iadd, .istore_n 3, .aload_n 0, .getfield 32, .iload_n 2, .iload_n 3, .bipush (21), .if_icmp .ge (32)] := by unfold am_code; rw [kd_at_133]; rfl
theorem kc_133_28 : am_code 133 28 = [.aload_n 0, .getfield 32, .iload_n 3, .laload, .ldc2_w 106, .lcmp, .ifCond .ge (19)] := by unfold am_code; rw [kd_at_133]; rfl
theorem kc_133_41 : am_code 133 41 = [.aload_n 0, .getfield 32, .iload_n 3, .laload, .aload_n 0, .getfield 18, .iload_n 1, .laload, .ladd, .goto (6)] := by unfold am_code; rw [kd_at_133]; rfl
theorem kc_133_57 : am_code 133 57 = [.ldc2_w 106] := by unfold am_code; rw [kd_at_133]; rfl
theorem kc_133_60 : am_code 133 60 = [.lastore, .iinc 2 (1), .goto (-62)] := by unfold am_code; rw [kd_at_133]; rfl
theorem kc_133_67 : am_code 133 67 = [.return_] := by unfold am_code; rw [kd_at_133]; rfl
theorem kd_at_134 : am_kd 134 = kd_134 := rfl
theorem kc_134_0 : am_code 134 0 = [.ldc2_w 106, .lstore_n 1, .iconst (0), .istore_n 3] := by unfold am_code; rw [kd_at_134]; rfl
theorem kc_134_6 : am_code 134 6 = [.iload_n 3, .bipush (21), .if_icmp .ge (20)] := by unfold am_code; rw [kd_at_134]; rfl
theorem kc_134_12 : am_code 134 12 = [.lload_n 1, .aload_n 0, .getfield 32, .iload_n 3, .laload, .invokestatic 186, .lstore_n 1, .iinc 3 (1), .goto (-20)] := by unfold am_code; rw [kd_at_134]; rfl
theorem kc_134_29 : am_code 134 29 = [.lload_n 1, .lreturn] := by unfold am_code; rw [kd_at_134]; rfl
theorem kd_at_135 : am_kd 135 = kd_135 := rfl
theorem kc_135_0 : am_code 135 0 = [.aload_n 0, .getfield 29, .iconst (0), .aload_n 0, .aload_n 0, .getfield 35, .aload_n 0, .getfield 45, .invokevirtual 192, .iastore, .iconst (1), .istore_n 1] := by unfold am_code; rw [kd_at_135]; rfl
theorem kc_135_20 : am_code 135 20 = [.iload_n 1, .aload_n 0, .getfield 52, .invokevirtual 74, .if_icmp .gt (16)] := by unfold am_code; rw [kd_at_135]; rfl
theorem kc_135_31 : am_code 135 31 = [.aload_n 0, .getfield 29, .iload_n 1, .iconst (-1), .iastore, .iinc 1 (1), .goto (-21)] := by unfold am_code; rw [kd_at_135]; rfl
theorem kc_135_44 : am_code 135 44 = [.iconst (1), .istore_n 1, .iconst (0), .istore_n 2] := by unfold am_code; rw [kd_at_135]; rfl
theorem kc_135_48 : am_code 135 48 = [.iload_n 1, .ifCond .eq (56)] := by unfold am_code; rw [kd_at_135]; rfl
theorem kc_135_52 : am_code 135 52 = [.iload_n 2, .sipush (2400), .if_icmp .gt (49)] := by unfold am_code; rw [kd_at_135]; rfl
theorem kc_135_59 : am_code 135 59 = [.iconst (0), .istore_n 1, .iconst (0), .istore_n 3] := by unfold am_code; rw [kd_at_135]; rfl
theorem kc_135_63 : am_code 135 63 = [.iload_n 3, .aload_n 0, .getfield 52, .invokevirtual 74, .if_icmp .gt (28)] := by unfold am_code; rw [kd_at_135]; rfl
theorem kc_135_74 : am_code 135 74 = [.aload_n 0, .getfield 29, .iload_n 3, .iaload, .ifCond .lt (13)] := by unfold am_code; rw [kd_at_135]; rfl
theorem kc_135_83 : am_code 135 83 = [.aload_n 0, .iload_n 3, .invokevirtual 196, .ifCond .eq (5)] := by unfold am_code; rw [kd_at_135]; rfl
theorem kc_135_91 : am_code 135 91 = [.iconst (1), .istore_n 1] := by unfold am_code; rw [kd_at_135]; rfl
theorem kc_135_93 : am_code 135 93 = [.iinc 3 (1), .goto (-33)] := by unfold am_code; rw [kd_at_135]; rfl
theorem kc_135_99 : am_code 135 99 = [.iinc 2 (1), .goto (-54)] := by unfold am_code; rw [kd_at_135]; rfl
theorem kc_135_105 : am_code 135 105 = [.return_] := by unfold am_code; rw [kd_at_135]; rfl
theorem kd_at_136 : am_kd 136 = kd_136 := rfl
theorem kc_136_0 : am_code 136 0 = [.iconst (0), .istore_n 2, .iconst (1), .istore_n 3] := by unfold am_code; rw [kd_at_136]; rfl
theorem kc_136_4 : am_code 136 4 = [.iload_n 3, .aload_n 0, .getfield 52, .invokevirtual 74, .if_icmp .gt (81)] := by unfold am_code; rw [kd_at_136]; rfl
theorem kc_136_15 : am_code 136 15 = [.aload_n 0, .iload_n 1, .iload_n 3, .invokevirtual 121, .ifCond .eq (66)] := by unfold am_code; rw [kd_at_136]; rfl
theorem kc_136_24 : am_code 136 24 = [.aload_n 0, .getfield 29, .iload_n 1, .iaload, .aload_n 0, .getfield 22, .iload_n 3, .iaload, .if_icmp .lt (51)] := by unfold am_code; rw [kd_at_136]; rfl
theorem kc_136_39 : am_code 136 39 = [.aload_n 0, .aload_n 0, .getfield 52, .iload_n 3, .invokevirtual 125, .aload_n 0, .getfield 29, .iload_n 1, .iaload, .aload_n 0, .getfield 22, .iload_n 3, .iaload, .isub, .invokevirtual 192, .istore 4, .iload 4, .aload_n 0, .getfield 29, .iload_n 3, .iaload, .if_icmp .le (13)] := by unfold am_code; rw [kd_at_136]; rfl
theorem kc_136_77 : am_code 136 77 = [.aload_n 0, .getfield 29, .iload_n 3, .iload 4, .iastore, .iconst (1), .istore_n 2] := by unfold am_code; rw [kd_at_136]; rfl
theorem kc_136_87 : am_code 136 87 = [.iinc 3 (1), .goto (-86)] := by unfold am_code; rw [kd_at_136]; rfl
theorem kc_136_93 : am_code 136 93 = [.iload_n 2, .ireturn] := by unfold am_code; rw [kd_at_136]; rfl
theorem kd_at_137 : am_kd 137 = kd_137 := rfl
theorem kc_137_0 : am_code 137 0 = [.aload_n 0, .getfield 48, .iload_n 1, .invokevirtual 141, .ifCond .eq (8)] := by unfold am_code; rw [kd_at_137]; rfl
theorem kc_137_11 : am_code 137 11 = [.bipush (20), .goto (4)] := by unfold am_code; rw [kd_at_137]; rfl
theorem kc_137_16 : am_code 137 16 = [.iload_n 2] := by unfold am_code; rw [kd_at_137]; rfl
theorem kc_137_17 : am_code 137 17 = [.ireturn] := by unfold am_code; rw [kd_at_137]; rfl
theorem kd_at_138 : am_kd 138 = kd_138 := rfl
theorem kc_138_0 : am_code 138 0 = [.iconst (0), .istore_n 2] := by unfold am_code; rw [kd_at_138]; rfl
theorem kc_138_2 : am_code 138 2 = [.iload_n 2, .aload_n 0, .getfield 52, .invokevirtual 74, .if_icmp .gt (32)] := by unfold am_code; rw [kd_at_138]; rfl
theorem kc_138_13 : am_code 138 13 = [.aload_n 0, .getfield 29, .iload_n 2, .iaload, .ifCond .lt (17)] := by unfold am_code; rw [kd_at_138]; rfl
theorem kc_138_22 : am_code 138 22 = [.aload_n 0, .getfield 52, .iload_n 2, .invokevirtual 125, .iload_n 1, .if_icmp .ne (5)] := by unfold am_code; rw [kd_at_138]; rfl
theorem kc_138_34 : am_code 138 34 = [.iconst (1), .ireturn] := by unfold am_code; rw [kd_at_138]; rfl
theorem kc_138_36 : am_code 138 36 = [.iinc 2 (1), .goto (-37)] := by unfold am_code; rw [kd_at_138]; rfl
theorem kc_138_42 : am_code 138 42 = [.iconst (0), .ireturn] := by unfold am_code; rw [kd_at_138]; rfl
theorem kd_at_139 : am_kd 139 = kd_139 := rfl
theorem kc_139_0 : am_code 139 0 = [.aload 8, .iconst (0), .aload_n 0, .iload_n 1, .iload_n 2, .lload_n 3, .lload 5, .iload 7, .invokevirtual 7, .i2l, .lastore, .goto (7)] := by unfold am_code; rw [kd_at_139]; rfl
theorem kc_139_19 : am_code 139 19 = [.astore 9, .iconst (1), .ireturn] := by unfold am_code; rw [kd_at_139]; rfl
theorem kc_139_23 : am_code 139 23 = [.iconst (0), .ireturn] := by unfold am_code; rw [kd_at_139]; rfl
theorem kd_at_140 : am_kd 140 = kd_140 := rfl
theorem kc_140_0 : am_code 140 0 = [.new 8, .dup, .invokespecial 15, .astore_n 1, .new 16, .dup, .invokespecial 18, .astore_n 2, .iconst (1), .newarray .long, .astore_n 3, .iconst (0), .istore 4] := by unfold am_code; rw [kd_at_140]; rfl
theorem kc_140_23 : am_code 140 23 = [.iload 4, .aload_n 0, .arraylength, .bipush (8), .isub, .if_icmp .gt (1022)] := by unfold am_code; rw [kd_at_140]; rfl
theorem kc_140_33 : am_code 140 33 = [.aload_n 0, .iload 4, .iaload, .bipush (15), .iand, .tableswitch (1006) (0) (13) #[(72), (173), (345), (410), (479), (572), (597), (611), (724), (837), (894), (931), (956), (969)]] := by unfold am_code; rw [kd_at_140]; rfl
theorem kc_140_112 : am_code 140 112 = [.aload_n 1, .aload_n 0, .iload 4, .iconst (1), .iadd, .iaload, .i2l, .bipush (32), .lshl, .aload_n 0, .iload 4, .iconst (2), .iadd, .iaload, .i2l, .ldc2_w 19, .land, .lor, .aload_n 0, .iload 4, .iconst (3), .iadd, .iaload, .i2l, .bipush (32), .lshl, .aload_n 0, .iload 4, .iconst (4), .iadd, .iaload, .i2l, .ldc2_w 19, .land, .lor, .invokevirtual 21, .aload_n 2, .aload_n 0, .iload 4, .iconst (1), .iadd, .iaload, .i2l, .bipush (32), .lshl, .aload_n 0, .iload 4, .iconst (2), .iadd, .iaload, .i2l, .ldc2_w 19, .land, .lor, .aload_n 0, .iload 4, .iconst (3), .iadd, .iaload, .i2l, .bipush (32), .lshl, .aload_n 0, .iload 4, .iconst (4), .iadd, .iaload, .i2l, .ldc2_w 19, .land, .lor, .invokevirtual 25, .if_icmp .eq (838)] := by unfold am_code; rw [kd_at_140]; rfl
theorem kc_140_211 : am_code 140 211 = [.iconst (0), .ireturn] := by unfold am_code; rw [kd_at_140]; rfl
theorem kc_140_213 : am_code 140 213 = [.aload_n 1, .aload_n 0, .iload 4, .iconst (1), .iadd, .iaload, .aload_n 0, .iload 4, .iconst (2), .iadd, .iaload, .aload_n 0, .iload 4, .iconst (3), .iadd, .iaload, .i2l, .bipush (32), .lshl, .aload_n 0, .iload 4, .iconst (4), .iadd, .iaload, .i2l, .ldc2_w 19, .land, .lor, .aload_n 0, .iload 4, .iconst (5), .iadd, .iaload, .i2l, .bipush (32), .lshl, .aload_n 0, .iload 4, .bipush (6), .iadd, .iaload, .i2l, .ldc2_w 19, .land, .lor, .aload_n 0, .iload 4, .bipush (7), .iadd, .iaload, .aload_n 3, .invokestatic 26, .istore 5, .aload_n 2, .aload_n 0, .iload 4, .iconst (1), .iadd, .iaload, .aload_n 0, .iload 4, .iconst (2), .iadd, .iaload, .aload_n 0, .iload 4, .iconst (3), .iadd, .iaload, .i2l, .bipush (32), .lshl, .aload_n 0, .iload 4, .iconst (4), .iadd, .iaload, .i2l, .ldc2_w 19, .land, .lor, .aload_n 0, .iload 4, .iconst (5), .iadd, .iaload, .i2l, .bipush (32), .lshl, .aload_n 0, .iload 4, .bipush (6), .iadd, .iaload, .i2l, .ldc2_w 19, .land, .lor, .aload_n 0, .iload 4, .bipush (7), .iadd, .iaload, .invokevirtual 31, .istore 6, .aload_n 2, .invokevirtual 32, .iload 5, .if_icmp .eq (5)] := by unfold am_code; rw [kd_at_140]; rfl
theorem kc_140_363 : am_code 140 363 = [.iconst (0), .ireturn] := by unfold am_code; rw [kd_at_140]; rfl
theorem kc_140_365 : am_code 140 365 = [.iload 5, .ifCond .ne (15)] := by unfold am_code; rw [kd_at_140]; rfl
theorem kc_140_370 : am_code 140 370 = [.aload_n 3, .iconst (0), .laload, .iload 6, .i2l, .lcmp, .ifCond .eq (5)] := by unfold am_code; rw [kd_at_140]; rfl
theorem kc_140_380 : am_code 140 380 = [.iconst (0), .ireturn] := by unfold am_code; rw [kd_at_140]; rfl
theorem kc_140_382 : am_code 140 382 = [.goto (664)] := by unfold am_code; rw [kd_at_140]; rfl
theorem kc_140_385 : am_code 140 385 = [.aload_n 1, .aload_n 0, .iload 4, .iconst (1), .iadd, .iaload, .aload_n 0, .iload 4, .iconst (2), .iadd, .iaload, .aload_n 0, .iload 4, .iconst (3), .iadd, .iaload, .ifCond .eq (7)] := by unfold am_code; rw [kd_at_140]; rfl
theorem kc_140_407 : am_code 140 407 = [.iconst (1), .goto (4)] := by unfold am_code; rw [kd_at_140]; rfl
theorem kc_140_411 : am_code 140 411 = [.iconst (0)] := by unfold am_code; rw [kd_at_140]; rfl
theorem kc_140_412 : am_code 140 412 = [.invokevirtual 36, .aload_n 2, .aload_n 0, .iload 4, .iconst (1), .iadd, .iaload, .aload_n 0, .iload 4, .iconst (2), .iadd, .iaload, .aload_n 0, .iload 4, .iconst (3), .iadd, .iaload, .ifCond .eq (7)] := by unfold am_code; rw [kd_at_140]; rfl
theorem kc_140_437 : am_code 140 437 = [.iconst (1), .goto (4)] := by unfold am_code; rw [kd_at_140]; rfl
theorem kc_140_441 : am_code 140 441 = [.iconst (0)] := by unfold am_code; rw [kd_at_140]; rfl
theorem kc_140_442 : am_code 140 442 = [.invokevirtual 40, .if_icmp .eq (601)] := by unfold am_code; rw [kd_at_140]; rfl
theorem kc_140_448 : am_code 140 448 = [.iconst (0), .ireturn] := by unfold am_code; rw [kd_at_140]; rfl
theorem kc_140_450 : am_code 140 450 = [.aload_n 1, .aload_n 0, .iload 4, .iconst (1), .iadd, .iaload, .aload_n 0, .iload 4, .iconst (2), .iadd, .iaload, .i2l, .bipush (32), .lshl, .aload_n 0, .iload 4, .iconst (3), .iadd, .iaload, .i2l, .ldc2_w 19, .land, .lor, .invokevirtual 41, .aload_n 2, .aload_n 0, .iload 4, .iconst (1), .iadd, .iaload, .aload_n 0, .iload 4, .iconst (2), .iadd, .iaload, .i2l, .bipush (32), .lshl, .aload_n 0, .iload 4, .iconst (3), .iadd, .iaload, .i2l, .ldc2_w 19, .land, .lor, .invokevirtual 45, .if_icmp .eq (532)] := by unfold am_code; rw [kd_at_140]; rfl
theorem kc_140_517 : am_code 140 517 = [.iconst (0), .ireturn] := by unfold am_code; rw [kd_at_140]; rfl
theorem kc_140_519 : am_code 140 519 = [.aload_n 1, .aload_n 0, .iload 4, .iconst (1), .iadd, .iaload, .aload_n 0, .iload 4, .iconst (2), .iadd, .iaload, .aload_n 0, .iload 4, .iconst (3), .iadd, .iaload, .aload_n 0, .iload 4, .iconst (4), .iadd, .iaload, .i2l, .bipush (32), .lshl, .aload_n 0, .iload 4, .iconst (5), .iadd, .iaload, .i2l, .ldc2_w 19, .land, .lor, .invokevirtual 46, .aload_n 2, .aload_n 0, .iload 4, .iconst (1), .iadd, .iaload, .aload_n 0, .iload 4, .iconst (2), .iadd, .iaload, .aload_n 0, .iload 4, .iconst (3), .iadd, .iaload, .aload_n 0, .iload 4, .iconst (4), .iadd, .iaload, .i2l, .bipush (32), .lshl, .aload_n 0, .iload 4, .iconst (5), .iadd, .iaload, .i2l, .ldc2_w 19, .land, .lor, .invokevirtual 50, .if_icmp .eq (439)] := by unfold am_code; rw [kd_at_140]; rfl
theorem kc_140_610 : am_code 140 610 = [.iconst (0), .ireturn] := by unfold am_code; rw [kd_at_140]; rfl
theorem kc_140_612 : am_code 140 612 = [.aload_n 1, .aload_n 0, .iload 4, .iconst (1), .iadd, .iaload, .invokevirtual 51, .aload_n 2, .aload_n 0, .iload 4, .iconst (1), .iadd, .iaload, .invokevirtual 55, .if_icmp .eq (414)] := by unfold am_code; rw [kd_at_140]; rfl
theorem kc_140_635 : am_code 140 635 = [.iconst (0), .ireturn] := by unfold am_code; rw [kd_at_140]; rfl
theorem kc_140_637 : am_code 140 637 = [.aload_n 1, .invokevirtual 56, .aload_n 2, .invokevirtual 60, .lcmp, .ifCond .eq (400)] := by unfold am_code; rw [kd_at_140]; rfl
theorem kc_140_649 : am_code 140 649 = [.iconst (0), .ireturn] := by unfold am_code; rw [kd_at_140]; rfl
theorem kc_140_651 : am_code 140 651 = [.aload_n 1, .aload_n 0, .iload 4, .iconst (1), .iadd, .iaload, .i2l, .bipush (32), .lshl, .aload_n 0, .iload 4, .iconst (2), .iadd, .iaload, .i2l, .ldc2_w 19, .land, .lor, .aload_n 0, .iload 4, .iconst (3), .iadd, .iaload, .i2l, .bipush (32), .lshl, .aload_n 0, .iload 4, .iconst (4), .iadd, .iaload, .i2l, .ldc2_w 19, .land, .lor, .aload_n 0, .iload 4, .iconst (5), .iadd, .iaload, .invokevirtual 61, .aload_n 2, .aload_n 0, .iload 4, .iconst (1), .iadd, .iaload, .i2l, .bipush (32), .lshl, .aload_n 0, .iload 4, .iconst (2), .iadd, .iaload, .i2l, .ldc2_w 19, .land, .lor, .aload_n 0, .iload 4, .iconst (3), .iadd, .iaload, .i2l, .bipush (32), .lshl, .aload_n 0, .iload 4, .iconst (4), .iadd, .iaload, .i2l, .ldc2_w 19, .land, .lor, .aload_n 0, .iload 4, .iconst (5), .iadd, .iaload, .invokevirtual 65, .if_icmp .eq (287)] := by unfold am_code; rw [kd_at_140]; rfl
theorem kc_140_762 : am_code 140 762 = [.iconst (0), .ireturn] := by unfold am_code; rw [kd_at_140]; rfl
theorem kc_140_764 : am_code 140 764 = [.aload_n 1, .aload_n 0, .iload 4, .iconst (1), .iadd, .iaload, .aload_n 0, .iload 4, .iconst (2), .iadd, .iaload, .i2l, .bipush (32), .lshl, .aload_n 0, .iload 4, .iconst (3), .iadd, .iaload, .i2l, .ldc2_w 19, .land, .lor, .aload_n 0, .iload 4, .iconst (4), .iadd, .iaload, .i2l, .bipush (32), .lshl, .aload_n 0, .iload 4, .iconst (5), .iadd, .iaload, .i2l, .ldc2_w 19, .land, .lor, .invokevirtual 66, .aload_n 2, .aload_n 0, .iload 4, .iconst (1), .iadd, .iaload, .aload_n 0, .iload 4, .iconst (2), .iadd, .iaload, .i2l, .bipush (32), .lshl, .aload_n 0, .iload 4, .iconst (3), .iadd, .iaload, .i2l, .ldc2_w 19, .land, .lor, .aload_n 0, .iload 4, .iconst (4), .iadd, .iaload, .i2l, .bipush (32), .lshl, .aload_n 0, .iload 4, .iconst (5), .iadd, .iaload, .i2l, .ldc2_w 19, .land, .lor, .invokevirtual 70, .if_icmp .eq (174)] := by unfold am_code; rw [kd_at_140]; rfl
theorem kc_140_875 : am_code 140 875 = [.iconst (0), .ireturn] := by unfold am_code; rw [kd_at_140]; rfl
theorem kc_140_877 : am_code 140 877 = [.aload_n 1, .aload_n 0, .iload 4, .iconst (1), .iadd, .iaload, .i2l, .bipush (32), .lshl, .aload_n 0, .iload 4, .iconst (2), .iadd, .iaload, .i2l, .ldc2_w 19, .land, .lor, .invokevirtual 71, .aload_n 2, .aload_n 0, .iload 4, .iconst (1), .iadd, .iaload, .i2l, .bipush (32), .lshl, .aload_n 0, .iload 4, .iconst (2), .iadd, .iaload, .i2l, .ldc2_w 19, .land, .lor, .invokevirtual 75, .if_icmp .eq (117)] := by unfold am_code; rw [kd_at_140]; rfl
theorem kc_140_932 : am_code 140 932 = [.iconst (0), .ireturn] := by unfold am_code; rw [kd_at_140]; rfl
theorem kc_140_934 : am_code 140 934 = [.aload_n 1, .aload_n 0, .iload 4, .iconst (1), .iadd, .iaload, .aload_n 0, .iload 4, .iconst (2), .iadd, .iaload, .invokevirtual 76, .aload_n 2, .aload_n 0, .iload 4, .iconst (1), .iadd, .iaload, .aload_n 0, .iload 4, .iconst (2), .iadd, .iaload, .invokevirtual 80, .if_icmp .eq (80)] := by unfold am_code; rw [kd_at_140]; rfl
theorem kc_140_969 : am_code 140 969 = [.iconst (0), .ireturn] := by unfold am_code; rw [kd_at_140]; rfl
theorem kc_140_971 : am_code 140 971 = [.aload_n 1, .aload_n 0, .iload 4, .iconst (1), .iadd, .iaload, .invokevirtual 81, .aload_n 2, .aload_n 0, .iload 4, .iconst (1), .iadd, .iaload, .invokevirtual 84, .if_icmp .eq (55)] := by unfold am_code; rw [kd_at_140]; rfl
theorem kc_140_994 : am_code 140 994 = [.iconst (0), .ireturn] := by unfold am_code; rw [kd_at_140]; rfl
theorem kc_140_996 : am_code 140 996 = [.aload_n 1, .invokevirtual 85, .aload_n 2, .invokevirtual 88, .if_icmp .eq (42)] := by unfold am_code; rw [kd_at_140]; rfl
theorem kc_140_1007 : am_code 140 1007 = [.iconst (0), .ireturn] := by unfold am_code; rw [kd_at_140]; rfl
theorem kc_140_1009 : am_code 140 1009 = [.aload_n 1, .aload_n 0, .iload 4, .iconst (1), .iadd, .iaload, .aload_n 0, .iload 4, .iconst (2), .iadd, .iaload, .invokevirtual 89, .aload_n 2, .aload_n 0, .iload 4, .iconst (1), .iadd, .iaload, .aload_n 0, .iload 4, .iconst (2), .iadd, .iaload, .invokevirtual 92, .if_icmp .eq (5)] := by unfold am_code; rw [kd_at_140]; rfl
theorem kc_140_1044 : am_code 140 1044 = [.iconst (0), .ireturn] := by unfold am_code; rw [kd_at_140]; rfl
theorem kc_140_1046 : am_code 140 1046 = [.iinc 4 (8), .goto (-1026)] := by unfold am_code; rw [kd_at_140]; rfl
theorem kc_140_1052 : am_code 140 1052 = [.iconst (1), .ireturn] := by unfold am_code; rw [kd_at_140]; rfl
