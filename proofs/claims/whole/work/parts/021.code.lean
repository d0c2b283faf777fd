/-! THE CODE IS WHAT THE TABLES HOLD: printed by wip/gen/facts.py -/
theorem ck_0 : am_chk 0 = true := by decide +kernel
theorem ck_1 : am_chk 1 = true := by decide +kernel
theorem ck_2 : am_chk 2 = true := by decide +kernel
theorem ck_3 : am_chk 3 = true := by decide +kernel
theorem ck_4 : am_chk 4 = true := by decide +kernel
theorem ck_5 : am_chk 5 = true := by decide +kernel
theorem ck_6 : am_chk 6 = true := by decide +kernel
theorem ck_7 : am_chk 7 = true := by decide +kernel
theorem ck_8 : am_chk 8 = true := by decide +kernel
theorem ck_9 : am_chk 9 = true := by decide +kernel
theorem ck_10 : am_chk 10 = true := by decide +kernel
theorem ck_11 : am_chk 11 = true := by decide +kernel
theorem ck_12 : am_chk 12 = true := by decide +kernel
theorem ck_13 : am_chk 13 = true := by decide +kernel
theorem ck_14 : am_chk 14 = true := by decide +kernel
theorem ck_15 : am_chk 15 = true := by decide +kernel
theorem ck_16 : am_chk 16 = true := by decide +kernel
theorem ck_17 : am_chk 17 = true := by decide +kernel
theorem ck_18 : am_chk 18 = true := by decide +kernel
theorem ck_19 : am_chk 19 = true := by decide +kernel
theorem ck_20 : am_chk 20 = true := by decide +kernel
theorem ck_21 : am_chk 21 = true := by decide +kernel
theorem ck_22 : am_chk 22 = true := by decide +kernel
theorem ck_23 : am_chk 23 = true := by decide +kernel
theorem ck_24 : am_chk 24 = true := by decide +kernel
theorem ck_25 : am_chk 25 = true := by decide +kernel
theorem ck_26 : am_chk 26 = true := by decide +kernel
theorem ck_27 : am_chk 27 = true := by decide +kernel
theorem ck_28 : am_chk 28 = true := by decide +kernel
theorem ck_29 : am_chk 29 = true := by decide +kernel
theorem ck_30 : am_chk 30 = true := by decide +kernel
theorem ck_31 : am_chk 31 = true := by decide +kernel
theorem ck_32 : am_chk 32 = true := by decide +kernel
theorem ck_33 : am_chk 33 = true := by decide +kernel
theorem ck_34 : am_chk 34 = true := by decide +kernel
theorem ck_35 : am_chk 35 = true := by decide +kernel
theorem ck_36 : am_chk 36 = true := by decide +kernel
theorem ck_37 : am_chk 37 = true := by decide +kernel
theorem ck_38 : am_chk 38 = true := by decide +kernel
theorem ck_39 : am_chk 39 = true := by decide +kernel
theorem ck_40 : am_chk 40 = true := by decide +kernel
theorem ck_41 : am_chk 41 = true := by decide +kernel
theorem ck_42 : am_chk 42 = true := by decide +kernel
theorem ck_43 : am_chk 43 = true := by decide +kernel
theorem ck_44 : am_chk 44 = true := by decide +kernel
theorem ck_45 : am_chk 45 = true := by decide +kernel
theorem ck_46 : am_chk 46 = true := by decide +kernel
theorem ck_47 : am_chk 47 = true := by decide +kernel
theorem ck_48 : am_chk 48 = true := by decide +kernel
theorem ck_49 : am_chk 49 = true := by decide +kernel
theorem ck_50 : am_chk 50 = true := by decide +kernel
theorem ck_51 : am_chk 51 = true := by decide +kernel
theorem ck_52 : am_chk 52 = true := by decide +kernel
theorem ck_53 : am_chk 53 = true := by decide +kernel
theorem ck_54 : am_chk 54 = true := by decide +kernel
theorem ck_55 : am_chk 55 = true := by decide +kernel
theorem ck_56 : am_chk 56 = true := by decide +kernel
theorem ck_57 : am_chk 57 = true := by decide +kernel
theorem ck_58 : am_chk 58 = true := by decide +kernel
theorem ck_59 : am_chk 59 = true := by decide +kernel
theorem ck_60 : am_chk 60 = true := by decide +kernel
theorem ck_61 : am_chk 61 = true := by decide +kernel
theorem ck_62 : am_chk 62 = true := by decide +kernel
theorem ck_63 : am_chk 63 = true := by decide +kernel
theorem ck_64 : am_chk 64 = true := by decide +kernel
theorem ck_65 : am_chk 65 = true := by decide +kernel
theorem ck_66 : am_chk 66 = true := by decide +kernel
theorem ck_67 : am_chk 67 = true := by decide +kernel
theorem ck_68 : am_chk 68 = true := by decide +kernel
theorem ck_69 : am_chk 69 = true := by decide +kernel
theorem ck_70 : am_chk 70 = true := by decide +kernel
theorem ck_71 : am_chk 71 = true := by decide +kernel
theorem ck_72 : am_chk 72 = true := by decide +kernel
theorem ck_73 : am_chk 73 = true := by decide +kernel
theorem ck_74 : am_chk 74 = true := by decide +kernel
theorem ck_75 : am_chk 75 = true := by decide +kernel
theorem ck_76 : am_chk 76 = true := by decide +kernel
theorem ck_77 : am_chk 77 = true := by decide +kernel
theorem ck_78 : am_chk 78 = true := by decide +kernel
theorem ck_79 : am_chk 79 = true := by decide +kernel
theorem ck_80 : am_chk 80 = true := by decide +kernel
theorem ck_81 : am_chk 81 = true := by decide +kernel
theorem ck_82 : am_chk 82 = true := by decide +kernel
theorem ck_83 : am_chk 83 = true := by decide +kernel
theorem ck_84 : am_chk 84 = true := by decide +kernel
theorem ck_85 : am_chk 85 = true := by decide +kernel
theorem ck_86 : am_chk 86 = true := by decide +kernel
theorem ck_87 : am_chk 87 = true := by decide +kernel
theorem ck_88 : am_chk 88 = true := by decide +kernel
theorem ck_89 : am_chk 89 = true := by decide +kernel
theorem ck_90 : am_chk 90 = true := by decide +kernel
theorem ck_91 : am_chk 91 = true := by decide +kernel
theorem ck_92 : am_chk 92 = true := by decide +kernel
theorem ck_93 : am_chk 93 = true := by decide +kernel
theorem ck_94 : am_chk 94 = true := by decide +kernel
theorem ck_95 : am_chk 95 = true := by decide +kernel
theorem ck_96 : am_chk 96 = true := by decide +kernel
theorem ck_97 : am_chk 97 = true := by decide +kernel
theorem ck_98 : am_chk 98 = true := by decide +kernel
theorem ck_99 : am_chk 99 = true := by decide +kernel
theorem ck_100 : am_chk 100 = true := by decide +kernel
theorem ck_101 : am_chk 101 = true := by decide +kernel
theorem ck_102 : am_chk 102 = true := by decide +kernel
theorem ck_103 : am_chk 103 = true := by decide +kernel
theorem ck_104 : am_chk 104 = true := by decide +kernel
theorem ck_105 : am_chk 105 = true := by decide +kernel
theorem ck_106 : am_chk 106 = true := by decide +kernel
theorem ck_107 : am_chk 107 = true := by decide +kernel
theorem ck_108 : am_chk 108 = true := by decide +kernel
theorem ck_109 : am_chk 109 = true := by decide +kernel
theorem ck_110 : am_chk 110 = true := by decide +kernel
theorem ck_111 : am_chk 111 = true := by decide +kernel
theorem ck_112 : am_chk 112 = true := by decide +kernel
theorem ck_113 : am_chk 113 = true := by decide +kernel
theorem ck_114 : am_chk 114 = true := by decide +kernel
theorem ck_115 : am_chk 115 = true := by decide +kernel
theorem ck_116 : am_chk 116 = true := by decide +kernel
theorem ck_117 : am_chk 117 = true := by decide +kernel
theorem ck_118 : am_chk 118 = true := by decide +kernel
theorem ck_119 : am_chk 119 = true := by decide +kernel
theorem ck_120 : am_chk 120 = true := by decide +kernel
theorem ck_121 : am_chk 121 = true := by decide +kernel
theorem ck_122 : am_chk 122 = true := by decide +kernel
theorem ck_123 : am_chk 123 = true := by decide +kernel
theorem ck_124 : am_chk 124 = true := by decide +kernel
theorem ck_125 : am_chk 125 = true := by decide +kernel
theorem ck_126 : am_chk 126 = true := by decide +kernel
theorem ck_127 : am_chk 127 = true := by decide +kernel
theorem ck_128 : am_chk 128 = true := by decide +kernel
theorem ck_129 : am_chk 129 = true := by decide +kernel
theorem ck_130 : am_chk 130 = true := by decide +kernel
theorem ck_131 : am_chk 131 = true := by decide +kernel
theorem ck_132 : am_chk 132 = true := by decide +kernel
theorem ck_133 : am_chk 133 = true := by decide +kernel
theorem ck_134 : am_chk 134 = true := by decide +kernel
theorem ck_135 : am_chk 135 = true := by decide +kernel
theorem ck_136 : am_chk 136 = true := by decide +kernel
theorem ck_137 : am_chk 137 = true := by decide +kernel
theorem ck_138 : am_chk 138 = true := by decide +kernel
theorem ck_139 : am_chk 139 = true := by decide +kernel
theorem ck_all : ∀ k, k < am_lst → am_chk k = true := by
  intro k hk
  match k, hk with
  | 0, _ => exact ck_0
  | 1, _ => exact ck_1
  | 2, _ => exact ck_2
  | 3, _ => exact ck_3
  | 4, _ => exact ck_4
  | 5, _ => exact ck_5
  | 6, _ => exact ck_6
  | 7, _ => exact ck_7
  | 8, _ => exact ck_8
  | 9, _ => exact ck_9
  | 10, _ => exact ck_10
  | 11, _ => exact ck_11
  | 12, _ => exact ck_12
  | 13, _ => exact ck_13
  | 14, _ => exact ck_14
  | 15, _ => exact ck_15
  | 16, _ => exact ck_16
  | 17, _ => exact ck_17
  | 18, _ => exact ck_18
  | 19, _ => exact ck_19
  | 20, _ => exact ck_20
  | 21, _ => exact ck_21
  | 22, _ => exact ck_22
  | 23, _ => exact ck_23
  | 24, _ => exact ck_24
  | 25, _ => exact ck_25
  | 26, _ => exact ck_26
  | 27, _ => exact ck_27
  | 28, _ => exact ck_28
  | 29, _ => exact ck_29
  | 30, _ => exact ck_30
  | 31, _ => exact ck_31
  | 32, _ => exact ck_32
  | 33, _ => exact ck_33
  | 34, _ => exact ck_34
  | 35, _ => exact ck_35
  | 36, _ => exact ck_36
  | 37, _ => exact ck_37
  | 38, _ => exact ck_38
  | 39, _ => exact ck_39
  | 40, _ => exact ck_40
  | 41, _ => exact ck_41
  | 42, _ => exact ck_42
  | 43, _ => exact ck_43
  | 44, _ => exact ck_44
  | 45, _ => exact ck_45
  | 46, _ => exact ck_46
  | 47, _ => exact ck_47
  | 48, _ => exact ck_48
  | 49, _ => exact ck_49
  | 50, _ => exact ck_50
  | 51, _ => exact ck_51
  | 52, _ => exact ck_52
  | 53, _ => exact ck_53
  | 54, _ => exact ck_54
  | 55, _ => exact ck_55
  | 56, _ => exact ck_56
  | 57, _ => exact ck_57
  | 58, _ => exact ck_58
  | 59, _ => exact ck_59
  | 60, _ => exact ck_60
  | 61, _ => exact ck_61
  | 62, _ => exact ck_62
  | 63, _ => exact ck_63
  | 64, _ => exact ck_64
  | 65, _ => exact ck_65
  | 66, _ => exact ck_66
  | 67, _ => exact ck_67
  | 68, _ => exact ck_68
  | 69, _ => exact ck_69
  | 70, _ => exact ck_70
  | 71, _ => exact ck_71
  | 72, _ => exact ck_72
  | 73, _ => exact ck_73
  | 74, _ => exact ck_74
  | 75, _ => exact ck_75
  | 76, _ => exact ck_76
  | 77, _ => exact ck_77
  | 78, _ => exact ck_78
  | 79, _ => exact ck_79
  | 80, _ => exact ck_80
  | 81, _ => exact ck_81
  | 82, _ => exact ck_82
  | 83, _ => exact ck_83
  | 84, _ => exact ck_84
  | 85, _ => exact ck_85
  | 86, _ => exact ck_86
  | 87, _ => exact ck_87
  | 88, _ => exact ck_88
  | 89, _ => exact ck_89
  | 90, _ => exact ck_90
  | 91, _ => exact ck_91
  | 92, _ => exact ck_92
  | 93, _ => exact ck_93
  | 94, _ => exact ck_94
  | 95, _ => exact ck_95
  | 96, _ => exact ck_96
  | 97, _ => exact ck_97
  | 98, _ => exact ck_98
  | 99, _ => exact ck_99
  | 100, _ => exact ck_100
  | 101, _ => exact ck_101
  | 102, _ => exact ck_102
  | 103, _ => exact ck_103
  | 104, _ => exact ck_104
  | 105, _ => exact ck_105
  | 106, _ => exact ck_106
  | 107, _ => exact ck_107
  | 108, _ => exact ck_108
  | 109, _ => exact ck_109
  | 110, _ => exact ck_110
  | 111, _ => exact ck_111
  | 112, _ => exact ck_112
  | 113, _ => exact ck_113
  | 114, _ => exact ck_114
  | 115, _ => exact ck_115
  | 116, _ => exact ck_116
  | 117, _ => exact ck_117
  | 118, _ => exact ck_118
  | 119, _ => exact ck_119
  | 120, _ => exact ck_120
  | 121, _ => exact ck_121
  | 122, _ => exact ck_122
  | 123, _ => exact ck_123
  | 124, _ => exact ck_124
  | 125, _ => exact ck_125
  | 126, _ => exact ck_126
  | 127, _ => exact ck_127
  | 128, _ => exact ck_128
  | 129, _ => exact ck_129
  | 130, _ => exact ck_130
  | 131, _ => exact ck_131
  | 132, _ => exact ck_132
  | 133, _ => exact ck_133
  | 134, _ => exact ck_134
  | 135, _ => exact ck_135
  | 136, _ => exact ck_136
  | 137, _ => exact ck_137
  | 138, _ => exact ck_138
  | k + 139, h => exact absurd h (by have : am_lst = 139 := rfl; omega)
