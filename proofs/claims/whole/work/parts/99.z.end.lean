/-! the labels' checks, all together -/
theorem k_lb {k t : Nat} (h : k_all k = true) (hne : m_bl k t ≠ []) : k_fit k (n_lb k t) (m_bl k t) = true := by
  have hl : t < (m_prog.getD k []).length := by
    refine Nat.not_le.mp fun q => hne ?_
    unfold m_bl
    rw [List.getD_eq_getElem?_getD, List.getElem?_eq_none q]
    rfl
  exact List.all_eq_true.mp h t (List.mem_range.mpr hl)
theorem k_up {P : Nat → Prop} {n : Nat} (h : ∀ k, k < n → P k) (hn : P n) : ∀ k, k < n + 1 → P k := fun k hk => by
  by_cases e : k = n
  · subst e; exact hn
  · exact h k (by omega)
theorem k_u0 : ∀ k, k < 0 → k_all k = true := fun k h => absurd h (Nat.not_lt_zero k)
theorem k_v0 : ∀ k, k < 0 → k_fit 197 (n_lb 197 k) (m_bl 197 k) = true := fun k h => absurd h (Nat.not_lt_zero k)
theorem k_u1 : ∀ k, k < 1 → k_all k = true := k_up k_u0 k_all_0
theorem k_u2 : ∀ k, k < 2 → k_all k = true := k_up k_u1 k_all_1
theorem k_u3 : ∀ k, k < 3 → k_all k = true := k_up k_u2 k_all_2
theorem k_u4 : ∀ k, k < 4 → k_all k = true := k_up k_u3 k_all_3
theorem k_u5 : ∀ k, k < 5 → k_all k = true := k_up k_u4 k_all_4
theorem k_u6 : ∀ k, k < 6 → k_all k = true := k_up k_u5 k_all_5
theorem k_u7 : ∀ k, k < 7 → k_all k = true := k_up k_u6 k_all_6
theorem k_u8 : ∀ k, k < 8 → k_all k = true := k_up k_u7 k_all_7
theorem k_u9 : ∀ k, k < 9 → k_all k = true := k_up k_u8 k_all_8
theorem k_u10 : ∀ k, k < 10 → k_all k = true := k_up k_u9 k_all_9
theorem k_u11 : ∀ k, k < 11 → k_all k = true := k_up k_u10 k_all_10
theorem k_u12 : ∀ k, k < 12 → k_all k = true := k_up k_u11 k_all_11
theorem k_u13 : ∀ k, k < 13 → k_all k = true := k_up k_u12 k_all_12
theorem k_u14 : ∀ k, k < 14 → k_all k = true := k_up k_u13 k_all_13
theorem k_u15 : ∀ k, k < 15 → k_all k = true := k_up k_u14 k_all_14
theorem k_u16 : ∀ k, k < 16 → k_all k = true := k_up k_u15 k_all_15
theorem k_u17 : ∀ k, k < 17 → k_all k = true := k_up k_u16 k_all_16
theorem k_u18 : ∀ k, k < 18 → k_all k = true := k_up k_u17 k_all_17
theorem k_u19 : ∀ k, k < 19 → k_all k = true := k_up k_u18 k_all_18
theorem k_u20 : ∀ k, k < 20 → k_all k = true := k_up k_u19 k_all_19
theorem k_u21 : ∀ k, k < 21 → k_all k = true := k_up k_u20 k_all_20
theorem k_u22 : ∀ k, k < 22 → k_all k = true := k_up k_u21 k_all_21
theorem k_u23 : ∀ k, k < 23 → k_all k = true := k_up k_u22 k_all_22
theorem k_u24 : ∀ k, k < 24 → k_all k = true := k_up k_u23 k_all_23
theorem k_u25 : ∀ k, k < 25 → k_all k = true := k_up k_u24 k_all_24
theorem k_u26 : ∀ k, k < 26 → k_all k = true := k_up k_u25 k_all_25
theorem k_u27 : ∀ k, k < 27 → k_all k = true := k_up k_u26 k_all_26
theorem k_u28 : ∀ k, k < 28 → k_all k = true := k_up k_u27 k_all_27
theorem k_u29 : ∀ k, k < 29 → k_all k = true := k_up k_u28 k_all_28
theorem k_u30 : ∀ k, k < 30 → k_all k = true := k_up k_u29 k_all_29
theorem k_u31 : ∀ k, k < 31 → k_all k = true := k_up k_u30 k_all_30
theorem k_u32 : ∀ k, k < 32 → k_all k = true := k_up k_u31 k_all_31
theorem k_u33 : ∀ k, k < 33 → k_all k = true := k_up k_u32 k_all_32
theorem k_u34 : ∀ k, k < 34 → k_all k = true := k_up k_u33 k_all_33
theorem k_u35 : ∀ k, k < 35 → k_all k = true := k_up k_u34 k_all_34
theorem k_u36 : ∀ k, k < 36 → k_all k = true := k_up k_u35 k_all_35
theorem k_u37 : ∀ k, k < 37 → k_all k = true := k_up k_u36 k_all_36
theorem k_u38 : ∀ k, k < 38 → k_all k = true := k_up k_u37 k_all_37
theorem k_u39 : ∀ k, k < 39 → k_all k = true := k_up k_u38 k_all_38
theorem k_u40 : ∀ k, k < 40 → k_all k = true := k_up k_u39 k_all_39
theorem k_u41 : ∀ k, k < 41 → k_all k = true := k_up k_u40 k_all_40
theorem k_u42 : ∀ k, k < 42 → k_all k = true := k_up k_u41 k_all_41
theorem k_u43 : ∀ k, k < 43 → k_all k = true := k_up k_u42 k_all_42
theorem k_u44 : ∀ k, k < 44 → k_all k = true := k_up k_u43 k_all_43
theorem k_u45 : ∀ k, k < 45 → k_all k = true := k_up k_u44 k_all_44
theorem k_u46 : ∀ k, k < 46 → k_all k = true := k_up k_u45 k_all_45
theorem k_u47 : ∀ k, k < 47 → k_all k = true := k_up k_u46 k_all_46
theorem k_u48 : ∀ k, k < 48 → k_all k = true := k_up k_u47 k_all_47
theorem k_u49 : ∀ k, k < 49 → k_all k = true := k_up k_u48 k_all_48
theorem k_u50 : ∀ k, k < 50 → k_all k = true := k_up k_u49 k_all_49
theorem k_u51 : ∀ k, k < 51 → k_all k = true := k_up k_u50 k_all_50
theorem k_u52 : ∀ k, k < 52 → k_all k = true := k_up k_u51 k_all_51
theorem k_u53 : ∀ k, k < 53 → k_all k = true := k_up k_u52 k_all_52
theorem k_u54 : ∀ k, k < 54 → k_all k = true := k_up k_u53 k_all_53
theorem k_u55 : ∀ k, k < 55 → k_all k = true := k_up k_u54 k_all_54
theorem k_u56 : ∀ k, k < 56 → k_all k = true := k_up k_u55 k_all_55
theorem k_u57 : ∀ k, k < 57 → k_all k = true := k_up k_u56 k_all_56
theorem k_u58 : ∀ k, k < 58 → k_all k = true := k_up k_u57 k_all_57
theorem k_u59 : ∀ k, k < 59 → k_all k = true := k_up k_u58 k_all_58
theorem k_u60 : ∀ k, k < 60 → k_all k = true := k_up k_u59 k_all_59
theorem k_u61 : ∀ k, k < 61 → k_all k = true := k_up k_u60 k_all_60
theorem k_u62 : ∀ k, k < 62 → k_all k = true := k_up k_u61 k_all_61
theorem k_u63 : ∀ k, k < 63 → k_all k = true := k_up k_u62 k_all_62
theorem k_u64 : ∀ k, k < 64 → k_all k = true := k_up k_u63 k_all_63
theorem k_u65 : ∀ k, k < 65 → k_all k = true := k_up k_u64 k_all_64
theorem k_u66 : ∀ k, k < 66 → k_all k = true := k_up k_u65 k_all_65
theorem k_u67 : ∀ k, k < 67 → k_all k = true := k_up k_u66 k_all_66
theorem k_u68 : ∀ k, k < 68 → k_all k = true := k_up k_u67 k_all_67
theorem k_u69 : ∀ k, k < 69 → k_all k = true := k_up k_u68 k_all_68
theorem k_u70 : ∀ k, k < 70 → k_all k = true := k_up k_u69 k_all_69
theorem k_u71 : ∀ k, k < 71 → k_all k = true := k_up k_u70 k_all_70
theorem k_u72 : ∀ k, k < 72 → k_all k = true := k_up k_u71 k_all_71
theorem k_u73 : ∀ k, k < 73 → k_all k = true := k_up k_u72 k_all_72
theorem k_u74 : ∀ k, k < 74 → k_all k = true := k_up k_u73 k_all_73
theorem k_u75 : ∀ k, k < 75 → k_all k = true := k_up k_u74 k_all_74
theorem k_u76 : ∀ k, k < 76 → k_all k = true := k_up k_u75 k_all_75
theorem k_u77 : ∀ k, k < 77 → k_all k = true := k_up k_u76 k_all_76
theorem k_u78 : ∀ k, k < 78 → k_all k = true := k_up k_u77 k_all_77
theorem k_u79 : ∀ k, k < 79 → k_all k = true := k_up k_u78 k_all_78
theorem k_u80 : ∀ k, k < 80 → k_all k = true := k_up k_u79 k_all_79
theorem k_u81 : ∀ k, k < 81 → k_all k = true := k_up k_u80 k_all_80
theorem k_u82 : ∀ k, k < 82 → k_all k = true := k_up k_u81 k_all_81
theorem k_u83 : ∀ k, k < 83 → k_all k = true := k_up k_u82 k_all_82
theorem k_u84 : ∀ k, k < 84 → k_all k = true := k_up k_u83 k_all_83
theorem k_u85 : ∀ k, k < 85 → k_all k = true := k_up k_u84 k_all_84
theorem k_u86 : ∀ k, k < 86 → k_all k = true := k_up k_u85 k_all_85
theorem k_u87 : ∀ k, k < 87 → k_all k = true := k_up k_u86 k_all_86
theorem k_u88 : ∀ k, k < 88 → k_all k = true := k_up k_u87 k_all_87
theorem k_u89 : ∀ k, k < 89 → k_all k = true := k_up k_u88 k_all_88
theorem k_u90 : ∀ k, k < 90 → k_all k = true := k_up k_u89 k_all_89
theorem k_u91 : ∀ k, k < 91 → k_all k = true := k_up k_u90 k_all_90
theorem k_u92 : ∀ k, k < 92 → k_all k = true := k_up k_u91 k_all_91
theorem k_u93 : ∀ k, k < 93 → k_all k = true := k_up k_u92 k_all_92
theorem k_u94 : ∀ k, k < 94 → k_all k = true := k_up k_u93 k_all_93
theorem k_u95 : ∀ k, k < 95 → k_all k = true := k_up k_u94 k_all_94
theorem k_u96 : ∀ k, k < 96 → k_all k = true := k_up k_u95 k_all_95
theorem k_u97 : ∀ k, k < 97 → k_all k = true := k_up k_u96 k_all_96
theorem k_u98 : ∀ k, k < 98 → k_all k = true := k_up k_u97 k_all_97
theorem k_u99 : ∀ k, k < 99 → k_all k = true := k_up k_u98 k_all_98
theorem k_u100 : ∀ k, k < 100 → k_all k = true := k_up k_u99 k_all_99
theorem k_u101 : ∀ k, k < 101 → k_all k = true := k_up k_u100 k_all_100
theorem k_u102 : ∀ k, k < 102 → k_all k = true := k_up k_u101 k_all_101
theorem k_u103 : ∀ k, k < 103 → k_all k = true := k_up k_u102 k_all_102
theorem k_u104 : ∀ k, k < 104 → k_all k = true := k_up k_u103 k_all_103
theorem k_u105 : ∀ k, k < 105 → k_all k = true := k_up k_u104 k_all_104
theorem k_u106 : ∀ k, k < 106 → k_all k = true := k_up k_u105 k_all_105
theorem k_u107 : ∀ k, k < 107 → k_all k = true := k_up k_u106 k_all_106
theorem k_u108 : ∀ k, k < 108 → k_all k = true := k_up k_u107 k_all_107
theorem k_u109 : ∀ k, k < 109 → k_all k = true := k_up k_u108 k_all_108
theorem k_u110 : ∀ k, k < 110 → k_all k = true := k_up k_u109 k_all_109
theorem k_u111 : ∀ k, k < 111 → k_all k = true := k_up k_u110 k_all_110
theorem k_u112 : ∀ k, k < 112 → k_all k = true := k_up k_u111 k_all_111
theorem k_u113 : ∀ k, k < 113 → k_all k = true := k_up k_u112 k_all_112
theorem k_u114 : ∀ k, k < 114 → k_all k = true := k_up k_u113 k_all_113
theorem k_u115 : ∀ k, k < 115 → k_all k = true := k_up k_u114 k_all_114
theorem k_u116 : ∀ k, k < 116 → k_all k = true := k_up k_u115 k_all_115
theorem k_u117 : ∀ k, k < 117 → k_all k = true := k_up k_u116 k_all_116
theorem k_u118 : ∀ k, k < 118 → k_all k = true := k_up k_u117 k_all_117
theorem k_u119 : ∀ k, k < 119 → k_all k = true := k_up k_u118 k_all_118
theorem k_u120 : ∀ k, k < 120 → k_all k = true := k_up k_u119 k_all_119
theorem k_u121 : ∀ k, k < 121 → k_all k = true := k_up k_u120 k_all_120
theorem k_u122 : ∀ k, k < 122 → k_all k = true := k_up k_u121 k_all_121
theorem k_u123 : ∀ k, k < 123 → k_all k = true := k_up k_u122 k_all_122
theorem k_u124 : ∀ k, k < 124 → k_all k = true := k_up k_u123 k_all_123
theorem k_u125 : ∀ k, k < 125 → k_all k = true := k_up k_u124 k_all_124
theorem k_u126 : ∀ k, k < 126 → k_all k = true := k_up k_u125 k_all_125
theorem k_u127 : ∀ k, k < 127 → k_all k = true := k_up k_u126 k_all_126
theorem k_u128 : ∀ k, k < 128 → k_all k = true := k_up k_u127 k_all_127
theorem k_u129 : ∀ k, k < 129 → k_all k = true := k_up k_u128 k_all_128
theorem k_u130 : ∀ k, k < 130 → k_all k = true := k_up k_u129 k_all_129
theorem k_u131 : ∀ k, k < 131 → k_all k = true := k_up k_u130 k_all_130
theorem k_u132 : ∀ k, k < 132 → k_all k = true := k_up k_u131 k_all_131
theorem k_u133 : ∀ k, k < 133 → k_all k = true := k_up k_u132 k_all_132
theorem k_u134 : ∀ k, k < 134 → k_all k = true := k_up k_u133 k_all_133
theorem k_u135 : ∀ k, k < 135 → k_all k = true := k_up k_u134 k_all_134
theorem k_u136 : ∀ k, k < 136 → k_all k = true := k_up k_u135 k_all_135
theorem k_u137 : ∀ k, k < 137 → k_all k = true := k_up k_u136 k_all_136
theorem k_u138 : ∀ k, k < 138 → k_all k = true := k_up k_u137 k_all_137
theorem k_u139 : ∀ k, k < 139 → k_all k = true := k_up k_u138 k_all_138
theorem k_u140 : ∀ k, k < 140 → k_all k = true := k_up k_u139 k_all_139
theorem k_u141 : ∀ k, k < 141 → k_all k = true := k_up k_u140 k_all_140
theorem k_u142 : ∀ k, k < 142 → k_all k = true := k_up k_u141 k_all_141
theorem k_u143 : ∀ k, k < 143 → k_all k = true := k_up k_u142 k_all_142
theorem k_u144 : ∀ k, k < 144 → k_all k = true := k_up k_u143 k_all_143
theorem k_u145 : ∀ k, k < 145 → k_all k = true := k_up k_u144 k_all_144
theorem k_u146 : ∀ k, k < 146 → k_all k = true := k_up k_u145 k_all_145
theorem k_u147 : ∀ k, k < 147 → k_all k = true := k_up k_u146 k_all_146
theorem k_u148 : ∀ k, k < 148 → k_all k = true := k_up k_u147 k_all_147
theorem k_u149 : ∀ k, k < 149 → k_all k = true := k_up k_u148 k_all_148
theorem k_u150 : ∀ k, k < 150 → k_all k = true := k_up k_u149 k_all_149
theorem k_u151 : ∀ k, k < 151 → k_all k = true := k_up k_u150 k_all_150
theorem k_u152 : ∀ k, k < 152 → k_all k = true := k_up k_u151 k_all_151
theorem k_u153 : ∀ k, k < 153 → k_all k = true := k_up k_u152 k_all_152
theorem k_u154 : ∀ k, k < 154 → k_all k = true := k_up k_u153 k_all_153
theorem k_u155 : ∀ k, k < 155 → k_all k = true := k_up k_u154 k_all_154
theorem k_u156 : ∀ k, k < 156 → k_all k = true := k_up k_u155 k_all_155
theorem k_u157 : ∀ k, k < 157 → k_all k = true := k_up k_u156 k_all_156
theorem k_u158 : ∀ k, k < 158 → k_all k = true := k_up k_u157 k_all_157
theorem k_u159 : ∀ k, k < 159 → k_all k = true := k_up k_u158 k_all_158
theorem k_u160 : ∀ k, k < 160 → k_all k = true := k_up k_u159 k_all_159
theorem k_u161 : ∀ k, k < 161 → k_all k = true := k_up k_u160 k_all_160
theorem k_u162 : ∀ k, k < 162 → k_all k = true := k_up k_u161 k_all_161
theorem k_u163 : ∀ k, k < 163 → k_all k = true := k_up k_u162 k_all_162
theorem k_u164 : ∀ k, k < 164 → k_all k = true := k_up k_u163 k_all_163
theorem k_u165 : ∀ k, k < 165 → k_all k = true := k_up k_u164 k_all_164
theorem k_u166 : ∀ k, k < 166 → k_all k = true := k_up k_u165 k_all_165
theorem k_u167 : ∀ k, k < 167 → k_all k = true := k_up k_u166 k_all_166
theorem k_u168 : ∀ k, k < 168 → k_all k = true := k_up k_u167 k_all_167
theorem k_u169 : ∀ k, k < 169 → k_all k = true := k_up k_u168 k_all_168
theorem k_u170 : ∀ k, k < 170 → k_all k = true := k_up k_u169 k_all_169
theorem k_u171 : ∀ k, k < 171 → k_all k = true := k_up k_u170 k_all_170
theorem k_u172 : ∀ k, k < 172 → k_all k = true := k_up k_u171 k_all_171
theorem k_u173 : ∀ k, k < 173 → k_all k = true := k_up k_u172 k_all_172
theorem k_u174 : ∀ k, k < 174 → k_all k = true := k_up k_u173 k_all_173
theorem k_u175 : ∀ k, k < 175 → k_all k = true := k_up k_u174 k_all_174
theorem k_u176 : ∀ k, k < 176 → k_all k = true := k_up k_u175 k_all_175
theorem k_u177 : ∀ k, k < 177 → k_all k = true := k_up k_u176 k_all_176
theorem k_u178 : ∀ k, k < 178 → k_all k = true := k_up k_u177 k_all_177
theorem k_u179 : ∀ k, k < 179 → k_all k = true := k_up k_u178 k_all_178
theorem k_u180 : ∀ k, k < 180 → k_all k = true := k_up k_u179 k_all_179
theorem k_u181 : ∀ k, k < 181 → k_all k = true := k_up k_u180 k_all_180
theorem k_u182 : ∀ k, k < 182 → k_all k = true := k_up k_u181 k_all_181
theorem k_u183 : ∀ k, k < 183 → k_all k = true := k_up k_u182 k_all_182
theorem k_u184 : ∀ k, k < 184 → k_all k = true := k_up k_u183 k_all_183
theorem k_u185 : ∀ k, k < 185 → k_all k = true := k_up k_u184 k_all_184
theorem k_u186 : ∀ k, k < 186 → k_all k = true := k_up k_u185 k_all_185
theorem k_u187 : ∀ k, k < 187 → k_all k = true := k_up k_u186 k_all_186
theorem k_u188 : ∀ k, k < 188 → k_all k = true := k_up k_u187 k_all_187
theorem k_u189 : ∀ k, k < 189 → k_all k = true := k_up k_u188 k_all_188
theorem k_u190 : ∀ k, k < 190 → k_all k = true := k_up k_u189 k_all_189
theorem k_u191 : ∀ k, k < 191 → k_all k = true := k_up k_u190 k_all_190
theorem k_u192 : ∀ k, k < 192 → k_all k = true := k_up k_u191 k_all_191
theorem k_u193 : ∀ k, k < 193 → k_all k = true := k_up k_u192 k_all_192
theorem k_u194 : ∀ k, k < 194 → k_all k = true := k_up k_u193 k_all_193
theorem k_u195 : ∀ k, k < 195 → k_all k = true := k_up k_u194 k_all_194
theorem k_u196 : ∀ k, k < 196 → k_all k = true := k_up k_u195 k_all_195
theorem k_u197 : ∀ k, k < 197 → k_all k = true := k_up k_u196 k_all_196
theorem k_v1 : ∀ k, k < 1 → k_fit 197 (n_lb 197 k) (m_bl 197 k) = true := k_up k_v0 k_law_0
theorem k_v2 : ∀ k, k < 2 → k_fit 197 (n_lb 197 k) (m_bl 197 k) = true := k_up k_v1 k_law_1
theorem k_v3 : ∀ k, k < 3 → k_fit 197 (n_lb 197 k) (m_bl 197 k) = true := k_up k_v2 k_law_2
theorem k_v4 : ∀ k, k < 4 → k_fit 197 (n_lb 197 k) (m_bl 197 k) = true := k_up k_v3 k_law_3
theorem k_v5 : ∀ k, k < 5 → k_fit 197 (n_lb 197 k) (m_bl 197 k) = true := k_up k_v4 k_law_4
theorem k_v6 : ∀ k, k < 6 → k_fit 197 (n_lb 197 k) (m_bl 197 k) = true := k_up k_v5 k_law_5
theorem k_v7 : ∀ k, k < 7 → k_fit 197 (n_lb 197 k) (m_bl 197 k) = true := k_up k_v6 k_law_6
theorem k_v8 : ∀ k, k < 8 → k_fit 197 (n_lb 197 k) (m_bl 197 k) = true := k_up k_v7 k_law_7
theorem k_v9 : ∀ k, k < 9 → k_fit 197 (n_lb 197 k) (m_bl 197 k) = true := k_up k_v8 k_law_8
theorem k_v10 : ∀ k, k < 10 → k_fit 197 (n_lb 197 k) (m_bl 197 k) = true := k_up k_v9 k_law_9
theorem k_v11 : ∀ k, k < 11 → k_fit 197 (n_lb 197 k) (m_bl 197 k) = true := k_up k_v10 k_law_10
theorem k_v12 : ∀ k, k < 12 → k_fit 197 (n_lb 197 k) (m_bl 197 k) = true := k_up k_v11 k_law_11
theorem k_v13 : ∀ k, k < 13 → k_fit 197 (n_lb 197 k) (m_bl 197 k) = true := k_up k_v12 k_law_12
theorem k_v14 : ∀ k, k < 14 → k_fit 197 (n_lb 197 k) (m_bl 197 k) = true := k_up k_v13 k_law_13
theorem k_v15 : ∀ k, k < 15 → k_fit 197 (n_lb 197 k) (m_bl 197 k) = true := k_up k_v14 k_law_14
theorem k_v16 : ∀ k, k < 16 → k_fit 197 (n_lb 197 k) (m_bl 197 k) = true := k_up k_v15 k_law_15
theorem k_v17 : ∀ k, k < 17 → k_fit 197 (n_lb 197 k) (m_bl 197 k) = true := k_up k_v16 k_law_16
theorem k_v18 : ∀ k, k < 18 → k_fit 197 (n_lb 197 k) (m_bl 197 k) = true := k_up k_v17 k_law_17
theorem k_v19 : ∀ k, k < 19 → k_fit 197 (n_lb 197 k) (m_bl 197 k) = true := k_up k_v18 k_law_18
theorem k_v20 : ∀ k, k < 20 → k_fit 197 (n_lb 197 k) (m_bl 197 k) = true := k_up k_v19 k_law_19
theorem k_v21 : ∀ k, k < 21 → k_fit 197 (n_lb 197 k) (m_bl 197 k) = true := k_up k_v20 k_law_20
theorem k_v22 : ∀ k, k < 22 → k_fit 197 (n_lb 197 k) (m_bl 197 k) = true := k_up k_v21 k_law_21
theorem k_v23 : ∀ k, k < 23 → k_fit 197 (n_lb 197 k) (m_bl 197 k) = true := k_up k_v22 k_law_22
theorem k_v24 : ∀ k, k < 24 → k_fit 197 (n_lb 197 k) (m_bl 197 k) = true := k_up k_v23 k_law_23
theorem k_v25 : ∀ k, k < 25 → k_fit 197 (n_lb 197 k) (m_bl 197 k) = true := k_up k_v24 k_law_24
theorem k_v26 : ∀ k, k < 26 → k_fit 197 (n_lb 197 k) (m_bl 197 k) = true := k_up k_v25 k_law_25
theorem k_v27 : ∀ k, k < 27 → k_fit 197 (n_lb 197 k) (m_bl 197 k) = true := k_up k_v26 k_law_26
theorem k_v28 : ∀ k, k < 28 → k_fit 197 (n_lb 197 k) (m_bl 197 k) = true := k_up k_v27 k_law_27
theorem k_v29 : ∀ k, k < 29 → k_fit 197 (n_lb 197 k) (m_bl 197 k) = true := k_up k_v28 k_law_28
theorem k_v30 : ∀ k, k < 30 → k_fit 197 (n_lb 197 k) (m_bl 197 k) = true := k_up k_v29 k_law_29
theorem k_v31 : ∀ k, k < 31 → k_fit 197 (n_lb 197 k) (m_bl 197 k) = true := k_up k_v30 k_law_30
theorem k_v32 : ∀ k, k < 32 → k_fit 197 (n_lb 197 k) (m_bl 197 k) = true := k_up k_v31 k_law_31
theorem k_v33 : ∀ k, k < 33 → k_fit 197 (n_lb 197 k) (m_bl 197 k) = true := k_up k_v32 k_law_32
theorem k_v34 : ∀ k, k < 34 → k_fit 197 (n_lb 197 k) (m_bl 197 k) = true := k_up k_v33 k_law_33
theorem k_v35 : ∀ k, k < 35 → k_fit 197 (n_lb 197 k) (m_bl 197 k) = true := k_up k_v34 k_law_34
theorem k_v36 : ∀ k, k < 36 → k_fit 197 (n_lb 197 k) (m_bl 197 k) = true := k_up k_v35 k_law_35
theorem k_v37 : ∀ k, k < 37 → k_fit 197 (n_lb 197 k) (m_bl 197 k) = true := k_up k_v36 k_law_36
theorem k_v38 : ∀ k, k < 38 → k_fit 197 (n_lb 197 k) (m_bl 197 k) = true := k_up k_v37 k_law_37
theorem k_v39 : ∀ k, k < 39 → k_fit 197 (n_lb 197 k) (m_bl 197 k) = true := k_up k_v38 k_law_38
theorem k_len : m_prog.length = 198 := by decide +kernel
theorem k_len7 : (m_prog.getD 197 []).length = 39 := by decide +kernel
theorem k_lenb : n_lbs.length = 198 := by decide +kernel
theorem k_hfit : ∀ k t, m_bl k t ≠ [] → k_fit k (n_lb k t) (m_bl k t) = true := by
  intro k t h
  by_cases h1 : k < 197
  · exact k_lb (k_u197 k h1) h
  · by_cases h2 : k = 197
    · subst h2
      by_cases h3 : t < 39
      · exact k_v39 t h3
      · refine absurd ?_ h
        unfold m_bl
        rw [List.getD_eq_getElem?_getD, List.getElem?_eq_none (by rw [k_len7]; omega)]
        rfl
    · refine absurd ?_ h
      unfold m_bl
      rw [List.getD_eq_getElem?_getD (l := m_prog), List.getElem?_eq_none (by rw [k_len]; omega)]
      rfl
theorem k_hlb : ∀ z, n_lb z 0 = 0 ∨ z = 197 := by
  intro z
  by_cases h : z < 198
  · have := (show ∀ z, z < 198 → n_lb z 0 = 0 ∨ z = 197 by decide +kernel)
    exact this z h
  · left
    unfold n_lb
    rw [List.getD_eq_getElem?_getD (l := n_lbs), List.getElem?_eq_none (by rw [k_lenb]; omega)]
    rfl
theorem whole_start {p : Program} {e : Env} {s : State} {m : MethodId} {below : List Frame} {meth : Method} {c : Code} (l : Launch) (hflags : l.flags = flags0) {b L : Nat} {xs : Nat → Int32} (hL : L ≤ 3072) (C0 : lw_At p s m meth c b L xs) : W p l e room_1 s m #[Value.ref b] below meth c s.heap [] 0 0 (lw_Z below #[Value.ref b] s) (entryFrame m ([Value.ref b] : List Value).toArray 4) := by
  exact x_start l k_hfit k_hlb hL C0
set_option maxHeartbeats 4000000 in
theorem lw_walk (l : Launch) (hflags : l.flags = flags0) (b : Addr) (xs : List Int32) : MetFree l x (headSpec (Jvm.Cond.code x code maxLocals ret :: tables_1) room_1) (lw_P b xs) (fun _ _ _ _ _ => True) lw_Q := by
  refine MetFree.of_bodyS (code := code) (maxLocals := maxLocals) (ret := ret) (by decide) ?_ ?_
  · intro args s m h hn
    obtain ⟨meth, c, h1, h2, h3, h4, h5, h6, -, -⟩ := Cond.code_spec hn (atoms_spec (ws := Jvm.Cond.code x code maxLocals ret :: tables_1) h _ List.mem_cons_self)
    exact ⟨meth, c, h1, h2, h3, h4, h5, h6⟩
  · intro p e s m args below meth c s₁ B hml0 hP _
    obtain ⟨rfl, hx, hbd, hgv⟩ := hP
    obtain ⟨scr, harrAt, hlist, hof, hsmall⟩ := hx
    obtain ⟨hcb, hkn, -, -⟩ := State.arrayAt?_spec harrAt
    have hown : s.vm.findClass R_law = some m.cls := findClass_of_methodNamed B.named
    have hts0 : ∀ c ∈ (Jvm.Cond.code x code maxLocals ret :: tables_1), c.before #[Value.ref b] s = true := atoms_spec (ws := Jvm.Cond.code x code maxLocals ret :: tables_1) B.pre
    have hts : ∀ w ∈ lw_tbl, w.before #[Value.ref b] s = true := k2_hts_sels lw_privs (fun w hw => hts0 w (List.mem_cons_of_mem _ hw)) lw_privs_ok
    have hml : c.maxLocals = 4 := B.maxLocals_eq (hts0 _ List.mem_cons_self)
    have X₀ : Stand p l e room_1 s m #[Value.ref b] below meth c s₁ [] 0 0 := Stand.of_body B
    have hh0 : s₁.heap = s.heap := by rw [B.state]; rfl
    have hsz : scr.slots.size = xs.length := by rw [← Array.length_toList, hlist, List.length_map]
    have hval : ∀ j : Nat, j < xs.length → scr.slots[j]? = some (.int (xs.getD j 0)) := fun j hj => by
      rw [← Array.getElem?_toList, hlist]
      simp [hj]
    have hbl : b < s.heap.size := (Array.getElem?_eq_some_iff.mp hcb).1
    have hX : va_X b xs.length (fun j => xs.getD j 0) s s.heap := ⟨scr, hcb, hof, hkn, hsz, hval⟩
    have K : W p l e room_1 s m #[Value.ref b] below meth c s₁.heap [] 0 0 (lw_Z below #[Value.ref b] s) (entryFrame m ([Value.ref b] : List Value).toArray 4) := by
      rw [hh0]
      exact whole_start l hflags hbd ⟨B.exec, B.bytes, B.returns, hml, hown, hts, hX, hbl, B.notSynchronized, hgv⟩
    obtain ⟨t, a1, o, b1, b2, b3⟩ := K s₁ rfl X₀
    exact ⟨t, o, a1, b1, b2, b3⟩
theorem lw_pre_spec {args : Array Value} {s : State} (h : (Jvm.Cond.and given_1 narrow_1).before args s = true) (hr : rest_1_c.before args s = true) : ∃ (b : Addr) (xs : List Int32), lw_P b xs args s := by
  have hs := flat_of_before _ h
  have hq := flat_of_before _ hr
  have hc : (Cond.count 1).before args s = true := hs _ (by decide +kernel)
  have harr : (Cond.arrayOf (.arg 0) .int).before args s = true := hs _ (by decide +kernel)
  have hle : (Cond.le (.length (.arg 0)) (.int 3072)).before args s = true := hs _ (by decide +kernel)
  have hlen : (Cond.isInt (.length (.arg 0))).before args s = true := hq _ (by decide +kernel)
  have hall : (Cond.all (.arg 0) (.isInt (.elem (.arg 0) (.index 0)))).before args s = true := hq _ (by decide +kernel)
  obtain ⟨b, xs, hb, hx⟩ := State.ints_of_pre rfl harr hlen hall
  have hsm : xs.length < 2 ^ 31 := hx.choose_spec.2.2.2
  have hev : (Term.length (.arg 0)).eval args s none [] s = some (.int xs.length.toInt32) := hx.length_eval hb
  have hv := Cond.le_ints hev (show (Term.int 3072).eval args s none [] s = some (.int 3072) from rfl)
  have hd : xs.length.toInt32 ≤ 3072 := by
    simpa [Cond.before, Cond.holds, hv] using hle
  have hN : xs.length ≤ 3072 := (Int32.ofNat_le_ofNat hsm (by decide)).mp (show Int32.ofNat xs.length ≤ Int32.ofNat 3072 from hd)
  exact ⟨b, xs, Cond.one_arg hc (show args[0]? = some (.ref b) from hb), hx, hN, h⟩
theorem lw_comes (l : Launch) (hflags : l.flags = flags0) : Comes l x (Jvm.Cond.code x code maxLocals ret :: tables_1) room_1 (fun tb e args s => Calls_1 tb e args s ∧ rest_1 tb e args s ∧ Pre_1 tb e args s)
    (fun _ _ args s o t => lw_Q args s o t) := by
  intro p e ha hc hk s m args below hf hfit hheap happ hpre
  obtain ⟨b, xs, hP⟩ := lw_pre_spec hpre.2.2 hpre.2.1
  obtain ⟨k, o, h1, h2, h3, hQ⟩ := lw_walk l hflags b xs p e ha hc hk s m args below hf ((Spec.applies_iff_loose hf).mp happ).1 hP trivial
  exact ⟨k, o, h1, h2, h3, hQ⟩
theorem lw_frame {s t : State} {o : Outcome} {args : Array Value} (h : Framed s o t [] 600000 7302250) :
    Framed s o t (fieldLocs frame_1_writes args s ++ arrayLocs frame_1_arrays args s ++ staticLocs frame_1_statics s) 600000 7302250 := h
theorem lw_limb (L : Cond) (hL : ∀ (args : Array Value) (s t : State), L.after args s (.returned (some (.int 1))) t = true) :
    ArmFor flags0 classFile x code maxLocals ret World_1 tables_1 room_1 Calls_1 rest_1 Pre_1
      (fun tb e a s o t => postC L tb e a s o t ∧ Framed s o t (fieldLocs frame_1_writes a s ++ arrayLocs frame_1_arrays a s ++ staticLocs frame_1_statics s) 600000 7302250) := by
  intro l hflags _ _ p e ha hc hk s m args below hf hfit hheap happ hpre
  obtain ⟨k, o, h1, h2, h3, rfl, hF⟩ := lw_comes l hflags p e ha hc hk s m args below hf hfit hheap happ hpre
  exact ⟨k, _, h1, h2, h3, hL args s _, lw_frame hF⟩
theorem i_vc : Claimed_1_1 ∧ Claimed_1_2 := ⟨lw_limb limb_1_1 (fun args s t => by simp [limb_1_1, Cond.after, Cond.holds, Cond.value]), lw_limb limb_1_2 (fun args s t => Cond.after_iff.mpr (by
  first | (rw [show limb_1_2 = Cond.eq .result (.int 1) from rfl, Cond.eq_ints (x := 1) (y := 1) rfl rfl]; simp; done) | (simp [limb_1_2, Cond.value, Term.eval]; done)))⟩
