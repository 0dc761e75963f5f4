/-! ===== THE OBJECTS, ROW BY ROW (by program) ===== -/
theorem jo_sum {n : Nat} {i : Int} {t N : Nat} (h : (decide (0 ≤ i) && decide (i < (n : Int)) && decide (jk i = (t, N))) = true) : jF n i t N := by
  simp only [Bool.and_eq_true, decide_eq_true_eq] at h
  exact ⟨h.1.1, h.1.2, h.2⟩
theorem jo_0 : jF 229 0 0 11 := jo_sum (by decide +kernel)
theorem jo_1 : jF 229 1 1 8 := jo_sum (by decide +kernel)
theorem jo_2 : jF 229 2 0 1 := jo_sum (by decide +kernel)
theorem jo_3 : jF 229 3 1 4 := jo_sum (by decide +kernel)
theorem jo_4 : jF 229 4 1 4 := jo_sum (by decide +kernel)
theorem jo_5 : jF 229 5 5 4 := jo_sum (by decide +kernel)
theorem jo_6 : jF 229 6 1 30 := jo_sum (by decide +kernel)
theorem jo_7 : jF 229 7 1 30 := jo_sum (by decide +kernel)
theorem jo_8 : jF 229 8 1 30 := jo_sum (by decide +kernel)
theorem jo_9 : jF 229 9 1 30 := jo_sum (by decide +kernel)
theorem jo_10 : jF 229 10 1 4 := jo_sum (by decide +kernel)
theorem jo_11 : jF 229 11 0 2 := jo_sum (by decide +kernel)
theorem jo_12 : jF 229 12 1 40 := jo_sum (by decide +kernel)
theorem jo_13 : jF 229 13 1 40 := jo_sum (by decide +kernel)
theorem jo_14 : jF 229 14 1 40 := jo_sum (by decide +kernel)
theorem jo_15 : jF 229 15 1 10 := jo_sum (by decide +kernel)
theorem jo_16 : jF 229 16 0 9 := jo_sum (by decide +kernel)
theorem jo_17 : jF 229 17 5 3 := jo_sum (by decide +kernel)
theorem jo_18 : jF 229 18 1 6 := jo_sum (by decide +kernel)
theorem jo_19 : jF 229 19 1 6 := jo_sum (by decide +kernel)
theorem jo_20 : jF 229 20 1 6 := jo_sum (by decide +kernel)
theorem jo_21 : jF 229 21 5 3 := jo_sum (by decide +kernel)
theorem jo_22 : jF 229 22 1 6 := jo_sum (by decide +kernel)
theorem jo_23 : jF 229 23 1 6 := jo_sum (by decide +kernel)
theorem jo_24 : jF 229 24 1 6 := jo_sum (by decide +kernel)
theorem jo_25 : jF 229 25 5 3 := jo_sum (by decide +kernel)
theorem jo_26 : jF 229 26 1 36 := jo_sum (by decide +kernel)
theorem jo_27 : jF 229 27 1 36 := jo_sum (by decide +kernel)
theorem jo_28 : jF 229 28 1 36 := jo_sum (by decide +kernel)
theorem jo_29 : jF 229 29 0 10 := jo_sum (by decide +kernel)
theorem jo_30 : jF 229 30 1 6 := jo_sum (by decide +kernel)
theorem jo_31 : jF 229 31 1 6 := jo_sum (by decide +kernel)
theorem jo_32 : jF 229 32 1 6 := jo_sum (by decide +kernel)
theorem jo_33 : jF 229 33 4 16 := jo_sum (by decide +kernel)
theorem jo_34 : jF 229 34 1 16 := jo_sum (by decide +kernel)
theorem jo_35 : jF 229 35 1 4 := jo_sum (by decide +kernel)
theorem jo_36 : jF 229 36 0 4 := jo_sum (by decide +kernel)
theorem jo_37 : jF 229 37 1 6 := jo_sum (by decide +kernel)
theorem jo_38 : jF 229 38 1 6 := jo_sum (by decide +kernel)
theorem jo_39 : jF 229 39 0 4 := jo_sum (by decide +kernel)
theorem jo_40 : jF 229 40 1 6 := jo_sum (by decide +kernel)
theorem jo_41 : jF 229 41 1 6 := jo_sum (by decide +kernel)
theorem jo_42 : jF 229 42 0 4 := jo_sum (by decide +kernel)
theorem jo_43 : jF 229 43 1 6 := jo_sum (by decide +kernel)
theorem jo_44 : jF 229 44 1 6 := jo_sum (by decide +kernel)
theorem jo_45 : jF 229 45 0 4 := jo_sum (by decide +kernel)
theorem jo_46 : jF 229 46 1 6 := jo_sum (by decide +kernel)
theorem jo_47 : jF 229 47 1 6 := jo_sum (by decide +kernel)
theorem jo_48 : jF 229 48 0 4 := jo_sum (by decide +kernel)
theorem jo_49 : jF 229 49 1 6 := jo_sum (by decide +kernel)
theorem jo_50 : jF 229 50 1 6 := jo_sum (by decide +kernel)
theorem jo_51 : jF 229 51 0 4 := jo_sum (by decide +kernel)
theorem jo_52 : jF 229 52 1 6 := jo_sum (by decide +kernel)
theorem jo_53 : jF 229 53 1 6 := jo_sum (by decide +kernel)
theorem jo_54 : jF 229 54 0 4 := jo_sum (by decide +kernel)
theorem jo_55 : jF 229 55 1 6 := jo_sum (by decide +kernel)
theorem jo_56 : jF 229 56 1 6 := jo_sum (by decide +kernel)
theorem jo_57 : jF 229 57 0 4 := jo_sum (by decide +kernel)
theorem jo_58 : jF 229 58 1 6 := jo_sum (by decide +kernel)
theorem jo_59 : jF 229 59 1 6 := jo_sum (by decide +kernel)
theorem jo_60 : jF 229 60 0 4 := jo_sum (by decide +kernel)
theorem jo_61 : jF 229 61 1 6 := jo_sum (by decide +kernel)
theorem jo_62 : jF 229 62 1 6 := jo_sum (by decide +kernel)
theorem jo_63 : jF 229 63 0 4 := jo_sum (by decide +kernel)
theorem jo_64 : jF 229 64 1 6 := jo_sum (by decide +kernel)
theorem jo_65 : jF 229 65 1 6 := jo_sum (by decide +kernel)
theorem jo_66 : jF 229 66 0 4 := jo_sum (by decide +kernel)
theorem jo_67 : jF 229 67 1 6 := jo_sum (by decide +kernel)
theorem jo_68 : jF 229 68 1 6 := jo_sum (by decide +kernel)
theorem jo_69 : jF 229 69 0 4 := jo_sum (by decide +kernel)
theorem jo_70 : jF 229 70 1 6 := jo_sum (by decide +kernel)
theorem jo_71 : jF 229 71 1 6 := jo_sum (by decide +kernel)
theorem jo_72 : jF 229 72 0 4 := jo_sum (by decide +kernel)
theorem jo_73 : jF 229 73 1 6 := jo_sum (by decide +kernel)
theorem jo_74 : jF 229 74 1 6 := jo_sum (by decide +kernel)
theorem jo_75 : jF 229 75 0 4 := jo_sum (by decide +kernel)
theorem jo_76 : jF 229 76 1 6 := jo_sum (by decide +kernel)
theorem jo_77 : jF 229 77 1 6 := jo_sum (by decide +kernel)
theorem jo_78 : jF 229 78 0 4 := jo_sum (by decide +kernel)
theorem jo_79 : jF 229 79 1 6 := jo_sum (by decide +kernel)
theorem jo_80 : jF 229 80 1 6 := jo_sum (by decide +kernel)
theorem jo_81 : jF 229 81 0 4 := jo_sum (by decide +kernel)
theorem jo_82 : jF 229 82 1 6 := jo_sum (by decide +kernel)
theorem jo_83 : jF 229 83 1 6 := jo_sum (by decide +kernel)
theorem jo_84 : jF 229 84 0 3 := jo_sum (by decide +kernel)
theorem jo_85 : jF 229 85 1 40 := jo_sum (by decide +kernel)
theorem jo_86 : jF 229 86 1 40 := jo_sum (by decide +kernel)
theorem jo_87 : jF 229 87 1 40 := jo_sum (by decide +kernel)
theorem jo_88 : jF 229 88 1 40 := jo_sum (by decide +kernel)
theorem jo_89 : jF 229 89 1 40 := jo_sum (by decide +kernel)
theorem jo_90 : jF 229 90 1 3 := jo_sum (by decide +kernel)
theorem jo_91 : jF 229 91 0 8 := jo_sum (by decide +kernel)
theorem jo_92 : jF 229 92 1 3 := jo_sum (by decide +kernel)
theorem jo_93 : jF 229 93 1 18 := jo_sum (by decide +kernel)
theorem jo_94 : jF 229 94 1 18 := jo_sum (by decide +kernel)
theorem jo_95 : jF 229 95 1 18 := jo_sum (by decide +kernel)
theorem jo_96 : jF 229 96 1 18 := jo_sum (by decide +kernel)
theorem jo_97 : jF 229 97 0 6 := jo_sum (by decide +kernel)
theorem jo_98 : jF 229 98 1 6 := jo_sum (by decide +kernel)
theorem jo_99 : jF 229 99 2 64 := jo_sum (by decide +kernel)
theorem jo_100 : jF 229 100 2 6 := jo_sum (by decide +kernel)
theorem jo_101 : jF 229 101 0 5 := jo_sum (by decide +kernel)
theorem jo_102 : jF 229 102 1 40 := jo_sum (by decide +kernel)
theorem jo_103 : jF 229 103 1 40 := jo_sum (by decide +kernel)
theorem jo_104 : jF 229 104 1 40 := jo_sum (by decide +kernel)
theorem jo_105 : jF 229 105 1 40 := jo_sum (by decide +kernel)
theorem jo_106 : jF 229 106 0 0 := jo_sum (by decide +kernel)
theorem jo_107 : jF 229 107 1 4 := jo_sum (by decide +kernel)
theorem jo_108 : jF 229 108 1 1 := jo_sum (by decide +kernel)
theorem jo_109 : jF 229 109 1 1 := jo_sum (by decide +kernel)
theorem jo_110 : jF 229 110 1 1 := jo_sum (by decide +kernel)
theorem jo_111 : jF 229 111 0 7 := jo_sum (by decide +kernel)
theorem jo_112 : jF 229 112 1 5 := jo_sum (by decide +kernel)
theorem jo_113 : jF 229 113 0 0 := jo_sum (by decide +kernel)
theorem jo_114 : jF 229 114 1 1200 := jo_sum (by decide +kernel)
theorem jo_115 : jF 229 115 1 300 := jo_sum (by decide +kernel)
theorem jo_116 : jF 229 116 1 300 := jo_sum (by decide +kernel)
theorem jo_117 : jF 229 117 1 300 := jo_sum (by decide +kernel)
theorem jo_118 : jF 229 118 1 4 := jo_sum (by decide +kernel)
theorem jo_119 : jF 229 119 0 10 := jo_sum (by decide +kernel)
theorem jo_120 : jF 229 120 1 6 := jo_sum (by decide +kernel)
theorem jo_121 : jF 229 121 1 6 := jo_sum (by decide +kernel)
theorem jo_122 : jF 229 122 1 6 := jo_sum (by decide +kernel)
theorem jo_123 : jF 229 123 4 16 := jo_sum (by decide +kernel)
theorem jo_124 : jF 229 124 1 16 := jo_sum (by decide +kernel)
theorem jo_125 : jF 229 125 1 4 := jo_sum (by decide +kernel)
theorem jo_126 : jF 229 126 0 4 := jo_sum (by decide +kernel)
theorem jo_127 : jF 229 127 1 6 := jo_sum (by decide +kernel)
theorem jo_128 : jF 229 128 1 6 := jo_sum (by decide +kernel)
theorem jo_129 : jF 229 129 0 4 := jo_sum (by decide +kernel)
theorem jo_130 : jF 229 130 1 6 := jo_sum (by decide +kernel)
theorem jo_131 : jF 229 131 1 6 := jo_sum (by decide +kernel)
theorem jo_132 : jF 229 132 0 4 := jo_sum (by decide +kernel)
theorem jo_133 : jF 229 133 1 6 := jo_sum (by decide +kernel)
theorem jo_134 : jF 229 134 1 6 := jo_sum (by decide +kernel)
theorem jo_135 : jF 229 135 0 4 := jo_sum (by decide +kernel)
theorem jo_136 : jF 229 136 1 6 := jo_sum (by decide +kernel)
theorem jo_137 : jF 229 137 1 6 := jo_sum (by decide +kernel)
theorem jo_138 : jF 229 138 0 4 := jo_sum (by decide +kernel)
theorem jo_139 : jF 229 139 1 6 := jo_sum (by decide +kernel)
theorem jo_140 : jF 229 140 1 6 := jo_sum (by decide +kernel)
theorem jo_141 : jF 229 141 0 4 := jo_sum (by decide +kernel)
theorem jo_142 : jF 229 142 1 6 := jo_sum (by decide +kernel)
theorem jo_143 : jF 229 143 1 6 := jo_sum (by decide +kernel)
theorem jo_144 : jF 229 144 0 4 := jo_sum (by decide +kernel)
theorem jo_145 : jF 229 145 1 6 := jo_sum (by decide +kernel)
theorem jo_146 : jF 229 146 1 6 := jo_sum (by decide +kernel)
theorem jo_147 : jF 229 147 0 4 := jo_sum (by decide +kernel)
theorem jo_148 : jF 229 148 1 6 := jo_sum (by decide +kernel)
theorem jo_149 : jF 229 149 1 6 := jo_sum (by decide +kernel)
theorem jo_150 : jF 229 150 0 4 := jo_sum (by decide +kernel)
theorem jo_151 : jF 229 151 1 6 := jo_sum (by decide +kernel)
theorem jo_152 : jF 229 152 1 6 := jo_sum (by decide +kernel)
theorem jo_153 : jF 229 153 0 4 := jo_sum (by decide +kernel)
theorem jo_154 : jF 229 154 1 6 := jo_sum (by decide +kernel)
theorem jo_155 : jF 229 155 1 6 := jo_sum (by decide +kernel)
theorem jo_156 : jF 229 156 0 4 := jo_sum (by decide +kernel)
theorem jo_157 : jF 229 157 1 6 := jo_sum (by decide +kernel)
theorem jo_158 : jF 229 158 1 6 := jo_sum (by decide +kernel)
theorem jo_159 : jF 229 159 0 4 := jo_sum (by decide +kernel)
theorem jo_160 : jF 229 160 1 6 := jo_sum (by decide +kernel)
theorem jo_161 : jF 229 161 1 6 := jo_sum (by decide +kernel)
theorem jo_162 : jF 229 162 0 4 := jo_sum (by decide +kernel)
theorem jo_163 : jF 229 163 1 6 := jo_sum (by decide +kernel)
theorem jo_164 : jF 229 164 1 6 := jo_sum (by decide +kernel)
theorem jo_165 : jF 229 165 0 4 := jo_sum (by decide +kernel)
theorem jo_166 : jF 229 166 1 6 := jo_sum (by decide +kernel)
theorem jo_167 : jF 229 167 1 6 := jo_sum (by decide +kernel)
theorem jo_168 : jF 229 168 0 4 := jo_sum (by decide +kernel)
theorem jo_169 : jF 229 169 1 6 := jo_sum (by decide +kernel)
theorem jo_170 : jF 229 170 1 6 := jo_sum (by decide +kernel)
theorem jo_171 : jF 229 171 0 4 := jo_sum (by decide +kernel)
theorem jo_172 : jF 229 172 1 6 := jo_sum (by decide +kernel)
theorem jo_173 : jF 229 173 1 6 := jo_sum (by decide +kernel)
theorem jo_174 : jF 229 174 1 16 := jo_sum (by decide +kernel)
theorem jo_175 : jF 229 175 1 5 := jo_sum (by decide +kernel)
theorem jo_176 : jF 229 176 0 12 := jo_sum (by decide +kernel)
theorem jo_177 : jF 229 177 1 4 := jo_sum (by decide +kernel)
theorem jo_178 : jF 229 178 1 4 := jo_sum (by decide +kernel)
theorem jo_179 : jF 229 179 1 4 := jo_sum (by decide +kernel)
theorem jo_180 : jF 229 180 1 120 := jo_sum (by decide +kernel)
theorem jo_181 : jF 229 181 1 6 := jo_sum (by decide +kernel)
theorem jo_182 : jF 229 182 1 40 := jo_sum (by decide +kernel)
theorem jo_183 : jF 229 183 1 40 := jo_sum (by decide +kernel)
theorem jo_184 : jF 229 184 1 40 := jo_sum (by decide +kernel)
theorem jo_185 : jF 229 185 1 40 := jo_sum (by decide +kernel)
theorem jo_186 : jF 229 186 1 18 := jo_sum (by decide +kernel)
theorem jo_187 : jF 229 187 1 18 := jo_sum (by decide +kernel)
theorem jo_188 : jF 229 188 1 108 := jo_sum (by decide +kernel)
theorem jo_189 : jF 229 189 1 16 := jo_sum (by decide +kernel)
theorem jo_190 : jF 229 190 1 16 := jo_sum (by decide +kernel)
theorem jo_191 : jF 229 191 1 16 := jo_sum (by decide +kernel)
theorem jo_192 : jF 229 192 1 16 := jo_sum (by decide +kernel)
theorem jo_193 : jF 229 193 1 16 := jo_sum (by decide +kernel)
theorem jo_194 : jF 229 194 1 16 := jo_sum (by decide +kernel)
theorem jo_195 : jF 229 195 1 16 := jo_sum (by decide +kernel)
theorem jo_196 : jF 229 196 3 16 := jo_sum (by decide +kernel)
theorem jo_197 : jF 229 197 1 16 := jo_sum (by decide +kernel)
theorem jo_198 : jF 229 198 1 16 := jo_sum (by decide +kernel)
theorem jo_199 : jF 229 199 1 96 := jo_sum (by decide +kernel)
theorem jo_200 : jF 229 200 1 96 := jo_sum (by decide +kernel)
theorem jo_201 : jF 229 201 3 16 := jo_sum (by decide +kernel)
theorem jo_202 : jF 229 202 1 6 := jo_sum (by decide +kernel)
theorem jo_203 : jF 229 203 1 6 := jo_sum (by decide +kernel)
theorem jo_204 : jF 229 204 1 3 := jo_sum (by decide +kernel)
theorem jo_205 : jF 229 205 1 40 := jo_sum (by decide +kernel)
theorem jo_206 : jF 229 206 1 40 := jo_sum (by decide +kernel)
theorem jo_207 : jF 229 207 1 40 := jo_sum (by decide +kernel)
theorem jo_208 : jF 229 208 1 40 := jo_sum (by decide +kernel)
theorem jo_209 : jF 229 209 1 40 := jo_sum (by decide +kernel)
theorem jo_210 : jF 229 210 1 3 := jo_sum (by decide +kernel)
theorem jo_211 : jF 229 211 1 18 := jo_sum (by decide +kernel)
theorem jo_212 : jF 229 212 1 18 := jo_sum (by decide +kernel)
theorem jo_213 : jF 229 213 1 18 := jo_sum (by decide +kernel)
theorem jo_214 : jF 229 214 1 18 := jo_sum (by decide +kernel)
theorem jo_215 : jF 229 215 1 40 := jo_sum (by decide +kernel)
theorem jo_216 : jF 229 216 1 40 := jo_sum (by decide +kernel)
theorem jo_217 : jF 229 217 1 40 := jo_sum (by decide +kernel)
theorem jo_218 : jF 229 218 1 40 := jo_sum (by decide +kernel)
theorem jo_219 : jF 229 219 1 8 := jo_sum (by decide +kernel)
theorem jo_220 : jF 229 220 1 30 := jo_sum (by decide +kernel)
theorem jo_221 : jF 229 221 3 40 := jo_sum (by decide +kernel)
theorem jo_222 : jF 229 222 1 6 := jo_sum (by decide +kernel)
theorem jo_223 : jF 229 223 1 64 := jo_sum (by decide +kernel)
theorem jo_224 : jF 229 224 1 400 := jo_sum (by decide +kernel)
theorem jo_225 : jF 229 225 1 96 := jo_sum (by decide +kernel)
theorem jo_226 : jF 229 226 1 5 := jo_sum (by decide +kernel)
theorem jo_227 : jF 229 227 1 5 := jo_sum (by decide +kernel)
theorem jo_228 : jF 229 228 1 5 := jo_sum (by decide +kernel)
theorem jr_0_1 : jr0 0 1 = 1 := by decide +kernel
theorem jr_0_2 : jr0 0 2 = 2 := by decide +kernel
theorem jr_0_3 : jr0 0 3 = 11 := by decide +kernel
theorem jr_0_4 : jr0 0 4 = 16 := by decide +kernel
theorem jr_0_5 : jr0 0 5 = 29 := by decide +kernel
theorem jr_0_6 : jr0 0 6 = 84 := by decide +kernel
theorem jr_0_7 : jr0 0 7 = 91 := by decide +kernel
theorem jr_0_8 : jr0 0 8 = 97 := by decide +kernel
theorem jr_0_9 : jr0 0 9 = 101 := by decide +kernel
theorem jr_0_10 : jr0 0 10 = 106 := by decide +kernel
theorem jr_0_11 : jr0 0 11 = 111 := by decide +kernel
theorem jr_2_0 : jr0 2 0 = 3 := by decide +kernel
theorem jr_2_1 : jr0 2 1 = 4 := by decide +kernel
theorem jr_2_2 : jr0 2 2 = 5 := by decide +kernel
theorem jr_2_3 : jr0 2 3 = 10 := by decide +kernel
theorem jr_11_1 : jr0 11 1 = 12 := by decide +kernel
theorem jr_11_2 : jr0 11 2 = 13 := by decide +kernel
theorem jr_11_3 : jr0 11 3 = 14 := by decide +kernel
theorem jr_11_4 : jr0 11 4 = 15 := by decide +kernel
theorem jr_16_0 : jr0 16 0 = 17 := by decide +kernel
theorem jr_16_1 : jr0 16 1 = 21 := by decide +kernel
theorem jr_16_2 : jr0 16 2 = 25 := by decide +kernel
theorem jr_29_0 : jr0 29 0 = 30 := by decide +kernel
theorem jr_29_1 : jr0 29 1 = 31 := by decide +kernel
theorem jr_29_2 : jr0 29 2 = 32 := by decide +kernel
theorem jr_29_3 : jr0 29 3 = 33 := by decide +kernel
theorem jr_29_5 : jr0 29 5 = 34 := by decide +kernel
theorem jr_29_11 : jr0 29 11 = 35 := by decide +kernel
theorem jr_84_1 : jr0 84 1 = 85 := by decide +kernel
theorem jr_84_2 : jr0 84 2 = 86 := by decide +kernel
theorem jr_84_3 : jr0 84 3 = 87 := by decide +kernel
theorem jr_84_4 : jr0 84 4 = 88 := by decide +kernel
theorem jr_84_5 : jr0 84 5 = 89 := by decide +kernel
theorem jr_84_6 : jr0 84 6 = 90 := by decide +kernel
theorem jr_91_0 : jr0 91 0 = 92 := by decide +kernel
theorem jr_91_1 : jr0 91 1 = 93 := by decide +kernel
theorem jr_91_2 : jr0 91 2 = 94 := by decide +kernel
theorem jr_91_3 : jr0 91 3 = 95 := by decide +kernel
theorem jr_91_4 : jr0 91 4 = 96 := by decide +kernel
theorem jr_97_2 : jr0 97 2 = 98 := by decide +kernel
theorem jr_97_3 : jr0 97 3 = 99 := by decide +kernel
theorem jr_97_4 : jr0 97 4 = 100 := by decide +kernel
theorem jr_101_1 : jr0 101 1 = 102 := by decide +kernel
theorem jr_101_2 : jr0 101 2 = 103 := by decide +kernel
theorem jr_101_3 : jr0 101 3 = 104 := by decide +kernel
theorem jr_101_4 : jr0 101 4 = 105 := by decide +kernel
theorem jr_106_0 : jr0 106 0 = 107 := by decide +kernel
theorem jr_106_1 : jr0 106 1 = 108 := by decide +kernel
theorem jr_106_2 : jr0 106 2 = 109 := by decide +kernel
theorem jr_106_3 : jr0 106 3 = 110 := by decide +kernel
theorem jr_111_1 : jr0 111 1 = 112 := by decide +kernel
theorem jr_111_4 : jr0 111 4 = 113 := by decide +kernel
theorem jr_111_5 : jr0 111 5 = 118 := by decide +kernel
theorem jr_111_6 : jr0 111 6 = 119 := by decide +kernel
theorem jr_111_7 : jr0 111 7 = 174 := by decide +kernel
theorem jr_111_8 : jr0 111 8 = 175 := by decide +kernel
theorem jr_113_0 : jr0 113 0 = 114 := by decide +kernel
theorem jr_113_1 : jr0 113 1 = 115 := by decide +kernel
theorem jr_113_2 : jr0 113 2 = 116 := by decide +kernel
theorem jr_113_3 : jr0 113 3 = 117 := by decide +kernel
theorem jr_119_0 : jr0 119 0 = 120 := by decide +kernel
theorem jr_119_1 : jr0 119 1 = 121 := by decide +kernel
theorem jr_119_2 : jr0 119 2 = 122 := by decide +kernel
theorem jr_119_3 : jr0 119 3 = 123 := by decide +kernel
theorem jr_119_5 : jr0 119 5 = 124 := by decide +kernel
theorem jr_119_11 : jr0 119 11 = 125 := by decide +kernel
theorem jr_176_1 : jr0 176 1 = 177 := by decide +kernel
theorem jr_176_2 : jr0 176 2 = 178 := by decide +kernel
theorem jr_176_3 : jr0 176 3 = 179 := by decide +kernel
theorem jr_176_4 : jr0 176 4 = 180 := by decide +kernel
theorem jr_176_5 : jr0 176 5 = 181 := by decide +kernel
theorem jr_176_7 : jr0 176 7 = 182 := by decide +kernel
theorem jr_176_8 : jr0 176 8 = 183 := by decide +kernel
theorem jr_176_9 : jr0 176 9 = 184 := by decide +kernel
theorem jr_176_10 : jr0 176 10 = 185 := by decide +kernel
theorem jr_176_11 : jr0 176 11 = 186 := by decide +kernel
theorem jr_176_12 : jr0 176 12 = 187 := by decide +kernel
theorem jr_176_13 : jr0 176 13 = 188 := by decide +kernel
theorem jr_176_15 : jr0 176 15 = 189 := by decide +kernel
theorem jr_176_16 : jr0 176 16 = 190 := by decide +kernel
theorem jr_176_17 : jr0 176 17 = 191 := by decide +kernel
theorem jr_176_18 : jr0 176 18 = 192 := by decide +kernel
theorem jr_176_19 : jr0 176 19 = 193 := by decide +kernel
theorem jr_176_20 : jr0 176 20 = 194 := by decide +kernel
theorem jr_176_21 : jr0 176 21 = 195 := by decide +kernel
theorem jr_176_22 : jr0 176 22 = 196 := by decide +kernel
theorem jr_176_23 : jr0 176 23 = 197 := by decide +kernel
theorem jr_176_24 : jr0 176 24 = 198 := by decide +kernel
theorem jr_176_25 : jr0 176 25 = 199 := by decide +kernel
theorem jr_176_26 : jr0 176 26 = 200 := by decide +kernel
theorem jr_176_27 : jr0 176 27 = 201 := by decide +kernel
theorem jr_176_28 : jr0 176 28 = 202 := by decide +kernel
theorem jr_176_29 : jr0 176 29 = 203 := by decide +kernel
theorem jr_176_33 : jr0 176 33 = 204 := by decide +kernel
theorem jr_176_35 : jr0 176 35 = 205 := by decide +kernel
theorem jr_176_36 : jr0 176 36 = 206 := by decide +kernel
theorem jr_176_37 : jr0 176 37 = 207 := by decide +kernel
theorem jr_176_38 : jr0 176 38 = 208 := by decide +kernel
theorem jr_176_39 : jr0 176 39 = 209 := by decide +kernel
theorem jr_176_40 : jr0 176 40 = 210 := by decide +kernel
theorem jr_176_41 : jr0 176 41 = 211 := by decide +kernel
theorem jr_176_42 : jr0 176 42 = 212 := by decide +kernel
theorem jr_176_43 : jr0 176 43 = 213 := by decide +kernel
theorem jr_176_44 : jr0 176 44 = 214 := by decide +kernel
theorem jr_176_46 : jr0 176 46 = 215 := by decide +kernel
theorem jr_176_47 : jr0 176 47 = 216 := by decide +kernel
theorem jr_176_48 : jr0 176 48 = 217 := by decide +kernel
theorem jr_176_49 : jr0 176 49 = 218 := by decide +kernel
theorem jr_176_50 : jr0 176 50 = 219 := by decide +kernel
theorem jr_176_51 : jr0 176 51 = 220 := by decide +kernel
theorem jr_176_52 : jr0 176 52 = 221 := by decide +kernel
theorem jr_176_53 : jr0 176 53 = 222 := by decide +kernel
theorem jr_176_54 : jr0 176 54 = 223 := by decide +kernel
theorem jr_176_59 : jr0 176 59 = 224 := by decide +kernel
theorem jr_176_60 : jr0 176 60 = 225 := by decide +kernel
theorem jr_176_61 : jr0 176 61 = 226 := by decide +kernel
theorem jr_176_63 : jr0 176 63 = 227 := by decide +kernel
theorem jr_176_64 : jr0 176 64 = 228 := by decide +kernel
theorem jba_of {i : Int} {lo hi c : Int} (hk : (decide ((jk i).1 ≠ 0) && decide (i ≠ 224) && decide (jbA.getD i.toNat (-2147483648, 2147483647, 0) = (lo, hi, c))) = true) (k v : Int) : jbd i k v ↔ (lo ≤ v ∧ v ≤ hi) ∨ v = c := by
  simp only [Bool.and_eq_true, decide_eq_true_eq] at hk
  unfold jbd jbp
  split
  · rename_i ci e
    exact absurd (show (jk i).1 = 0 by rw [e]) hk.1.1
  · rw [if_neg hk.1.2, hk.2]
theorem jba_1 (k v : Int) : jbd 1 k v ↔ (-2147483648 ≤ v ∧ v ≤ 2147483647) := (jba_of (i := 1) (lo := -2147483648) (hi := 2147483647) (c := 0) (by decide +kernel) k v).trans ⟨fun q => by omega, fun q => Or.inl q⟩
theorem jba_3 (k v : Int) : jbd 3 k v ↔ (0 ≤ v ∧ v ≤ 400) := (jba_of (i := 3) (lo := 0) (hi := 400) (c := 0) (by decide +kernel) k v).trans ⟨fun q => by omega, fun q => Or.inl q⟩
theorem jba_4 (k v : Int) : jbd 4 k v ↔ (-1 ≤ v ∧ v ≤ 3) := (jba_of (i := 4) (lo := -1) (hi := 3) (c := 0) (by decide +kernel) k v).trans ⟨fun q => by omega, fun q => Or.inl q⟩
theorem jba_6 (k v : Int) : jbd 6 k v ↔ (0 ≤ v ∧ v ≤ 400) := (jba_of (i := 6) (lo := 0) (hi := 400) (c := 0) (by decide +kernel) k v).trans ⟨fun q => by omega, fun q => Or.inl q⟩
theorem jba_7 (k v : Int) : jbd 7 k v ↔ (0 ≤ v ∧ v ≤ 400) := (jba_of (i := 7) (lo := 0) (hi := 400) (c := 0) (by decide +kernel) k v).trans ⟨fun q => by omega, fun q => Or.inl q⟩
theorem jba_8 (k v : Int) : jbd 8 k v ↔ (0 ≤ v ∧ v ≤ 400) := (jba_of (i := 8) (lo := 0) (hi := 400) (c := 0) (by decide +kernel) k v).trans ⟨fun q => by omega, fun q => Or.inl q⟩
theorem jba_9 (k v : Int) : jbd 9 k v ↔ (0 ≤ v ∧ v ≤ 400) := (jba_of (i := 9) (lo := 0) (hi := 400) (c := 0) (by decide +kernel) k v).trans ⟨fun q => by omega, fun q => Or.inl q⟩
theorem jba_10 (k v : Int) : jbd 10 k v ↔ (-1 ≤ v ∧ v ≤ 30) := (jba_of (i := 10) (lo := -1) (hi := 30) (c := 0) (by decide +kernel) k v).trans ⟨fun q => by omega, fun q => Or.inl q⟩
theorem jba_12 (k v : Int) : jbd 12 k v ↔ (0 ≤ v ∧ v ≤ 9) := (jba_of (i := 12) (lo := 0) (hi := 9) (c := 0) (by decide +kernel) k v).trans ⟨fun q => by omega, fun q => Or.inl q⟩
theorem jba_13 (k v : Int) : jbd 13 k v ↔ (0 ≤ v ∧ v ≤ 200) := (jba_of (i := 13) (lo := 0) (hi := 200) (c := 0) (by decide +kernel) k v).trans ⟨fun q => by omega, fun q => Or.inl q⟩
theorem jba_14 (k v : Int) : jbd 14 k v ↔ (0 ≤ v ∧ v ≤ 2000) := (jba_of (i := 14) (lo := 0) (hi := 2000) (c := 0) (by decide +kernel) k v).trans ⟨fun q => by omega, fun q => Or.inl q⟩
theorem jba_15 (k v : Int) : jbd 15 k v ↔ (0 ≤ v ∧ v ≤ 200) := (jba_of (i := 15) (lo := 0) (hi := 200) (c := 0) (by decide +kernel) k v).trans ⟨fun q => by omega, fun q => Or.inl q⟩
theorem jba_18 (k v : Int) : jbd 18 k v ↔ (0 ≤ v ∧ v ≤ 3) := (jba_of (i := 18) (lo := 0) (hi := 3) (c := 0) (by decide +kernel) k v).trans ⟨fun q => by omega, fun q => Or.inl q⟩
theorem jba_19 (k v : Int) : jbd 19 k v ↔ (0 ≤ v ∧ v ≤ 3) := (jba_of (i := 19) (lo := 0) (hi := 3) (c := 0) (by decide +kernel) k v).trans ⟨fun q => by omega, fun q => Or.inl q⟩
theorem jba_20 (k v : Int) : jbd 20 k v ↔ (0 ≤ v ∧ v ≤ 3) := (jba_of (i := 20) (lo := 0) (hi := 3) (c := 0) (by decide +kernel) k v).trans ⟨fun q => by omega, fun q => Or.inl q⟩
theorem jba_22 (k v : Int) : jbd 22 k v ↔ (0 ≤ v ∧ v ≤ 2000) := (jba_of (i := 22) (lo := 0) (hi := 2000) (c := 0) (by decide +kernel) k v).trans ⟨fun q => by omega, fun q => Or.inl q⟩
theorem jba_23 (k v : Int) : jbd 23 k v ↔ (0 ≤ v ∧ v ≤ 2000) := (jba_of (i := 23) (lo := 0) (hi := 2000) (c := 0) (by decide +kernel) k v).trans ⟨fun q => by omega, fun q => Or.inl q⟩
theorem jba_24 (k v : Int) : jbd 24 k v ↔ (0 ≤ v ∧ v ≤ 2000) := (jba_of (i := 24) (lo := 0) (hi := 2000) (c := 0) (by decide +kernel) k v).trans ⟨fun q => by omega, fun q => Or.inl q⟩
theorem jba_26 (k v : Int) : jbd 26 k v ↔ (0 ≤ v ∧ v ≤ 500) := (jba_of (i := 26) (lo := 0) (hi := 500) (c := 0) (by decide +kernel) k v).trans ⟨fun q => by omega, fun q => Or.inl q⟩
theorem jba_27 (k v : Int) : jbd 27 k v ↔ (0 ≤ v ∧ v ≤ 500) := (jba_of (i := 27) (lo := 0) (hi := 500) (c := 0) (by decide +kernel) k v).trans ⟨fun q => by omega, fun q => Or.inl q⟩
theorem jba_28 (k v : Int) : jbd 28 k v ↔ (0 ≤ v ∧ v ≤ 500) := (jba_of (i := 28) (lo := 0) (hi := 500) (c := 0) (by decide +kernel) k v).trans ⟨fun q => by omega, fun q => Or.inl q⟩
theorem jba_30 (k v : Int) : jbd 30 k v ↔ (-2147483648 ≤ v ∧ v ≤ 2147483647) := (jba_of (i := 30) (lo := -2147483648) (hi := 2147483647) (c := 0) (by decide +kernel) k v).trans ⟨fun q => by omega, fun q => Or.inl q⟩
theorem jba_31 (k v : Int) : jbd 31 k v ↔ (-2 ≤ v ∧ v ≤ 15) := (jba_of (i := 31) (lo := -2) (hi := 15) (c := 0) (by decide +kernel) k v).trans ⟨fun q => by omega, fun q => Or.inl q⟩
theorem jba_32 (k v : Int) : jbd 32 k v ↔ (-2147483648 ≤ v ∧ v ≤ 2147483647) := (jba_of (i := 32) (lo := -2147483648) (hi := 2147483647) (c := 0) (by decide +kernel) k v).trans ⟨fun q => by omega, fun q => Or.inl q⟩
theorem jba_34 (k v : Int) : jbd 34 k v ↔ (0 ≤ v ∧ v ≤ 15) := (jba_of (i := 34) (lo := 0) (hi := 15) (c := 0) (by decide +kernel) k v).trans ⟨fun q => by omega, fun q => Or.inl q⟩
theorem jba_35 (k v : Int) : jbd 35 k v ↔ (-2147483648 ≤ v ∧ v ≤ 2147483647) := (jba_of (i := 35) (lo := -2147483648) (hi := 2147483647) (c := 0) (by decide +kernel) k v).trans ⟨fun q => by omega, fun q => Or.inl q⟩
theorem jba_37 (k v : Int) : jbd 37 k v ↔ (-2147483648 ≤ v ∧ v ≤ 2147483647) := (jba_of (i := 37) (lo := -2147483648) (hi := 2147483647) (c := 0) (by decide +kernel) k v).trans ⟨fun q => by omega, fun q => Or.inl q⟩
theorem jba_38 (k v : Int) : jbd 38 k v ↔ (-2147483648 ≤ v ∧ v ≤ 2147483647) := (jba_of (i := 38) (lo := -2147483648) (hi := 2147483647) (c := 0) (by decide +kernel) k v).trans ⟨fun q => by omega, fun q => Or.inl q⟩
theorem jba_40 (k v : Int) : jbd 40 k v ↔ (-2147483648 ≤ v ∧ v ≤ 2147483647) := (jba_of (i := 40) (lo := -2147483648) (hi := 2147483647) (c := 0) (by decide +kernel) k v).trans ⟨fun q => by omega, fun q => Or.inl q⟩
theorem jba_41 (k v : Int) : jbd 41 k v ↔ (-2147483648 ≤ v ∧ v ≤ 2147483647) := (jba_of (i := 41) (lo := -2147483648) (hi := 2147483647) (c := 0) (by decide +kernel) k v).trans ⟨fun q => by omega, fun q => Or.inl q⟩
theorem jba_43 (k v : Int) : jbd 43 k v ↔ (-2147483648 ≤ v ∧ v ≤ 2147483647) := (jba_of (i := 43) (lo := -2147483648) (hi := 2147483647) (c := 0) (by decide +kernel) k v).trans ⟨fun q => by omega, fun q => Or.inl q⟩
theorem jba_44 (k v : Int) : jbd 44 k v ↔ (-2147483648 ≤ v ∧ v ≤ 2147483647) := (jba_of (i := 44) (lo := -2147483648) (hi := 2147483647) (c := 0) (by decide +kernel) k v).trans ⟨fun q => by omega, fun q => Or.inl q⟩
theorem jba_46 (k v : Int) : jbd 46 k v ↔ (-2147483648 ≤ v ∧ v ≤ 2147483647) := (jba_of (i := 46) (lo := -2147483648) (hi := 2147483647) (c := 0) (by decide +kernel) k v).trans ⟨fun q => by omega, fun q => Or.inl q⟩
theorem jba_47 (k v : Int) : jbd 47 k v ↔ (-2147483648 ≤ v ∧ v ≤ 2147483647) := (jba_of (i := 47) (lo := -2147483648) (hi := 2147483647) (c := 0) (by decide +kernel) k v).trans ⟨fun q => by omega, fun q => Or.inl q⟩
theorem jba_49 (k v : Int) : jbd 49 k v ↔ (-2147483648 ≤ v ∧ v ≤ 2147483647) := (jba_of (i := 49) (lo := -2147483648) (hi := 2147483647) (c := 0) (by decide +kernel) k v).trans ⟨fun q => by omega, fun q => Or.inl q⟩
theorem jba_50 (k v : Int) : jbd 50 k v ↔ (-2147483648 ≤ v ∧ v ≤ 2147483647) := (jba_of (i := 50) (lo := -2147483648) (hi := 2147483647) (c := 0) (by decide +kernel) k v).trans ⟨fun q => by omega, fun q => Or.inl q⟩
theorem jba_52 (k v : Int) : jbd 52 k v ↔ (-2147483648 ≤ v ∧ v ≤ 2147483647) := (jba_of (i := 52) (lo := -2147483648) (hi := 2147483647) (c := 0) (by decide +kernel) k v).trans ⟨fun q => by omega, fun q => Or.inl q⟩
theorem jba_53 (k v : Int) : jbd 53 k v ↔ (-2147483648 ≤ v ∧ v ≤ 2147483647) := (jba_of (i := 53) (lo := -2147483648) (hi := 2147483647) (c := 0) (by decide +kernel) k v).trans ⟨fun q => by omega, fun q => Or.inl q⟩
theorem jba_55 (k v : Int) : jbd 55 k v ↔ (-2147483648 ≤ v ∧ v ≤ 2147483647) := (jba_of (i := 55) (lo := -2147483648) (hi := 2147483647) (c := 0) (by decide +kernel) k v).trans ⟨fun q => by omega, fun q => Or.inl q⟩
theorem jba_56 (k v : Int) : jbd 56 k v ↔ (-2147483648 ≤ v ∧ v ≤ 2147483647) := (jba_of (i := 56) (lo := -2147483648) (hi := 2147483647) (c := 0) (by decide +kernel) k v).trans ⟨fun q => by omega, fun q => Or.inl q⟩
theorem jba_58 (k v : Int) : jbd 58 k v ↔ (-2147483648 ≤ v ∧ v ≤ 2147483647) := (jba_of (i := 58) (lo := -2147483648) (hi := 2147483647) (c := 0) (by decide +kernel) k v).trans ⟨fun q => by omega, fun q => Or.inl q⟩
theorem jba_59 (k v : Int) : jbd 59 k v ↔ (-2147483648 ≤ v ∧ v ≤ 2147483647) := (jba_of (i := 59) (lo := -2147483648) (hi := 2147483647) (c := 0) (by decide +kernel) k v).trans ⟨fun q => by omega, fun q => Or.inl q⟩
theorem jba_61 (k v : Int) : jbd 61 k v ↔ (-2147483648 ≤ v ∧ v ≤ 2147483647) := (jba_of (i := 61) (lo := -2147483648) (hi := 2147483647) (c := 0) (by decide +kernel) k v).trans ⟨fun q => by omega, fun q => Or.inl q⟩
theorem jba_62 (k v : Int) : jbd 62 k v ↔ (-2147483648 ≤ v ∧ v ≤ 2147483647) := (jba_of (i := 62) (lo := -2147483648) (hi := 2147483647) (c := 0) (by decide +kernel) k v).trans ⟨fun q => by omega, fun q => Or.inl q⟩
theorem jba_64 (k v : Int) : jbd 64 k v ↔ (-2147483648 ≤ v ∧ v ≤ 2147483647) := (jba_of (i := 64) (lo := -2147483648) (hi := 2147483647) (c := 0) (by decide +kernel) k v).trans ⟨fun q => by omega, fun q => Or.inl q⟩
theorem jba_65 (k v : Int) : jbd 65 k v ↔ (-2147483648 ≤ v ∧ v ≤ 2147483647) := (jba_of (i := 65) (lo := -2147483648) (hi := 2147483647) (c := 0) (by decide +kernel) k v).trans ⟨fun q => by omega, fun q => Or.inl q⟩
theorem jba_67 (k v : Int) : jbd 67 k v ↔ (-2147483648 ≤ v ∧ v ≤ 2147483647) := (jba_of (i := 67) (lo := -2147483648) (hi := 2147483647) (c := 0) (by decide +kernel) k v).trans ⟨fun q => by omega, fun q => Or.inl q⟩
theorem jba_68 (k v : Int) : jbd 68 k v ↔ (-2147483648 ≤ v ∧ v ≤ 2147483647) := (jba_of (i := 68) (lo := -2147483648) (hi := 2147483647) (c := 0) (by decide +kernel) k v).trans ⟨fun q => by omega, fun q => Or.inl q⟩
theorem jba_70 (k v : Int) : jbd 70 k v ↔ (-2147483648 ≤ v ∧ v ≤ 2147483647) := (jba_of (i := 70) (lo := -2147483648) (hi := 2147483647) (c := 0) (by decide +kernel) k v).trans ⟨fun q => by omega, fun q => Or.inl q⟩
theorem jba_71 (k v : Int) : jbd 71 k v ↔ (-2147483648 ≤ v ∧ v ≤ 2147483647) := (jba_of (i := 71) (lo := -2147483648) (hi := 2147483647) (c := 0) (by decide +kernel) k v).trans ⟨fun q => by omega, fun q => Or.inl q⟩
theorem jba_73 (k v : Int) : jbd 73 k v ↔ (-2147483648 ≤ v ∧ v ≤ 2147483647) := (jba_of (i := 73) (lo := -2147483648) (hi := 2147483647) (c := 0) (by decide +kernel) k v).trans ⟨fun q => by omega, fun q => Or.inl q⟩
theorem jba_74 (k v : Int) : jbd 74 k v ↔ (-2147483648 ≤ v ∧ v ≤ 2147483647) := (jba_of (i := 74) (lo := -2147483648) (hi := 2147483647) (c := 0) (by decide +kernel) k v).trans ⟨fun q => by omega, fun q => Or.inl q⟩
theorem jba_76 (k v : Int) : jbd 76 k v ↔ (-2147483648 ≤ v ∧ v ≤ 2147483647) := (jba_of (i := 76) (lo := -2147483648) (hi := 2147483647) (c := 0) (by decide +kernel) k v).trans ⟨fun q => by omega, fun q => Or.inl q⟩
theorem jba_77 (k v : Int) : jbd 77 k v ↔ (-2147483648 ≤ v ∧ v ≤ 2147483647) := (jba_of (i := 77) (lo := -2147483648) (hi := 2147483647) (c := 0) (by decide +kernel) k v).trans ⟨fun q => by omega, fun q => Or.inl q⟩
theorem jba_79 (k v : Int) : jbd 79 k v ↔ (-2147483648 ≤ v ∧ v ≤ 2147483647) := (jba_of (i := 79) (lo := -2147483648) (hi := 2147483647) (c := 0) (by decide +kernel) k v).trans ⟨fun q => by omega, fun q => Or.inl q⟩
theorem jba_80 (k v : Int) : jbd 80 k v ↔ (-2147483648 ≤ v ∧ v ≤ 2147483647) := (jba_of (i := 80) (lo := -2147483648) (hi := 2147483647) (c := 0) (by decide +kernel) k v).trans ⟨fun q => by omega, fun q => Or.inl q⟩
theorem jba_82 (k v : Int) : jbd 82 k v ↔ (-2147483648 ≤ v ∧ v ≤ 2147483647) := (jba_of (i := 82) (lo := -2147483648) (hi := 2147483647) (c := 0) (by decide +kernel) k v).trans ⟨fun q => by omega, fun q => Or.inl q⟩
theorem jba_83 (k v : Int) : jbd 83 k v ↔ (-2147483648 ≤ v ∧ v ≤ 2147483647) := (jba_of (i := 83) (lo := -2147483648) (hi := 2147483647) (c := 0) (by decide +kernel) k v).trans ⟨fun q => by omega, fun q => Or.inl q⟩
theorem jba_85 (k v : Int) : jbd 85 k v ↔ (0 ≤ v ∧ v ≤ 2) := (jba_of (i := 85) (lo := 0) (hi := 2) (c := 0) (by decide +kernel) k v).trans ⟨fun q => by omega, fun q => Or.inl q⟩
theorem jba_86 (k v : Int) : jbd 86 k v ↔ (-9 ≤ v ∧ v ≤ 9) := (jba_of (i := 86) (lo := -9) (hi := 9) (c := 0) (by decide +kernel) k v).trans ⟨fun q => by omega, fun q => Or.inl q⟩
theorem jba_87 (k v : Int) : jbd 87 k v ↔ (-2147483648 ≤ v ∧ v ≤ 2147483647) := (jba_of (i := 87) (lo := -2147483648) (hi := 2147483647) (c := 0) (by decide +kernel) k v).trans ⟨fun q => by omega, fun q => Or.inl q⟩
theorem jba_88 (k v : Int) : jbd 88 k v ↔ (-9 ≤ v ∧ v ≤ 15) := (jba_of (i := 88) (lo := -9) (hi := 15) (c := 0) (by decide +kernel) k v).trans ⟨fun q => by omega, fun q => Or.inl q⟩
theorem jba_89 (k v : Int) : jbd 89 k v ↔ (-9 ≤ v ∧ v ≤ 5) := (jba_of (i := 89) (lo := -9) (hi := 5) (c := 0) (by decide +kernel) k v).trans ⟨fun q => by omega, fun q => Or.inl q⟩
theorem jba_90 (k v : Int) : jbd 90 k v ↔ (0 ≤ v ∧ v ≤ 9) := (jba_of (i := 90) (lo := 0) (hi := 9) (c := 0) (by decide +kernel) k v).trans ⟨fun q => by omega, fun q => Or.inl q⟩
theorem jba_92 (k v : Int) : jbd 92 k v ↔ (0 ≤ v ∧ v ≤ 6) := (jba_of (i := 92) (lo := 0) (hi := 6) (c := 0) (by decide +kernel) k v).trans ⟨fun q => by omega, fun q => Or.inl q⟩
theorem jba_93 (k v : Int) : jbd 93 k v ↔ (0 ≤ v ∧ v ≤ 2) := (jba_of (i := 93) (lo := 0) (hi := 2) (c := 0) (by decide +kernel) k v).trans ⟨fun q => by omega, fun q => Or.inl q⟩
theorem jba_94 (k v : Int) : jbd 94 k v ↔ (-9 ≤ v ∧ v ≤ 9) := (jba_of (i := 94) (lo := -9) (hi := 9) (c := 0) (by decide +kernel) k v).trans ⟨fun q => by omega, fun q => Or.inl q⟩
theorem jba_95 (k v : Int) : jbd 95 k v ↔ (0 ≤ v ∧ v ≤ 9) := (jba_of (i := 95) (lo := 0) (hi := 9) (c := 0) (by decide +kernel) k v).trans ⟨fun q => by omega, fun q => Or.inl q⟩
theorem jba_96 (k v : Int) : jbd 96 k v ↔ (0 ≤ v ∧ v ≤ 500) := (jba_of (i := 96) (lo := 0) (hi := 500) (c := 0) (by decide +kernel) k v).trans ⟨fun q => by omega, fun q => Or.inl q⟩
theorem jba_98 (k v : Int) : jbd 98 k v ↔ ((0 ≤ v ∧ v ≤ 39) ∨ v = -9) := jba_of (by decide +kernel) k v
theorem jba_99 (k v : Int) : jbd 99 k v ↔ (-9223372036854775808 ≤ v ∧ v ≤ 9223372036854775807) := (jba_of (i := 99) (lo := -9223372036854775808) (hi := 9223372036854775807) (c := 0) (by decide +kernel) k v).trans ⟨fun q => by omega, fun q => Or.inl q⟩
theorem jba_100 (k v : Int) : jbd 100 k v ↔ (-9223372036854775808 ≤ v ∧ v ≤ 9223372036854775807) := (jba_of (i := 100) (lo := -9223372036854775808) (hi := 9223372036854775807) (c := 0) (by decide +kernel) k v).trans ⟨fun q => by omega, fun q => Or.inl q⟩
theorem jba_102 (k v : Int) : jbd 102 k v ↔ (0 ≤ v ∧ v ≤ 5) := (jba_of (i := 102) (lo := 0) (hi := 5) (c := 0) (by decide +kernel) k v).trans ⟨fun q => by omega, fun q => Or.inl q⟩
theorem jba_103 (k v : Int) : jbd 103 k v ↔ (0 ≤ v ∧ v ≤ 2000) := (jba_of (i := 103) (lo := 0) (hi := 2000) (c := 0) (by decide +kernel) k v).trans ⟨fun q => by omega, fun q => Or.inl q⟩
theorem jba_104 (k v : Int) : jbd 104 k v ↔ (-2147483648 ≤ v ∧ v ≤ 2147483647) := (jba_of (i := 104) (lo := -2147483648) (hi := 2147483647) (c := 0) (by decide +kernel) k v).trans ⟨fun q => by omega, fun q => Or.inl q⟩
theorem jba_105 (k v : Int) : jbd 105 k v ↔ (0 ≤ v ∧ v ≤ 2000) := (jba_of (i := 105) (lo := 0) (hi := 2000) (c := 0) (by decide +kernel) k v).trans ⟨fun q => by omega, fun q => Or.inl q⟩
theorem jba_107 (k v : Int) : jbd 107 k v ↔ (0 ≤ v ∧ v ≤ 400) := (jba_of (i := 107) (lo := 0) (hi := 400) (c := 0) (by decide +kernel) k v).trans ⟨fun q => by omega, fun q => Or.inl q⟩
theorem jba_108 (k v : Int) : jbd 108 k v ↔ (0 ≤ v ∧ v ≤ 200) := (jba_of (i := 108) (lo := 0) (hi := 200) (c := 0) (by decide +kernel) k v).trans ⟨fun q => by omega, fun q => Or.inl q⟩
theorem jba_109 (k v : Int) : jbd 109 k v ↔ (-2147483648 ≤ v ∧ v ≤ 2147483647) := (jba_of (i := 109) (lo := -2147483648) (hi := 2147483647) (c := 0) (by decide +kernel) k v).trans ⟨fun q => by omega, fun q => Or.inl q⟩
theorem jba_110 (k v : Int) : jbd 110 k v ↔ (-2147483648 ≤ v ∧ v ≤ 2147483647) := (jba_of (i := 110) (lo := -2147483648) (hi := 2147483647) (c := 0) (by decide +kernel) k v).trans ⟨fun q => by omega, fun q => Or.inl q⟩
theorem jba_112 (k v : Int) : jbd 112 k v ↔ (0 ≤ v ∧ v ≤ 15) := (jba_of (i := 112) (lo := 0) (hi := 15) (c := 0) (by decide +kernel) k v).trans ⟨fun q => by omega, fun q => Or.inl q⟩
theorem jba_114 (k v : Int) : jbd 114 k v ↔ (0 ≤ v ∧ v ≤ 400) := (jba_of (i := 114) (lo := 0) (hi := 400) (c := 0) (by decide +kernel) k v).trans ⟨fun q => by omega, fun q => Or.inl q⟩
theorem jba_115 (k v : Int) : jbd 115 k v ↔ (0 ≤ v ∧ v ≤ 200) := (jba_of (i := 115) (lo := 0) (hi := 200) (c := 0) (by decide +kernel) k v).trans ⟨fun q => by omega, fun q => Or.inl q⟩
theorem jba_116 (k v : Int) : jbd 116 k v ↔ (-2147483648 ≤ v ∧ v ≤ 2147483647) := (jba_of (i := 116) (lo := -2147483648) (hi := 2147483647) (c := 0) (by decide +kernel) k v).trans ⟨fun q => by omega, fun q => Or.inl q⟩
theorem jba_117 (k v : Int) : jbd 117 k v ↔ (-2147483648 ≤ v ∧ v ≤ 2147483647) := (jba_of (i := 117) (lo := -2147483648) (hi := 2147483647) (c := 0) (by decide +kernel) k v).trans ⟨fun q => by omega, fun q => Or.inl q⟩
theorem jba_118 (k v : Int) : jbd 118 k v ↔ (-1 ≤ v ∧ v ≤ 299) := (jba_of (i := 118) (lo := -1) (hi := 299) (c := 0) (by decide +kernel) k v).trans ⟨fun q => by omega, fun q => Or.inl q⟩
theorem jba_120 (k v : Int) : jbd 120 k v ↔ (-2147483648 ≤ v ∧ v ≤ 2147483647) := (jba_of (i := 120) (lo := -2147483648) (hi := 2147483647) (c := 0) (by decide +kernel) k v).trans ⟨fun q => by omega, fun q => Or.inl q⟩
theorem jba_121 (k v : Int) : jbd 121 k v ↔ (-2 ≤ v ∧ v ≤ 15) := (jba_of (i := 121) (lo := -2) (hi := 15) (c := 0) (by decide +kernel) k v).trans ⟨fun q => by omega, fun q => Or.inl q⟩
theorem jba_122 (k v : Int) : jbd 122 k v ↔ (-2147483648 ≤ v ∧ v ≤ 2147483647) := (jba_of (i := 122) (lo := -2147483648) (hi := 2147483647) (c := 0) (by decide +kernel) k v).trans ⟨fun q => by omega, fun q => Or.inl q⟩
theorem jba_124 (k v : Int) : jbd 124 k v ↔ (0 ≤ v ∧ v ≤ 15) := (jba_of (i := 124) (lo := 0) (hi := 15) (c := 0) (by decide +kernel) k v).trans ⟨fun q => by omega, fun q => Or.inl q⟩
theorem jba_125 (k v : Int) : jbd 125 k v ↔ (-2147483648 ≤ v ∧ v ≤ 2147483647) := (jba_of (i := 125) (lo := -2147483648) (hi := 2147483647) (c := 0) (by decide +kernel) k v).trans ⟨fun q => by omega, fun q => Or.inl q⟩
theorem jba_127 (k v : Int) : jbd 127 k v ↔ (-2147483648 ≤ v ∧ v ≤ 2147483647) := (jba_of (i := 127) (lo := -2147483648) (hi := 2147483647) (c := 0) (by decide +kernel) k v).trans ⟨fun q => by omega, fun q => Or.inl q⟩
theorem jba_128 (k v : Int) : jbd 128 k v ↔ (-2147483648 ≤ v ∧ v ≤ 2147483647) := (jba_of (i := 128) (lo := -2147483648) (hi := 2147483647) (c := 0) (by decide +kernel) k v).trans ⟨fun q => by omega, fun q => Or.inl q⟩
theorem jba_130 (k v : Int) : jbd 130 k v ↔ (-2147483648 ≤ v ∧ v ≤ 2147483647) := (jba_of (i := 130) (lo := -2147483648) (hi := 2147483647) (c := 0) (by decide +kernel) k v).trans ⟨fun q => by omega, fun q => Or.inl q⟩
theorem jba_131 (k v : Int) : jbd 131 k v ↔ (-2147483648 ≤ v ∧ v ≤ 2147483647) := (jba_of (i := 131) (lo := -2147483648) (hi := 2147483647) (c := 0) (by decide +kernel) k v).trans ⟨fun q => by omega, fun q => Or.inl q⟩
theorem jba_133 (k v : Int) : jbd 133 k v ↔ (-2147483648 ≤ v ∧ v ≤ 2147483647) := (jba_of (i := 133) (lo := -2147483648) (hi := 2147483647) (c := 0) (by decide +kernel) k v).trans ⟨fun q => by omega, fun q => Or.inl q⟩
theorem jba_134 (k v : Int) : jbd 134 k v ↔ (-2147483648 ≤ v ∧ v ≤ 2147483647) := (jba_of (i := 134) (lo := -2147483648) (hi := 2147483647) (c := 0) (by decide +kernel) k v).trans ⟨fun q => by omega, fun q => Or.inl q⟩
theorem jba_136 (k v : Int) : jbd 136 k v ↔ (-2147483648 ≤ v ∧ v ≤ 2147483647) := (jba_of (i := 136) (lo := -2147483648) (hi := 2147483647) (c := 0) (by decide +kernel) k v).trans ⟨fun q => by omega, fun q => Or.inl q⟩
theorem jba_137 (k v : Int) : jbd 137 k v ↔ (-2147483648 ≤ v ∧ v ≤ 2147483647) := (jba_of (i := 137) (lo := -2147483648) (hi := 2147483647) (c := 0) (by decide +kernel) k v).trans ⟨fun q => by omega, fun q => Or.inl q⟩
theorem jba_139 (k v : Int) : jbd 139 k v ↔ (-2147483648 ≤ v ∧ v ≤ 2147483647) := (jba_of (i := 139) (lo := -2147483648) (hi := 2147483647) (c := 0) (by decide +kernel) k v).trans ⟨fun q => by omega, fun q => Or.inl q⟩
theorem jba_140 (k v : Int) : jbd 140 k v ↔ (-2147483648 ≤ v ∧ v ≤ 2147483647) := (jba_of (i := 140) (lo := -2147483648) (hi := 2147483647) (c := 0) (by decide +kernel) k v).trans ⟨fun q => by omega, fun q => Or.inl q⟩
theorem jba_142 (k v : Int) : jbd 142 k v ↔ (-2147483648 ≤ v ∧ v ≤ 2147483647) := (jba_of (i := 142) (lo := -2147483648) (hi := 2147483647) (c := 0) (by decide +kernel) k v).trans ⟨fun q => by omega, fun q => Or.inl q⟩
theorem jba_143 (k v : Int) : jbd 143 k v ↔ (-2147483648 ≤ v ∧ v ≤ 2147483647) := (jba_of (i := 143) (lo := -2147483648) (hi := 2147483647) (c := 0) (by decide +kernel) k v).trans ⟨fun q => by omega, fun q => Or.inl q⟩
theorem jba_145 (k v : Int) : jbd 145 k v ↔ (-2147483648 ≤ v ∧ v ≤ 2147483647) := (jba_of (i := 145) (lo := -2147483648) (hi := 2147483647) (c := 0) (by decide +kernel) k v).trans ⟨fun q => by omega, fun q => Or.inl q⟩
theorem jba_146 (k v : Int) : jbd 146 k v ↔ (-2147483648 ≤ v ∧ v ≤ 2147483647) := (jba_of (i := 146) (lo := -2147483648) (hi := 2147483647) (c := 0) (by decide +kernel) k v).trans ⟨fun q => by omega, fun q => Or.inl q⟩
theorem jba_148 (k v : Int) : jbd 148 k v ↔ (-2147483648 ≤ v ∧ v ≤ 2147483647) := (jba_of (i := 148) (lo := -2147483648) (hi := 2147483647) (c := 0) (by decide +kernel) k v).trans ⟨fun q => by omega, fun q => Or.inl q⟩
theorem jba_149 (k v : Int) : jbd 149 k v ↔ (-2147483648 ≤ v ∧ v ≤ 2147483647) := (jba_of (i := 149) (lo := -2147483648) (hi := 2147483647) (c := 0) (by decide +kernel) k v).trans ⟨fun q => by omega, fun q => Or.inl q⟩
theorem jba_151 (k v : Int) : jbd 151 k v ↔ (-2147483648 ≤ v ∧ v ≤ 2147483647) := (jba_of (i := 151) (lo := -2147483648) (hi := 2147483647) (c := 0) (by decide +kernel) k v).trans ⟨fun q => by omega, fun q => Or.inl q⟩
theorem jba_152 (k v : Int) : jbd 152 k v ↔ (-2147483648 ≤ v ∧ v ≤ 2147483647) := (jba_of (i := 152) (lo := -2147483648) (hi := 2147483647) (c := 0) (by decide +kernel) k v).trans ⟨fun q => by omega, fun q => Or.inl q⟩
theorem jba_154 (k v : Int) : jbd 154 k v ↔ (-2147483648 ≤ v ∧ v ≤ 2147483647) := (jba_of (i := 154) (lo := -2147483648) (hi := 2147483647) (c := 0) (by decide +kernel) k v).trans ⟨fun q => by omega, fun q => Or.inl q⟩
theorem jba_155 (k v : Int) : jbd 155 k v ↔ (-2147483648 ≤ v ∧ v ≤ 2147483647) := (jba_of (i := 155) (lo := -2147483648) (hi := 2147483647) (c := 0) (by decide +kernel) k v).trans ⟨fun q => by omega, fun q => Or.inl q⟩
theorem jba_157 (k v : Int) : jbd 157 k v ↔ (-2147483648 ≤ v ∧ v ≤ 2147483647) := (jba_of (i := 157) (lo := -2147483648) (hi := 2147483647) (c := 0) (by decide +kernel) k v).trans ⟨fun q => by omega, fun q => Or.inl q⟩
theorem jba_158 (k v : Int) : jbd 158 k v ↔ (-2147483648 ≤ v ∧ v ≤ 2147483647) := (jba_of (i := 158) (lo := -2147483648) (hi := 2147483647) (c := 0) (by decide +kernel) k v).trans ⟨fun q => by omega, fun q => Or.inl q⟩
theorem jba_160 (k v : Int) : jbd 160 k v ↔ (-2147483648 ≤ v ∧ v ≤ 2147483647) := (jba_of (i := 160) (lo := -2147483648) (hi := 2147483647) (c := 0) (by decide +kernel) k v).trans ⟨fun q => by omega, fun q => Or.inl q⟩
theorem jba_161 (k v : Int) : jbd 161 k v ↔ (-2147483648 ≤ v ∧ v ≤ 2147483647) := (jba_of (i := 161) (lo := -2147483648) (hi := 2147483647) (c := 0) (by decide +kernel) k v).trans ⟨fun q => by omega, fun q => Or.inl q⟩
theorem jba_163 (k v : Int) : jbd 163 k v ↔ (-2147483648 ≤ v ∧ v ≤ 2147483647) := (jba_of (i := 163) (lo := -2147483648) (hi := 2147483647) (c := 0) (by decide +kernel) k v).trans ⟨fun q => by omega, fun q => Or.inl q⟩
theorem jba_164 (k v : Int) : jbd 164 k v ↔ (-2147483648 ≤ v ∧ v ≤ 2147483647) := (jba_of (i := 164) (lo := -2147483648) (hi := 2147483647) (c := 0) (by decide +kernel) k v).trans ⟨fun q => by omega, fun q => Or.inl q⟩
theorem jba_166 (k v : Int) : jbd 166 k v ↔ (-2147483648 ≤ v ∧ v ≤ 2147483647) := (jba_of (i := 166) (lo := -2147483648) (hi := 2147483647) (c := 0) (by decide +kernel) k v).trans ⟨fun q => by omega, fun q => Or.inl q⟩
theorem jba_167 (k v : Int) : jbd 167 k v ↔ (-2147483648 ≤ v ∧ v ≤ 2147483647) := (jba_of (i := 167) (lo := -2147483648) (hi := 2147483647) (c := 0) (by decide +kernel) k v).trans ⟨fun q => by omega, fun q => Or.inl q⟩
theorem jba_169 (k v : Int) : jbd 169 k v ↔ (-2147483648 ≤ v ∧ v ≤ 2147483647) := (jba_of (i := 169) (lo := -2147483648) (hi := 2147483647) (c := 0) (by decide +kernel) k v).trans ⟨fun q => by omega, fun q => Or.inl q⟩
theorem jba_170 (k v : Int) : jbd 170 k v ↔ (-2147483648 ≤ v ∧ v ≤ 2147483647) := (jba_of (i := 170) (lo := -2147483648) (hi := 2147483647) (c := 0) (by decide +kernel) k v).trans ⟨fun q => by omega, fun q => Or.inl q⟩
theorem jba_172 (k v : Int) : jbd 172 k v ↔ (-2147483648 ≤ v ∧ v ≤ 2147483647) := (jba_of (i := 172) (lo := -2147483648) (hi := 2147483647) (c := 0) (by decide +kernel) k v).trans ⟨fun q => by omega, fun q => Or.inl q⟩
theorem jba_173 (k v : Int) : jbd 173 k v ↔ (-2147483648 ≤ v ∧ v ≤ 2147483647) := (jba_of (i := 173) (lo := -2147483648) (hi := 2147483647) (c := 0) (by decide +kernel) k v).trans ⟨fun q => by omega, fun q => Or.inl q⟩
theorem jba_174 (k v : Int) : jbd 174 k v ↔ (-2147483648 ≤ v ∧ v ≤ 2147483647) := (jba_of (i := 174) (lo := -2147483648) (hi := 2147483647) (c := 0) (by decide +kernel) k v).trans ⟨fun q => by omega, fun q => Or.inl q⟩
theorem jba_175 (k v : Int) : jbd 175 k v ↔ (0 ≤ v ∧ v ≤ 15) := (jba_of (i := 175) (lo := 0) (hi := 15) (c := 0) (by decide +kernel) k v).trans ⟨fun q => by omega, fun q => Or.inl q⟩
theorem jba_177 (k v : Int) : jbd 177 k v ↔ (0 ≤ v ∧ v ≤ 400) := (jba_of (i := 177) (lo := 0) (hi := 400) (c := 0) (by decide +kernel) k v).trans ⟨fun q => by omega, fun q => Or.inl q⟩
theorem jba_178 (k v : Int) : jbd 178 k v ↔ (-1 ≤ v ∧ v ≤ 3) := (jba_of (i := 178) (lo := -1) (hi := 3) (c := 0) (by decide +kernel) k v).trans ⟨fun q => by omega, fun q => Or.inl q⟩
theorem jba_179 (k v : Int) : jbd 179 k v ↔ (-1 ≤ v ∧ v ≤ 30) := (jba_of (i := 179) (lo := -1) (hi := 30) (c := 0) (by decide +kernel) k v).trans ⟨fun q => by omega, fun q => Or.inl q⟩
theorem jba_180 (k v : Int) : jbd 180 k v ↔ (0 ≤ v ∧ v ≤ 400) := (jba_of (i := 180) (lo := 0) (hi := 400) (c := 0) (by decide +kernel) k v).trans ⟨fun q => by omega, fun q => Or.inl q⟩
theorem jba_181 (k v : Int) : jbd 181 k v ↔ (-2147483648 ≤ v ∧ v ≤ 2147483647) := (jba_of (i := 181) (lo := -2147483648) (hi := 2147483647) (c := 0) (by decide +kernel) k v).trans ⟨fun q => by omega, fun q => Or.inl q⟩
theorem jba_182 (k v : Int) : jbd 182 k v ↔ (0 ≤ v ∧ v ≤ 3) := (jba_of (i := 182) (lo := 0) (hi := 3) (c := 0) (by decide +kernel) k v).trans ⟨fun q => by omega, fun q => Or.inl q⟩
theorem jba_183 (k v : Int) : jbd 183 k v ↔ (0 ≤ v ∧ v ≤ 3) := (jba_of (i := 183) (lo := 0) (hi := 3) (c := 0) (by decide +kernel) k v).trans ⟨fun q => by omega, fun q => Or.inl q⟩
theorem jba_184 (k v : Int) : jbd 184 k v ↔ (0 ≤ v ∧ v ≤ 200) := (jba_of (i := 184) (lo := 0) (hi := 200) (c := 0) (by decide +kernel) k v).trans ⟨fun q => by omega, fun q => Or.inl q⟩
theorem jba_185 (k v : Int) : jbd 185 k v ↔ (0 ≤ v ∧ v ≤ 2000) := (jba_of (i := 185) (lo := 0) (hi := 2000) (c := 0) (by decide +kernel) k v).trans ⟨fun q => by omega, fun q => Or.inl q⟩
theorem jba_186 (k v : Int) : jbd 186 k v ↔ (0 ≤ v ∧ v ≤ 3) := (jba_of (i := 186) (lo := 0) (hi := 3) (c := 0) (by decide +kernel) k v).trans ⟨fun q => by omega, fun q => Or.inl q⟩
theorem jba_187 (k v : Int) : jbd 187 k v ↔ (0 ≤ v ∧ v ≤ 2000) := (jba_of (i := 187) (lo := 0) (hi := 2000) (c := 0) (by decide +kernel) k v).trans ⟨fun q => by omega, fun q => Or.inl q⟩
theorem jba_188 (k v : Int) : jbd 188 k v ↔ (0 ≤ v ∧ v ≤ 500) := (jba_of (i := 188) (lo := 0) (hi := 500) (c := 0) (by decide +kernel) k v).trans ⟨fun q => by omega, fun q => Or.inl q⟩
theorem jba_189 (k v : Int) : jbd 189 k v ↔ (0 ≤ v ∧ v ≤ 2) := (jba_of (i := 189) (lo := 0) (hi := 2) (c := 0) (by decide +kernel) k v).trans ⟨fun q => by omega, fun q => Or.inl q⟩
theorem jba_190 (k v : Int) : jbd 190 k v ↔ (0 ≤ v ∧ v ≤ 99) := (jba_of (i := 190) (lo := 0) (hi := 99) (c := 0) (by decide +kernel) k v).trans ⟨fun q => by omega, fun q => Or.inl q⟩
theorem jba_191 (k v : Int) : jbd 191 k v ↔ (0 ≤ v ∧ v ≤ 2000) := (jba_of (i := 191) (lo := 0) (hi := 2000) (c := 0) (by decide +kernel) k v).trans ⟨fun q => by omega, fun q => Or.inl q⟩
theorem jba_192 (k v : Int) : jbd 192 k v ↔ (0 ≤ v ∧ v ≤ 3) := (jba_of (i := 192) (lo := 0) (hi := 3) (c := 0) (by decide +kernel) k v).trans ⟨fun q => by omega, fun q => Or.inl q⟩
theorem jba_193 (k v : Int) : jbd 193 k v ↔ (-9 ≤ v ∧ v ≤ 5) := (jba_of (i := 193) (lo := -9) (hi := 5) (c := 0) (by decide +kernel) k v).trans ⟨fun q => by omega, fun q => Or.inl q⟩
theorem jba_194 (k v : Int) : jbd 194 k v ↔ (0 ≤ v ∧ v ≤ 3) := (jba_of (i := 194) (lo := 0) (hi := 3) (c := 0) (by decide +kernel) k v).trans ⟨fun q => by omega, fun q => Or.inl q⟩
theorem jba_195 (k v : Int) : jbd 195 k v ↔ (-2147483648 ≤ v ∧ v ≤ 2147483647) := (jba_of (i := 195) (lo := -2147483648) (hi := 2147483647) (c := 0) (by decide +kernel) k v).trans ⟨fun q => by omega, fun q => Or.inl q⟩
theorem jba_196 (k v : Int) : jbd 196 k v ↔ (0 ≤ v ∧ v ≤ 1) := (jba_of (i := 196) (lo := 0) (hi := 1) (c := 0) (by decide +kernel) k v).trans ⟨fun q => by omega, fun q => Or.inl q⟩
theorem jba_197 (k v : Int) : jbd 197 k v ↔ (-2147483648 ≤ v ∧ v ≤ 2147483647) := (jba_of (i := 197) (lo := -2147483648) (hi := 2147483647) (c := 0) (by decide +kernel) k v).trans ⟨fun q => by omega, fun q => Or.inl q⟩
theorem jba_198 (k v : Int) : jbd 198 k v ↔ (-2147483648 ≤ v ∧ v ≤ 2147483647) := (jba_of (i := 198) (lo := -2147483648) (hi := 2147483647) (c := 0) (by decide +kernel) k v).trans ⟨fun q => by omega, fun q => Or.inl q⟩
theorem jba_199 (k v : Int) : jbd 199 k v ↔ (-2147483648 ≤ v ∧ v ≤ 2147483647) := (jba_of (i := 199) (lo := -2147483648) (hi := 2147483647) (c := 0) (by decide +kernel) k v).trans ⟨fun q => by omega, fun q => Or.inl q⟩
theorem jba_200 (k v : Int) : jbd 200 k v ↔ (-2147483648 ≤ v ∧ v ≤ 2147483647) := (jba_of (i := 200) (lo := -2147483648) (hi := 2147483647) (c := 0) (by decide +kernel) k v).trans ⟨fun q => by omega, fun q => Or.inl q⟩
theorem jba_201 (k v : Int) : jbd 201 k v ↔ (0 ≤ v ∧ v ≤ 1) := (jba_of (i := 201) (lo := 0) (hi := 1) (c := 0) (by decide +kernel) k v).trans ⟨fun q => by omega, fun q => Or.inl q⟩
theorem jba_202 (k v : Int) : jbd 202 k v ↔ ((-1 ≤ v ∧ v ≤ 15) ∨ v = 100) := jba_of (by decide +kernel) k v
theorem jba_203 (k v : Int) : jbd 203 k v ↔ (-2147483648 ≤ v ∧ v ≤ 2147483647) := (jba_of (i := 203) (lo := -2147483648) (hi := 2147483647) (c := 0) (by decide +kernel) k v).trans ⟨fun q => by omega, fun q => Or.inl q⟩
theorem jba_204 (k v : Int) : jbd 204 k v ↔ (0 ≤ v ∧ v ≤ 9) := (jba_of (i := 204) (lo := 0) (hi := 9) (c := 0) (by decide +kernel) k v).trans ⟨fun q => by omega, fun q => Or.inl q⟩
theorem jba_205 (k v : Int) : jbd 205 k v ↔ (0 ≤ v ∧ v ≤ 2) := (jba_of (i := 205) (lo := 0) (hi := 2) (c := 0) (by decide +kernel) k v).trans ⟨fun q => by omega, fun q => Or.inl q⟩
theorem jba_206 (k v : Int) : jbd 206 k v ↔ (-9 ≤ v ∧ v ≤ 9) := (jba_of (i := 206) (lo := -9) (hi := 9) (c := 0) (by decide +kernel) k v).trans ⟨fun q => by omega, fun q => Or.inl q⟩
theorem jba_207 (k v : Int) : jbd 207 k v ↔ (-2147483648 ≤ v ∧ v ≤ 2147483647) := (jba_of (i := 207) (lo := -2147483648) (hi := 2147483647) (c := 0) (by decide +kernel) k v).trans ⟨fun q => by omega, fun q => Or.inl q⟩
theorem jba_208 (k v : Int) : jbd 208 k v ↔ (-1 ≤ v ∧ v ≤ 15) := (jba_of (i := 208) (lo := -1) (hi := 15) (c := 0) (by decide +kernel) k v).trans ⟨fun q => by omega, fun q => Or.inl q⟩
theorem jba_209 (k v : Int) : jbd 209 k v ↔ (-1 ≤ v ∧ v ≤ 5) := (jba_of (i := 209) (lo := -1) (hi := 5) (c := 0) (by decide +kernel) k v).trans ⟨fun q => by omega, fun q => Or.inl q⟩
theorem jba_210 (k v : Int) : jbd 210 k v ↔ (0 ≤ v ∧ v ≤ 6) := (jba_of (i := 210) (lo := 0) (hi := 6) (c := 0) (by decide +kernel) k v).trans ⟨fun q => by omega, fun q => Or.inl q⟩
theorem jba_211 (k v : Int) : jbd 211 k v ↔ (0 ≤ v ∧ v ≤ 2) := (jba_of (i := 211) (lo := 0) (hi := 2) (c := 0) (by decide +kernel) k v).trans ⟨fun q => by omega, fun q => Or.inl q⟩
theorem jba_212 (k v : Int) : jbd 212 k v ↔ (-9 ≤ v ∧ v ≤ 9) := (jba_of (i := 212) (lo := -9) (hi := 9) (c := 0) (by decide +kernel) k v).trans ⟨fun q => by omega, fun q => Or.inl q⟩
theorem jba_213 (k v : Int) : jbd 213 k v ↔ (0 ≤ v ∧ v ≤ 9) := (jba_of (i := 213) (lo := 0) (hi := 9) (c := 0) (by decide +kernel) k v).trans ⟨fun q => by omega, fun q => Or.inl q⟩
theorem jba_214 (k v : Int) : jbd 214 k v ↔ (0 ≤ v ∧ v ≤ 500) := (jba_of (i := 214) (lo := 0) (hi := 500) (c := 0) (by decide +kernel) k v).trans ⟨fun q => by omega, fun q => Or.inl q⟩
theorem jba_215 (k v : Int) : jbd 215 k v ↔ (0 ≤ v ∧ v ≤ 5) := (jba_of (i := 215) (lo := 0) (hi := 5) (c := 0) (by decide +kernel) k v).trans ⟨fun q => by omega, fun q => Or.inl q⟩
theorem jba_216 (k v : Int) : jbd 216 k v ↔ (0 ≤ v ∧ v ≤ 2000) := (jba_of (i := 216) (lo := 0) (hi := 2000) (c := 0) (by decide +kernel) k v).trans ⟨fun q => by omega, fun q => Or.inl q⟩
theorem jba_217 (k v : Int) : jbd 217 k v ↔ (-2147483648 ≤ v ∧ v ≤ 2147483647) := (jba_of (i := 217) (lo := -2147483648) (hi := 2147483647) (c := 0) (by decide +kernel) k v).trans ⟨fun q => by omega, fun q => Or.inl q⟩
theorem jba_218 (k v : Int) : jbd 218 k v ↔ (0 ≤ v ∧ v ≤ 2000) := (jba_of (i := 218) (lo := 0) (hi := 2000) (c := 0) (by decide +kernel) k v).trans ⟨fun q => by omega, fun q => Or.inl q⟩
theorem jba_219 (k v : Int) : jbd 219 k v ↔ (-2147483648 ≤ v ∧ v ≤ 2147483647) := (jba_of (i := 219) (lo := -2147483648) (hi := 2147483647) (c := 0) (by decide +kernel) k v).trans ⟨fun q => by omega, fun q => Or.inl q⟩
theorem jba_220 (k v : Int) : jbd 220 k v ↔ (0 ≤ v ∧ v ≤ 400) := (jba_of (i := 220) (lo := 0) (hi := 400) (c := 0) (by decide +kernel) k v).trans ⟨fun q => by omega, fun q => Or.inl q⟩
theorem jba_221 (k v : Int) : jbd 221 k v ↔ (0 ≤ v ∧ v ≤ 1) := (jba_of (i := 221) (lo := 0) (hi := 1) (c := 0) (by decide +kernel) k v).trans ⟨fun q => by omega, fun q => Or.inl q⟩
theorem jba_222 (k v : Int) : jbd 222 k v ↔ (-9 ≤ v ∧ v ≤ 39) := (jba_of (i := 222) (lo := -9) (hi := 39) (c := 0) (by decide +kernel) k v).trans ⟨fun q => by omega, fun q => Or.inl q⟩
theorem jba_223 (k v : Int) : jbd 223 k v ↔ (-2147483648 ≤ v ∧ v ≤ 2147483647) := (jba_of (i := 223) (lo := -2147483648) (hi := 2147483647) (c := 0) (by decide +kernel) k v).trans ⟨fun q => by omega, fun q => Or.inl q⟩
theorem jba_225 (k v : Int) : jbd 225 k v ↔ (-2147483648 ≤ v ∧ v ≤ 2147483647) := (jba_of (i := 225) (lo := -2147483648) (hi := 2147483647) (c := 0) (by decide +kernel) k v).trans ⟨fun q => by omega, fun q => Or.inl q⟩
theorem jba_226 (k v : Int) : jbd 226 k v ↔ (0 ≤ v ∧ v ≤ 15) := (jba_of (i := 226) (lo := 0) (hi := 15) (c := 0) (by decide +kernel) k v).trans ⟨fun q => by omega, fun q => Or.inl q⟩
theorem jba_227 (k v : Int) : jbd 227 k v ↔ (0 ≤ v ∧ v ≤ 15) := (jba_of (i := 227) (lo := 0) (hi := 15) (c := 0) (by decide +kernel) k v).trans ⟨fun q => by omega, fun q => Or.inl q⟩
theorem jba_228 (k v : Int) : jbd 228 k v ↔ (0 ≤ v ∧ v ≤ 15) := (jba_of (i := 228) (lo := 0) (hi := 15) (c := 0) (by decide +kernel) k v).trans ⟨fun q => by omega, fun q => Or.inl q⟩
theorem jbf_of {n : Nat} {i b : Int} {C : Nat} (o : jF n i 0 C) {lo hi c : Int} (hk : (jbF.getD C []).getD b.toNat (-2147483648, 2147483647, 0) = (lo, hi, c)) (v : Int) : jbd i b v ↔ (lo ≤ v ∧ v ≤ hi) ∨ v = c := by
  unfold jbd jbp
  rw [o.2.2]
  show ((((jbF.getD C []).getD b.toNat (-2147483648, 2147483647, 0)).1 ≤ v ∧ v ≤ ((jbF.getD C []).getD b.toNat (-2147483648, 2147483647, 0)).2.1) ∨ v = ((jbF.getD C []).getD b.toNat (-2147483648, 2147483647, 0)).2.2) ↔ _
  rw [hk]
theorem jbf_2_0 {n : Nat} {i : Int} (o : jF n i 0 2) (v : Int) : jbd i 0 v ↔ (0 ≤ v ∧ v ≤ 40) := (jbf_of (b := 0) o (lo := 0) (hi := 40) (c := 0) (by decide +kernel) v).trans ⟨fun q => by omega, fun q => Or.inl q⟩
theorem jbf_2_5 {n : Nat} {i : Int} (o : jF n i 0 2) (v : Int) : jbd i 5 v ↔ (0 ≤ v ∧ v ≤ 40) := (jbf_of (b := 5) o (lo := 0) (hi := 40) (c := 0) (by decide +kernel) v).trans ⟨fun q => by omega, fun q => Or.inl q⟩
theorem jbf_3_0 {n : Nat} {i : Int} (o : jF n i 0 3) (v : Int) : jbd i 0 v ↔ (0 ≤ v ∧ v ≤ 40) := (jbf_of (b := 0) o (lo := 0) (hi := 40) (c := 0) (by decide +kernel) v).trans ⟨fun q => by omega, fun q => Or.inl q⟩
theorem jbf_4_0 {n : Nat} {i : Int} (o : jF n i 0 4) (v : Int) : jbd i 0 v ↔ (0 ≤ v ∧ v ≤ 2) := (jbf_of (b := 0) o (lo := 0) (hi := 2) (c := 0) (by decide +kernel) v).trans ⟨fun q => by omega, fun q => Or.inl q⟩
theorem jbf_4_1 {n : Nat} {i : Int} (o : jF n i 0 4) (v : Int) : jbd i 1 v ↔ (0 ≤ v ∧ v ≤ 99) := (jbf_of (b := 1) o (lo := 0) (hi := 99) (c := 0) (by decide +kernel) v).trans ⟨fun q => by omega, fun q => Or.inl q⟩
theorem jbf_4_2 {n : Nat} {i : Int} (o : jF n i 0 4) (v : Int) : jbd i 2 v ↔ (0 ≤ v ∧ v ≤ 2000) := (jbf_of (b := 2) o (lo := 0) (hi := 2000) (c := 0) (by decide +kernel) v).trans ⟨fun q => by omega, fun q => Or.inl q⟩
theorem jbf_4_3 {n : Nat} {i : Int} (o : jF n i 0 4) (v : Int) : jbd i 3 v ↔ (0 ≤ v ∧ v ≤ 3) := (jbf_of (b := 3) o (lo := 0) (hi := 3) (c := 0) (by decide +kernel) v).trans ⟨fun q => by omega, fun q => Or.inl q⟩
theorem jbf_4_4 {n : Nat} {i : Int} (o : jF n i 0 4) (v : Int) : jbd i 4 v ↔ (-9 ≤ v ∧ v ≤ 5) := (jbf_of (b := 4) o (lo := -9) (hi := 5) (c := 0) (by decide +kernel) v).trans ⟨fun q => by omega, fun q => Or.inl q⟩
theorem jbf_4_5 {n : Nat} {i : Int} (o : jF n i 0 4) (v : Int) : jbd i 5 v ↔ (0 ≤ v ∧ v ≤ 3) := (jbf_of (b := 5) o (lo := 0) (hi := 3) (c := 0) (by decide +kernel) v).trans ⟨fun q => by omega, fun q => Or.inl q⟩
theorem jbf_4_6 {n : Nat} {i : Int} (o : jF n i 0 4) (v : Int) : jbd i 6 v ↔ (-2147483648 ≤ v ∧ v ≤ 2147483647) := (jbf_of (b := 6) o (lo := -2147483648) (hi := 2147483647) (c := 0) (by decide +kernel) v).trans ⟨fun q => by omega, fun q => Or.inl q⟩
theorem jbf_4_7 {n : Nat} {i : Int} (o : jF n i 0 4) (v : Int) : jbd i 7 v ↔ (0 ≤ v ∧ v ≤ 1) := (jbf_of (b := 7) o (lo := 0) (hi := 1) (c := 0) (by decide +kernel) v).trans ⟨fun q => by omega, fun q => Or.inl q⟩
theorem jbf_4_8 {n : Nat} {i : Int} (o : jF n i 0 4) (v : Int) : jbd i 8 v ↔ (-2147483648 ≤ v ∧ v ≤ 2147483647) := (jbf_of (b := 8) o (lo := -2147483648) (hi := 2147483647) (c := 0) (by decide +kernel) v).trans ⟨fun q => by omega, fun q => Or.inl q⟩
theorem jbf_4_9 {n : Nat} {i : Int} (o : jF n i 0 4) (v : Int) : jbd i 9 v ↔ (-2147483648 ≤ v ∧ v ≤ 2147483647) := (jbf_of (b := 9) o (lo := -2147483648) (hi := 2147483647) (c := 0) (by decide +kernel) v).trans ⟨fun q => by omega, fun q => Or.inl q⟩
theorem jbf_4_10 {n : Nat} {i : Int} (o : jF n i 0 4) (v : Int) : jbd i 10 v ↔ (0 ≤ v ∧ v ≤ 1) := (jbf_of (b := 10) o (lo := 0) (hi := 1) (c := 0) (by decide +kernel) v).trans ⟨fun q => by omega, fun q => Or.inl q⟩
theorem jbf_5_0 {n : Nat} {i : Int} (o : jF n i 0 5) (v : Int) : jbd i 0 v ↔ (0 ≤ v ∧ v ≤ 40) := (jbf_of (b := 0) o (lo := 0) (hi := 40) (c := 0) (by decide +kernel) v).trans ⟨fun q => by omega, fun q => Or.inl q⟩
theorem jbf_6_0 {n : Nat} {i : Int} (o : jF n i 0 6) (v : Int) : jbd i 0 v ↔ (-2147483648 ≤ v ∧ v ≤ 2147483647) := (jbf_of (b := 0) o (lo := -2147483648) (hi := 2147483647) (c := 0) (by decide +kernel) v).trans ⟨fun q => by omega, fun q => Or.inl q⟩
theorem jbf_6_1 {n : Nat} {i : Int} (o : jF n i 0 6) (v : Int) : jbd i 1 v ↔ (-2147483648 ≤ v ∧ v ≤ 2147483647) := (jbf_of (b := 1) o (lo := -2147483648) (hi := 2147483647) (c := 0) (by decide +kernel) v).trans ⟨fun q => by omega, fun q => Or.inl q⟩
theorem jbf_7_0 {n : Nat} {i : Int} (o : jF n i 0 7) (v : Int) : jbd i 0 v ↔ (-2147483648 ≤ v ∧ v ≤ 2147483647) := (jbf_of (b := 0) o (lo := -2147483648) (hi := 2147483647) (c := 0) (by decide +kernel) v).trans ⟨fun q => by omega, fun q => Or.inl q⟩
theorem jbf_7_2 {n : Nat} {i : Int} (o : jF n i 0 7) (v : Int) : jbd i 2 v ↔ (0 ≤ v ∧ v ≤ 5) := (jbf_of (b := 2) o (lo := 0) (hi := 5) (c := 0) (by decide +kernel) v).trans ⟨fun q => by omega, fun q => Or.inl q⟩
theorem jbf_7_3 {n : Nat} {i : Int} (o : jF n i 0 7) (v : Int) : jbd i 3 v ↔ (0 ≤ v ∧ v ≤ 2000) := (jbf_of (b := 3) o (lo := 0) (hi := 2000) (c := 0) (by decide +kernel) v).trans ⟨fun q => by omega, fun q => Or.inl q⟩
theorem jbf_7_9 {n : Nat} {i : Int} (o : jF n i 0 7) (v : Int) : jbd i 9 v ↔ (0 ≤ v ∧ v ≤ 1) := (jbf_of (b := 9) o (lo := 0) (hi := 1) (c := 0) (by decide +kernel) v).trans ⟨fun q => by omega, fun q => Or.inl q⟩
theorem jbf_7_10 {n : Nat} {i : Int} (o : jF n i 0 7) (v : Int) : jbd i 10 v ↔ (0 ≤ v ∧ v ≤ 1) := (jbf_of (b := 10) o (lo := 0) (hi := 1) (c := 0) (by decide +kernel) v).trans ⟨fun q => by omega, fun q => Or.inl q⟩
theorem jbf_7_11 {n : Nat} {i : Int} (o : jF n i 0 7) (v : Int) : jbd i 11 v ↔ (0 ≤ v ∧ v ≤ 1) := (jbf_of (b := 11) o (lo := 0) (hi := 1) (c := 0) (by decide +kernel) v).trans ⟨fun q => by omega, fun q => Or.inl q⟩
theorem jbf_10_4 {n : Nat} {i : Int} (o : jF n i 0 10) (v : Int) : jbd i 4 v ↔ (0 ≤ v ∧ v ≤ 16) := (jbf_of (b := 4) o (lo := 0) (hi := 16) (c := 0) (by decide +kernel) v).trans ⟨fun q => by omega, fun q => Or.inl q⟩
theorem jbf_10_6 {n : Nat} {i : Int} (o : jF n i 0 10) (v : Int) : jbd i 6 v ↔ (0 ≤ v ∧ v ≤ 16) := (jbf_of (b := 6) o (lo := 0) (hi := 16) (c := 0) (by decide +kernel) v).trans ⟨fun q => by omega, fun q => Or.inl q⟩
theorem jbf_10_7 {n : Nat} {i : Int} (o : jF n i 0 10) (v : Int) : jbd i 7 v ↔ (-2147483648 ≤ v ∧ v ≤ 2147483647) := (jbf_of (b := 7) o (lo := -2147483648) (hi := 2147483647) (c := 0) (by decide +kernel) v).trans ⟨fun q => by omega, fun q => Or.inl q⟩
theorem jbf_10_8 {n : Nat} {i : Int} (o : jF n i 0 10) (v : Int) : jbd i 8 v ↔ (-2147483648 ≤ v ∧ v ≤ 2147483647) := (jbf_of (b := 8) o (lo := -2147483648) (hi := 2147483647) (c := 0) (by decide +kernel) v).trans ⟨fun q => by omega, fun q => Or.inl q⟩
theorem jbf_10_9 {n : Nat} {i : Int} (o : jF n i 0 10) (v : Int) : jbd i 9 v ↔ (-2147483648 ≤ v ∧ v ≤ 2147483647) := (jbf_of (b := 9) o (lo := -2147483648) (hi := 2147483647) (c := 0) (by decide +kernel) v).trans ⟨fun q => by omega, fun q => Or.inl q⟩
theorem jbf_10_10 {n : Nat} {i : Int} (o : jF n i 0 10) (v : Int) : jbd i 10 v ↔ (0 ≤ v ∧ v ≤ 1) := (jbf_of (b := 10) o (lo := 0) (hi := 1) (c := 0) (by decide +kernel) v).trans ⟨fun q => by omega, fun q => Or.inl q⟩
theorem jbf_11_0 {n : Nat} {i : Int} (o : jF n i 0 11) (v : Int) : jbd i 0 v ↔ (0 ≤ v ∧ v ≤ 2000) := (jbf_of (b := 0) o (lo := 0) (hi := 2000) (c := 0) (by decide +kernel) v).trans ⟨fun q => by omega, fun q => Or.inl q⟩
theorem jbf_12_0 {n : Nat} {i : Int} (o : jF n i 0 12) (v : Int) : jbd i 0 v ↔ (0 ≤ v ∧ v ≤ 2300) := (jbf_of (b := 0) o (lo := 0) (hi := 2300) (c := 0) (by decide +kernel) v).trans ⟨fun q => by omega, fun q => Or.inl q⟩
theorem jbf_12_6 {n : Nat} {i : Int} (o : jF n i 0 12) (v : Int) : jbd i 6 v ↔ (0 ≤ v ∧ v ≤ 40) := (jbf_of (b := 6) o (lo := 0) (hi := 40) (c := 0) (by decide +kernel) v).trans ⟨fun q => by omega, fun q => Or.inl q⟩
theorem jbf_12_14 {n : Nat} {i : Int} (o : jF n i 0 12) (v : Int) : jbd i 14 v ↔ (0 ≤ v ∧ v ≤ 16) := (jbf_of (b := 14) o (lo := 0) (hi := 16) (c := 0) (by decide +kernel) v).trans ⟨fun q => by omega, fun q => Or.inl q⟩
theorem jbf_12_30 {n : Nat} {i : Int} (o : jF n i 0 12) (v : Int) : jbd i 30 v ↔ (-2147483648 ≤ v ∧ v ≤ 2147483647) := (jbf_of (b := 30) o (lo := -2147483648) (hi := 2147483647) (c := 0) (by decide +kernel) v).trans ⟨fun q => by omega, fun q => Or.inl q⟩
theorem jbf_12_31 {n : Nat} {i : Int} (o : jF n i 0 12) (v : Int) : jbd i 31 v ↔ (-2147483648 ≤ v ∧ v ≤ 2147483647) := (jbf_of (b := 31) o (lo := -2147483648) (hi := 2147483647) (c := 0) (by decide +kernel) v).trans ⟨fun q => by omega, fun q => Or.inl q⟩
theorem jbf_12_32 {n : Nat} {i : Int} (o : jF n i 0 12) (v : Int) : jbd i 32 v ↔ (-2147483648 ≤ v ∧ v ≤ 2147483647) := (jbf_of (b := 32) o (lo := -2147483648) (hi := 2147483647) (c := 0) (by decide +kernel) v).trans ⟨fun q => by omega, fun q => Or.inl q⟩
theorem jbf_12_34 {n : Nat} {i : Int} (o : jF n i 0 12) (v : Int) : jbd i 34 v ↔ (0 ≤ v ∧ v ≤ 40) := (jbf_of (b := 34) o (lo := 0) (hi := 40) (c := 0) (by decide +kernel) v).trans ⟨fun q => by omega, fun q => Or.inl q⟩
theorem jbf_12_45 {n : Nat} {i : Int} (o : jF n i 0 12) (v : Int) : jbd i 45 v ↔ (0 ≤ v ∧ v ≤ 40) := (jbf_of (b := 45) o (lo := 0) (hi := 40) (c := 0) (by decide +kernel) v).trans ⟨fun q => by omega, fun q => Or.inl q⟩
theorem jbf_12_55 {n : Nat} {i : Int} (o : jF n i 0 12) (v : Int) : jbd i 55 v ↔ (-2147483648 ≤ v ∧ v ≤ 2147483647) := (jbf_of (b := 55) o (lo := -2147483648) (hi := 2147483647) (c := 0) (by decide +kernel) v).trans ⟨fun q => by omega, fun q => Or.inl q⟩
theorem jbf_12_56 {n : Nat} {i : Int} (o : jF n i 0 12) (v : Int) : jbd i 56 v ↔ (-2147483648 ≤ v ∧ v ≤ 2147483647) := (jbf_of (b := 56) o (lo := -2147483648) (hi := 2147483647) (c := 0) (by decide +kernel) v).trans ⟨fun q => by omega, fun q => Or.inl q⟩
theorem jbf_12_57 {n : Nat} {i : Int} (o : jF n i 0 12) (v : Int) : jbd i 57 v ↔ (-2147483648 ≤ v ∧ v ≤ 2147483647) := (jbf_of (b := 57) o (lo := -2147483648) (hi := 2147483647) (c := 0) (by decide +kernel) v).trans ⟨fun q => by omega, fun q => Or.inl q⟩
theorem jbf_12_58 {n : Nat} {i : Int} (o : jF n i 0 12) (v : Int) : jbd i 58 v ↔ (-2147483648 ≤ v ∧ v ≤ 2147483647) := (jbf_of (b := 58) o (lo := -2147483648) (hi := 2147483647) (c := 0) (by decide +kernel) v).trans ⟨fun q => by omega, fun q => Or.inl q⟩
theorem jbf_12_62 {n : Nat} {i : Int} (o : jF n i 0 12) (v : Int) : jbd i 62 v ↔ (0 ≤ v ∧ v ≤ 16) := (jbf_of (b := 62) o (lo := 0) (hi := 16) (c := 0) (by decide +kernel) v).trans ⟨fun q => by omega, fun q => Or.inl q⟩
theorem jrow_5 (k : Int) (h0 : 0 ≤ k) (h1 : k < 4) : jr0 5 k = 6 + k ∧ jF 229 (jr0 5 k) 1 30 ∧ ∀ j v : Int, jbd (jr0 5 k) j v ↔ (0 ≤ v ∧ v ≤ 400) := by
  have q : k = 0 ∨ k = 1 ∨ k = 2 ∨ k = 3 := by omega
  rcases q with rfl | rfl | rfl | rfl
  · rw [show jr0 5 0 = 6 by decide +kernel]; exact ⟨by decide, jo_6, jba_6⟩
  · rw [show jr0 5 1 = 7 by decide +kernel]; exact ⟨by decide, jo_7, jba_7⟩
  · rw [show jr0 5 2 = 8 by decide +kernel]; exact ⟨by decide, jo_8, jba_8⟩
  · rw [show jr0 5 3 = 9 by decide +kernel]; exact ⟨by decide, jo_9, jba_9⟩
theorem jrow_17 (k : Int) (h0 : 0 ≤ k) (h1 : k < 3) : jr0 17 k = 18 + k ∧ jF 229 (jr0 17 k) 1 6 ∧ ∀ j v : Int, jbd (jr0 17 k) j v ↔ (0 ≤ v ∧ v ≤ 3) := by
  have q : k = 0 ∨ k = 1 ∨ k = 2 := by omega
  rcases q with rfl | rfl | rfl
  · rw [show jr0 17 0 = 18 by decide +kernel]; exact ⟨by decide, jo_18, jba_18⟩
  · rw [show jr0 17 1 = 19 by decide +kernel]; exact ⟨by decide, jo_19, jba_19⟩
  · rw [show jr0 17 2 = 20 by decide +kernel]; exact ⟨by decide, jo_20, jba_20⟩
theorem jrow_21 (k : Int) (h0 : 0 ≤ k) (h1 : k < 3) : jr0 21 k = 22 + k ∧ jF 229 (jr0 21 k) 1 6 ∧ ∀ j v : Int, jbd (jr0 21 k) j v ↔ (0 ≤ v ∧ v ≤ 2000) := by
  have q : k = 0 ∨ k = 1 ∨ k = 2 := by omega
  rcases q with rfl | rfl | rfl
  · rw [show jr0 21 0 = 22 by decide +kernel]; exact ⟨by decide, jo_22, jba_22⟩
  · rw [show jr0 21 1 = 23 by decide +kernel]; exact ⟨by decide, jo_23, jba_23⟩
  · rw [show jr0 21 2 = 24 by decide +kernel]; exact ⟨by decide, jo_24, jba_24⟩
theorem jrow_25 (k : Int) (h0 : 0 ≤ k) (h1 : k < 3) : jr0 25 k = 26 + k ∧ jF 229 (jr0 25 k) 1 36 ∧ ∀ j v : Int, jbd (jr0 25 k) j v ↔ (0 ≤ v ∧ v ≤ 500) := by
  have q : k = 0 ∨ k = 1 ∨ k = 2 := by omega
  rcases q with rfl | rfl | rfl
  · rw [show jr0 25 0 = 26 by decide +kernel]; exact ⟨by decide, jo_26, jba_26⟩
  · rw [show jr0 25 1 = 27 by decide +kernel]; exact ⟨by decide, jo_27, jba_27⟩
  · rw [show jr0 25 2 = 28 by decide +kernel]; exact ⟨by decide, jo_28, jba_28⟩
/-- u is a hull with its two rows -/
def jHl (u : Int) : Prop := jF 229 u 0 4 ∧ jF 229 (jr0 u 11) 1 6 ∧ jF 229 (jr0 u 12) 1 6 ∧ jr0 u 11 = u + 1 ∧ jr0 u 12 = u + 2 ∧ (∀ j v : Int, jbd (jr0 u 11) j v ↔ (-2147483648 ≤ v ∧ v ≤ 2147483647)) ∧ (∀ j v : Int, jbd (jr0 u 12) j v ↔ (-2147483648 ≤ v ∧ v ≤ 2147483647))
theorem jhl_36 : jHl 36 := by
  unfold jHl
  rw [show jr0 36 11 = 37 by decide +kernel, show jr0 36 12 = 38 by decide +kernel]
  exact ⟨jo_36, jo_37, jo_38, by decide, by decide, jba_37, jba_38⟩
theorem jhl_39 : jHl 39 := by
  unfold jHl
  rw [show jr0 39 11 = 40 by decide +kernel, show jr0 39 12 = 41 by decide +kernel]
  exact ⟨jo_39, jo_40, jo_41, by decide, by decide, jba_40, jba_41⟩
theorem jhl_42 : jHl 42 := by
  unfold jHl
  rw [show jr0 42 11 = 43 by decide +kernel, show jr0 42 12 = 44 by decide +kernel]
  exact ⟨jo_42, jo_43, jo_44, by decide, by decide, jba_43, jba_44⟩
theorem jhl_45 : jHl 45 := by
  unfold jHl
  rw [show jr0 45 11 = 46 by decide +kernel, show jr0 45 12 = 47 by decide +kernel]
  exact ⟨jo_45, jo_46, jo_47, by decide, by decide, jba_46, jba_47⟩
theorem jhl_48 : jHl 48 := by
  unfold jHl
  rw [show jr0 48 11 = 49 by decide +kernel, show jr0 48 12 = 50 by decide +kernel]
  exact ⟨jo_48, jo_49, jo_50, by decide, by decide, jba_49, jba_50⟩
theorem jhl_51 : jHl 51 := by
  unfold jHl
  rw [show jr0 51 11 = 52 by decide +kernel, show jr0 51 12 = 53 by decide +kernel]
  exact ⟨jo_51, jo_52, jo_53, by decide, by decide, jba_52, jba_53⟩
theorem jhl_54 : jHl 54 := by
  unfold jHl
  rw [show jr0 54 11 = 55 by decide +kernel, show jr0 54 12 = 56 by decide +kernel]
  exact ⟨jo_54, jo_55, jo_56, by decide, by decide, jba_55, jba_56⟩
theorem jhl_57 : jHl 57 := by
  unfold jHl
  rw [show jr0 57 11 = 58 by decide +kernel, show jr0 57 12 = 59 by decide +kernel]
  exact ⟨jo_57, jo_58, jo_59, by decide, by decide, jba_58, jba_59⟩
theorem jhl_60 : jHl 60 := by
  unfold jHl
  rw [show jr0 60 11 = 61 by decide +kernel, show jr0 60 12 = 62 by decide +kernel]
  exact ⟨jo_60, jo_61, jo_62, by decide, by decide, jba_61, jba_62⟩
theorem jhl_63 : jHl 63 := by
  unfold jHl
  rw [show jr0 63 11 = 64 by decide +kernel, show jr0 63 12 = 65 by decide +kernel]
  exact ⟨jo_63, jo_64, jo_65, by decide, by decide, jba_64, jba_65⟩
theorem jhl_66 : jHl 66 := by
  unfold jHl
  rw [show jr0 66 11 = 67 by decide +kernel, show jr0 66 12 = 68 by decide +kernel]
  exact ⟨jo_66, jo_67, jo_68, by decide, by decide, jba_67, jba_68⟩
theorem jhl_69 : jHl 69 := by
  unfold jHl
  rw [show jr0 69 11 = 70 by decide +kernel, show jr0 69 12 = 71 by decide +kernel]
  exact ⟨jo_69, jo_70, jo_71, by decide, by decide, jba_70, jba_71⟩
theorem jhl_72 : jHl 72 := by
  unfold jHl
  rw [show jr0 72 11 = 73 by decide +kernel, show jr0 72 12 = 74 by decide +kernel]
  exact ⟨jo_72, jo_73, jo_74, by decide, by decide, jba_73, jba_74⟩
theorem jhl_75 : jHl 75 := by
  unfold jHl
  rw [show jr0 75 11 = 76 by decide +kernel, show jr0 75 12 = 77 by decide +kernel]
  exact ⟨jo_75, jo_76, jo_77, by decide, by decide, jba_76, jba_77⟩
theorem jhl_78 : jHl 78 := by
  unfold jHl
  rw [show jr0 78 11 = 79 by decide +kernel, show jr0 78 12 = 80 by decide +kernel]
  exact ⟨jo_78, jo_79, jo_80, by decide, by decide, jba_79, jba_80⟩
theorem jhl_81 : jHl 81 := by
  unfold jHl
  rw [show jr0 81 11 = 82 by decide +kernel, show jr0 81 12 = 83 by decide +kernel]
  exact ⟨jo_81, jo_82, jo_83, by decide, by decide, jba_82, jba_83⟩
theorem jhul_33 (k : Int) (h0 : 0 ≤ k) (h1 : k < 16) : jr0 33 k = 36 + 3 * k ∧ jHl (jr0 33 k) := by
  have q : k = 0 ∨ k = 1 ∨ k = 2 ∨ k = 3 ∨ k = 4 ∨ k = 5 ∨ k = 6 ∨ k = 7 ∨ k = 8 ∨ k = 9 ∨ k = 10 ∨ k = 11 ∨ k = 12 ∨ k = 13 ∨ k = 14 ∨ k = 15 := by omega
  rcases q with rfl | rfl | rfl | rfl | rfl | rfl | rfl | rfl | rfl | rfl | rfl | rfl | rfl | rfl | rfl | rfl
  · rw [show jr0 33 0 = 36 by decide +kernel]; exact ⟨by decide, jhl_36⟩
  · rw [show jr0 33 1 = 39 by decide +kernel]; exact ⟨by decide, jhl_39⟩
  · rw [show jr0 33 2 = 42 by decide +kernel]; exact ⟨by decide, jhl_42⟩
  · rw [show jr0 33 3 = 45 by decide +kernel]; exact ⟨by decide, jhl_45⟩
  · rw [show jr0 33 4 = 48 by decide +kernel]; exact ⟨by decide, jhl_48⟩
  · rw [show jr0 33 5 = 51 by decide +kernel]; exact ⟨by decide, jhl_51⟩
  · rw [show jr0 33 6 = 54 by decide +kernel]; exact ⟨by decide, jhl_54⟩
  · rw [show jr0 33 7 = 57 by decide +kernel]; exact ⟨by decide, jhl_57⟩
  · rw [show jr0 33 8 = 60 by decide +kernel]; exact ⟨by decide, jhl_60⟩
  · rw [show jr0 33 9 = 63 by decide +kernel]; exact ⟨by decide, jhl_63⟩
  · rw [show jr0 33 10 = 66 by decide +kernel]; exact ⟨by decide, jhl_66⟩
  · rw [show jr0 33 11 = 69 by decide +kernel]; exact ⟨by decide, jhl_69⟩
  · rw [show jr0 33 12 = 72 by decide +kernel]; exact ⟨by decide, jhl_72⟩
  · rw [show jr0 33 13 = 75 by decide +kernel]; exact ⟨by decide, jhl_75⟩
  · rw [show jr0 33 14 = 78 by decide +kernel]; exact ⟨by decide, jhl_78⟩
  · rw [show jr0 33 15 = 81 by decide +kernel]; exact ⟨by decide, jhl_81⟩
theorem jhl_126 : jHl 126 := by
  unfold jHl
  rw [show jr0 126 11 = 127 by decide +kernel, show jr0 126 12 = 128 by decide +kernel]
  exact ⟨jo_126, jo_127, jo_128, by decide, by decide, jba_127, jba_128⟩
theorem jhl_129 : jHl 129 := by
  unfold jHl
  rw [show jr0 129 11 = 130 by decide +kernel, show jr0 129 12 = 131 by decide +kernel]
  exact ⟨jo_129, jo_130, jo_131, by decide, by decide, jba_130, jba_131⟩
theorem jhl_132 : jHl 132 := by
  unfold jHl
  rw [show jr0 132 11 = 133 by decide +kernel, show jr0 132 12 = 134 by decide +kernel]
  exact ⟨jo_132, jo_133, jo_134, by decide, by decide, jba_133, jba_134⟩
theorem jhl_135 : jHl 135 := by
  unfold jHl
  rw [show jr0 135 11 = 136 by decide +kernel, show jr0 135 12 = 137 by decide +kernel]
  exact ⟨jo_135, jo_136, jo_137, by decide, by decide, jba_136, jba_137⟩
theorem jhl_138 : jHl 138 := by
  unfold jHl
  rw [show jr0 138 11 = 139 by decide +kernel, show jr0 138 12 = 140 by decide +kernel]
  exact ⟨jo_138, jo_139, jo_140, by decide, by decide, jba_139, jba_140⟩
theorem jhl_141 : jHl 141 := by
  unfold jHl
  rw [show jr0 141 11 = 142 by decide +kernel, show jr0 141 12 = 143 by decide +kernel]
  exact ⟨jo_141, jo_142, jo_143, by decide, by decide, jba_142, jba_143⟩
theorem jhl_144 : jHl 144 := by
  unfold jHl
  rw [show jr0 144 11 = 145 by decide +kernel, show jr0 144 12 = 146 by decide +kernel]
  exact ⟨jo_144, jo_145, jo_146, by decide, by decide, jba_145, jba_146⟩
theorem jhl_147 : jHl 147 := by
  unfold jHl
  rw [show jr0 147 11 = 148 by decide +kernel, show jr0 147 12 = 149 by decide +kernel]
  exact ⟨jo_147, jo_148, jo_149, by decide, by decide, jba_148, jba_149⟩
theorem jhl_150 : jHl 150 := by
  unfold jHl
  rw [show jr0 150 11 = 151 by decide +kernel, show jr0 150 12 = 152 by decide +kernel]
  exact ⟨jo_150, jo_151, jo_152, by decide, by decide, jba_151, jba_152⟩
theorem jhl_153 : jHl 153 := by
  unfold jHl
  rw [show jr0 153 11 = 154 by decide +kernel, show jr0 153 12 = 155 by decide +kernel]
  exact ⟨jo_153, jo_154, jo_155, by decide, by decide, jba_154, jba_155⟩
theorem jhl_156 : jHl 156 := by
  unfold jHl
  rw [show jr0 156 11 = 157 by decide +kernel, show jr0 156 12 = 158 by decide +kernel]
  exact ⟨jo_156, jo_157, jo_158, by decide, by decide, jba_157, jba_158⟩
theorem jhl_159 : jHl 159 := by
  unfold jHl
  rw [show jr0 159 11 = 160 by decide +kernel, show jr0 159 12 = 161 by decide +kernel]
  exact ⟨jo_159, jo_160, jo_161, by decide, by decide, jba_160, jba_161⟩
theorem jhl_162 : jHl 162 := by
  unfold jHl
  rw [show jr0 162 11 = 163 by decide +kernel, show jr0 162 12 = 164 by decide +kernel]
  exact ⟨jo_162, jo_163, jo_164, by decide, by decide, jba_163, jba_164⟩
theorem jhl_165 : jHl 165 := by
  unfold jHl
  rw [show jr0 165 11 = 166 by decide +kernel, show jr0 165 12 = 167 by decide +kernel]
  exact ⟨jo_165, jo_166, jo_167, by decide, by decide, jba_166, jba_167⟩
theorem jhl_168 : jHl 168 := by
  unfold jHl
  rw [show jr0 168 11 = 169 by decide +kernel, show jr0 168 12 = 170 by decide +kernel]
  exact ⟨jo_168, jo_169, jo_170, by decide, by decide, jba_169, jba_170⟩
theorem jhl_171 : jHl 171 := by
  unfold jHl
  rw [show jr0 171 11 = 172 by decide +kernel, show jr0 171 12 = 173 by decide +kernel]
  exact ⟨jo_171, jo_172, jo_173, by decide, by decide, jba_172, jba_173⟩
theorem jhul_123 (k : Int) (h0 : 0 ≤ k) (h1 : k < 16) : jr0 123 k = 126 + 3 * k ∧ jHl (jr0 123 k) := by
  have q : k = 0 ∨ k = 1 ∨ k = 2 ∨ k = 3 ∨ k = 4 ∨ k = 5 ∨ k = 6 ∨ k = 7 ∨ k = 8 ∨ k = 9 ∨ k = 10 ∨ k = 11 ∨ k = 12 ∨ k = 13 ∨ k = 14 ∨ k = 15 := by omega
  rcases q with rfl | rfl | rfl | rfl | rfl | rfl | rfl | rfl | rfl | rfl | rfl | rfl | rfl | rfl | rfl | rfl
  · rw [show jr0 123 0 = 126 by decide +kernel]; exact ⟨by decide, jhl_126⟩
  · rw [show jr0 123 1 = 129 by decide +kernel]; exact ⟨by decide, jhl_129⟩
  · rw [show jr0 123 2 = 132 by decide +kernel]; exact ⟨by decide, jhl_132⟩
  · rw [show jr0 123 3 = 135 by decide +kernel]; exact ⟨by decide, jhl_135⟩
  · rw [show jr0 123 4 = 138 by decide +kernel]; exact ⟨by decide, jhl_138⟩
  · rw [show jr0 123 5 = 141 by decide +kernel]; exact ⟨by decide, jhl_141⟩
  · rw [show jr0 123 6 = 144 by decide +kernel]; exact ⟨by decide, jhl_144⟩
  · rw [show jr0 123 7 = 147 by decide +kernel]; exact ⟨by decide, jhl_147⟩
  · rw [show jr0 123 8 = 150 by decide +kernel]; exact ⟨by decide, jhl_150⟩
  · rw [show jr0 123 9 = 153 by decide +kernel]; exact ⟨by decide, jhl_153⟩
  · rw [show jr0 123 10 = 156 by decide +kernel]; exact ⟨by decide, jhl_156⟩
  · rw [show jr0 123 11 = 159 by decide +kernel]; exact ⟨by decide, jhl_159⟩
  · rw [show jr0 123 12 = 162 by decide +kernel]; exact ⟨by decide, jhl_162⟩
  · rw [show jr0 123 13 = 165 by decide +kernel]; exact ⟨by decide, jhl_165⟩
  · rw [show jr0 123 14 = 168 by decide +kernel]; exact ⟨by decide, jhl_168⟩
  · rw [show jr0 123 15 = 171 by decide +kernel]; exact ⟨by decide, jhl_171⟩
theorem jx_k3 : jxk (-3) = 1 := by decide +kernel
theorem jx_l3 (E : JE) : jxl E (-3) = 4 := rfl
theorem jx_e3 (E : JE) (k : Int) : jxv E (-3) k = ([0, 0, 0, 1] : List Int).getD k.toNat 0 := rfl
theorem jx_v3 (E : JE) (k : Int) : 0 ≤ jxv E (-3) k ∧ jxv E (-3) k ≤ 1 := by
  rw [jx_e3]
  exact jgetD_in (P := fun x => 0 ≤ x ∧ x ≤ 1) (by decide) (by decide) _
theorem jx_w3 (E : JE) (k : Int) (h0 : 0 ≤ k) (h1 : k < 4) : 0 ≤ jxv E (-3) k ∧ jxv E (-3) k ≤ 1 := by
  rw [jx_e3]
  have q : k = 0 ∨ k = 1 ∨ k = 2 ∨ k = 3 := by omega
  rcases q with rfl | rfl | rfl | rfl <;> exact ⟨by decide, by decide⟩
theorem jx_k4 : jxk (-4) = 1 := by decide +kernel
theorem jx_l4 (E : JE) : jxl E (-4) = 4 := rfl
theorem jx_e4 (E : JE) (k : Int) : jxv E (-4) k = ([100, 9, 60, 200] : List Int).getD k.toNat 0 := rfl
theorem jx_v4 (E : JE) (k : Int) : 0 ≤ jxv E (-4) k ∧ jxv E (-4) k ≤ 200 := by
  rw [jx_e4]
  exact jgetD_in (P := fun x => 0 ≤ x ∧ x ≤ 200) (by decide) (by decide) _
theorem jx_w4 (E : JE) (k : Int) (h0 : 0 ≤ k) (h1 : k < 4) : 9 ≤ jxv E (-4) k ∧ jxv E (-4) k ≤ 200 := by
  rw [jx_e4]
  have q : k = 0 ∨ k = 1 ∨ k = 2 ∨ k = 3 := by omega
  rcases q with rfl | rfl | rfl | rfl <;> exact ⟨by decide, by decide⟩
theorem jx_k5 : jxk (-5) = 1 := by decide +kernel
theorem jx_l5 (E : JE) : jxl E (-5) = 4 := rfl
theorem jx_e5 (E : JE) (k : Int) : jxv E (-5) k = ([0, 0, 0, 60] : List Int).getD k.toNat 0 := rfl
theorem jx_v5 (E : JE) (k : Int) : 0 ≤ jxv E (-5) k ∧ jxv E (-5) k ≤ 60 := by
  rw [jx_e5]
  exact jgetD_in (P := fun x => 0 ≤ x ∧ x ≤ 60) (by decide) (by decide) _
theorem jx_w5 (E : JE) (k : Int) (h0 : 0 ≤ k) (h1 : k < 4) : 0 ≤ jxv E (-5) k ∧ jxv E (-5) k ≤ 60 := by
  rw [jx_e5]
  have q : k = 0 ∨ k = 1 ∨ k = 2 ∨ k = 3 := by omega
  rcases q with rfl | rfl | rfl | rfl <;> exact ⟨by decide, by decide⟩
theorem jx_k6 : jxk (-6) = 2 := by decide +kernel
theorem jx_l6 (E : JE) : jxl E (-6) = 6 := rfl
theorem jx_e6 (E : JE) (k : Int) : jxv E (-6) k = ([115856201, 2825761, 68921, 1681, 41, 1] : List Int).getD k.toNat 0 := rfl
theorem jx_v6 (E : JE) (k : Int) : 0 ≤ jxv E (-6) k ∧ jxv E (-6) k ≤ 115856201 := by
  rw [jx_e6]
  exact jgetD_in (P := fun x => 0 ≤ x ∧ x ≤ 115856201) (by decide) (by decide) _
theorem jx_w6 (E : JE) (k : Int) (h0 : 0 ≤ k) (h1 : k < 6) : 1 ≤ jxv E (-6) k ∧ jxv E (-6) k ≤ 115856201 := by
  rw [jx_e6]
  have q : k = 0 ∨ k = 1 ∨ k = 2 ∨ k = 3 ∨ k = 4 ∨ k = 5 := by omega
  rcases q with rfl | rfl | rfl | rfl | rfl | rfl <;> exact ⟨by decide, by decide⟩
theorem jx_k7 : jxk (-7) = 1 := by decide +kernel
theorem jx_l7 (E : JE) : jxl E (-7) = 6 := rfl
theorem jx_e7 (E : JE) (k : Int) : jxv E (-7) k = ([1, 1, 2, 6, 24, 120] : List Int).getD k.toNat 0 := rfl
theorem jx_v7 (E : JE) (k : Int) : 0 ≤ jxv E (-7) k ∧ jxv E (-7) k ≤ 120 := by
  rw [jx_e7]
  exact jgetD_in (P := fun x => 0 ≤ x ∧ x ≤ 120) (by decide) (by decide) _
theorem jx_w7 (E : JE) (k : Int) (h0 : 0 ≤ k) (h1 : k < 6) : 1 ≤ jxv E (-7) k ∧ jxv E (-7) k ≤ 120 := by
  rw [jx_e7]
  have q : k = 0 ∨ k = 1 ∨ k = 2 ∨ k = 3 ∨ k = 4 ∨ k = 5 := by omega
  rcases q with rfl | rfl | rfl | rfl | rfl | rfl <;> exact ⟨by decide, by decide⟩
