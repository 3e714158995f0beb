set_option maxRecDepth 100000 in
theorem kd_0 : jm_kd 0 = 6 := by decide +kernel
set_option maxRecDepth 100000 in
theorem kd_1 : jm_kd 1 = 3 := by decide +kernel
set_option maxRecDepth 100000 in
theorem kd_2 : jm_kd 2 = 11 := by decide +kernel
set_option maxRecDepth 100000 in
theorem kd_3 : jm_kd 3 = 8 := by decide +kernel
set_option maxRecDepth 100000 in
theorem kd_4 : jm_kd 4 = 8 := by decide +kernel
set_option maxRecDepth 100000 in
theorem kd_5 : jm_kd 5 = 8 := by decide +kernel
set_option maxRecDepth 100000 in
theorem kd_6 : jm_kd 6 = 8 := by decide +kernel
set_option maxRecDepth 100000 in
theorem kd_7 : jm_kd 7 = 8 := by decide +kernel
set_option maxRecDepth 100000 in
theorem kd_8 : jm_kd 8 = 8 := by decide +kernel
set_option maxRecDepth 100000 in
theorem kd_9 : jm_kd 9 = 8 := by decide +kernel
set_option maxRecDepth 100000 in
theorem kd_10 : jm_kd 10 = 8 := by decide +kernel
set_option maxRecDepth 100000 in
theorem kd_11 : jm_kd 11 = 8 := by decide +kernel
set_option maxRecDepth 100000 in
theorem kd_12 : jm_kd 12 = 8 := by decide +kernel
set_option maxRecDepth 100000 in
theorem kd_13 : jm_kd 13 = 5 := by decide +kernel
set_option maxRecDepth 100000 in
theorem kd_14 : jm_kd 14 = 8 := by decide +kernel
set_option maxRecDepth 100000 in
theorem kd_15 : jm_kd 15 = 0 := by decide +kernel
set_option maxRecDepth 100000 in
theorem kd_16 : jm_kd 16 = 10 := by decide +kernel
set_option maxRecDepth 100000 in
theorem kd_17 : jm_kd 17 = 2 := by decide +kernel
set_option maxRecDepth 100000 in
theorem kd_18 : jm_kd 18 = 8 := by decide +kernel
set_option maxRecDepth 100000 in
theorem kd_19 : jm_kd 19 = 8 := by decide +kernel
set_option maxRecDepth 100000 in
theorem kd_20 : jm_kd 20 = 8 := by decide +kernel
set_option maxRecDepth 100000 in
theorem kd_21 : jm_kd 21 = 8 := by decide +kernel
set_option maxRecDepth 100000 in
theorem kd_22 : jm_kd 22 = 8 := by decide +kernel
set_option maxRecDepth 100000 in
theorem kd_23 : jm_kd 23 = 8 := by decide +kernel
set_option maxRecDepth 100000 in
theorem kd_24 : jm_kd 24 = 2 := by decide +kernel
set_option maxRecDepth 100000 in
theorem kd_25 : jm_kd 25 = 8 := by decide +kernel
set_option maxRecDepth 100000 in
theorem kd_26 : jm_kd 26 = 8 := by decide +kernel
set_option maxRecDepth 100000 in
theorem kd_27 : jm_kd 27 = 8 := by decide +kernel
set_option maxRecDepth 100000 in
theorem kd_28 : jm_kd 28 = 8 := by decide +kernel
set_option maxRecDepth 100000 in
theorem kd_29 : jm_kd 29 = 8 := by decide +kernel
set_option maxRecDepth 100000 in
theorem kd_30 : jm_kd 30 = 8 := by decide +kernel
set_option maxRecDepth 100000 in
theorem kd_31 : jm_kd 31 = 2 := by decide +kernel
set_option maxRecDepth 100000 in
theorem kd_32 : jm_kd 32 = 8 := by decide +kernel
set_option maxRecDepth 100000 in
theorem kd_33 : jm_kd 33 = 8 := by decide +kernel
set_option maxRecDepth 100000 in
theorem kd_34 : jm_kd 34 = 8 := by decide +kernel
set_option maxRecDepth 100000 in
theorem kd_35 : jm_kd 35 = 8 := by decide +kernel
set_option maxRecDepth 100000 in
theorem kd_36 : jm_kd 36 = 8 := by decide +kernel
set_option maxRecDepth 100000 in
theorem kd_37 : jm_kd 37 = 8 := by decide +kernel
set_option maxRecDepth 100000 in
theorem kd_38 : jm_kd 38 = 2 := by decide +kernel
set_option maxRecDepth 100000 in
theorem kd_39 : jm_kd 39 = 8 := by decide +kernel
set_option maxRecDepth 100000 in
theorem kd_40 : jm_kd 40 = 8 := by decide +kernel
set_option maxRecDepth 100000 in
theorem kd_41 : jm_kd 41 = 8 := by decide +kernel
set_option maxRecDepth 100000 in
theorem kd_42 : jm_kd 42 = 8 := by decide +kernel
set_option maxRecDepth 100000 in
theorem kd_43 : jm_kd 43 = 8 := by decide +kernel
set_option maxRecDepth 100000 in
theorem kd_44 : jm_kd 44 = 8 := by decide +kernel
set_option maxRecDepth 100000 in
theorem kd_45 : jm_kd 45 = 2 := by decide +kernel
set_option maxRecDepth 100000 in
theorem kd_46 : jm_kd 46 = 8 := by decide +kernel
set_option maxRecDepth 100000 in
theorem kd_47 : jm_kd 47 = 8 := by decide +kernel
set_option maxRecDepth 100000 in
theorem kd_48 : jm_kd 48 = 8 := by decide +kernel
set_option maxRecDepth 100000 in
theorem kd_49 : jm_kd 49 = 8 := by decide +kernel
set_option maxRecDepth 100000 in
theorem kd_50 : jm_kd 50 = 8 := by decide +kernel
set_option maxRecDepth 100000 in
theorem kd_51 : jm_kd 51 = 8 := by decide +kernel
set_option maxRecDepth 100000 in
theorem kd_52 : jm_kd 52 = 2 := by decide +kernel
set_option maxRecDepth 100000 in
theorem kd_53 : jm_kd 53 = 8 := by decide +kernel
set_option maxRecDepth 100000 in
theorem kd_54 : jm_kd 54 = 8 := by decide +kernel
set_option maxRecDepth 100000 in
theorem kd_55 : jm_kd 55 = 8 := by decide +kernel
set_option maxRecDepth 100000 in
theorem kd_56 : jm_kd 56 = 8 := by decide +kernel
set_option maxRecDepth 100000 in
theorem kd_57 : jm_kd 57 = 8 := by decide +kernel
set_option maxRecDepth 100000 in
theorem kd_58 : jm_kd 58 = 8 := by decide +kernel
set_option maxRecDepth 100000 in
theorem kd_59 : jm_kd 59 = 2 := by decide +kernel
set_option maxRecDepth 100000 in
theorem kd_60 : jm_kd 60 = 8 := by decide +kernel
set_option maxRecDepth 100000 in
theorem kd_61 : jm_kd 61 = 8 := by decide +kernel
set_option maxRecDepth 100000 in
theorem kd_62 : jm_kd 62 = 8 := by decide +kernel
set_option maxRecDepth 100000 in
theorem kd_63 : jm_kd 63 = 8 := by decide +kernel
set_option maxRecDepth 100000 in
theorem kd_64 : jm_kd 64 = 8 := by decide +kernel
set_option maxRecDepth 100000 in
theorem kd_65 : jm_kd 65 = 8 := by decide +kernel
set_option maxRecDepth 100000 in
theorem kd_66 : jm_kd 66 = 2 := by decide +kernel
set_option maxRecDepth 100000 in
theorem kd_67 : jm_kd 67 = 8 := by decide +kernel
set_option maxRecDepth 100000 in
theorem kd_68 : jm_kd 68 = 8 := by decide +kernel
set_option maxRecDepth 100000 in
theorem kd_69 : jm_kd 69 = 8 := by decide +kernel
set_option maxRecDepth 100000 in
theorem kd_70 : jm_kd 70 = 8 := by decide +kernel
set_option maxRecDepth 100000 in
theorem kd_71 : jm_kd 71 = 8 := by decide +kernel
set_option maxRecDepth 100000 in
theorem kd_72 : jm_kd 72 = 8 := by decide +kernel
set_option maxRecDepth 100000 in
theorem kd_73 : jm_kd 73 = 2 := by decide +kernel
set_option maxRecDepth 100000 in
theorem kd_74 : jm_kd 74 = 8 := by decide +kernel
set_option maxRecDepth 100000 in
theorem kd_75 : jm_kd 75 = 8 := by decide +kernel
set_option maxRecDepth 100000 in
theorem kd_76 : jm_kd 76 = 8 := by decide +kernel
set_option maxRecDepth 100000 in
theorem kd_77 : jm_kd 77 = 8 := by decide +kernel
set_option maxRecDepth 100000 in
theorem kd_78 : jm_kd 78 = 8 := by decide +kernel
set_option maxRecDepth 100000 in
theorem kd_79 : jm_kd 79 = 8 := by decide +kernel
set_option maxRecDepth 100000 in
theorem kd_80 : jm_kd 80 = 2 := by decide +kernel
set_option maxRecDepth 100000 in
theorem kd_81 : jm_kd 81 = 8 := by decide +kernel
set_option maxRecDepth 100000 in
theorem kd_82 : jm_kd 82 = 8 := by decide +kernel
set_option maxRecDepth 100000 in
theorem kd_83 : jm_kd 83 = 8 := by decide +kernel
set_option maxRecDepth 100000 in
theorem kd_84 : jm_kd 84 = 8 := by decide +kernel
set_option maxRecDepth 100000 in
theorem kd_85 : jm_kd 85 = 8 := by decide +kernel
set_option maxRecDepth 100000 in
theorem kd_86 : jm_kd 86 = 8 := by decide +kernel
set_option maxRecDepth 100000 in
theorem kd_87 : jm_kd 87 = 2 := by decide +kernel
set_option maxRecDepth 100000 in
theorem kd_88 : jm_kd 88 = 8 := by decide +kernel
set_option maxRecDepth 100000 in
theorem kd_89 : jm_kd 89 = 8 := by decide +kernel
set_option maxRecDepth 100000 in
theorem kd_90 : jm_kd 90 = 8 := by decide +kernel
set_option maxRecDepth 100000 in
theorem kd_91 : jm_kd 91 = 8 := by decide +kernel
set_option maxRecDepth 100000 in
theorem kd_92 : jm_kd 92 = 8 := by decide +kernel
set_option maxRecDepth 100000 in
theorem kd_93 : jm_kd 93 = 8 := by decide +kernel
set_option maxRecDepth 100000 in
theorem kd_94 : jm_kd 94 = 2 := by decide +kernel
set_option maxRecDepth 100000 in
theorem kd_95 : jm_kd 95 = 8 := by decide +kernel
set_option maxRecDepth 100000 in
theorem kd_96 : jm_kd 96 = 8 := by decide +kernel
set_option maxRecDepth 100000 in
theorem kd_97 : jm_kd 97 = 8 := by decide +kernel
set_option maxRecDepth 100000 in
theorem kd_98 : jm_kd 98 = 8 := by decide +kernel
set_option maxRecDepth 100000 in
theorem kd_99 : jm_kd 99 = 8 := by decide +kernel
set_option maxRecDepth 100000 in
theorem kd_100 : jm_kd 100 = 8 := by decide +kernel
set_option maxRecDepth 100000 in
theorem kd_101 : jm_kd 101 = 2 := by decide +kernel
set_option maxRecDepth 100000 in
theorem kd_102 : jm_kd 102 = 8 := by decide +kernel
set_option maxRecDepth 100000 in
theorem kd_103 : jm_kd 103 = 8 := by decide +kernel
set_option maxRecDepth 100000 in
theorem kd_104 : jm_kd 104 = 8 := by decide +kernel
set_option maxRecDepth 100000 in
theorem kd_105 : jm_kd 105 = 8 := by decide +kernel
set_option maxRecDepth 100000 in
theorem kd_106 : jm_kd 106 = 8 := by decide +kernel
set_option maxRecDepth 100000 in
theorem kd_107 : jm_kd 107 = 8 := by decide +kernel
set_option maxRecDepth 100000 in
theorem kd_108 : jm_kd 108 = 2 := by decide +kernel
set_option maxRecDepth 100000 in
theorem kd_109 : jm_kd 109 = 8 := by decide +kernel
set_option maxRecDepth 100000 in
theorem kd_110 : jm_kd 110 = 8 := by decide +kernel
set_option maxRecDepth 100000 in
theorem kd_111 : jm_kd 111 = 8 := by decide +kernel
set_option maxRecDepth 100000 in
theorem kd_112 : jm_kd 112 = 8 := by decide +kernel
set_option maxRecDepth 100000 in
theorem kd_113 : jm_kd 113 = 8 := by decide +kernel
set_option maxRecDepth 100000 in
theorem kd_114 : jm_kd 114 = 8 := by decide +kernel
set_option maxRecDepth 100000 in
theorem kd_115 : jm_kd 115 = 2 := by decide +kernel
set_option maxRecDepth 100000 in
theorem kd_116 : jm_kd 116 = 8 := by decide +kernel
set_option maxRecDepth 100000 in
theorem kd_117 : jm_kd 117 = 8 := by decide +kernel
set_option maxRecDepth 100000 in
theorem kd_118 : jm_kd 118 = 8 := by decide +kernel
set_option maxRecDepth 100000 in
theorem kd_119 : jm_kd 119 = 8 := by decide +kernel
set_option maxRecDepth 100000 in
theorem kd_120 : jm_kd 120 = 8 := by decide +kernel
set_option maxRecDepth 100000 in
theorem kd_121 : jm_kd 121 = 8 := by decide +kernel
set_option maxRecDepth 100000 in
theorem kd_122 : jm_kd 122 = 2 := by decide +kernel
set_option maxRecDepth 100000 in
theorem kd_123 : jm_kd 123 = 8 := by decide +kernel
set_option maxRecDepth 100000 in
theorem kd_124 : jm_kd 124 = 8 := by decide +kernel
set_option maxRecDepth 100000 in
theorem kd_125 : jm_kd 125 = 8 := by decide +kernel
set_option maxRecDepth 100000 in
theorem kd_126 : jm_kd 126 = 8 := by decide +kernel
set_option maxRecDepth 100000 in
theorem kd_127 : jm_kd 127 = 8 := by decide +kernel
set_option maxRecDepth 100000 in
theorem kd_128 : jm_kd 128 = 8 := by decide +kernel
set_option maxRecDepth 100000 in
theorem kd_129 : jm_kd 129 = 2 := by decide +kernel
set_option maxRecDepth 100000 in
theorem kd_130 : jm_kd 130 = 8 := by decide +kernel
set_option maxRecDepth 100000 in
theorem kd_131 : jm_kd 131 = 8 := by decide +kernel
set_option maxRecDepth 100000 in
theorem kd_132 : jm_kd 132 = 8 := by decide +kernel
set_option maxRecDepth 100000 in
theorem kd_133 : jm_kd 133 = 8 := by decide +kernel
set_option maxRecDepth 100000 in
theorem kd_134 : jm_kd 134 = 8 := by decide +kernel
set_option maxRecDepth 100000 in
theorem kd_135 : jm_kd 135 = 8 := by decide +kernel
set_option maxRecDepth 100000 in
theorem kd_136 : jm_kd 136 = 2 := by decide +kernel
set_option maxRecDepth 100000 in
theorem kd_137 : jm_kd 137 = 8 := by decide +kernel
set_option maxRecDepth 100000 in
theorem kd_138 : jm_kd 138 = 8 := by decide +kernel
set_option maxRecDepth 100000 in
theorem kd_139 : jm_kd 139 = 8 := by decide +kernel
set_option maxRecDepth 100000 in
theorem kd_140 : jm_kd 140 = 8 := by decide +kernel
set_option maxRecDepth 100000 in
theorem kd_141 : jm_kd 141 = 8 := by decide +kernel
set_option maxRecDepth 100000 in
theorem kd_142 : jm_kd 142 = 8 := by decide +kernel
set_option maxRecDepth 100000 in
theorem kd_143 : jm_kd 143 = 2 := by decide +kernel
set_option maxRecDepth 100000 in
theorem kd_144 : jm_kd 144 = 8 := by decide +kernel
set_option maxRecDepth 100000 in
theorem kd_145 : jm_kd 145 = 8 := by decide +kernel
set_option maxRecDepth 100000 in
theorem kd_146 : jm_kd 146 = 8 := by decide +kernel
set_option maxRecDepth 100000 in
theorem kd_147 : jm_kd 147 = 8 := by decide +kernel
set_option maxRecDepth 100000 in
theorem kd_148 : jm_kd 148 = 8 := by decide +kernel
set_option maxRecDepth 100000 in
theorem kd_149 : jm_kd 149 = 8 := by decide +kernel
set_option maxRecDepth 100000 in
theorem kd_150 : jm_kd 150 = 2 := by decide +kernel
set_option maxRecDepth 100000 in
theorem kd_151 : jm_kd 151 = 8 := by decide +kernel
set_option maxRecDepth 100000 in
theorem kd_152 : jm_kd 152 = 8 := by decide +kernel
set_option maxRecDepth 100000 in
theorem kd_153 : jm_kd 153 = 8 := by decide +kernel
set_option maxRecDepth 100000 in
theorem kd_154 : jm_kd 154 = 8 := by decide +kernel
set_option maxRecDepth 100000 in
theorem kd_155 : jm_kd 155 = 8 := by decide +kernel
set_option maxRecDepth 100000 in
theorem kd_156 : jm_kd 156 = 8 := by decide +kernel
set_option maxRecDepth 100000 in
theorem kd_157 : jm_kd 157 = 2 := by decide +kernel
set_option maxRecDepth 100000 in
theorem kd_158 : jm_kd 158 = 8 := by decide +kernel
set_option maxRecDepth 100000 in
theorem kd_159 : jm_kd 159 = 8 := by decide +kernel
set_option maxRecDepth 100000 in
theorem kd_160 : jm_kd 160 = 8 := by decide +kernel
set_option maxRecDepth 100000 in
theorem kd_161 : jm_kd 161 = 8 := by decide +kernel
set_option maxRecDepth 100000 in
theorem kd_162 : jm_kd 162 = 8 := by decide +kernel
set_option maxRecDepth 100000 in
theorem kd_163 : jm_kd 163 = 8 := by decide +kernel
set_option maxRecDepth 100000 in
theorem kd_164 : jm_kd 164 = 2 := by decide +kernel
set_option maxRecDepth 100000 in
theorem kd_165 : jm_kd 165 = 8 := by decide +kernel
set_option maxRecDepth 100000 in
theorem kd_166 : jm_kd 166 = 8 := by decide +kernel
set_option maxRecDepth 100000 in
theorem kd_167 : jm_kd 167 = 8 := by decide +kernel
set_option maxRecDepth 100000 in
theorem kd_168 : jm_kd 168 = 8 := by decide +kernel
set_option maxRecDepth 100000 in
theorem kd_169 : jm_kd 169 = 8 := by decide +kernel
set_option maxRecDepth 100000 in
theorem kd_170 : jm_kd 170 = 8 := by decide +kernel
set_option maxRecDepth 100000 in
theorem kd_171 : jm_kd 171 = 2 := by decide +kernel
set_option maxRecDepth 100000 in
theorem kd_172 : jm_kd 172 = 8 := by decide +kernel
set_option maxRecDepth 100000 in
theorem kd_173 : jm_kd 173 = 8 := by decide +kernel
set_option maxRecDepth 100000 in
theorem kd_174 : jm_kd 174 = 8 := by decide +kernel
set_option maxRecDepth 100000 in
theorem kd_175 : jm_kd 175 = 8 := by decide +kernel
set_option maxRecDepth 100000 in
theorem kd_176 : jm_kd 176 = 8 := by decide +kernel
set_option maxRecDepth 100000 in
theorem kd_177 : jm_kd 177 = 8 := by decide +kernel
set_option maxRecDepth 100000 in
theorem kd_178 : jm_kd 178 = 2 := by decide +kernel
set_option maxRecDepth 100000 in
theorem kd_179 : jm_kd 179 = 8 := by decide +kernel
set_option maxRecDepth 100000 in
theorem kd_180 : jm_kd 180 = 8 := by decide +kernel
set_option maxRecDepth 100000 in
theorem kd_181 : jm_kd 181 = 8 := by decide +kernel
set_option maxRecDepth 100000 in
theorem kd_182 : jm_kd 182 = 8 := by decide +kernel
set_option maxRecDepth 100000 in
theorem kd_183 : jm_kd 183 = 8 := by decide +kernel
set_option maxRecDepth 100000 in
theorem kd_184 : jm_kd 184 = 8 := by decide +kernel
set_option maxRecDepth 100000 in
theorem kd_185 : jm_kd 185 = 10 := by decide +kernel
set_option maxRecDepth 100000 in
theorem kd_186 : jm_kd 186 = 2 := by decide +kernel
set_option maxRecDepth 100000 in
theorem kd_187 : jm_kd 187 = 8 := by decide +kernel
set_option maxRecDepth 100000 in
theorem kd_188 : jm_kd 188 = 8 := by decide +kernel
set_option maxRecDepth 100000 in
theorem kd_189 : jm_kd 189 = 8 := by decide +kernel
set_option maxRecDepth 100000 in
theorem kd_190 : jm_kd 190 = 8 := by decide +kernel
set_option maxRecDepth 100000 in
theorem kd_191 : jm_kd 191 = 8 := by decide +kernel
set_option maxRecDepth 100000 in
theorem kd_192 : jm_kd 192 = 8 := by decide +kernel
set_option maxRecDepth 100000 in
theorem kd_193 : jm_kd 193 = 2 := by decide +kernel
set_option maxRecDepth 100000 in
theorem kd_194 : jm_kd 194 = 8 := by decide +kernel
set_option maxRecDepth 100000 in
theorem kd_195 : jm_kd 195 = 8 := by decide +kernel
set_option maxRecDepth 100000 in
theorem kd_196 : jm_kd 196 = 8 := by decide +kernel
set_option maxRecDepth 100000 in
theorem kd_197 : jm_kd 197 = 8 := by decide +kernel
set_option maxRecDepth 100000 in
theorem kd_198 : jm_kd 198 = 8 := by decide +kernel
set_option maxRecDepth 100000 in
theorem kd_199 : jm_kd 199 = 8 := by decide +kernel
set_option maxRecDepth 100000 in
theorem kd_200 : jm_kd 200 = 2 := by decide +kernel
set_option maxRecDepth 100000 in
theorem kd_201 : jm_kd 201 = 8 := by decide +kernel
set_option maxRecDepth 100000 in
theorem kd_202 : jm_kd 202 = 8 := by decide +kernel
set_option maxRecDepth 100000 in
theorem kd_203 : jm_kd 203 = 8 := by decide +kernel
set_option maxRecDepth 100000 in
theorem kd_204 : jm_kd 204 = 8 := by decide +kernel
set_option maxRecDepth 100000 in
theorem kd_205 : jm_kd 205 = 8 := by decide +kernel
set_option maxRecDepth 100000 in
theorem kd_206 : jm_kd 206 = 8 := by decide +kernel
set_option maxRecDepth 100000 in
theorem kd_207 : jm_kd 207 = 4 := by decide +kernel
set_option maxRecDepth 100000 in
theorem kd_208 : jm_kd 208 = 2 := by decide +kernel
set_option maxRecDepth 100000 in
theorem kd_209 : jm_kd 209 = 8 := by decide +kernel
set_option maxRecDepth 100000 in
theorem kd_210 : jm_kd 210 = 8 := by decide +kernel
set_option maxRecDepth 100000 in
theorem kd_211 : jm_kd 211 = 8 := by decide +kernel
set_option maxRecDepth 100000 in
theorem kd_212 : jm_kd 212 = 8 := by decide +kernel
set_option maxRecDepth 100000 in
theorem kd_213 : jm_kd 213 = 8 := by decide +kernel
set_option maxRecDepth 100000 in
theorem kd_214 : jm_kd 214 = 8 := by decide +kernel
set_option maxRecDepth 100000 in
theorem kd_215 : jm_kd 215 = 1 := by decide +kernel
set_option maxRecDepth 100000 in
theorem kd_216 : jm_kd 216 = 8 := by decide +kernel
set_option maxRecDepth 100000 in
theorem kd_217 : jm_kd 217 = 7 := by decide +kernel
set_option maxRecDepth 100000 in
theorem kd_218 : jm_kd 218 = 8 := by decide +kernel
set_option maxRecDepth 100000 in
theorem kd_219 : jm_kd 219 = 8 := by decide +kernel
set_option maxRecDepth 100000 in
theorem kd_220 : jm_kd 220 = 8 := by decide +kernel
set_option maxRecDepth 100000 in
theorem kd_221 : jm_kd 221 = 8 := by decide +kernel
set_option maxRecDepth 100000 in
theorem kd_222 : jm_kd 222 = 8 := by decide +kernel
set_option maxRecDepth 100000 in
theorem kd_223 : jm_kd 223 = 8 := by decide +kernel
set_option maxRecDepth 100000 in
theorem kd_224 : jm_kd 224 = 8 := by decide +kernel
set_option maxRecDepth 100000 in
theorem kd_225 : jm_kd 225 = 8 := by decide +kernel
set_option maxRecDepth 100000 in
theorem kd_226 : jm_kd 226 = 8 := by decide +kernel
set_option maxRecDepth 100000 in
theorem kd_227 : jm_kd 227 = 9 := by decide +kernel
set_option maxRecDepth 100000 in
theorem kd_228 : jm_kd 228 = 8 := by decide +kernel
set_option maxRecDepth 100000 in
theorem kd_229 : jm_kd 229 = 8 := by decide +kernel
set_option maxRecDepth 100000 in
theorem ln_2 : jm_ln 2 = 8 := by decide +kernel
set_option maxRecDepth 100000 in
theorem ln_3 : jm_ln 3 = 40 := by decide +kernel
set_option maxRecDepth 100000 in
theorem ln_4 : jm_ln 4 = 40 := by decide +kernel
set_option maxRecDepth 100000 in
theorem ln_5 : jm_ln 5 = 40 := by decide +kernel
set_option maxRecDepth 100000 in
theorem ln_6 : jm_ln 6 = 40 := by decide +kernel
set_option maxRecDepth 100000 in
theorem ln_7 : jm_ln 7 = 40 := by decide +kernel
set_option maxRecDepth 100000 in
theorem ln_8 : jm_ln 8 = 40 := by decide +kernel
set_option maxRecDepth 100000 in
theorem ln_9 : jm_ln 9 = 40 := by decide +kernel
set_option maxRecDepth 100000 in
theorem ln_10 : jm_ln 10 = 40 := by decide +kernel
set_option maxRecDepth 100000 in
theorem ln_11 : jm_ln 11 = 8 := by decide +kernel
set_option maxRecDepth 100000 in
theorem ln_12 : jm_ln 12 = 8 := by decide +kernel
set_option maxRecDepth 100000 in
theorem ln_14 : jm_ln 14 = 120 := by decide +kernel
set_option maxRecDepth 100000 in
theorem ln_16 : jm_ln 16 = 24 := by decide +kernel
set_option maxRecDepth 100000 in
theorem ln_18 : jm_ln 18 = 6 := by decide +kernel
set_option maxRecDepth 100000 in
theorem ln_19 : jm_ln 19 = 6 := by decide +kernel
set_option maxRecDepth 100000 in
theorem ln_20 : jm_ln 20 = 6 := by decide +kernel
set_option maxRecDepth 100000 in
theorem ln_21 : jm_ln 21 = 6 := by decide +kernel
set_option maxRecDepth 100000 in
theorem ln_22 : jm_ln 22 = 6 := by decide +kernel
set_option maxRecDepth 100000 in
theorem ln_23 : jm_ln 23 = 6 := by decide +kernel
set_option maxRecDepth 100000 in
theorem ln_25 : jm_ln 25 = 6 := by decide +kernel
set_option maxRecDepth 100000 in
theorem ln_26 : jm_ln 26 = 6 := by decide +kernel
set_option maxRecDepth 100000 in
theorem ln_27 : jm_ln 27 = 6 := by decide +kernel
set_option maxRecDepth 100000 in
theorem ln_28 : jm_ln 28 = 6 := by decide +kernel
set_option maxRecDepth 100000 in
theorem ln_29 : jm_ln 29 = 6 := by decide +kernel
set_option maxRecDepth 100000 in
theorem ln_30 : jm_ln 30 = 6 := by decide +kernel
set_option maxRecDepth 100000 in
theorem ln_32 : jm_ln 32 = 6 := by decide +kernel
set_option maxRecDepth 100000 in
theorem ln_33 : jm_ln 33 = 6 := by decide +kernel
set_option maxRecDepth 100000 in
theorem ln_34 : jm_ln 34 = 6 := by decide +kernel
set_option maxRecDepth 100000 in
theorem ln_35 : jm_ln 35 = 6 := by decide +kernel
set_option maxRecDepth 100000 in
theorem ln_36 : jm_ln 36 = 6 := by decide +kernel
set_option maxRecDepth 100000 in
theorem ln_37 : jm_ln 37 = 6 := by decide +kernel
set_option maxRecDepth 100000 in
theorem ln_39 : jm_ln 39 = 6 := by decide +kernel
set_option maxRecDepth 100000 in
theorem ln_40 : jm_ln 40 = 6 := by decide +kernel
set_option maxRecDepth 100000 in
theorem ln_41 : jm_ln 41 = 6 := by decide +kernel
set_option maxRecDepth 100000 in
theorem ln_42 : jm_ln 42 = 6 := by decide +kernel
set_option maxRecDepth 100000 in
theorem ln_43 : jm_ln 43 = 6 := by decide +kernel
set_option maxRecDepth 100000 in
theorem ln_44 : jm_ln 44 = 6 := by decide +kernel
set_option maxRecDepth 100000 in
theorem ln_46 : jm_ln 46 = 6 := by decide +kernel
set_option maxRecDepth 100000 in
theorem ln_47 : jm_ln 47 = 6 := by decide +kernel
set_option maxRecDepth 100000 in
theorem ln_48 : jm_ln 48 = 6 := by decide +kernel
set_option maxRecDepth 100000 in
theorem ln_49 : jm_ln 49 = 6 := by decide +kernel
set_option maxRecDepth 100000 in
theorem ln_50 : jm_ln 50 = 6 := by decide +kernel
set_option maxRecDepth 100000 in
theorem ln_51 : jm_ln 51 = 6 := by decide +kernel
set_option maxRecDepth 100000 in
theorem ln_53 : jm_ln 53 = 6 := by decide +kernel
set_option maxRecDepth 100000 in
theorem ln_54 : jm_ln 54 = 6 := by decide +kernel
set_option maxRecDepth 100000 in
theorem ln_55 : jm_ln 55 = 6 := by decide +kernel
set_option maxRecDepth 100000 in
theorem ln_56 : jm_ln 56 = 6 := by decide +kernel
set_option maxRecDepth 100000 in
theorem ln_57 : jm_ln 57 = 6 := by decide +kernel
set_option maxRecDepth 100000 in
theorem ln_58 : jm_ln 58 = 6 := by decide +kernel
set_option maxRecDepth 100000 in
theorem ln_60 : jm_ln 60 = 6 := by decide +kernel
set_option maxRecDepth 100000 in
theorem ln_61 : jm_ln 61 = 6 := by decide +kernel
set_option maxRecDepth 100000 in
theorem ln_62 : jm_ln 62 = 6 := by decide +kernel
set_option maxRecDepth 100000 in
theorem ln_63 : jm_ln 63 = 6 := by decide +kernel
set_option maxRecDepth 100000 in
theorem ln_64 : jm_ln 64 = 6 := by decide +kernel
set_option maxRecDepth 100000 in
theorem ln_65 : jm_ln 65 = 6 := by decide +kernel
set_option maxRecDepth 100000 in
theorem ln_67 : jm_ln 67 = 6 := by decide +kernel
set_option maxRecDepth 100000 in
theorem ln_68 : jm_ln 68 = 6 := by decide +kernel
set_option maxRecDepth 100000 in
theorem ln_69 : jm_ln 69 = 6 := by decide +kernel
set_option maxRecDepth 100000 in
theorem ln_70 : jm_ln 70 = 6 := by decide +kernel
set_option maxRecDepth 100000 in
theorem ln_71 : jm_ln 71 = 6 := by decide +kernel
set_option maxRecDepth 100000 in
theorem ln_72 : jm_ln 72 = 6 := by decide +kernel
set_option maxRecDepth 100000 in
theorem ln_74 : jm_ln 74 = 6 := by decide +kernel
set_option maxRecDepth 100000 in
theorem ln_75 : jm_ln 75 = 6 := by decide +kernel
set_option maxRecDepth 100000 in
theorem ln_76 : jm_ln 76 = 6 := by decide +kernel
set_option maxRecDepth 100000 in
theorem ln_77 : jm_ln 77 = 6 := by decide +kernel
set_option maxRecDepth 100000 in
theorem ln_78 : jm_ln 78 = 6 := by decide +kernel
set_option maxRecDepth 100000 in
theorem ln_79 : jm_ln 79 = 6 := by decide +kernel
set_option maxRecDepth 100000 in
theorem ln_81 : jm_ln 81 = 6 := by decide +kernel
set_option maxRecDepth 100000 in
theorem ln_82 : jm_ln 82 = 6 := by decide +kernel
set_option maxRecDepth 100000 in
theorem ln_83 : jm_ln 83 = 6 := by decide +kernel
set_option maxRecDepth 100000 in
theorem ln_84 : jm_ln 84 = 6 := by decide +kernel
set_option maxRecDepth 100000 in
theorem ln_85 : jm_ln 85 = 6 := by decide +kernel
set_option maxRecDepth 100000 in
theorem ln_86 : jm_ln 86 = 6 := by decide +kernel
set_option maxRecDepth 100000 in
theorem ln_88 : jm_ln 88 = 6 := by decide +kernel
set_option maxRecDepth 100000 in
theorem ln_89 : jm_ln 89 = 6 := by decide +kernel
set_option maxRecDepth 100000 in
theorem ln_90 : jm_ln 90 = 6 := by decide +kernel
set_option maxRecDepth 100000 in
theorem ln_91 : jm_ln 91 = 6 := by decide +kernel
set_option maxRecDepth 100000 in
theorem ln_92 : jm_ln 92 = 6 := by decide +kernel
set_option maxRecDepth 100000 in
theorem ln_93 : jm_ln 93 = 6 := by decide +kernel
set_option maxRecDepth 100000 in
theorem ln_95 : jm_ln 95 = 6 := by decide +kernel
set_option maxRecDepth 100000 in
theorem ln_96 : jm_ln 96 = 6 := by decide +kernel
set_option maxRecDepth 100000 in
theorem ln_97 : jm_ln 97 = 6 := by decide +kernel
set_option maxRecDepth 100000 in
theorem ln_98 : jm_ln 98 = 6 := by decide +kernel
set_option maxRecDepth 100000 in
theorem ln_99 : jm_ln 99 = 6 := by decide +kernel
set_option maxRecDepth 100000 in
theorem ln_100 : jm_ln 100 = 6 := by decide +kernel
set_option maxRecDepth 100000 in
theorem ln_102 : jm_ln 102 = 6 := by decide +kernel
set_option maxRecDepth 100000 in
theorem ln_103 : jm_ln 103 = 6 := by decide +kernel
set_option maxRecDepth 100000 in
theorem ln_104 : jm_ln 104 = 6 := by decide +kernel
set_option maxRecDepth 100000 in
theorem ln_105 : jm_ln 105 = 6 := by decide +kernel
set_option maxRecDepth 100000 in
theorem ln_106 : jm_ln 106 = 6 := by decide +kernel
set_option maxRecDepth 100000 in
theorem ln_107 : jm_ln 107 = 6 := by decide +kernel
set_option maxRecDepth 100000 in
theorem ln_109 : jm_ln 109 = 6 := by decide +kernel
set_option maxRecDepth 100000 in
theorem ln_110 : jm_ln 110 = 6 := by decide +kernel
set_option maxRecDepth 100000 in
theorem ln_111 : jm_ln 111 = 6 := by decide +kernel
set_option maxRecDepth 100000 in
theorem ln_112 : jm_ln 112 = 6 := by decide +kernel
set_option maxRecDepth 100000 in
theorem ln_113 : jm_ln 113 = 6 := by decide +kernel
set_option maxRecDepth 100000 in
theorem ln_114 : jm_ln 114 = 6 := by decide +kernel
set_option maxRecDepth 100000 in
theorem ln_116 : jm_ln 116 = 6 := by decide +kernel
set_option maxRecDepth 100000 in
theorem ln_117 : jm_ln 117 = 6 := by decide +kernel
set_option maxRecDepth 100000 in
theorem ln_118 : jm_ln 118 = 6 := by decide +kernel
set_option maxRecDepth 100000 in
theorem ln_119 : jm_ln 119 = 6 := by decide +kernel
set_option maxRecDepth 100000 in
theorem ln_120 : jm_ln 120 = 6 := by decide +kernel
set_option maxRecDepth 100000 in
theorem ln_121 : jm_ln 121 = 6 := by decide +kernel
set_option maxRecDepth 100000 in
theorem ln_123 : jm_ln 123 = 6 := by decide +kernel
set_option maxRecDepth 100000 in
theorem ln_124 : jm_ln 124 = 6 := by decide +kernel
set_option maxRecDepth 100000 in
theorem ln_125 : jm_ln 125 = 6 := by decide +kernel
set_option maxRecDepth 100000 in
theorem ln_126 : jm_ln 126 = 6 := by decide +kernel
set_option maxRecDepth 100000 in
theorem ln_127 : jm_ln 127 = 6 := by decide +kernel
set_option maxRecDepth 100000 in
theorem ln_128 : jm_ln 128 = 6 := by decide +kernel
set_option maxRecDepth 100000 in
theorem ln_130 : jm_ln 130 = 6 := by decide +kernel
set_option maxRecDepth 100000 in
theorem ln_131 : jm_ln 131 = 6 := by decide +kernel
set_option maxRecDepth 100000 in
theorem ln_132 : jm_ln 132 = 6 := by decide +kernel
set_option maxRecDepth 100000 in
theorem ln_133 : jm_ln 133 = 6 := by decide +kernel
set_option maxRecDepth 100000 in
theorem ln_134 : jm_ln 134 = 6 := by decide +kernel
set_option maxRecDepth 100000 in
theorem ln_135 : jm_ln 135 = 6 := by decide +kernel
set_option maxRecDepth 100000 in
theorem ln_137 : jm_ln 137 = 6 := by decide +kernel
set_option maxRecDepth 100000 in
theorem ln_138 : jm_ln 138 = 6 := by decide +kernel
set_option maxRecDepth 100000 in
theorem ln_139 : jm_ln 139 = 6 := by decide +kernel
set_option maxRecDepth 100000 in
theorem ln_140 : jm_ln 140 = 6 := by decide +kernel
set_option maxRecDepth 100000 in
theorem ln_141 : jm_ln 141 = 6 := by decide +kernel
set_option maxRecDepth 100000 in
theorem ln_142 : jm_ln 142 = 6 := by decide +kernel
set_option maxRecDepth 100000 in
theorem ln_144 : jm_ln 144 = 6 := by decide +kernel
set_option maxRecDepth 100000 in
theorem ln_145 : jm_ln 145 = 6 := by decide +kernel
set_option maxRecDepth 100000 in
theorem ln_146 : jm_ln 146 = 6 := by decide +kernel
set_option maxRecDepth 100000 in
theorem ln_147 : jm_ln 147 = 6 := by decide +kernel
set_option maxRecDepth 100000 in
theorem ln_148 : jm_ln 148 = 6 := by decide +kernel
set_option maxRecDepth 100000 in
theorem ln_149 : jm_ln 149 = 6 := by decide +kernel
set_option maxRecDepth 100000 in
theorem ln_151 : jm_ln 151 = 6 := by decide +kernel
set_option maxRecDepth 100000 in
theorem ln_152 : jm_ln 152 = 6 := by decide +kernel
set_option maxRecDepth 100000 in
theorem ln_153 : jm_ln 153 = 6 := by decide +kernel
set_option maxRecDepth 100000 in
theorem ln_154 : jm_ln 154 = 6 := by decide +kernel
set_option maxRecDepth 100000 in
theorem ln_155 : jm_ln 155 = 6 := by decide +kernel
set_option maxRecDepth 100000 in
theorem ln_156 : jm_ln 156 = 6 := by decide +kernel
set_option maxRecDepth 100000 in
theorem ln_158 : jm_ln 158 = 6 := by decide +kernel
set_option maxRecDepth 100000 in
theorem ln_159 : jm_ln 159 = 6 := by decide +kernel
set_option maxRecDepth 100000 in
theorem ln_160 : jm_ln 160 = 6 := by decide +kernel
set_option maxRecDepth 100000 in
theorem ln_161 : jm_ln 161 = 6 := by decide +kernel
set_option maxRecDepth 100000 in
theorem ln_162 : jm_ln 162 = 6 := by decide +kernel
set_option maxRecDepth 100000 in
theorem ln_163 : jm_ln 163 = 6 := by decide +kernel
set_option maxRecDepth 100000 in
theorem ln_165 : jm_ln 165 = 6 := by decide +kernel
set_option maxRecDepth 100000 in
theorem ln_166 : jm_ln 166 = 6 := by decide +kernel
set_option maxRecDepth 100000 in
theorem ln_167 : jm_ln 167 = 6 := by decide +kernel
set_option maxRecDepth 100000 in
theorem ln_168 : jm_ln 168 = 6 := by decide +kernel
set_option maxRecDepth 100000 in
theorem ln_169 : jm_ln 169 = 6 := by decide +kernel
set_option maxRecDepth 100000 in
theorem ln_170 : jm_ln 170 = 6 := by decide +kernel
set_option maxRecDepth 100000 in
theorem ln_172 : jm_ln 172 = 6 := by decide +kernel
set_option maxRecDepth 100000 in
theorem ln_173 : jm_ln 173 = 6 := by decide +kernel
set_option maxRecDepth 100000 in
theorem ln_174 : jm_ln 174 = 6 := by decide +kernel
set_option maxRecDepth 100000 in
theorem ln_175 : jm_ln 175 = 6 := by decide +kernel
set_option maxRecDepth 100000 in
theorem ln_176 : jm_ln 176 = 6 := by decide +kernel
set_option maxRecDepth 100000 in
theorem ln_177 : jm_ln 177 = 6 := by decide +kernel
set_option maxRecDepth 100000 in
theorem ln_179 : jm_ln 179 = 6 := by decide +kernel
set_option maxRecDepth 100000 in
theorem ln_180 : jm_ln 180 = 6 := by decide +kernel
set_option maxRecDepth 100000 in
theorem ln_181 : jm_ln 181 = 6 := by decide +kernel
set_option maxRecDepth 100000 in
theorem ln_182 : jm_ln 182 = 6 := by decide +kernel
set_option maxRecDepth 100000 in
theorem ln_183 : jm_ln 183 = 6 := by decide +kernel
set_option maxRecDepth 100000 in
theorem ln_184 : jm_ln 184 = 6 := by decide +kernel
set_option maxRecDepth 100000 in
theorem ln_185 : jm_ln 185 = 2 := by decide +kernel
set_option maxRecDepth 100000 in
theorem ln_187 : jm_ln 187 = 6 := by decide +kernel
set_option maxRecDepth 100000 in
theorem ln_188 : jm_ln 188 = 6 := by decide +kernel
set_option maxRecDepth 100000 in
theorem ln_189 : jm_ln 189 = 6 := by decide +kernel
set_option maxRecDepth 100000 in
theorem ln_190 : jm_ln 190 = 6 := by decide +kernel
set_option maxRecDepth 100000 in
theorem ln_191 : jm_ln 191 = 6 := by decide +kernel
set_option maxRecDepth 100000 in
theorem ln_192 : jm_ln 192 = 6 := by decide +kernel
set_option maxRecDepth 100000 in
theorem ln_194 : jm_ln 194 = 6 := by decide +kernel
set_option maxRecDepth 100000 in
theorem ln_195 : jm_ln 195 = 6 := by decide +kernel
set_option maxRecDepth 100000 in
theorem ln_196 : jm_ln 196 = 6 := by decide +kernel
set_option maxRecDepth 100000 in
theorem ln_197 : jm_ln 197 = 6 := by decide +kernel
set_option maxRecDepth 100000 in
theorem ln_198 : jm_ln 198 = 6 := by decide +kernel
set_option maxRecDepth 100000 in
theorem ln_199 : jm_ln 199 = 6 := by decide +kernel
set_option maxRecDepth 100000 in
theorem ln_201 : jm_ln 201 = 6 := by decide +kernel
set_option maxRecDepth 100000 in
theorem ln_202 : jm_ln 202 = 6 := by decide +kernel
set_option maxRecDepth 100000 in
theorem ln_203 : jm_ln 203 = 6 := by decide +kernel
set_option maxRecDepth 100000 in
theorem ln_204 : jm_ln 204 = 6 := by decide +kernel
set_option maxRecDepth 100000 in
theorem ln_205 : jm_ln 205 = 6 := by decide +kernel
set_option maxRecDepth 100000 in
theorem ln_206 : jm_ln 206 = 6 := by decide +kernel
set_option maxRecDepth 100000 in
theorem ln_209 : jm_ln 209 = 6 := by decide +kernel
set_option maxRecDepth 100000 in
theorem ln_210 : jm_ln 210 = 6 := by decide +kernel
set_option maxRecDepth 100000 in
theorem ln_211 : jm_ln 211 = 6 := by decide +kernel
set_option maxRecDepth 100000 in
theorem ln_212 : jm_ln 212 = 6 := by decide +kernel
set_option maxRecDepth 100000 in
theorem ln_213 : jm_ln 213 = 6 := by decide +kernel
set_option maxRecDepth 100000 in
theorem ln_214 : jm_ln 214 = 6 := by decide +kernel
set_option maxRecDepth 100000 in
theorem ln_216 : jm_ln 216 = 16 := by decide +kernel
set_option maxRecDepth 100000 in
theorem ln_218 : jm_ln 218 = 8 := by decide +kernel
set_option maxRecDepth 100000 in
theorem ln_219 : jm_ln 219 = 8 := by decide +kernel
set_option maxRecDepth 100000 in
theorem ln_220 : jm_ln 220 = 320 := by decide +kernel
set_option maxRecDepth 100000 in
theorem ln_221 : jm_ln 221 = 44 := by decide +kernel
set_option maxRecDepth 100000 in
theorem ln_222 : jm_ln 222 = 40 := by decide +kernel
set_option maxRecDepth 100000 in
theorem ln_223 : jm_ln 223 = 120 := by decide +kernel
set_option maxRecDepth 100000 in
theorem ln_224 : jm_ln 224 = 44 := by decide +kernel
set_option maxRecDepth 100000 in
theorem ln_225 : jm_ln 225 = 1056 := by decide +kernel
set_option maxRecDepth 100000 in
theorem ln_226 : jm_ln 226 = 44 := by decide +kernel
set_option maxRecDepth 100000 in
theorem ln_227 : jm_ln 227 = 2 := by decide +kernel
set_option maxRecDepth 100000 in
theorem ln_228 : jm_ln 228 = 88 := by decide +kernel
set_option maxRecDepth 100000 in
theorem ln_229 : jm_ln 229 = 16 := by decide +kernel
set_option maxRecDepth 100000 in
theorem r0_0_0 : jm_R0 0 0 = some 1 := by decide +kernel
set_option maxRecDepth 100000 in
theorem r0_0_1 : jm_R0 0 1 = some 13 := by decide +kernel
set_option maxRecDepth 100000 in
theorem r0_0_2 : jm_R0 0 2 = some 200 := by decide +kernel
set_option maxRecDepth 100000 in
theorem r0_0_3 : jm_R0 0 3 = some 15 := by decide +kernel
set_option maxRecDepth 100000 in
theorem r0_0_4 : jm_R0 0 4 = some 207 := by decide +kernel
set_option maxRecDepth 100000 in
theorem r0_0_5 : jm_R0 0 5 = some 215 := by decide +kernel
set_option maxRecDepth 100000 in
theorem r0_0_6 : jm_R0 0 6 = some 185 := by decide +kernel
set_option maxRecDepth 100000 in
theorem r0_1_0 : jm_R0 1 0 = some 2 := by decide +kernel
set_option maxRecDepth 100000 in
theorem r0_1_1 : jm_R0 1 1 = some 11 := by decide +kernel
set_option maxRecDepth 100000 in
theorem r0_1_2 : jm_R0 1 2 = some 12 := by decide +kernel
set_option maxRecDepth 100000 in
theorem r0_13_0 : jm_R0 13 0 = some 14 := by decide +kernel
set_option maxRecDepth 100000 in
theorem r0_15_0 : jm_R0 15 0 = some 16 := by decide +kernel
set_option maxRecDepth 100000 in
theorem r0_200_8 : jm_R0 200 8 = some 201 := by decide +kernel
set_option maxRecDepth 100000 in
theorem r0_200_9 : jm_R0 200 9 = some 202 := by decide +kernel
set_option maxRecDepth 100000 in
theorem r0_200_10 : jm_R0 200 10 = some 203 := by decide +kernel
set_option maxRecDepth 100000 in
theorem r0_200_11 : jm_R0 200 11 = some 204 := by decide +kernel
set_option maxRecDepth 100000 in
theorem r0_200_12 : jm_R0 200 12 = some 205 := by decide +kernel
set_option maxRecDepth 100000 in
theorem r0_200_13 : jm_R0 200 13 = some 206 := by decide +kernel
set_option maxRecDepth 100000 in
theorem r0_207_0 : jm_R0 207 0 = some 200 := by decide +kernel
set_option maxRecDepth 100000 in
theorem r0_207_1 : jm_R0 207 1 = some 208 := by decide +kernel
set_option maxRecDepth 100000 in
theorem r0_208_8 : jm_R0 208 8 = some 209 := by decide +kernel
set_option maxRecDepth 100000 in
theorem r0_208_9 : jm_R0 208 9 = some 210 := by decide +kernel
set_option maxRecDepth 100000 in
theorem r0_208_12 : jm_R0 208 12 = some 213 := by decide +kernel
set_option maxRecDepth 100000 in
theorem r0_215_0 : jm_R0 215 0 = some 200 := by decide +kernel
set_option maxRecDepth 100000 in
theorem r0_215_1 : jm_R0 215 1 = some 216 := by decide +kernel
set_option maxRecDepth 100000 in
theorem r0_217_0 : jm_R0 217 0 = some 218 := by decide +kernel
set_option maxRecDepth 100000 in
theorem r0_217_1 : jm_R0 217 1 = some 219 := by decide +kernel
set_option maxRecDepth 100000 in
theorem r0_217_2 : jm_R0 217 2 = some 220 := by decide +kernel
set_option maxRecDepth 100000 in
theorem r0_217_5 : jm_R0 217 5 = some 221 := by decide +kernel
set_option maxRecDepth 100000 in
theorem r0_217_6 : jm_R0 217 6 = some 222 := by decide +kernel
set_option maxRecDepth 100000 in
theorem r0_217_7 : jm_R0 217 7 = some 223 := by decide +kernel
set_option maxRecDepth 100000 in
theorem r0_217_15 : jm_R0 217 15 = some 224 := by decide +kernel
set_option maxRecDepth 100000 in
theorem r0_217_16 : jm_R0 217 16 = some 225 := by decide +kernel
set_option maxRecDepth 100000 in
theorem r0_217_18 : jm_R0 217 18 = some 226 := by decide +kernel
set_option maxRecDepth 100000 in
theorem r0_217_19 : jm_R0 217 19 = some 227 := by decide +kernel
set_option maxRecDepth 100000 in
theorem r0_217_20 : jm_R0 217 20 = some 228 := by decide +kernel
set_option maxRecDepth 100000 in
theorem r0_217_21 : jm_R0 217 21 = some 229 := by decide +kernel
set_option maxRecDepth 100000 in
theorem lf_11 : jm_look 11 jm_fldT = some (0, 0) := by decide +kernel
set_option maxRecDepth 100000 in
theorem lf_17 : jm_look 17 jm_fldT = some (0, 1) := by decide +kernel
set_option maxRecDepth 100000 in
theorem lf_21 : jm_look 21 jm_fldT = some (0, 2) := by decide +kernel
set_option maxRecDepth 100000 in
theorem lf_1009 : jm_look 1009 jm_fldT = some (1, 1) := by decide +kernel
set_option maxRecDepth 100000 in
theorem lf_1013 : jm_look 1013 jm_fldT = some (1, 2) := by decide +kernel
set_option maxRecDepth 100000 in
theorem lf_1017 : jm_look 1017 jm_fldT = some (1, 0) := by decide +kernel
set_option maxRecDepth 100000 in
theorem lf_1034 : jm_look 1034 jm_fldT = some (2, 9) := by decide +kernel
set_option maxRecDepth 100000 in
theorem lf_1050 : jm_look 1050 jm_fldT = some (2, 12) := by decide +kernel
set_option maxRecDepth 100000 in
theorem lf_1053 : jm_look 1053 jm_fldT = some (2, 10) := by decide +kernel
set_option maxRecDepth 100000 in
theorem lf_2009 : jm_look 2009 jm_fldT = some (2, 0) := by decide +kernel
set_option maxRecDepth 100000 in
theorem lf_2015 : jm_look 2015 jm_fldT = some (2, 1) := by decide +kernel
set_option maxRecDepth 100000 in
theorem lf_2018 : jm_look 2018 jm_fldT = some (2, 2) := by decide +kernel
set_option maxRecDepth 100000 in
theorem lf_2021 : jm_look 2021 jm_fldT = some (2, 3) := by decide +kernel
set_option maxRecDepth 100000 in
theorem lf_2024 : jm_look 2024 jm_fldT = some (2, 4) := by decide +kernel
set_option maxRecDepth 100000 in
theorem lf_2027 : jm_look 2027 jm_fldT = some (2, 5) := by decide +kernel
set_option maxRecDepth 100000 in
theorem lf_2030 : jm_look 2030 jm_fldT = some (2, 6) := by decide +kernel
set_option maxRecDepth 100000 in
theorem lf_2033 : jm_look 2033 jm_fldT = some (2, 7) := by decide +kernel
set_option maxRecDepth 100000 in
theorem lf_2036 : jm_look 2036 jm_fldT = some (2, 8) := by decide +kernel
set_option maxRecDepth 100000 in
theorem lf_2040 : jm_look 2040 jm_fldT = some (2, 9) := by decide +kernel
set_option maxRecDepth 100000 in
theorem lf_2043 : jm_look 2043 jm_fldT = some (2, 10) := by decide +kernel
set_option maxRecDepth 100000 in
theorem lf_2046 : jm_look 2046 jm_fldT = some (2, 11) := by decide +kernel
set_option maxRecDepth 100000 in
theorem lf_2049 : jm_look 2049 jm_fldT = some (2, 12) := by decide +kernel
set_option maxRecDepth 100000 in
theorem lf_2052 : jm_look 2052 jm_fldT = some (2, 13) := by decide +kernel
set_option maxRecDepth 100000 in
theorem lf_3011 : jm_look 3011 jm_fldT = some (3, 0) := by decide +kernel
set_option maxRecDepth 100000 in
theorem lf_3016 : jm_look 3016 jm_fldT = some (3, 1) := by decide +kernel
set_option maxRecDepth 100000 in
theorem lf_3020 : jm_look 3020 jm_fldT = some (3, 2) := by decide +kernel
set_option maxRecDepth 100000 in
theorem lf_4012 : jm_look 4012 jm_fldT = some (4, 1) := by decide +kernel
set_option maxRecDepth 100000 in
theorem lf_4018 : jm_look 4018 jm_fldT = some (4, 0) := by decide +kernel
set_option maxRecDepth 100000 in
theorem lf_4032 : jm_look 4032 jm_fldT = some (2, 7) := by decide +kernel
set_option maxRecDepth 100000 in
theorem lf_4036 : jm_look 4036 jm_fldT = some (2, 4) := by decide +kernel
set_option maxRecDepth 100000 in
theorem lf_4042 : jm_look 4042 jm_fldT = some (2, 2) := by decide +kernel
set_option maxRecDepth 100000 in
theorem lf_4045 : jm_look 4045 jm_fldT = some (2, 6) := by decide +kernel
set_option maxRecDepth 100000 in
theorem lf_4062 : jm_look 4062 jm_fldT = some (2, 8) := by decide +kernel
set_option maxRecDepth 100000 in
theorem lf_4070 : jm_look 4070 jm_fldT = some (2, 9) := by decide +kernel
set_option maxRecDepth 100000 in
theorem lf_4073 : jm_look 4073 jm_fldT = some (2, 12) := by decide +kernel
set_option maxRecDepth 100000 in
theorem lf_5011 : jm_look 5011 jm_fldT = some (5, 0) := by decide +kernel
set_option maxRecDepth 100000 in
theorem lf_5015 : jm_look 5015 jm_fldT = some (5, 1) := by decide +kernel
set_option maxRecDepth 100000 in
theorem lf_5019 : jm_look 5019 jm_fldT = some (5, 2) := by decide +kernel
set_option maxRecDepth 100000 in
theorem lf_5022 : jm_look 5022 jm_fldT = some (5, 3) := by decide +kernel
set_option maxRecDepth 100000 in
theorem lf_5025 : jm_look 5025 jm_fldT = some (5, 4) := by decide +kernel
set_option maxRecDepth 100000 in
theorem lf_5050 : jm_look 5050 jm_fldT = some (2, 0) := by decide +kernel
set_option maxRecDepth 100000 in
theorem lf_5055 : jm_look 5055 jm_fldT = some (2, 1) := by decide +kernel
set_option maxRecDepth 100000 in
theorem lf_5058 : jm_look 5058 jm_fldT = some (2, 2) := by decide +kernel
set_option maxRecDepth 100000 in
theorem lf_6010 : jm_look 6010 jm_fldT = some (6, 0) := by decide +kernel
set_option maxRecDepth 100000 in
theorem lf_6019 : jm_look 6019 jm_fldT = some (6, 1) := by decide +kernel
set_option maxRecDepth 100000 in
theorem lf_6026 : jm_look 6026 jm_fldT = some (6, 3) := by decide +kernel
set_option maxRecDepth 100000 in
theorem lf_6033 : jm_look 6033 jm_fldT = some (6, 6) := by decide +kernel
set_option maxRecDepth 100000 in
theorem lf_6037 : jm_look 6037 jm_fldT = some (6, 7) := by decide +kernel
set_option maxRecDepth 100000 in
theorem lf_6041 : jm_look 6041 jm_fldT = some (6, 2) := by decide +kernel
set_option maxRecDepth 100000 in
theorem lf_6050 : jm_look 6050 jm_fldT = some (6, 4) := by decide +kernel
set_option maxRecDepth 100000 in
theorem lf_6057 : jm_look 6057 jm_fldT = some (6, 5) := by decide +kernel
set_option maxRecDepth 100000 in
theorem lf_6125 : jm_look 6125 jm_fldT = some (2, 6) := by decide +kernel
set_option maxRecDepth 100000 in
theorem lf_6128 : jm_look 6128 jm_fldT = some (5, 2) := by decide +kernel
set_option maxRecDepth 100000 in
theorem lf_6131 : jm_look 6131 jm_fldT = some (0, 2) := by decide +kernel
set_option maxRecDepth 100000 in
theorem lf_6141 : jm_look 6141 jm_fldT = some (2, 3) := by decide +kernel
set_option maxRecDepth 100000 in
theorem lf_6150 : jm_look 6150 jm_fldT = some (2, 4) := by decide +kernel
set_option maxRecDepth 100000 in
theorem lf_6162 : jm_look 6162 jm_fldT = some (2, 7) := by decide +kernel
set_option maxRecDepth 100000 in
theorem lf_6165 : jm_look 6165 jm_fldT = some (2, 2) := by decide +kernel
set_option maxRecDepth 100000 in
theorem lf_6171 : jm_look 6171 jm_fldT = some (2, 8) := by decide +kernel
set_option maxRecDepth 100000 in
theorem lf_6175 : jm_look 6175 jm_fldT = some (2, 12) := by decide +kernel
set_option maxRecDepth 100000 in
theorem lf_6178 : jm_look 6178 jm_fldT = some (2, 10) := by decide +kernel
set_option maxRecDepth 100000 in
theorem lf_6192 : jm_look 6192 jm_fldT = some (2, 13) := by decide +kernel
set_option maxRecDepth 100000 in
theorem lf_6195 : jm_look 6195 jm_fldT = some (2, 11) := by decide +kernel
set_option maxRecDepth 100000 in
theorem lf_6235 : jm_look 6235 jm_fldT = some (3, 0) := by decide +kernel
set_option maxRecDepth 100000 in
theorem lf_6266 : jm_look 6266 jm_fldT = some (2, 9) := by decide +kernel
set_option maxRecDepth 100000 in
theorem lf_6275 : jm_look 6275 jm_fldT = some (1, 2) := by decide +kernel
set_option maxRecDepth 100000 in
theorem lf_6278 : jm_look 6278 jm_fldT = some (1, 1) := by decide +kernel
set_option maxRecDepth 100000 in
theorem lf_6284 : jm_look 6284 jm_fldT = some (2, 5) := by decide +kernel
set_option maxRecDepth 100000 in
theorem lf_6290 : jm_look 6290 jm_fldT = some (5, 1) := by decide +kernel
set_option maxRecDepth 100000 in
theorem lf_7007 : jm_look 7007 jm_fldT = some (7, 0) := by decide +kernel
set_option maxRecDepth 100000 in
theorem lf_7013 : jm_look 7013 jm_fldT = some (7, 1) := by decide +kernel
set_option maxRecDepth 100000 in
theorem lf_7016 : jm_look 7016 jm_fldT = some (7, 2) := by decide +kernel
set_option maxRecDepth 100000 in
theorem lf_7019 : jm_look 7019 jm_fldT = some (7, 5) := by decide +kernel
set_option maxRecDepth 100000 in
theorem lf_7022 : jm_look 7022 jm_fldT = some (7, 6) := by decide +kernel
set_option maxRecDepth 100000 in
theorem lf_7025 : jm_look 7025 jm_fldT = some (7, 7) := by decide +kernel
set_option maxRecDepth 100000 in
theorem lf_7028 : jm_look 7028 jm_fldT = some (7, 15) := by decide +kernel
set_option maxRecDepth 100000 in
theorem lf_7031 : jm_look 7031 jm_fldT = some (7, 16) := by decide +kernel
set_option maxRecDepth 100000 in
theorem lf_7034 : jm_look 7034 jm_fldT = some (7, 18) := by decide +kernel
set_option maxRecDepth 100000 in
theorem lf_7037 : jm_look 7037 jm_fldT = some (7, 19) := by decide +kernel
set_option maxRecDepth 100000 in
theorem lf_7041 : jm_look 7041 jm_fldT = some (7, 20) := by decide +kernel
set_option maxRecDepth 100000 in
theorem lf_7044 : jm_look 7044 jm_fldT = some (7, 21) := by decide +kernel
set_option maxRecDepth 100000 in
theorem lf_7047 : jm_look 7047 jm_fldT = some (7, 3) := by decide +kernel
set_option maxRecDepth 100000 in
theorem lf_7078 : jm_look 7078 jm_fldT = some (7, 8) := by decide +kernel
set_option maxRecDepth 100000 in
theorem lf_7082 : jm_look 7082 jm_fldT = some (7, 10) := by decide +kernel
set_option maxRecDepth 100000 in
theorem lf_7085 : jm_look 7085 jm_fldT = some (7, 13) := by decide +kernel
set_option maxRecDepth 100000 in
theorem lf_7088 : jm_look 7088 jm_fldT = some (7, 11) := by decide +kernel
set_option maxRecDepth 100000 in
theorem lf_7091 : jm_look 7091 jm_fldT = some (7, 12) := by decide +kernel
set_option maxRecDepth 100000 in
theorem lf_7102 : jm_look 7102 jm_fldT = some (7, 14) := by decide +kernel
set_option maxRecDepth 100000 in
theorem lf_7131 : jm_look 7131 jm_fldT = some (7, 9) := by decide +kernel
set_option maxRecDepth 100000 in
theorem lf_7135 : jm_look 7135 jm_fldT = some (7, 4) := by decide +kernel
set_option maxRecDepth 100000 in
theorem lf_7139 : jm_look 7139 jm_fldT = some (7, 17) := by decide +kernel
set_option maxRecDepth 100000 in
theorem lf_7244 : jm_look 7244 jm_fldT = some (7, 22) := by decide +kernel
set_option maxRecDepth 100000 in
theorem lm_24 : jm_look 24 jm_mthT = some (md_X2_init, 0, 4) := by rfl
set_option maxRecDepth 100000 in
theorem lm_25 : jm_look 25 jm_mthT = some (md_X2_become, 1, 0) := by rfl
set_option maxRecDepth 100000 in
theorem lm_1024 : jm_look 1024 jm_mthT = some (md_X1_markOf, 2, 0) := by rfl
set_option maxRecDepth 100000 in
theorem lm_1028 : jm_look 1028 jm_mthT = some (md_X1_sizeOf, 2, 0) := by rfl
set_option maxRecDepth 100000 in
theorem lm_1039 : jm_look 1039 jm_mthT = some (md_X1_run, 3, 0) := by rfl
set_option maxRecDepth 100000 in
theorem lm_1046 : jm_look 1046 jm_mthT = some (md_X1_leave, 1, 0) := by rfl
set_option maxRecDepth 100000 in
theorem lm_2061 : jm_look 2061 jm_mthT = some (md_X2_waterBehind, 1, 0) := by rfl
set_option maxRecDepth 100000 in
theorem lm_2071 : jm_look 2071 jm_mthT = some (md_X2_showsBehind, 1, 0) := by rfl
set_option maxRecDepth 100000 in
theorem lm_2075 : jm_look 2075 jm_mthT = some (md_X2_isSent, 1, 0) := by rfl
set_option maxRecDepth 100000 in
theorem lm_2078 : jm_look 2078 jm_mthT = some (md_X2_wayOf, 2, 0) := by rfl
set_option maxRecDepth 100000 in
theorem lm_2082 : jm_look 2082 jm_mthT = some (md_X2_nextOwner, 0, 0) := by rfl
set_option maxRecDepth 100000 in
theorem lm_2086 : jm_look 2086 jm_mthT = some (md_X2_hasBoat, 1, 0) := by rfl
set_option maxRecDepth 100000 in
theorem lm_2089 : jm_look 2089 jm_mthT = some (md_X2_pass, 0, 0) := by rfl
set_option maxRecDepth 100000 in
theorem lm_3023 : jm_look 3023 jm_mthT = some (md_X6_within, 3, 3) := by rfl
set_option maxRecDepth 100000 in
theorem lm_3033 : jm_look 3033 jm_mthT = some (md_X3_isMissing, 1, 0) := by rfl
set_option maxRecDepth 100000 in
theorem lm_3037 : jm_look 3037 jm_mthT = some (md_X6_bit, 1, 3) := by rfl
set_option maxRecDepth 100000 in
theorem lm_4011 : jm_look 4011 jm_mthT = some (md_X2_init, 0, 4) := by rfl
set_option maxRecDepth 100000 in
theorem lm_4021 : jm_look 4021 jm_mthT = some (md_X2_clear, 0, 0) := by rfl
set_option maxRecDepth 100000 in
theorem lm_4024 : jm_look 4024 jm_mthT = some (md_X2_become, 1, 0) := by rfl
set_option maxRecDepth 100000 in
theorem lm_4028 : jm_look 4028 jm_mthT = some (md_X2_passAll, 1, 0) := by rfl
set_option maxRecDepth 100000 in
theorem lm_4039 : jm_look 4039 jm_mthT = some (md_X2_pass, 0, 0) := by rfl
set_option maxRecDepth 100000 in
theorem lm_4048 : jm_look 4048 jm_mthT = some (md_X4_isFewer, 2, 1) := by rfl
set_option maxRecDepth 100000 in
theorem lm_4052 : jm_look 4052 jm_mthT = some (md_X4_ownerBySent, 2, 0) := by rfl
set_option maxRecDepth 100000 in
theorem lm_4056 : jm_look 4056 jm_mthT = some (md_J6_bitCount_0f7a4, 1, 1) := by rfl
set_option maxRecDepth 100000 in
theorem lm_4066 : jm_look 4066 jm_mthT = some (md_X2_showsBehind, 1, 0) := by rfl
set_option maxRecDepth 100000 in
theorem lm_4076 : jm_look 4076 jm_mthT = some (md_X4_goesAsTold, 3, 0) := by rfl
set_option maxRecDepth 100000 in
theorem lm_4080 : jm_look 4080 jm_mthT = some (md_X2_isSent, 1, 0) := by rfl
set_option maxRecDepth 100000 in
theorem lm_4083 : jm_look 4083 jm_mthT = some (md_X4_weightOf, 2, 0) := by rfl
set_option maxRecDepth 100000 in
theorem lm_4093 : jm_look 4093 jm_mthT = some (md_X4_drawBy, 1, 0) := by rfl
set_option maxRecDepth 100000 in
theorem lm_5028 : jm_look 5028 jm_mthT = some (md_X5_isFull, 0, 0) := by rfl
set_option maxRecDepth 100000 in
theorem lm_5032 : jm_look 5032 jm_mthT = some (md_X5_readLaw, 1, 0) := by rfl
set_option maxRecDepth 100000 in
theorem lm_5036 : jm_look 5036 jm_mthT = some (md_X5_readCells, 1, 0) := by rfl
set_option maxRecDepth 100000 in
theorem lm_5039 : jm_look 5039 jm_mthT = some (md_X5_readBoats, 1, 0) := by rfl
set_option maxRecDepth 100000 in
theorem lm_5042 : jm_look 5042 jm_mthT = some (md_X5_take, 1, 0) := by rfl
set_option maxRecDepth 100000 in
theorem lm_5046 : jm_look 5046 jm_mthT = some (md_X5_number, 2, 0) := by rfl
set_option maxRecDepth 100000 in
theorem lm_5061 : jm_look 5061 jm_mthT = some (md_X5_next, 0, 0) := by rfl
set_option maxRecDepth 100000 in
theorem lm_5065 : jm_look 5065 jm_mthT = some (md_X2_addCell, 1, 0) := by rfl
set_option maxRecDepth 100000 in
theorem lm_5069 : jm_look 5069 jm_mthT = some (md_X5_refuse, 1, 0) := by rfl
set_option maxRecDepth 100000 in
theorem lm_5072 : jm_look 5072 jm_mthT = some (md_X5_sortOf, 1, 1) := by rfl
set_option maxRecDepth 100000 in
theorem lm_5076 : jm_look 5076 jm_mthT = some (md_X2_addBoat, 3, 0) := by rfl
set_option maxRecDepth 100000 in
theorem lm_5080 : jm_look 5080 jm_mthT = some (md_X6_within, 3, 3) := by rfl
set_option maxRecDepth 100000 in
theorem lm_6009 : jm_look 6009 jm_mthT = some (md_X3_init, 0, 2) := by rfl
set_option maxRecDepth 100000 in
theorem lm_6018 : jm_look 6018 jm_mthT = some (md_X5_init, 0, 4) := by rfl
set_option maxRecDepth 100000 in
theorem lm_6025 : jm_look 6025 jm_mthT = some (md_X0_init, 0, 2) := by rfl
set_option maxRecDepth 100000 in
theorem lm_6032 : jm_look 6032 jm_mthT = some (md_X2_init, 0, 4) := by rfl
set_option maxRecDepth 100000 in
theorem lm_6047 : jm_look 6047 jm_mthT = some (md_X4_init, 1, 2) := by rfl
set_option maxRecDepth 100000 in
theorem lm_6056 : jm_look 6056 jm_mthT = some (md_X1_init, 1, 2) := by rfl
set_option maxRecDepth 100000 in
theorem lm_6061 : jm_look 6061 jm_mthT = some (md_X3_isRow, 1, 1) := by rfl
set_option maxRecDepth 100000 in
theorem lm_6065 : jm_look 6065 jm_mthT = some (md_X6_within, 3, 1) := by rfl
set_option maxRecDepth 100000 in
theorem lm_6070 : jm_look 6070 jm_mthT = some (md_X6_finding, 1, 0) := by rfl
set_option maxRecDepth 100000 in
theorem lm_6074 : jm_look 6074 jm_mthT = some (md_X3_make, 3, 0) := by rfl
set_option maxRecDepth 100000 in
theorem lm_6078 : jm_look 6078 jm_mthT = some (md_X6_fine, 1, 0) := by rfl
set_option maxRecDepth 100000 in
theorem lm_6081 : jm_look 6081 jm_mthT = some (md_X3_isMissing, 1, 0) := by rfl
set_option maxRecDepth 100000 in
theorem lm_6084 : jm_look 6084 jm_mthT = some (md_X3_hasPlaces, 3, 0) := by rfl
set_option maxRecDepth 100000 in
theorem lm_6087 : jm_look 6087 jm_mthT = some (md_X3_put, 3, 0) := by rfl
set_option maxRecDepth 100000 in
theorem lm_6091 : jm_look 6091 jm_mthT = some (md_X3_sameLane, 2, 0) := by rfl
set_option maxRecDepth 100000 in
theorem lm_6095 : jm_look 6095 jm_mthT = some (md_X3_move, 5, 0) := by rfl
set_option maxRecDepth 100000 in
theorem lm_6099 : jm_look 6099 jm_mthT = some (md_X3_lose, 1, 0) := by rfl
set_option maxRecDepth 100000 in
theorem lm_6102 : jm_look 6102 jm_mthT = some (md_X5_isFull, 0, 0) := by rfl
set_option maxRecDepth 100000 in
theorem lm_6107 : jm_look 6107 jm_mthT = some (md_X5_add, 1, 0) := by rfl
set_option maxRecDepth 100000 in
theorem lm_6110 : jm_look 6110 jm_mthT = some (md_X4_blank, 0, 0) := by rfl
set_option maxRecDepth 100000 in
theorem lm_6114 : jm_look 6114 jm_mthT = some (md_X5_readInto, 1, 0) := by rfl
set_option maxRecDepth 100000 in
theorem lm_6119 : jm_look 6119 jm_mthT = some (md_X2_become, 1, 0) := by rfl
set_option maxRecDepth 100000 in
theorem lm_6122 : jm_look 6122 jm_mthT = some (md_X0_forget, 0, 0) := by rfl
set_option maxRecDepth 100000 in
theorem lm_6135 : jm_look 6135 jm_mthT = some (md_X0_takeBack, 1, 0) := by rfl
set_option maxRecDepth 100000 in
theorem lm_6138 : jm_look 6138 jm_mthT = some (md_X2_stands, 0, 0) := by rfl
set_option maxRecDepth 100000 in
theorem lm_6144 : jm_look 6144 jm_mthT = some (md_X0_keep, 1, 0) := by rfl
set_option maxRecDepth 100000 in
theorem lm_6147 : jm_look 6147 jm_mthT = some (md_X2_pass, 0, 0) := by rfl
set_option maxRecDepth 100000 in
theorem lm_6153 : jm_look 6153 jm_mthT = some (md_X6_boatOrNone, 1, 1) := by rfl
set_option maxRecDepth 100000 in
theorem lm_6156 : jm_look 6156 jm_mthT = some (md_X2_hasBoat, 1, 0) := by rfl
set_option maxRecDepth 100000 in
theorem lm_6159 : jm_look 6159 jm_mthT = some (md_X2_isSent, 1, 0) := by rfl
set_option maxRecDepth 100000 in
theorem lm_6168 : jm_look 6168 jm_mthT = some (md_X2_hasCell, 1, 0) := by rfl
set_option maxRecDepth 100000 in
theorem lm_6181 : jm_look 6181 jm_mthT = some (md_X6_bit, 1, 1) := by rfl
set_option maxRecDepth 100000 in
theorem lm_6185 : jm_look 6185 jm_mthT = some (md_X2_showsBehind, 1, 0) := by rfl
set_option maxRecDepth 100000 in
theorem lm_6188 : jm_look 6188 jm_mthT = some (md_X2_wayOf, 2, 0) := by rfl
set_option maxRecDepth 100000 in
theorem lm_6198 : jm_look 6198 jm_mthT = some (md_X2_waterBehind, 1, 0) := by rfl
set_option maxRecDepth 100000 in
theorem lm_6201 : jm_look 6201 jm_mthT = some (md_X2_boatsThere, 0, 0) := by rfl
set_option maxRecDepth 100000 in
theorem lm_6205 : jm_look 6205 jm_mthT = some (md_X4_behind, 1, 0) := by rfl
set_option maxRecDepth 100000 in
theorem lm_6210 : jm_look 6210 jm_mthT = some (md_X2_dryBehind, 1, 0) := by rfl
set_option maxRecDepth 100000 in
theorem lm_6213 : jm_look 6213 jm_mthT = some (md_X4_firstOwner, 1, 0) := by rfl
set_option maxRecDepth 100000 in
theorem lm_6216 : jm_look 6216 jm_mthT = some (md_X4_ownsIfSentBehind, 3, 0) := by rfl
set_option maxRecDepth 100000 in
theorem lm_6219 : jm_look 6219 jm_mthT = some (md_X4_windsFor, 2, 0) := by rfl
set_option maxRecDepth 100000 in
theorem lm_6223 : jm_look 6223 jm_mthT = some (md_X4_fewestKeptHome, 2, 0) := by rfl
set_option maxRecDepth 100000 in
theorem lm_6226 : jm_look 6226 jm_mthT = some (md_X6_sizeOrSet, 2, 1) := by rfl
set_option maxRecDepth 100000 in
theorem lm_6229 : jm_look 6229 jm_mthT = some (md_X4_fewestSent, 1, 0) := by rfl
set_option maxRecDepth 100000 in
theorem lm_6232 : jm_look 6232 jm_mthT = some (md_X4_showsAllBy, 2, 0) := by rfl
set_option maxRecDepth 100000 in
theorem lm_6239 : jm_look 6239 jm_mthT = some (md_X4_fitting, 5, 0) := by rfl
set_option maxRecDepth 100000 in
theorem lm_6243 : jm_look 6243 jm_mthT = some (md_X4_barring, 3, 0) := by rfl
set_option maxRecDepth 100000 in
theorem lm_6249 : jm_look 6249 jm_mthT = some (md_X4_casesFor, 3, 0) := by rfl
set_option maxRecDepth 100000 in
theorem lm_6253 : jm_look 6253 jm_mthT = some (md_X4_allCases, 0, 0) := by rfl
set_option maxRecDepth 100000 in
theorem lm_6257 : jm_look 6257 jm_mthT = some (md_X6_commonDivisor, 2, 1) := by rfl
set_option maxRecDepth 100000 in
theorem lm_6262 : jm_look 6262 jm_mthT = some (md_X4_years, 3, 0) := by rfl
set_option maxRecDepth 100000 in
theorem lm_6269 : jm_look 6269 jm_mthT = some (md_X1_isA, 2, 1) := by rfl
set_option maxRecDepth 100000 in
theorem lm_6272 : jm_look 6272 jm_mthT = some (md_X1_answer, 2, 0) := by rfl
set_option maxRecDepth 100000 in
theorem lm_6281 : jm_look 6281 jm_mthT = some (md_X3_present, 0, 0) := by rfl
set_option maxRecDepth 100000 in
theorem lm_6287 : jm_look 6287 jm_mthT = some (md_X2_heldByAll, 0, 0) := by rfl
set_option maxRecDepth 100000 in
theorem lm_6292 : jm_look 6292 jm_mthT = some (md_J6_bitCount_0f7a4, 1, 1) := by rfl
set_option maxRecDepth 100000 in
theorem lm_7054 : jm_look 7054 jm_mthT = some (md_X7_in, 3, 1) := by rfl
set_option maxRecDepth 100000 in
theorem lm_7058 : jm_look 7058 jm_mthT = some (md_X7_isRow, 1, 1) := by rfl
set_option maxRecDepth 100000 in
theorem lm_7065 : jm_look 7065 jm_mthT = some (md_X7_find, 1, 0) := by rfl
set_option maxRecDepth 100000 in
theorem lm_7069 : jm_look 7069 jm_mthT = some (md_X7_well, 1, 0) := by rfl
set_option maxRecDepth 100000 in
theorem lm_7072 : jm_look 7072 jm_mthT = some (md_X7_asLane, 2, 1) := by rfl
set_option maxRecDepth 100000 in
theorem lm_7105 : jm_look 7105 jm_mthT = some (md_X7_isLetter, 1, 0) := by rfl
set_option maxRecDepth 100000 in
theorem lm_7108 : jm_look 7108 jm_mthT = some (md_X7_faults, 1, 0) := by rfl
set_option maxRecDepth 100000 in
theorem lm_7111 : jm_look 7111 jm_mthT = some (md_X7_nextToken, 0, 0) := by rfl
set_option maxRecDepth 100000 in
theorem lm_7114 : jm_look 7114 jm_mthT = some (md_X7_takes, 1, 0) := by rfl
set_option maxRecDepth 100000 in
theorem lm_7117 : jm_look 7117 jm_mthT = some (md_X7_takesNumber, 4, 0) := by rfl
set_option maxRecDepth 100000 in
theorem lm_7121 : jm_look 7121 jm_mthT = some (md_X7_readBoat, 1, 0) := by rfl
set_option maxRecDepth 100000 in
theorem lm_7124 : jm_look 7124 jm_mthT = some (md_X7_readCell, 0, 0) := by rfl
set_option maxRecDepth 100000 in
theorem lm_7128 : jm_look 7128 jm_mthT = some (md_X7_readIsle, 0, 0) := by rfl
set_option maxRecDepth 100000 in
theorem lm_7142 : jm_look 7142 jm_mthT = some (md_X7_waterIn, 1, 0) := by rfl
set_option maxRecDepth 100000 in
theorem lm_7145 : jm_look 7145 jm_mthT = some (md_X7_dryIn, 1, 0) := by rfl
set_option maxRecDepth 100000 in
theorem lm_7148 : jm_look 7148 jm_mthT = some (md_X7_has, 2, 1) := by rfl
set_option maxRecDepth 100000 in
theorem lm_7152 : jm_look 7152 jm_mthT = some (md_X7_wayOf, 1, 0) := by rfl
set_option maxRecDepth 100000 in
theorem lm_7155 : jm_look 7155 jm_mthT = some (md_X7_thereSet, 0, 0) := by rfl
set_option maxRecDepth 100000 in
theorem lm_7159 : jm_look 7159 jm_mthT = some (md_X7_leastOf, 1, 1) := by rfl
set_option maxRecDepth 100000 in
theorem lm_7166 : jm_look 7166 jm_mthT = some (md_X7_note, 0, 0) := by rfl
set_option maxRecDepth 100000 in
theorem lm_7169 : jm_look 7169 jm_mthT = some (md_X7_oneHour, 0, 0) := by rfl
set_option maxRecDepth 100000 in
theorem lm_7172 : jm_look 7172 jm_mthT = some (md_X7_ownerNow, 0, 0) := by rfl
set_option maxRecDepth 100000 in
theorem lm_7175 : jm_look 7175 jm_mthT = some (md_X7_isBoat, 1, 0) := by rfl
set_option maxRecDepth 100000 in
theorem lm_7180 : jm_look 7180 jm_mthT = some (md_X7_isCell, 1, 0) := by rfl
set_option maxRecDepth 100000 in
theorem lm_7191 : jm_look 7191 jm_mthT = some (md_X7_goOn, 1, 0) := by rfl
set_option maxRecDepth 100000 in
theorem lm_7195 : jm_look 7195 jm_mthT = some (md_X7_takeBack, 0, 0) := by rfl
set_option maxRecDepth 100000 in
theorem lm_7200 : jm_look 7200 jm_mthT = some (md_X7_putAside, 0, 0) := by rfl
set_option maxRecDepth 100000 in
theorem lm_7203 : jm_look 7203 jm_mthT = some (md_X7_ownerBy, 1, 0) := by rfl
set_option maxRecDepth 100000 in
theorem lm_7206 : jm_look 7206 jm_mthT = some (md_X7_openIn, 1, 0) := by rfl
set_option maxRecDepth 100000 in
theorem lm_7209 : jm_look 7209 jm_mthT = some (md_X7_isWhat, 1, 1) := by rfl
set_option maxRecDepth 100000 in
theorem lm_7212 : jm_look 7212 jm_mthT = some (md_X7_ones, 1, 1) := by rfl
set_option maxRecDepth 100000 in
theorem lm_7217 : jm_look 7217 jm_mthT = some (md_X7_lacks, 3, 0) := by rfl
set_option maxRecDepth 100000 in
theorem lm_7221 : jm_look 7221 jm_mthT = some (md_X7_isSo, 2, 0) := by rfl
set_option maxRecDepth 100000 in
theorem lm_7230 : jm_look 7230 jm_mthT = some (md_X7_allHeld, 0, 0) := by rfl
set_option maxRecDepth 100000 in
theorem lm_7241 : jm_look 7241 jm_mthT = some (md_X7_isKind, 2, 1) := by rfl
set_option maxRecDepth 100000 in
theorem lm_7247 : jm_look 7247 jm_mthT = some (md_X7_begin, 1, 0) := by rfl
set_option maxRecDepth 100000 in
theorem lm_7250 : jm_look 7250 jm_mthT = some (md_X7_lent, 2, 0) := by rfl
set_option maxRecDepth 100000 in
theorem lm_7253 : jm_look 7253 jm_mthT = some (md_X7_ferrySize, 1, 0) := by rfl
set_option maxRecDepth 100000 in
theorem lm_7256 : jm_look 7256 jm_mthT = some (md_X7_sailMark, 1, 0) := by rfl
set_option maxRecDepth 100000 in
theorem lm_7259 : jm_look 7259 jm_mthT = some (md_X7_sizeOfFerry, 1, 0) := by rfl
set_option maxRecDepth 100000 in
theorem lm_7262 : jm_look 7262 jm_mthT = some (md_X7_markOf, 1, 0) := by rfl
set_option maxRecDepth 100000 in
theorem lm_7265 : jm_look 7265 jm_mthT = some (md_X7_sailSize, 1, 0) := by rfl
set_option maxRecDepth 100000 in
theorem lm_7268 : jm_look 7268 jm_mthT = some (md_X7_sizeOf, 1, 0) := by rfl
set_option maxRecDepth 100000 in
theorem lm_11009 : jm_look 11009 jm_mthT = some (md_X6_init, 0, 2) := by rfl
set_option maxRecDepth 100000 in
theorem lm_11012 : jm_look 11012 jm_mthT = some (md_X7_init, 0, 2) := by rfl
set_option maxRecDepth 100000 in
theorem lm_11013 : jm_look 11013 jm_mthT = some (md_X6_row, 3, 0) := by rfl
set_option maxRecDepth 100000 in
theorem lm_11017 : jm_look 11017 jm_mthT = some (md_X7_row, 3, 0) := by rfl
set_option maxRecDepth 100000 in
theorem lm_11018 : jm_look 11018 jm_mthT = some (md_X6_set, 3, 0) := by rfl
set_option maxRecDepth 100000 in
theorem lm_11021 : jm_look 11021 jm_mthT = some (md_X7_set, 3, 0) := by rfl
set_option maxRecDepth 100000 in
theorem lm_11022 : jm_look 11022 jm_mthT = some (md_X6_copy, 5, 0) := by rfl
set_option maxRecDepth 100000 in
theorem lm_11026 : jm_look 11026 jm_mthT = some (md_X7_copy, 5, 0) := by rfl
set_option maxRecDepth 100000 in
theorem lm_11027 : jm_look 11027 jm_mthT = some (md_X6_drop, 1, 0) := by rfl
set_option maxRecDepth 100000 in
theorem lm_11031 : jm_look 11031 jm_mthT = some (md_X7_drop, 1, 0) := by rfl
set_option maxRecDepth 100000 in
theorem lm_11032 : jm_look 11032 jm_mthT = some (md_X6_feed, 1, 0) := by rfl
set_option maxRecDepth 100000 in
theorem lm_11035 : jm_look 11035 jm_mthT = some (md_X7_feed, 1, 0) := by rfl
set_option maxRecDepth 100000 in
theorem lm_11036 : jm_look 11036 jm_mthT = some (md_X6_isle, 0, 0) := by rfl
set_option maxRecDepth 100000 in
theorem lm_11040 : jm_look 11040 jm_mthT = some (md_X7_isle, 0, 0) := by rfl
set_option maxRecDepth 100000 in
theorem lm_11041 : jm_look 11041 jm_mthT = some (md_X6_fault, 0, 0) := by rfl
set_option maxRecDepth 100000 in
theorem lm_11044 : jm_look 11044 jm_mthT = some (md_X7_fault, 0, 0) := by rfl
set_option maxRecDepth 100000 in
theorem lm_11045 : jm_look 11045 jm_mthT = some (md_X6_undo, 0, 0) := by rfl
set_option maxRecDepth 100000 in
theorem lm_11048 : jm_look 11048 jm_mthT = some (md_X7_undo, 0, 0) := by rfl
set_option maxRecDepth 100000 in
theorem lm_11049 : jm_look 11049 jm_mthT = some (md_X6_hours, 1, 0) := by rfl
set_option maxRecDepth 100000 in
theorem lm_11052 : jm_look 11052 jm_mthT = some (md_X7_hours, 1, 0) := by rfl
set_option maxRecDepth 100000 in
theorem lm_11053 : jm_look 11053 jm_mthT = some (md_X6_send, 2, 0) := by rfl
set_option maxRecDepth 100000 in
theorem lm_11057 : jm_look 11057 jm_mthT = some (md_X7_send, 2, 0) := by rfl
set_option maxRecDepth 100000 in
theorem lm_11058 : jm_look 11058 jm_mthT = some (md_X6_wind, 1, 0) := by rfl
set_option maxRecDepth 100000 in
theorem lm_11061 : jm_look 11061 jm_mthT = some (md_X7_wind, 1, 0) := by rfl
set_option maxRecDepth 100000 in
theorem lm_11062 : jm_look 11062 jm_mthT = some (md_X6_sand, 2, 0) := by rfl
set_option maxRecDepth 100000 in
theorem lm_11065 : jm_look 11065 jm_mthT = some (md_X7_sand, 2, 0) := by rfl
set_option maxRecDepth 100000 in
theorem lm_11066 : jm_look 11066 jm_mthT = some (md_X6_speed, 2, 0) := by rfl
set_option maxRecDepth 100000 in
theorem lm_11069 : jm_look 11069 jm_mthT = some (md_X7_speed, 2, 0) := by rfl
set_option maxRecDepth 100000 in
theorem lm_11070 : jm_look 11070 jm_mthT = some (md_X6_boat, 2, 0) := by rfl
set_option maxRecDepth 100000 in
theorem lm_11073 : jm_look 11073 jm_mthT = some (md_X7_boat, 2, 0) := by rfl
set_option maxRecDepth 100000 in
theorem lm_11074 : jm_look 11074 jm_mthT = some (md_X6_cell, 2, 0) := by rfl
set_option maxRecDepth 100000 in
theorem lm_11077 : jm_look 11077 jm_mthT = some (md_X7_cell, 2, 0) := by rfl
set_option maxRecDepth 100000 in
theorem lm_11078 : jm_look 11078 jm_mthT = some (md_X6_stand, 1, 0) := by rfl
set_option maxRecDepth 100000 in
theorem lm_11081 : jm_look 11081 jm_mthT = some (md_X7_stand, 1, 0) := by rfl
set_option maxRecDepth 100000 in
theorem lm_11082 : jm_look 11082 jm_mthT = some (md_X6_ahead, 2, 0) := by rfl
set_option maxRecDepth 100000 in
theorem lm_11085 : jm_look 11085 jm_mthT = some (md_X7_ahead, 2, 0) := by rfl
set_option maxRecDepth 100000 in
theorem lm_11086 : jm_look 11086 jm_mthT = some (md_X6_owner, 1, 0) := by rfl
set_option maxRecDepth 100000 in
theorem lm_11089 : jm_look 11089 jm_mthT = some (md_X7_owner, 1, 0) := by rfl
set_option maxRecDepth 100000 in
theorem lm_11090 : jm_look 11090 jm_mthT = some (md_X6_held, 2, 0) := by rfl
set_option maxRecDepth 100000 in
theorem lm_11093 : jm_look 11093 jm_mthT = some (md_X7_held, 2, 0) := by rfl
set_option maxRecDepth 100000 in
theorem lm_11094 : jm_look 11094 jm_mthT = some (md_X6_shows, 0, 0) := by rfl
set_option maxRecDepth 100000 in
theorem lm_11097 : jm_look 11097 jm_mthT = some (md_X7_shows, 0, 0) := by rfl
set_option maxRecDepth 100000 in
theorem lm_11098 : jm_look 11098 jm_mthT = some (md_X6_dry, 1, 0) := by rfl
set_option maxRecDepth 100000 in
theorem lm_11101 : jm_look 11101 jm_mthT = some (md_X7_dry, 1, 0) := by rfl
set_option maxRecDepth 100000 in
theorem lm_11102 : jm_look 11102 jm_mthT = some (md_X6_open, 1, 0) := by rfl
set_option maxRecDepth 100000 in
theorem lm_11105 : jm_look 11105 jm_mthT = some (md_X7_open, 1, 0) := by rfl
set_option maxRecDepth 100000 in
theorem lm_11106 : jm_look 11106 jm_mthT = some (md_X6_first, 1, 0) := by rfl
set_option maxRecDepth 100000 in
theorem lm_11109 : jm_look 11109 jm_mthT = some (md_X7_first, 1, 0) := by rfl
set_option maxRecDepth 100000 in
theorem lm_11110 : jm_look 11110 jm_mthT = some (md_X6_latest, 2, 0) := by rfl
set_option maxRecDepth 100000 in
theorem lm_11113 : jm_look 11113 jm_mthT = some (md_X7_latest, 2, 0) := by rfl
set_option maxRecDepth 100000 in
theorem lm_11114 : jm_look 11114 jm_mthT = some (md_X6_winds, 2, 0) := by rfl
set_option maxRecDepth 100000 in
theorem lm_11117 : jm_look 11117 jm_mthT = some (md_X7_winds, 2, 0) := by rfl
set_option maxRecDepth 100000 in
theorem lm_11118 : jm_look 11118 jm_mthT = some (md_X6_recall, 3, 0) := by rfl
set_option maxRecDepth 100000 in
theorem lm_11121 : jm_look 11121 jm_mthT = some (md_X7_recall, 3, 0) := by rfl
set_option maxRecDepth 100000 in
theorem lm_11122 : jm_look 11122 jm_mthT = some (md_X6_fleet, 2, 0) := by rfl
set_option maxRecDepth 100000 in
theorem lm_11125 : jm_look 11125 jm_mthT = some (md_X7_fleet, 2, 0) := by rfl
set_option maxRecDepth 100000 in
theorem lm_11126 : jm_look 11126 jm_mthT = some (md_X6_sandFor, 1, 0) := by rfl
set_option maxRecDepth 100000 in
theorem lm_11129 : jm_look 11129 jm_mthT = some (md_X7_sandFor, 1, 0) := by rfl
set_option maxRecDepth 100000 in
theorem lm_11130 : jm_look 11130 jm_mthT = some (md_X6_who, 5, 0) := by rfl
set_option maxRecDepth 100000 in
theorem lm_11133 : jm_look 11133 jm_mthT = some (md_X7_who, 5, 0) := by rfl
set_option maxRecDepth 100000 in
theorem lm_11134 : jm_look 11134 jm_mthT = some (md_X6_barred, 3, 0) := by rfl
set_option maxRecDepth 100000 in
theorem lm_11137 : jm_look 11137 jm_mthT = some (md_X7_barred, 3, 0) := by rfl
set_option maxRecDepth 100000 in
theorem lm_11138 : jm_look 11138 jm_mthT = some (md_X6_rich, 0, 0) := by rfl
set_option maxRecDepth 100000 in
theorem lm_11141 : jm_look 11141 jm_mthT = some (md_X7_rich, 0, 0) := by rfl
set_option maxRecDepth 100000 in
theorem lm_11142 : jm_look 11142 jm_mthT = some (md_X6_wreck, 4, 0) := by rfl
set_option maxRecDepth 100000 in
theorem lm_11146 : jm_look 11146 jm_mthT = some (md_X7_wreck, 4, 0) := by rfl
set_option maxRecDepth 100000 in
theorem lm_11147 : jm_look 11147 jm_mthT = some (md_X6_drawn, 3, 0) := by rfl
set_option maxRecDepth 100000 in
theorem lm_11150 : jm_look 11150 jm_mthT = some (md_X7_drawn, 3, 0) := by rfl
set_option maxRecDepth 100000 in
theorem lm_11151 : jm_look 11151 jm_mthT = some (md_X6_image, 1, 0) := by rfl
set_option maxRecDepth 100000 in
theorem lm_11154 : jm_look 11154 jm_mthT = some (md_X7_image, 1, 0) := by rfl
set_option maxRecDepth 100000 in
theorem lm_11155 : jm_look 11155 jm_mthT = some (md_X6_restore, 1, 0) := by rfl
set_option maxRecDepth 100000 in
theorem lm_11158 : jm_look 11158 jm_mthT = some (md_X7_restore, 1, 0) := by rfl
set_option maxRecDepth 100000 in
theorem lm_11159 : jm_look 11159 jm_mthT = some (md_X6_kind, 1, 0) := by rfl
set_option maxRecDepth 100000 in
theorem lm_11162 : jm_look 11162 jm_mthT = some (md_X7_kind, 1, 0) := by rfl
set_option maxRecDepth 100000 in
theorem lm_11163 : jm_look 11163 jm_mthT = some (md_X6_as, 2, 0) := by rfl
set_option maxRecDepth 100000 in
theorem lm_11166 : jm_look 11166 jm_mthT = some (md_X7_as, 2, 0) := by rfl
set_option maxRecDepth 100000 in
theorem lm_11167 : jm_look 11167 jm_mthT = some (md_X6_ask, 2, 0) := by rfl
set_option maxRecDepth 100000 in
theorem lm_11170 : jm_look 11170 jm_mthT = some (md_X7_ask, 2, 0) := by rfl
set_option maxRecDepth 100000 in
theorem lm_11171 : jm_look 11171 jm_mthT = some (md_X6_trace, 1, 0) := by rfl
set_option maxRecDepth 100000 in
theorem lm_11174 : jm_look 11174 jm_mthT = some (md_X7_trace, 1, 0) := by rfl
set_option maxRecDepth 100000 in
theorem lm_11175 : jm_look 11175 jm_mthT = some (md_X6_count, 1, 0) := by rfl
set_option maxRecDepth 100000 in
theorem lm_11178 : jm_look 11178 jm_mthT = some (md_X7_count, 1, 0) := by rfl
set_option maxRecDepth 100000 in
theorem lm_11179 : jm_look 11179 jm_mthT = some (md_X6_status, 0, 0) := by rfl
set_option maxRecDepth 100000 in
theorem lm_11182 : jm_look 11182 jm_mthT = some (md_X7_status, 0, 0) := by rfl
set_option maxRecDepth 100000 in
theorem lc_6069 : jm_look 6069 jm_cT = some (-1000001) := by decide +kernel
set_option maxRecDepth 100000 in
theorem lc_6106 : jm_look 6106 jm_cT = some (-1000003) := by decide +kernel
set_option maxRecDepth 100000 in
theorem lc_6118 : jm_look 6118 jm_cT = some (-1000100) := by decide +kernel
set_option maxRecDepth 100000 in
theorem lc_6134 : jm_look 6134 jm_cT = some (-1000002) := by decide +kernel
set_option maxRecDepth 100000 in
theorem lc_6209 : jm_look 6209 jm_cT = some (-1000000) := by decide +kernel
set_option maxRecDepth 100000 in
theorem lc_6261 : jm_look 6261 jm_cT = some (nI 999999) := by decide +kernel
set_option maxRecDepth 100000 in
theorem lc_6291 : jm_look 6291 jm_cT = some (-1000010) := by decide +kernel
set_option maxRecDepth 100000 in
theorem lc_7051 : jm_look 7051 jm_cT = some (-1000010) := by decide +kernel
set_option maxRecDepth 100000 in
theorem lc_7064 : jm_look 7064 jm_cT = some (-1000001) := by decide +kernel
set_option maxRecDepth 100000 in
theorem lc_7081 : jm_look 7081 jm_cT = some (-1000003) := by decide +kernel
set_option maxRecDepth 100000 in
theorem lc_7134 : jm_look 7134 jm_cT = some (-1000100) := by decide +kernel
set_option maxRecDepth 100000 in
theorem lc_7162 : jm_look 7162 jm_cT = some (-1000000) := by decide +kernel
set_option maxRecDepth 100000 in
theorem lc_7163 : jm_look 7163 jm_cT = some (-1000002) := by decide +kernel
set_option maxRecDepth 100000 in
theorem lc_8265 : jm_look 8265 jm_cT = some (nI 1431655765) := by decide +kernel
set_option maxRecDepth 100000 in
theorem lc_8266 : jm_look 8266 jm_cT = some (nI 858993459) := by decide +kernel
set_option maxRecDepth 100000 in
theorem lc_8267 : jm_look 8267 jm_cT = some (nI 252645135) := by decide +kernel
set_option maxRecDepth 100000 in
theorem ll_4087 : jm_look 4087 jm_clT = some (lN 10) := by decide +kernel
set_option maxRecDepth 100000 in
theorem ll_4089 : jm_look 4089 jm_clT = some (lN 16807) := by decide +kernel
set_option maxRecDepth 100000 in
theorem ll_4091 : jm_look 4091 jm_clT = some (lN 2147483647) := by decide +kernel
set_option maxRecDepth 100000 in
theorem ll_4097 : jm_look 4097 jm_clT = some (lN 4) := by decide +kernel
set_option maxRecDepth 100000 in
theorem ll_4099 : jm_look 4099 jm_clT = some (lN 5) := by decide +kernel
set_option maxRecDepth 100000 in
theorem ll_6247 : jm_look 6247 jm_clT = some (-1000001) := by decide +kernel
set_option maxRecDepth 100000 in
theorem ll_7052 : jm_look 7052 jm_clT = some (lN 7) := by decide +kernel
set_option maxRecDepth 100000 in
theorem ll_7062 : jm_look 7062 jm_clT = some (lN 2) := by decide +kernel
set_option maxRecDepth 100000 in
theorem ll_7076 : jm_look 7076 jm_clT = some (lN 255) := by decide +kernel
set_option maxRecDepth 100000 in
theorem ll_7094 : jm_look 7094 jm_clT = some (lN 48) := by decide +kernel
set_option maxRecDepth 100000 in
theorem ll_7096 : jm_look 7096 jm_clT = some (lN 57) := by decide +kernel
set_option maxRecDepth 100000 in
theorem ll_7098 : jm_look 7098 jm_clT = some (lN 97) := by decide +kernel
set_option maxRecDepth 100000 in
theorem ll_7100 : jm_look 7100 jm_clT = some (lN 122) := by decide +kernel
set_option maxRecDepth 100000 in
theorem ll_7164 : jm_look 7164 jm_clT = some (lN 24) := by decide +kernel
set_option maxRecDepth 100000 in
theorem ll_7178 : jm_look 7178 jm_clT = some (lN 3) := by decide +kernel
set_option maxRecDepth 100000 in
theorem ll_7183 : jm_look 7183 jm_clT = some (-20) := by decide +kernel
set_option maxRecDepth 100000 in
theorem ll_7185 : jm_look 7185 jm_clT = some (lN 20) := by decide +kernel
set_option maxRecDepth 100000 in
theorem ll_7187 : jm_look 7187 jm_clT = some (lN 40) := by decide +kernel
set_option maxRecDepth 100000 in
theorem ll_7189 : jm_look 7189 jm_clT = some (lN 9) := by decide +kernel
set_option maxRecDepth 100000 in
theorem ll_7198 : jm_look 7198 jm_clT = some (lN 60) := by decide +kernel
set_option maxRecDepth 100000 in
theorem ll_7215 : jm_look 7215 jm_clT = some (lN 12) := by decide +kernel
set_option maxRecDepth 100000 in
theorem ll_7224 : jm_look 7224 jm_clT = some (lN 10) := by decide +kernel
set_option maxRecDepth 100000 in
theorem ll_7226 : jm_look 7226 jm_clT = some (-1000001) := by decide +kernel
set_option maxRecDepth 100000 in
theorem ll_7228 : jm_look 7228 jm_clT = some (lN 999999) := by decide +kernel
set_option maxRecDepth 100000 in
theorem ll_7233 : jm_look 7233 jm_clT = some (lN 16807) := by decide +kernel
set_option maxRecDepth 100000 in
theorem ll_7235 : jm_look 7235 jm_clT = some (lN 2147483647) := by decide +kernel
set_option maxRecDepth 100000 in
theorem ll_7237 : jm_look 7237 jm_clT = some (lN 4) := by decide +kernel
set_option maxRecDepth 100000 in
theorem ll_7239 : jm_look 7239 jm_clT = some (lN 5) := by decide +kernel
set_option maxRecDepth 100000 in
theorem lg_1021 : jm_look 1021 jm_gsT = some 0 := by decide +kernel
set_option maxRecDepth 100000 in
theorem lg_1031 : jm_look 1031 jm_gsT = some 1 := by decide +kernel
set_option maxRecDepth 100000 in
theorem lg_1043 : jm_look 1043 jm_gsT = some 2 := by decide +kernel
