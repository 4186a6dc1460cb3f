theorem dX1_mix_130 : decode cX1_mix 130 = .ok (.iconst 0, 1) := by decide +kernel
theorem dX1_mix_131 : decode cX1_mix 131 = .ok (.iaload, 1) := by decide +kernel
theorem dX1_mix_132 : decode cX1_mix 132 = .ok (.aload_n 0, 1) := by decide +kernel
theorem dX1_mix_133 : decode cX1_mix 133 = .ok (.getfield 28, 3) := by decide +kernel
theorem dX1_mix_136 : decode cX1_mix 136 = .ok (.iconst 1, 1) := by decide +kernel
theorem dX1_mix_137 : decode cX1_mix 137 = .ok (.iaload, 1) := by decide +kernel
theorem dX1_mix_138 : decode cX1_mix 138 = .ok (.ixor, 1) := by decide +kernel
theorem dX1_mix_139 : decode cX1_mix 139 = .ok (.aload_n 0, 1) := by decide +kernel
theorem dX1_mix_140 : decode cX1_mix 140 = .ok (.getfield 28, 3) := by decide +kernel
theorem dX1_mix_143 : decode cX1_mix 143 = .ok (.iconst 3, 1) := by decide +kernel
theorem dX1_mix_144 : decode cX1_mix 144 = .ok (.iaload, 1) := by decide +kernel
theorem dX1_mix_145 : decode cX1_mix 145 = .ok (.ixor, 1) := by decide +kernel
theorem dX1_mix_146 : decode cX1_mix 146 = .ok (.iastore, 1) := by decide +kernel
theorem dX1_mix_147 : decode cX1_mix 147 = .ok (.aload_n 0, 1) := by decide +kernel
theorem dX1_mix_148 : decode cX1_mix 148 = .ok (.getfield 28, 3) := by decide +kernel
theorem dX1_mix_151 : decode cX1_mix 151 = .ok (.iconst 2, 1) := by decide +kernel
theorem dX1_mix_152 : decode cX1_mix 152 = .ok (.aload_n 0, 1) := by decide +kernel
theorem dX1_mix_153 : decode cX1_mix 153 = .ok (.getfield 28, 3) := by decide +kernel
theorem dX1_mix_156 : decode cX1_mix 156 = .ok (.iconst 2, 1) := by decide +kernel
theorem dX1_mix_157 : decode cX1_mix 157 = .ok (.iaload, 1) := by decide +kernel
theorem dX1_mix_158 : decode cX1_mix 158 = .ok (.aload_n 0, 1) := by decide +kernel
theorem dX1_mix_159 : decode cX1_mix 159 = .ok (.getfield 28, 3) := by decide +kernel
theorem dX1_mix_162 : decode cX1_mix 162 = .ok (.iconst 3, 1) := by decide +kernel
theorem dX1_mix_163 : decode cX1_mix 163 = .ok (.iaload, 1) := by decide +kernel
theorem dX1_mix_164 : decode cX1_mix 164 = .ok (.ixor, 1) := by decide +kernel
theorem dX1_mix_165 : decode cX1_mix 165 = .ok (.aload_n 0, 1) := by decide +kernel
theorem dX1_mix_166 : decode cX1_mix 166 = .ok (.getfield 28, 3) := by decide +kernel
theorem dX1_mix_169 : decode cX1_mix 169 = .ok (.iconst 1, 1) := by decide +kernel
theorem dX1_mix_170 : decode cX1_mix 170 = .ok (.iaload, 1) := by decide +kernel
theorem dX1_mix_171 : decode cX1_mix 171 = .ok (.sipush 128, 3) := by decide +kernel
theorem dX1_mix_174 : decode cX1_mix 174 = .ok (.imul, 1) := by decide +kernel
theorem dX1_mix_175 : decode cX1_mix 175 = .ok (.ixor, 1) := by decide +kernel
theorem dX1_mix_176 : decode cX1_mix 176 = .ok (.iastore, 1) := by decide +kernel
theorem dX1_mix_177 : decode cX1_mix 177 = .ok (.aload_n 0, 1) := by decide +kernel
theorem dX1_mix_178 : decode cX1_mix 178 = .ok (.getfield 28, 3) := by decide +kernel
theorem dX1_mix_181 : decode cX1_mix 181 = .ok (.iconst 0, 1) := by decide +kernel
theorem dX1_mix_182 : decode cX1_mix 182 = .ok (.aload_n 0, 1) := by decide +kernel
theorem dX1_mix_183 : decode cX1_mix 183 = .ok (.getfield 28, 3) := by decide +kernel
theorem dX1_mix_186 : decode cX1_mix 186 = .ok (.iconst 0, 1) := by decide +kernel
theorem dX1_mix_187 : decode cX1_mix 187 = .ok (.iaload, 1) := by decide +kernel
theorem dX1_mix_188 : decode cX1_mix 188 = .ok (.iconst 5, 1) := by decide +kernel
theorem dX1_mix_189 : decode cX1_mix 189 = .ok (.invokestatic 48, 3) := by decide +kernel
theorem dX1_mix_192 : decode cX1_mix 192 = .ok (.iastore, 1) := by decide +kernel
theorem dX1_mix_193 : decode cX1_mix 193 = .ok (.aload_n 0, 1) := by decide +kernel
theorem dX1_mix_194 : decode cX1_mix 194 = .ok (.getfield 28, 3) := by decide +kernel
theorem dX1_mix_197 : decode cX1_mix 197 = .ok (.iconst 2, 1) := by decide +kernel
theorem dX1_mix_198 : decode cX1_mix 198 = .ok (.aload_n 0, 1) := by decide +kernel
theorem dX1_mix_199 : decode cX1_mix 199 = .ok (.getfield 28, 3) := by decide +kernel
theorem dX1_mix_202 : decode cX1_mix 202 = .ok (.iconst 2, 1) := by decide +kernel
theorem dX1_mix_203 : decode cX1_mix 203 = .ok (.iaload, 1) := by decide +kernel
theorem dX1_mix_204 : decode cX1_mix 204 = .ok (.bipush 22, 2) := by decide +kernel
theorem dX1_mix_206 : decode cX1_mix 206 = .ok (.invokestatic 48, 3) := by decide +kernel
theorem dX1_mix_209 : decode cX1_mix 209 = .ok (.iastore, 1) := by decide +kernel
theorem dX1_mix_210 : decode cX1_mix 210 = .ok (.return_, 1) := by decide +kernel
theorem dX1_unmix_0 : decode cX1_unmix 0 = .ok (.aload_n 0, 1) := by decide +kernel
theorem dX1_unmix_1 : decode cX1_unmix 1 = .ok (.getfield 28, 3) := by decide +kernel
theorem dX1_unmix_4 : decode cX1_unmix 4 = .ok (.iconst 2, 1) := by decide +kernel
theorem dX1_unmix_5 : decode cX1_unmix 5 = .ok (.aload_n 0, 1) := by decide +kernel
theorem dX1_unmix_6 : decode cX1_unmix 6 = .ok (.getfield 28, 3) := by decide +kernel
theorem dX1_unmix_9 : decode cX1_unmix 9 = .ok (.iconst 2, 1) := by decide +kernel
theorem dX1_unmix_10 : decode cX1_unmix 10 = .ok (.iaload, 1) := by decide +kernel
theorem dX1_unmix_11 : decode cX1_unmix 11 = .ok (.bipush 22, 2) := by decide +kernel
theorem dX1_unmix_13 : decode cX1_unmix 13 = .ok (.invokestatic 75, 3) := by decide +kernel
theorem dX1_unmix_16 : decode cX1_unmix 16 = .ok (.iastore, 1) := by decide +kernel
theorem dX1_unmix_17 : decode cX1_unmix 17 = .ok (.aload_n 0, 1) := by decide +kernel
theorem dX1_unmix_18 : decode cX1_unmix 18 = .ok (.getfield 28, 3) := by decide +kernel
theorem dX1_unmix_21 : decode cX1_unmix 21 = .ok (.iconst 0, 1) := by decide +kernel
theorem dX1_unmix_22 : decode cX1_unmix 22 = .ok (.aload_n 0, 1) := by decide +kernel
theorem dX1_unmix_23 : decode cX1_unmix 23 = .ok (.getfield 28, 3) := by decide +kernel
theorem dX1_unmix_26 : decode cX1_unmix 26 = .ok (.iconst 0, 1) := by decide +kernel
theorem dX1_unmix_27 : decode cX1_unmix 27 = .ok (.iaload, 1) := by decide +kernel
theorem dX1_unmix_28 : decode cX1_unmix 28 = .ok (.iconst 5, 1) := by decide +kernel
theorem dX1_unmix_29 : decode cX1_unmix 29 = .ok (.invokestatic 75, 3) := by decide +kernel
theorem dX1_unmix_32 : decode cX1_unmix 32 = .ok (.iastore, 1) := by decide +kernel
theorem dX1_unmix_33 : decode cX1_unmix 33 = .ok (.aload_n 0, 1) := by decide +kernel
theorem dX1_unmix_34 : decode cX1_unmix 34 = .ok (.getfield 28, 3) := by decide +kernel
theorem dX1_unmix_37 : decode cX1_unmix 37 = .ok (.iconst 2, 1) := by decide +kernel
theorem dX1_unmix_38 : decode cX1_unmix 38 = .ok (.aload_n 0, 1) := by decide +kernel
theorem dX1_unmix_39 : decode cX1_unmix 39 = .ok (.getfield 28, 3) := by decide +kernel
theorem dX1_unmix_42 : decode cX1_unmix 42 = .ok (.iconst 2, 1) := by decide +kernel
theorem dX1_unmix_43 : decode cX1_unmix 43 = .ok (.iaload, 1) := by decide +kernel
theorem dX1_unmix_44 : decode cX1_unmix 44 = .ok (.aload_n 0, 1) := by decide +kernel
theorem dX1_unmix_45 : decode cX1_unmix 45 = .ok (.getfield 28, 3) := by decide +kernel
theorem dX1_unmix_48 : decode cX1_unmix 48 = .ok (.iconst 3, 1) := by decide +kernel
theorem dX1_unmix_49 : decode cX1_unmix 49 = .ok (.iaload, 1) := by decide +kernel
theorem dX1_unmix_50 : decode cX1_unmix 50 = .ok (.ixor, 1) := by decide +kernel
theorem dX1_unmix_51 : decode cX1_unmix 51 = .ok (.aload_n 0, 1) := by decide +kernel
theorem dX1_unmix_52 : decode cX1_unmix 52 = .ok (.getfield 28, 3) := by decide +kernel
theorem dX1_unmix_55 : decode cX1_unmix 55 = .ok (.iconst 1, 1) := by decide +kernel
theorem dX1_unmix_56 : decode cX1_unmix 56 = .ok (.iaload, 1) := by decide +kernel
theorem dX1_unmix_57 : decode cX1_unmix 57 = .ok (.sipush 128, 3) := by decide +kernel
theorem dX1_unmix_60 : decode cX1_unmix 60 = .ok (.imul, 1) := by decide +kernel
theorem dX1_unmix_61 : decode cX1_unmix 61 = .ok (.ixor, 1) := by decide +kernel
theorem dX1_unmix_62 : decode cX1_unmix 62 = .ok (.iastore, 1) := by decide +kernel
theorem dX1_unmix_63 : decode cX1_unmix 63 = .ok (.aload_n 0, 1) := by decide +kernel
theorem dX1_unmix_64 : decode cX1_unmix 64 = .ok (.getfield 28, 3) := by decide +kernel
theorem dX1_unmix_67 : decode cX1_unmix 67 = .ok (.iconst 0, 1) := by decide +kernel
theorem dX1_unmix_68 : decode cX1_unmix 68 = .ok (.aload_n 0, 1) := by decide +kernel
theorem dX1_unmix_69 : decode cX1_unmix 69 = .ok (.getfield 28, 3) := by decide +kernel
theorem dX1_unmix_72 : decode cX1_unmix 72 = .ok (.iconst 0, 1) := by decide +kernel
theorem dX1_unmix_73 : decode cX1_unmix 73 = .ok (.iaload, 1) := by decide +kernel
theorem dX1_unmix_74 : decode cX1_unmix 74 = .ok (.aload_n 0, 1) := by decide +kernel
theorem dX1_unmix_75 : decode cX1_unmix 75 = .ok (.getfield 28, 3) := by decide +kernel
theorem dX1_unmix_78 : decode cX1_unmix 78 = .ok (.iconst 1, 1) := by decide +kernel
theorem dX1_unmix_79 : decode cX1_unmix 79 = .ok (.iaload, 1) := by decide +kernel
theorem dX1_unmix_80 : decode cX1_unmix 80 = .ok (.ixor, 1) := by decide +kernel
theorem dX1_unmix_81 : decode cX1_unmix 81 = .ok (.aload_n 0, 1) := by decide +kernel
theorem dX1_unmix_82 : decode cX1_unmix 82 = .ok (.getfield 28, 3) := by decide +kernel
theorem dX1_unmix_85 : decode cX1_unmix 85 = .ok (.iconst 3, 1) := by decide +kernel
theorem dX1_unmix_86 : decode cX1_unmix 86 = .ok (.iaload, 1) := by decide +kernel
theorem dX1_unmix_87 : decode cX1_unmix 87 = .ok (.ixor, 1) := by decide +kernel
theorem dX1_unmix_88 : decode cX1_unmix 88 = .ok (.iastore, 1) := by decide +kernel
theorem dX1_unmix_89 : decode cX1_unmix 89 = .ok (.aload_n 0, 1) := by decide +kernel
theorem dX1_unmix_90 : decode cX1_unmix 90 = .ok (.getfield 28, 3) := by decide +kernel
theorem dX1_unmix_93 : decode cX1_unmix 93 = .ok (.iconst 3, 1) := by decide +kernel
theorem dX1_unmix_94 : decode cX1_unmix 94 = .ok (.aload_n 0, 1) := by decide +kernel
theorem dX1_unmix_95 : decode cX1_unmix 95 = .ok (.getfield 28, 3) := by decide +kernel
theorem dX1_unmix_98 : decode cX1_unmix 98 = .ok (.iconst 3, 1) := by decide +kernel
theorem dX1_unmix_99 : decode cX1_unmix 99 = .ok (.iaload, 1) := by decide +kernel
theorem dX1_unmix_100 : decode cX1_unmix 100 = .ok (.bipush 7, 2) := by decide +kernel
theorem dX1_unmix_102 : decode cX1_unmix 102 = .ok (.invokestatic 75, 3) := by decide +kernel
theorem dX1_unmix_105 : decode cX1_unmix 105 = .ok (.iastore, 1) := by decide +kernel
theorem dX1_unmix_106 : decode cX1_unmix 106 = .ok (.aload_n 0, 1) := by decide +kernel
theorem dX1_unmix_107 : decode cX1_unmix 107 = .ok (.getfield 28, 3) := by decide +kernel
theorem dX1_unmix_110 : decode cX1_unmix 110 = .ok (.iconst 1, 1) := by decide +kernel
theorem dX1_unmix_111 : decode cX1_unmix 111 = .ok (.aload_n 0, 1) := by decide +kernel
theorem dX1_unmix_112 : decode cX1_unmix 112 = .ok (.getfield 28, 3) := by decide +kernel
theorem dX1_unmix_115 : decode cX1_unmix 115 = .ok (.iconst 1, 1) := by decide +kernel
theorem dX1_unmix_116 : decode cX1_unmix 116 = .ok (.iaload, 1) := by decide +kernel
theorem dX1_unmix_117 : decode cX1_unmix 117 = .ok (.iconst 1, 1) := by decide +kernel
theorem dX1_unmix_118 : decode cX1_unmix 118 = .ok (.invokestatic 75, 3) := by decide +kernel
theorem dX1_unmix_121 : decode cX1_unmix 121 = .ok (.iastore, 1) := by decide +kernel
theorem dX1_unmix_122 : decode cX1_unmix 122 = .ok (.aload_n 0, 1) := by decide +kernel
theorem dX1_unmix_123 : decode cX1_unmix 123 = .ok (.getfield 28, 3) := by decide +kernel
theorem dX1_unmix_126 : decode cX1_unmix 126 = .ok (.iconst 3, 1) := by decide +kernel
theorem dX1_unmix_127 : decode cX1_unmix 127 = .ok (.aload_n 0, 1) := by decide +kernel
theorem dX1_unmix_128 : decode cX1_unmix 128 = .ok (.getfield 28, 3) := by decide +kernel
theorem dX1_unmix_131 : decode cX1_unmix 131 = .ok (.iconst 3, 1) := by decide +kernel
theorem dX1_unmix_132 : decode cX1_unmix 132 = .ok (.iaload, 1) := by decide +kernel
theorem dX1_unmix_133 : decode cX1_unmix 133 = .ok (.aload_n 0, 1) := by decide +kernel
theorem dX1_unmix_134 : decode cX1_unmix 134 = .ok (.getfield 28, 3) := by decide +kernel
theorem dX1_unmix_137 : decode cX1_unmix 137 = .ok (.iconst 2, 1) := by decide +kernel
theorem dX1_unmix_138 : decode cX1_unmix 138 = .ok (.iaload, 1) := by decide +kernel
theorem dX1_unmix_139 : decode cX1_unmix 139 = .ok (.ixor, 1) := by decide +kernel
theorem dX1_unmix_140 : decode cX1_unmix 140 = .ok (.aload_n 0, 1) := by decide +kernel
theorem dX1_unmix_141 : decode cX1_unmix 141 = .ok (.getfield 28, 3) := by decide +kernel
theorem dX1_unmix_144 : decode cX1_unmix 144 = .ok (.iconst 0, 1) := by decide +kernel
theorem dX1_unmix_145 : decode cX1_unmix 145 = .ok (.iaload, 1) := by decide +kernel
theorem dX1_unmix_146 : decode cX1_unmix 146 = .ok (.bipush 8, 2) := by decide +kernel
theorem dX1_unmix_148 : decode cX1_unmix 148 = .ok (.imul, 1) := by decide +kernel
theorem dX1_unmix_149 : decode cX1_unmix 149 = .ok (.ixor, 1) := by decide +kernel
theorem dX1_unmix_150 : decode cX1_unmix 150 = .ok (.iastore, 1) := by decide +kernel
theorem dX1_unmix_151 : decode cX1_unmix 151 = .ok (.aload_n 0, 1) := by decide +kernel
theorem dX1_unmix_152 : decode cX1_unmix 152 = .ok (.getfield 28, 3) := by decide +kernel
theorem dX1_unmix_155 : decode cX1_unmix 155 = .ok (.iconst 1, 1) := by decide +kernel
theorem dX1_unmix_156 : decode cX1_unmix 156 = .ok (.aload_n 0, 1) := by decide +kernel
theorem dX1_unmix_157 : decode cX1_unmix 157 = .ok (.getfield 28, 3) := by decide +kernel
theorem dX1_unmix_160 : decode cX1_unmix 160 = .ok (.iconst 1, 1) := by decide +kernel
theorem dX1_unmix_161 : decode cX1_unmix 161 = .ok (.iaload, 1) := by decide +kernel
theorem dX1_unmix_162 : decode cX1_unmix 162 = .ok (.aload_n 0, 1) := by decide +kernel
theorem dX1_unmix_163 : decode cX1_unmix 163 = .ok (.getfield 28, 3) := by decide +kernel
theorem dX1_unmix_166 : decode cX1_unmix 166 = .ok (.iconst 0, 1) := by decide +kernel
theorem dX1_unmix_167 : decode cX1_unmix 167 = .ok (.iaload, 1) := by decide +kernel
theorem dX1_unmix_168 : decode cX1_unmix 168 = .ok (.ixor, 1) := by decide +kernel
theorem dX1_unmix_169 : decode cX1_unmix 169 = .ok (.aload_n 0, 1) := by decide +kernel
theorem dX1_unmix_170 : decode cX1_unmix 170 = .ok (.getfield 28, 3) := by decide +kernel
theorem dX1_unmix_173 : decode cX1_unmix 173 = .ok (.iconst 2, 1) := by decide +kernel
theorem dX1_unmix_174 : decode cX1_unmix 174 = .ok (.iaload, 1) := by decide +kernel
theorem dX1_unmix_175 : decode cX1_unmix 175 = .ok (.ixor, 1) := by decide +kernel
theorem dX1_unmix_176 : decode cX1_unmix 176 = .ok (.iastore, 1) := by decide +kernel
theorem dX1_unmix_177 : decode cX1_unmix 177 = .ok (.aload_n 0, 1) := by decide +kernel
theorem dX1_unmix_178 : decode cX1_unmix 178 = .ok (.getfield 28, 3) := by decide +kernel
theorem dX1_unmix_181 : decode cX1_unmix 181 = .ok (.iconst 2, 1) := by decide +kernel
theorem dX1_unmix_182 : decode cX1_unmix 182 = .ok (.aload_n 0, 1) := by decide +kernel
theorem dX1_unmix_183 : decode cX1_unmix 183 = .ok (.getfield 28, 3) := by decide +kernel
theorem dX1_unmix_186 : decode cX1_unmix 186 = .ok (.iconst 2, 1) := by decide +kernel
theorem dX1_unmix_187 : decode cX1_unmix 187 = .ok (.iaload, 1) := by decide +kernel
theorem dX1_unmix_188 : decode cX1_unmix 188 = .ok (.iconst 3, 1) := by decide +kernel
theorem dX1_unmix_189 : decode cX1_unmix 189 = .ok (.invokestatic 75, 3) := by decide +kernel
theorem dX1_unmix_192 : decode cX1_unmix 192 = .ok (.iastore, 1) := by decide +kernel
theorem dX1_unmix_193 : decode cX1_unmix 193 = .ok (.aload_n 0, 1) := by decide +kernel
theorem dX1_unmix_194 : decode cX1_unmix 194 = .ok (.getfield 28, 3) := by decide +kernel
theorem dX1_unmix_197 : decode cX1_unmix 197 = .ok (.iconst 0, 1) := by decide +kernel
theorem dX1_unmix_198 : decode cX1_unmix 198 = .ok (.aload_n 0, 1) := by decide +kernel
theorem dX1_unmix_199 : decode cX1_unmix 199 = .ok (.getfield 28, 3) := by decide +kernel
theorem dX1_unmix_202 : decode cX1_unmix 202 = .ok (.iconst 0, 1) := by decide +kernel
theorem dX1_unmix_203 : decode cX1_unmix 203 = .ok (.iaload, 1) := by decide +kernel
theorem dX1_unmix_204 : decode cX1_unmix 204 = .ok (.bipush 13, 2) := by decide +kernel
theorem dX1_unmix_206 : decode cX1_unmix 206 = .ok (.invokestatic 75, 3) := by decide +kernel
theorem dX1_unmix_209 : decode cX1_unmix 209 = .ok (.iastore, 1) := by decide +kernel
theorem dX1_unmix_210 : decode cX1_unmix 210 = .ok (.return_, 1) := by decide +kernel
theorem dX1_forth_0 : decode cX1_forth 0 = .ok (.iconst 0, 1) := by decide +kernel
theorem dX1_forth_1 : decode cX1_forth 1 = .ok (.istore_n 1, 1) := by decide +kernel
theorem dX1_forth_2 : decode cX1_forth 2 = .ok (.iload_n 1, 1) := by decide +kernel
theorem dX1_forth_3 : decode cX1_forth 3 = .ok (.bipush 32, 2) := by decide +kernel
theorem dX1_forth_5 : decode cX1_forth 5 = .ok (.if_icmp .ge 33, 3) := by decide +kernel
theorem dX1_forth_8 : decode cX1_forth 8 = .ok (.aload_n 0, 1) := by decide +kernel
theorem dX1_forth_9 : decode cX1_forth 9 = .ok (.iload_n 1, 1) := by decide +kernel
theorem dX1_forth_10 : decode cX1_forth 10 = .ok (.invokevirtual 78, 3) := by decide +kernel
theorem dX1_forth_13 : decode cX1_forth 13 = .ok (.aload_n 0, 1) := by decide +kernel
theorem dX1_forth_14 : decode cX1_forth 14 = .ok (.iload_n 1, 1) := by decide +kernel
theorem dX1_forth_15 : decode cX1_forth 15 = .ok (.bipush 8, 2) := by decide +kernel
theorem dX1_forth_17 : decode cX1_forth 17 = .ok (.irem, 1) := by decide +kernel
theorem dX1_forth_18 : decode cX1_forth 18 = .ok (.iconst 0, 1) := by decide +kernel
theorem dX1_forth_19 : decode cX1_forth 19 = .ok (.invokevirtual 71, 3) := by decide +kernel
theorem dX1_forth_22 : decode cX1_forth 22 = .ok (.iload_n 1, 1) := by decide +kernel
theorem dX1_forth_23 : decode cX1_forth 23 = .ok (.bipush 31, 2) := by decide +kernel
theorem dX1_forth_25 : decode cX1_forth 25 = .ok (.if_icmp .ge 7, 3) := by decide +kernel
theorem dX1_forth_28 : decode cX1_forth 28 = .ok (.aload_n 0, 1) := by decide +kernel
theorem dX1_forth_29 : decode cX1_forth 29 = .ok (.invokevirtual 82, 3) := by decide +kernel
theorem dX1_forth_32 : decode cX1_forth 32 = .ok (.iinc 1 1, 3) := by decide +kernel
theorem dX1_forth_35 : decode cX1_forth 35 = .ok (.goto (-33), 3) := by decide +kernel
theorem dX1_forth_38 : decode cX1_forth 38 = .ok (.aload_n 0, 1) := by decide +kernel
theorem dX1_forth_39 : decode cX1_forth 39 = .ok (.bipush 32, 2) := by decide +kernel
theorem dX1_forth_41 : decode cX1_forth 41 = .ok (.invokevirtual 78, 3) := by decide +kernel
theorem dX1_forth_44 : decode cX1_forth 44 = .ok (.return_, 1) := by decide +kernel
theorem dX1_undo_0 : decode cX1_undo 0 = .ok (.aload_n 0, 1) := by decide +kernel
theorem dX1_undo_1 : decode cX1_undo 1 = .ok (.bipush 32, 2) := by decide +kernel
theorem dX1_undo_3 : decode cX1_undo 3 = .ok (.invokevirtual 78, 3) := by decide +kernel
theorem dX1_undo_6 : decode cX1_undo 6 = .ok (.bipush 31, 2) := by decide +kernel
theorem dX1_undo_8 : decode cX1_undo 8 = .ok (.istore_n 1, 1) := by decide +kernel
theorem dX1_undo_9 : decode cX1_undo 9 = .ok (.iload_n 1, 1) := by decide +kernel
theorem dX1_undo_10 : decode cX1_undo 10 = .ok (.ifCond .lt 33, 3) := by decide +kernel
theorem dX1_undo_13 : decode cX1_undo 13 = .ok (.iload_n 1, 1) := by decide +kernel
theorem dX1_undo_14 : decode cX1_undo 14 = .ok (.bipush 31, 2) := by decide +kernel
theorem dX1_undo_16 : decode cX1_undo 16 = .ok (.if_icmp .ge 7, 3) := by decide +kernel
theorem dX1_undo_19 : decode cX1_undo 19 = .ok (.aload_n 0, 1) := by decide +kernel
theorem dX1_undo_20 : decode cX1_undo 20 = .ok (.invokevirtual 85, 3) := by decide +kernel
theorem dX1_undo_23 : decode cX1_undo 23 = .ok (.aload_n 0, 1) := by decide +kernel
theorem dX1_undo_24 : decode cX1_undo 24 = .ok (.iload_n 1, 1) := by decide +kernel
theorem dX1_undo_25 : decode cX1_undo 25 = .ok (.bipush 8, 2) := by decide +kernel
theorem dX1_undo_27 : decode cX1_undo 27 = .ok (.irem, 1) := by decide +kernel
theorem dX1_undo_28 : decode cX1_undo 28 = .ok (.iconst 1, 1) := by decide +kernel
theorem dX1_undo_29 : decode cX1_undo 29 = .ok (.invokevirtual 71, 3) := by decide +kernel
theorem dX1_undo_32 : decode cX1_undo 32 = .ok (.aload_n 0, 1) := by decide +kernel
theorem dX1_undo_33 : decode cX1_undo 33 = .ok (.iload_n 1, 1) := by decide +kernel
theorem dX1_undo_34 : decode cX1_undo 34 = .ok (.invokevirtual 78, 3) := by decide +kernel
theorem dX1_undo_37 : decode cX1_undo 37 = .ok (.iinc 1 (-1), 3) := by decide +kernel
theorem dX1_undo_40 : decode cX1_undo 40 = .ok (.goto (-31), 3) := by decide +kernel
theorem dX1_undo_43 : decode cX1_undo 43 = .ok (.return_, 1) := by decide +kernel
theorem dX1_load_0 : decode cX1_load 0 = .ok (.iconst 0, 1) := by decide +kernel
theorem dX1_load_1 : decode cX1_load 1 = .ok (.istore_n 2, 1) := by decide +kernel
theorem dX1_load_2 : decode cX1_load 2 = .ok (.iload_n 2, 1) := by decide +kernel
theorem dX1_load_3 : decode cX1_load 3 = .ok (.iconst 4, 1) := by decide +kernel
theorem dX1_load_4 : decode cX1_load 4 = .ok (.if_icmp .ge 23, 3) := by decide +kernel
theorem dX1_load_7 : decode cX1_load 7 = .ok (.aload_n 0, 1) := by decide +kernel
theorem dX1_load_8 : decode cX1_load 8 = .ok (.getfield 28, 3) := by decide +kernel
theorem dX1_load_11 : decode cX1_load 11 = .ok (.iload_n 2, 1) := by decide +kernel
theorem dX1_load_12 : decode cX1_load 12 = .ok (.aload_n 0, 1) := by decide +kernel
theorem dX1_load_13 : decode cX1_load 13 = .ok (.getfield 22, 3) := by decide +kernel
theorem dX1_load_16 : decode cX1_load 16 = .ok (.iload_n 1, 1) := by decide +kernel
theorem dX1_load_17 : decode cX1_load 17 = .ok (.iload_n 2, 1) := by decide +kernel
theorem dX1_load_18 : decode cX1_load 18 = .ok (.iadd, 1) := by decide +kernel
theorem dX1_load_19 : decode cX1_load 19 = .ok (.iaload, 1) := by decide +kernel
theorem dX1_load_20 : decode cX1_load 20 = .ok (.iastore, 1) := by decide +kernel
theorem dX1_load_21 : decode cX1_load 21 = .ok (.iinc 2 1, 3) := by decide +kernel
theorem dX1_load_24 : decode cX1_load 24 = .ok (.goto (-22), 3) := by decide +kernel
theorem dX1_load_27 : decode cX1_load 27 = .ok (.return_, 1) := by decide +kernel
theorem dX1_alone_0 : decode cX1_alone 0 = .ok (.aload_n 0, 1) := by decide +kernel
theorem dX1_alone_1 : decode cX1_alone 1 = .ok (.iload_n 1, 1) := by decide +kernel
theorem dX1_alone_2 : decode cX1_alone 2 = .ok (.invokevirtual 88, 3) := by decide +kernel
theorem dX1_alone_5 : decode cX1_alone 5 = .ok (.iload_n 2, 1) := by decide +kernel
theorem dX1_alone_6 : decode cX1_alone 6 = .ok (.ifCond .eq 10, 3) := by decide +kernel
theorem dX1_alone_9 : decode cX1_alone 9 = .ok (.aload_n 0, 1) := by decide +kernel
theorem dX1_alone_10 : decode cX1_alone 10 = .ok (.invokevirtual 91, 3) := by decide +kernel
theorem dX1_alone_13 : decode cX1_alone 13 = .ok (.goto 7, 3) := by decide +kernel
theorem dX1_alone_16 : decode cX1_alone 16 = .ok (.aload_n 0, 1) := by decide +kernel
theorem dX1_alone_17 : decode cX1_alone 17 = .ok (.invokevirtual 94, 3) := by decide +kernel
theorem dX1_alone_20 : decode cX1_alone 20 = .ok (.iconst 0, 1) := by decide +kernel
theorem dX1_alone_21 : decode cX1_alone 21 = .ok (.istore_n 3, 1) := by decide +kernel
theorem dX1_alone_22 : decode cX1_alone 22 = .ok (.iload_n 3, 1) := by decide +kernel
theorem dX1_alone_23 : decode cX1_alone 23 = .ok (.iconst 4, 1) := by decide +kernel
theorem dX1_alone_24 : decode cX1_alone 24 = .ok (.if_icmp .ge 23, 3) := by decide +kernel
theorem dX1_alone_27 : decode cX1_alone 27 = .ok (.aload_n 0, 1) := by decide +kernel
theorem dX1_alone_28 : decode cX1_alone 28 = .ok (.getfield 22, 3) := by decide +kernel
theorem dX1_alone_31 : decode cX1_alone 31 = .ok (.iload_n 1, 1) := by decide +kernel
theorem dX1_alone_32 : decode cX1_alone 32 = .ok (.iload_n 3, 1) := by decide +kernel
theorem dX1_alone_33 : decode cX1_alone 33 = .ok (.iadd, 1) := by decide +kernel
theorem dX1_alone_34 : decode cX1_alone 34 = .ok (.aload_n 0, 1) := by decide +kernel
theorem dX1_alone_35 : decode cX1_alone 35 = .ok (.getfield 28, 3) := by decide +kernel
theorem dX1_alone_38 : decode cX1_alone 38 = .ok (.iload_n 3, 1) := by decide +kernel
theorem dX1_alone_39 : decode cX1_alone 39 = .ok (.iaload, 1) := by decide +kernel
theorem dX1_alone_40 : decode cX1_alone 40 = .ok (.iastore, 1) := by decide +kernel
theorem dX1_alone_41 : decode cX1_alone 41 = .ok (.iinc 3 1, 3) := by decide +kernel
theorem dX1_alone_44 : decode cX1_alone 44 = .ok (.goto (-22), 3) := by decide +kernel
theorem dX1_alone_47 : decode cX1_alone 47 = .ok (.return_, 1) := by decide +kernel
theorem dX1_chained_0 : decode cX1_chained 0 = .ok (.iconst 0, 1) := by decide +kernel
theorem dX1_chained_1 : decode cX1_chained 1 = .ok (.istore_n 3, 1) := by decide +kernel
theorem dX1_chained_2 : decode cX1_chained 2 = .ok (.iload_n 3, 1) := by decide +kernel
theorem dX1_chained_3 : decode cX1_chained 3 = .ok (.iconst 4, 1) := by decide +kernel
theorem dX1_chained_4 : decode cX1_chained 4 = .ok (.if_icmp .ge 61, 3) := by decide +kernel
theorem dX1_chained_7 : decode cX1_chained 7 = .ok (.aload_n 0, 1) := by decide +kernel
theorem dX1_chained_8 : decode cX1_chained 8 = .ok (.getfield 31, 3) := by decide +kernel
theorem dX1_chained_11 : decode cX1_chained 11 = .ok (.iload_n 3, 1) := by decide +kernel
theorem dX1_chained_12 : decode cX1_chained 12 = .ok (.aload_n 0, 1) := by decide +kernel
theorem dX1_chained_13 : decode cX1_chained 13 = .ok (.getfield 22, 3) := by decide +kernel
theorem dX1_chained_16 : decode cX1_chained 16 = .ok (.iload_n 1, 1) := by decide +kernel
theorem dX1_chained_17 : decode cX1_chained 17 = .ok (.iload_n 3, 1) := by decide +kernel
theorem dX1_chained_18 : decode cX1_chained 18 = .ok (.iadd, 1) := by decide +kernel
theorem dX1_chained_19 : decode cX1_chained 19 = .ok (.iaload, 1) := by decide +kernel
theorem dX1_chained_20 : decode cX1_chained 20 = .ok (.iastore, 1) := by decide +kernel
theorem dX1_chained_21 : decode cX1_chained 21 = .ok (.aload_n 0, 1) := by decide +kernel
theorem dX1_chained_22 : decode cX1_chained 22 = .ok (.getfield 22, 3) := by decide +kernel
theorem dX1_chained_25 : decode cX1_chained 25 = .ok (.iload_n 1, 1) := by decide +kernel
theorem dX1_chained_26 : decode cX1_chained 26 = .ok (.iload_n 3, 1) := by decide +kernel
theorem dX1_chained_27 : decode cX1_chained 27 = .ok (.iadd, 1) := by decide +kernel
theorem dX1_chained_28 : decode cX1_chained 28 = .ok (.iload_n 2, 1) := by decide +kernel
theorem dX1_chained_29 : decode cX1_chained 29 = .ok (.ifCond .eq 14, 3) := by decide +kernel
theorem dX1_chained_32 : decode cX1_chained 32 = .ok (.aload_n 0, 1) := by decide +kernel
theorem dX1_chained_33 : decode cX1_chained 33 = .ok (.getfield 22, 3) := by decide +kernel
theorem dX1_chained_36 : decode cX1_chained 36 = .ok (.iload_n 1, 1) := by decide +kernel
theorem dX1_chained_37 : decode cX1_chained 37 = .ok (.iload_n 3, 1) := by decide +kernel
theorem dX1_chained_38 : decode cX1_chained 38 = .ok (.iadd, 1) := by decide +kernel
theorem dX1_chained_39 : decode cX1_chained 39 = .ok (.iaload, 1) := by decide +kernel
theorem dX1_chained_40 : decode cX1_chained 40 = .ok (.goto 18, 3) := by decide +kernel
theorem dX1_chained_43 : decode cX1_chained 43 = .ok (.aload_n 0, 1) := by decide +kernel
theorem dX1_chained_44 : decode cX1_chained 44 = .ok (.getfield 22, 3) := by decide +kernel
theorem dX1_chained_47 : decode cX1_chained 47 = .ok (.iload_n 1, 1) := by decide +kernel
theorem dX1_chained_48 : decode cX1_chained 48 = .ok (.iload_n 3, 1) := by decide +kernel
theorem dX1_chained_49 : decode cX1_chained 49 = .ok (.iadd, 1) := by decide +kernel
theorem dX1_chained_50 : decode cX1_chained 50 = .ok (.iaload, 1) := by decide +kernel
theorem dX1_chained_51 : decode cX1_chained 51 = .ok (.aload_n 0, 1) := by decide +kernel
theorem dX1_chained_52 : decode cX1_chained 52 = .ok (.getfield 34, 3) := by decide +kernel
theorem dX1_chained_55 : decode cX1_chained 55 = .ok (.iload_n 3, 1) := by decide +kernel
theorem dX1_chained_56 : decode cX1_chained 56 = .ok (.iaload, 1) := by decide +kernel
theorem dX1_chained_57 : decode cX1_chained 57 = .ok (.ixor, 1) := by decide +kernel
theorem dX1_chained_58 : decode cX1_chained 58 = .ok (.iastore, 1) := by decide +kernel
theorem dX1_chained_59 : decode cX1_chained 59 = .ok (.iinc 3 1, 3) := by decide +kernel
theorem dX1_chained_62 : decode cX1_chained 62 = .ok (.goto (-60), 3) := by decide +kernel
theorem dX1_chained_65 : decode cX1_chained 65 = .ok (.aload_n 0, 1) := by decide +kernel
theorem dX1_chained_66 : decode cX1_chained 66 = .ok (.getfield 31, 3) := by decide +kernel
theorem dX1_chained_69 : decode cX1_chained 69 = .ok (.iconst 0, 1) := by decide +kernel
theorem dX1_chained_70 : decode cX1_chained 70 = .ok (.iaload, 1) := by decide +kernel
theorem dX1_chained_71 : decode cX1_chained 71 = .ok (.istore_n 3, 1) := by decide +kernel
theorem dX1_chained_72 : decode cX1_chained 72 = .ok (.aload_n 0, 1) := by decide +kernel
theorem dX1_chained_73 : decode cX1_chained 73 = .ok (.getfield 31, 3) := by decide +kernel
theorem dX1_chained_76 : decode cX1_chained 76 = .ok (.iconst 1, 1) := by decide +kernel
theorem dX1_chained_77 : decode cX1_chained 77 = .ok (.iaload, 1) := by decide +kernel
theorem dX1_chained_78 : decode cX1_chained 78 = .ok (.istore 4, 2) := by decide +kernel
theorem dX1_chained_80 : decode cX1_chained 80 = .ok (.aload_n 0, 1) := by decide +kernel
theorem dX1_chained_81 : decode cX1_chained 81 = .ok (.getfield 31, 3) := by decide +kernel
theorem dX1_chained_84 : decode cX1_chained 84 = .ok (.iconst 2, 1) := by decide +kernel
theorem dX1_chained_85 : decode cX1_chained 85 = .ok (.iaload, 1) := by decide +kernel
theorem dX1_chained_86 : decode cX1_chained 86 = .ok (.istore 5, 2) := by decide +kernel
theorem dX1_chained_88 : decode cX1_chained 88 = .ok (.aload_n 0, 1) := by decide +kernel
theorem dX1_chained_89 : decode cX1_chained 89 = .ok (.getfield 31, 3) := by decide +kernel
theorem dX1_chained_92 : decode cX1_chained 92 = .ok (.iconst 3, 1) := by decide +kernel
theorem dX1_chained_93 : decode cX1_chained 93 = .ok (.iaload, 1) := by decide +kernel
theorem dX1_chained_94 : decode cX1_chained 94 = .ok (.istore 6, 2) := by decide +kernel
theorem dX1_chained_96 : decode cX1_chained 96 = .ok (.aload_n 0, 1) := by decide +kernel
theorem dX1_chained_97 : decode cX1_chained 97 = .ok (.iload_n 1, 1) := by decide +kernel
theorem dX1_chained_98 : decode cX1_chained 98 = .ok (.iload_n 2, 1) := by decide +kernel
theorem dX1_chained_99 : decode cX1_chained 99 = .ok (.invokevirtual 97, 3) := by decide +kernel
theorem dX1_chained_102 : decode cX1_chained 102 = .ok (.iconst 0, 1) := by decide +kernel
theorem dX1_chained_103 : decode cX1_chained 103 = .ok (.istore 7, 2) := by decide +kernel
theorem dX1_chained_105 : decode cX1_chained 105 = .ok (.iload 7, 2) := by decide +kernel
theorem dX1_chained_107 : decode cX1_chained 107 = .ok (.iconst 4, 1) := by decide +kernel
theorem dX1_chained_108 : decode cX1_chained 108 = .ok (.if_icmp .ge 107, 3) := by decide +kernel
theorem dX1_chained_111 : decode cX1_chained 111 = .ok (.aload_n 0, 1) := by decide +kernel
theorem dX1_chained_112 : decode cX1_chained 112 = .ok (.getfield 22, 3) := by decide +kernel
theorem dX1_chained_115 : decode cX1_chained 115 = .ok (.iload_n 1, 1) := by decide +kernel
theorem dX1_chained_116 : decode cX1_chained 116 = .ok (.iload 7, 2) := by decide +kernel
theorem dX1_chained_118 : decode cX1_chained 118 = .ok (.iadd, 1) := by decide +kernel
theorem dX1_chained_119 : decode cX1_chained 119 = .ok (.iload_n 2, 1) := by decide +kernel
theorem dX1_chained_120 : decode cX1_chained 120 = .ok (.ifCond .eq 23, 3) := by decide +kernel
theorem dX1_chained_123 : decode cX1_chained 123 = .ok (.aload_n 0, 1) := by decide +kernel
theorem dX1_chained_124 : decode cX1_chained 124 = .ok (.getfield 22, 3) := by decide +kernel
theorem dX1_chained_127 : decode cX1_chained 127 = .ok (.iload_n 1, 1) := by decide +kernel
theorem dX1_chained_128 : decode cX1_chained 128 = .ok (.iload 7, 2) := by decide +kernel
theorem dX1_chained_130 : decode cX1_chained 130 = .ok (.iadd, 1) := by decide +kernel
theorem dX1_chained_131 : decode cX1_chained 131 = .ok (.iaload, 1) := by decide +kernel
theorem dX1_chained_132 : decode cX1_chained 132 = .ok (.aload_n 0, 1) := by decide +kernel
theorem dX1_chained_133 : decode cX1_chained 133 = .ok (.getfield 34, 3) := by decide +kernel
theorem dX1_chained_136 : decode cX1_chained 136 = .ok (.iload 7, 2) := by decide +kernel
theorem dX1_chained_138 : decode cX1_chained 138 = .ok (.iaload, 1) := by decide +kernel
theorem dX1_chained_139 : decode cX1_chained 139 = .ok (.ixor, 1) := by decide +kernel
theorem dX1_chained_140 : decode cX1_chained 140 = .ok (.goto 12, 3) := by decide +kernel
theorem dX1_chained_143 : decode cX1_chained 143 = .ok (.aload_n 0, 1) := by decide +kernel
theorem dX1_chained_144 : decode cX1_chained 144 = .ok (.getfield 22, 3) := by decide +kernel
theorem dX1_chained_147 : decode cX1_chained 147 = .ok (.iload_n 1, 1) := by decide +kernel
theorem dX1_chained_148 : decode cX1_chained 148 = .ok (.iload 7, 2) := by decide +kernel
theorem dX1_chained_150 : decode cX1_chained 150 = .ok (.iadd, 1) := by decide +kernel
theorem dX1_chained_151 : decode cX1_chained 151 = .ok (.iaload, 1) := by decide +kernel
theorem dX1_chained_152 : decode cX1_chained 152 = .ok (.iastore, 1) := by decide +kernel
theorem dX1_chained_153 : decode cX1_chained 153 = .ok (.aload_n 0, 1) := by decide +kernel
theorem dX1_chained_154 : decode cX1_chained 154 = .ok (.getfield 34, 3) := by decide +kernel
theorem dX1_chained_157 : decode cX1_chained 157 = .ok (.iload 7, 2) := by decide +kernel
theorem dX1_chained_159 : decode cX1_chained 159 = .ok (.iload_n 2, 1) := by decide +kernel
theorem dX1_chained_160 : decode cX1_chained 160 = .ok (.ifCond .ne 15, 3) := by decide +kernel
theorem dX1_chained_163 : decode cX1_chained 163 = .ok (.aload_n 0, 1) := by decide +kernel
theorem dX1_chained_164 : decode cX1_chained 164 = .ok (.getfield 22, 3) := by decide +kernel
theorem dX1_chained_167 : decode cX1_chained 167 = .ok (.iload_n 1, 1) := by decide +kernel
theorem dX1_chained_168 : decode cX1_chained 168 = .ok (.iload 7, 2) := by decide +kernel
theorem dX1_chained_170 : decode cX1_chained 170 = .ok (.iadd, 1) := by decide +kernel
theorem dX1_chained_171 : decode cX1_chained 171 = .ok (.iaload, 1) := by decide +kernel
theorem dX1_chained_172 : decode cX1_chained 172 = .ok (.goto 36, 3) := by decide +kernel
theorem dX1_chained_175 : decode cX1_chained 175 = .ok (.iload 7, 2) := by decide +kernel
theorem dX1_chained_177 : decode cX1_chained 177 = .ok (.ifCond .ne 7, 3) := by decide +kernel
theorem dX1_chained_180 : decode cX1_chained 180 = .ok (.iload_n 3, 1) := by decide +kernel
theorem dX1_chained_181 : decode cX1_chained 181 = .ok (.goto 27, 3) := by decide +kernel
theorem dX1_chained_184 : decode cX1_chained 184 = .ok (.iload 7, 2) := by decide +kernel
theorem dX1_chained_186 : decode cX1_chained 186 = .ok (.iconst 1, 1) := by decide +kernel
theorem dX1_chained_187 : decode cX1_chained 187 = .ok (.if_icmp .ne 8, 3) := by decide +kernel
theorem dX1_chained_190 : decode cX1_chained 190 = .ok (.iload 4, 2) := by decide +kernel
theorem dX1_chained_192 : decode cX1_chained 192 = .ok (.goto 16, 3) := by decide +kernel
theorem dX1_chained_195 : decode cX1_chained 195 = .ok (.iload 7, 2) := by decide +kernel
theorem dX1_chained_197 : decode cX1_chained 197 = .ok (.iconst 2, 1) := by decide +kernel
theorem dX1_chained_198 : decode cX1_chained 198 = .ok (.if_icmp .ne 8, 3) := by decide +kernel
theorem dX1_chained_201 : decode cX1_chained 201 = .ok (.iload 5, 2) := by decide +kernel
theorem dX1_chained_203 : decode cX1_chained 203 = .ok (.goto 5, 3) := by decide +kernel
theorem dX1_chained_206 : decode cX1_chained 206 = .ok (.iload 6, 2) := by decide +kernel
theorem dX1_chained_208 : decode cX1_chained 208 = .ok (.iastore, 1) := by decide +kernel
theorem dX1_chained_209 : decode cX1_chained 209 = .ok (.iinc 7 1, 3) := by decide +kernel
theorem dX1_chained_212 : decode cX1_chained 212 = .ok (.goto (-107), 3) := by decide +kernel
theorem dX1_chained_215 : decode cX1_chained 215 = .ok (.return_, 1) := by decide +kernel
theorem dX1_counted_0 : decode cX1_counted 0 = .ok (.iconst 0, 1) := by decide +kernel
theorem dX1_counted_1 : decode cX1_counted 1 = .ok (.istore_n 2, 1) := by decide +kernel
theorem dX1_counted_2 : decode cX1_counted 2 = .ok (.iload_n 2, 1) := by decide +kernel
theorem dX1_counted_3 : decode cX1_counted 3 = .ok (.iconst 4, 1) := by decide +kernel
theorem dX1_counted_4 : decode cX1_counted 4 = .ok (.if_icmp .ge 21, 3) := by decide +kernel
theorem dX1_counted_7 : decode cX1_counted 7 = .ok (.aload_n 0, 1) := by decide +kernel
theorem dX1_counted_8 : decode cX1_counted 8 = .ok (.getfield 28, 3) := by decide +kernel
theorem dX1_counted_11 : decode cX1_counted 11 = .ok (.iload_n 2, 1) := by decide +kernel
theorem dX1_counted_12 : decode cX1_counted 12 = .ok (.aload_n 0, 1) := by decide +kernel
theorem dX1_counted_13 : decode cX1_counted 13 = .ok (.getfield 34, 3) := by decide +kernel
theorem dX1_counted_16 : decode cX1_counted 16 = .ok (.iload_n 2, 1) := by decide +kernel
theorem dX1_counted_17 : decode cX1_counted 17 = .ok (.iaload, 1) := by decide +kernel
theorem dX1_counted_18 : decode cX1_counted 18 = .ok (.iastore, 1) := by decide +kernel
theorem dX1_counted_19 : decode cX1_counted 19 = .ok (.iinc 2 1, 3) := by decide +kernel
theorem dX1_counted_22 : decode cX1_counted 22 = .ok (.goto (-20), 3) := by decide +kernel
theorem dX1_counted_25 : decode cX1_counted 25 = .ok (.aload_n 0, 1) := by decide +kernel
theorem dX1_counted_26 : decode cX1_counted 26 = .ok (.invokevirtual 94, 3) := by decide +kernel
theorem dX1_counted_29 : decode cX1_counted 29 = .ok (.iconst 0, 1) := by decide +kernel
theorem dX1_counted_30 : decode cX1_counted 30 = .ok (.istore_n 2, 1) := by decide +kernel
theorem dX1_counted_31 : decode cX1_counted 31 = .ok (.iload_n 2, 1) := by decide +kernel
theorem dX1_counted_32 : decode cX1_counted 32 = .ok (.iconst 4, 1) := by decide +kernel
theorem dX1_counted_33 : decode cX1_counted 33 = .ok (.if_icmp .ge 32, 3) := by decide +kernel
theorem dX1_counted_36 : decode cX1_counted 36 = .ok (.aload_n 0, 1) := by decide +kernel
theorem dX1_counted_37 : decode cX1_counted 37 = .ok (.getfield 22, 3) := by decide +kernel
theorem dX1_counted_40 : decode cX1_counted 40 = .ok (.iload_n 1, 1) := by decide +kernel
theorem dX1_counted_41 : decode cX1_counted 41 = .ok (.iload_n 2, 1) := by decide +kernel
theorem dX1_counted_42 : decode cX1_counted 42 = .ok (.iadd, 1) := by decide +kernel
theorem dX1_counted_43 : decode cX1_counted 43 = .ok (.aload_n 0, 1) := by decide +kernel
theorem dX1_counted_44 : decode cX1_counted 44 = .ok (.getfield 22, 3) := by decide +kernel
theorem dX1_counted_47 : decode cX1_counted 47 = .ok (.iload_n 1, 1) := by decide +kernel
theorem dX1_counted_48 : decode cX1_counted 48 = .ok (.iload_n 2, 1) := by decide +kernel
theorem dX1_counted_49 : decode cX1_counted 49 = .ok (.iadd, 1) := by decide +kernel
theorem dX1_counted_50 : decode cX1_counted 50 = .ok (.iaload, 1) := by decide +kernel
theorem dX1_counted_51 : decode cX1_counted 51 = .ok (.aload_n 0, 1) := by decide +kernel
theorem dX1_counted_52 : decode cX1_counted 52 = .ok (.getfield 28, 3) := by decide +kernel
theorem dX1_counted_55 : decode cX1_counted 55 = .ok (.iload_n 2, 1) := by decide +kernel
theorem dX1_counted_56 : decode cX1_counted 56 = .ok (.iaload, 1) := by decide +kernel
theorem dX1_counted_57 : decode cX1_counted 57 = .ok (.ixor, 1) := by decide +kernel
theorem dX1_counted_58 : decode cX1_counted 58 = .ok (.iastore, 1) := by decide +kernel
theorem dX1_counted_59 : decode cX1_counted 59 = .ok (.iinc 2 1, 3) := by decide +kernel
theorem dX1_counted_62 : decode cX1_counted 62 = .ok (.goto (-31), 3) := by decide +kernel
theorem dX1_counted_65 : decode cX1_counted 65 = .ok (.iconst 1, 1) := by decide +kernel
theorem dX1_counted_66 : decode cX1_counted 66 = .ok (.istore_n 2, 1) := by decide +kernel
theorem dX1_counted_67 : decode cX1_counted 67 = .ok (.iconst 0, 1) := by decide +kernel
theorem dX1_counted_68 : decode cX1_counted 68 = .ok (.istore_n 3, 1) := by decide +kernel
theorem dX1_counted_69 : decode cX1_counted 69 = .ok (.iload_n 3, 1) := by decide +kernel
theorem dX1_counted_70 : decode cX1_counted 70 = .ok (.iconst 4, 1) := by decide +kernel
theorem dX1_counted_71 : decode cX1_counted 71 = .ok (.if_icmp .ge 55, 3) := by decide +kernel
theorem dX1_counted_74 : decode cX1_counted 74 = .ok (.aload_n 0, 1) := by decide +kernel
theorem dX1_counted_75 : decode cX1_counted 75 = .ok (.getfield 34, 3) := by decide +kernel
theorem dX1_counted_78 : decode cX1_counted 78 = .ok (.iload_n 3, 1) := by decide +kernel
theorem dX1_counted_79 : decode cX1_counted 79 = .ok (.iload_n 2, 1) := by decide +kernel
theorem dX1_counted_80 : decode cX1_counted 80 = .ok (.ifCond .eq 14, 3) := by decide +kernel
theorem dX1_counted_83 : decode cX1_counted 83 = .ok (.aload_n 0, 1) := by decide +kernel
theorem dX1_counted_84 : decode cX1_counted 84 = .ok (.getfield 34, 3) := by decide +kernel
theorem dX1_counted_87 : decode cX1_counted 87 = .ok (.iload_n 3, 1) := by decide +kernel
theorem dX1_counted_88 : decode cX1_counted 88 = .ok (.iaload, 1) := by decide +kernel
theorem dX1_counted_89 : decode cX1_counted 89 = .ok (.iconst 1, 1) := by decide +kernel
theorem dX1_counted_90 : decode cX1_counted 90 = .ok (.iadd, 1) := by decide +kernel
theorem dX1_counted_91 : decode cX1_counted 91 = .ok (.goto 9, 3) := by decide +kernel
theorem dX1_counted_94 : decode cX1_counted 94 = .ok (.aload_n 0, 1) := by decide +kernel
theorem dX1_counted_95 : decode cX1_counted 95 = .ok (.getfield 34, 3) := by decide +kernel
theorem dX1_counted_98 : decode cX1_counted 98 = .ok (.iload_n 3, 1) := by decide +kernel
theorem dX1_counted_99 : decode cX1_counted 99 = .ok (.iaload, 1) := by decide +kernel
theorem dX1_counted_100 : decode cX1_counted 100 = .ok (.iastore, 1) := by decide +kernel
theorem dX1_counted_101 : decode cX1_counted 101 = .ok (.iload_n 2, 1) := by decide +kernel
theorem dX1_counted_102 : decode cX1_counted 102 = .ok (.ifCond .eq 16, 3) := by decide +kernel
theorem dX1_counted_105 : decode cX1_counted 105 = .ok (.aload_n 0, 1) := by decide +kernel
theorem dX1_counted_106 : decode cX1_counted 106 = .ok (.getfield 34, 3) := by decide +kernel
theorem dX1_counted_109 : decode cX1_counted 109 = .ok (.iload_n 3, 1) := by decide +kernel
theorem dX1_counted_110 : decode cX1_counted 110 = .ok (.iaload, 1) := by decide +kernel
theorem dX1_counted_111 : decode cX1_counted 111 = .ok (.ifCond .ne 7, 3) := by decide +kernel
theorem dX1_counted_114 : decode cX1_counted 114 = .ok (.iconst 1, 1) := by decide +kernel
theorem dX1_counted_115 : decode cX1_counted 115 = .ok (.goto 4, 3) := by decide +kernel
theorem dX1_counted_118 : decode cX1_counted 118 = .ok (.iconst 0, 1) := by decide +kernel
theorem dX1_counted_119 : decode cX1_counted 119 = .ok (.istore_n 2, 1) := by decide +kernel
theorem dX1_counted_120 : decode cX1_counted 120 = .ok (.iinc 3 1, 3) := by decide +kernel
theorem dX1_counted_123 : decode cX1_counted 123 = .ok (.goto (-54), 3) := by decide +kernel
theorem dX1_counted_126 : decode cX1_counted 126 = .ok (.return_, 1) := by decide +kernel
theorem dX1_run_0 : decode cX1_run 0 = .ok (.aload_n 0, 1) := by decide +kernel
theorem dX1_run_1 : decode cX1_run 1 = .ok (.iload_n 1, 1) := by decide +kernel
theorem dX1_run_2 : decode cX1_run 2 = .ok (.iconst 0, 1) := by decide +kernel
theorem dX1_run_3 : decode cX1_run 3 = .ok (.iconst 2, 1) := by decide +kernel
theorem dX1_run_4 : decode cX1_run 4 = .ok (.invokestatic 51, 3) := by decide +kernel
theorem dX1_run_7 : decode cX1_run 7 = .ok (.aload_n 0, 1) := by decide +kernel
theorem dX1_run_8 : decode cX1_run 8 = .ok (.getfield 59, 3) := by decide +kernel
theorem dX1_run_11 : decode cX1_run 11 = .ok (.ifCond .eq 16, 3) := by decide +kernel
theorem dX1_run_14 : decode cX1_run 14 = .ok (.aload_n 0, 1) := by decide +kernel
theorem dX1_run_15 : decode cX1_run 15 = .ok (.getfield 37, 3) := by decide +kernel
theorem dX1_run_18 : decode cX1_run 18 = .ok (.iconst 4, 1) := by decide +kernel
theorem dX1_run_19 : decode cX1_run 19 = .ok (.irem, 1) := by decide +kernel
theorem dX1_run_20 : decode cX1_run 20 = .ok (.ifCond .ne 7, 3) := by decide +kernel
theorem dX1_run_23 : decode cX1_run 23 = .ok (.iconst 1, 1) := by decide +kernel
theorem dX1_run_24 : decode cX1_run 24 = .ok (.goto 4, 3) := by decide +kernel
theorem dX1_run_27 : decode cX1_run 27 = .ok (.iconst 0, 1) := by decide +kernel
theorem dX1_run_28 : decode cX1_run 28 = .ok (.invokevirtual 55, 3) := by decide +kernel
theorem dX1_run_31 : decode cX1_run 31 = .ok (.ifCond .ne 5, 3) := by decide +kernel
theorem dX1_run_34 : decode cX1_run 34 = .ok (.iconst 0, 1) := by decide +kernel
theorem dX1_run_35 : decode cX1_run 35 = .ok (.ireturn, 1) := by decide +kernel
theorem dX1_run_36 : decode cX1_run 36 = .ok (.iconst 0, 1) := by decide +kernel
theorem dX1_run_37 : decode cX1_run 37 = .ok (.istore_n 3, 1) := by decide +kernel
theorem dX1_run_38 : decode cX1_run 38 = .ok (.iload_n 3, 1) := by decide +kernel
theorem dX1_run_39 : decode cX1_run 39 = .ok (.iconst 4, 1) := by decide +kernel
theorem dX1_run_40 : decode cX1_run 40 = .ok (.if_icmp .ge 21, 3) := by decide +kernel
theorem dX1_run_43 : decode cX1_run 43 = .ok (.aload_n 0, 1) := by decide +kernel
theorem dX1_run_44 : decode cX1_run 44 = .ok (.getfield 34, 3) := by decide +kernel
theorem dX1_run_47 : decode cX1_run 47 = .ok (.iload_n 3, 1) := by decide +kernel
theorem dX1_run_48 : decode cX1_run 48 = .ok (.aload_n 0, 1) := by decide +kernel
theorem dX1_run_49 : decode cX1_run 49 = .ok (.getfield 19, 3) := by decide +kernel
theorem dX1_run_52 : decode cX1_run 52 = .ok (.iload_n 3, 1) := by decide +kernel
theorem dX1_run_53 : decode cX1_run 53 = .ok (.iaload, 1) := by decide +kernel
theorem dX1_run_54 : decode cX1_run 54 = .ok (.iastore, 1) := by decide +kernel
theorem dX1_run_55 : decode cX1_run 55 = .ok (.iinc 3 1, 3) := by decide +kernel
theorem dX1_run_58 : decode cX1_run 58 = .ok (.goto (-20), 3) := by decide +kernel
theorem dX1_run_61 : decode cX1_run 61 = .ok (.iconst 0, 1) := by decide +kernel
theorem dX1_run_62 : decode cX1_run 62 = .ok (.istore_n 3, 1) := by decide +kernel
theorem dX1_run_63 : decode cX1_run 63 = .ok (.iload_n 3, 1) := by decide +kernel
theorem dX1_run_64 : decode cX1_run 64 = .ok (.aload_n 0, 1) := by decide +kernel
theorem dX1_run_65 : decode cX1_run 65 = .ok (.getfield 37, 3) := by decide +kernel
theorem dX1_run_68 : decode cX1_run 68 = .ok (.if_icmp .ge 42, 3) := by decide +kernel
theorem dX1_run_71 : decode cX1_run 71 = .ok (.iload_n 1, 1) := by decide +kernel
theorem dX1_run_72 : decode cX1_run 72 = .ok (.ifCond .ne 12, 3) := by decide +kernel
theorem dX1_run_75 : decode cX1_run 75 = .ok (.aload_n 0, 1) := by decide +kernel
theorem dX1_run_76 : decode cX1_run 76 = .ok (.iload_n 3, 1) := by decide +kernel
theorem dX1_run_77 : decode cX1_run 77 = .ok (.iload_n 2, 1) := by decide +kernel
theorem dX1_run_78 : decode cX1_run 78 = .ok (.invokevirtual 97, 3) := by decide +kernel
theorem dX1_run_81 : decode cX1_run 81 = .ok (.goto 22, 3) := by decide +kernel
theorem dX1_run_84 : decode cX1_run 84 = .ok (.iload_n 1, 1) := by decide +kernel
theorem dX1_run_85 : decode cX1_run 85 = .ok (.iconst 1, 1) := by decide +kernel
theorem dX1_run_86 : decode cX1_run 86 = .ok (.if_icmp .ne 12, 3) := by decide +kernel
theorem dX1_run_89 : decode cX1_run 89 = .ok (.aload_n 0, 1) := by decide +kernel
theorem dX1_run_90 : decode cX1_run 90 = .ok (.iload_n 3, 1) := by decide +kernel
theorem dX1_run_91 : decode cX1_run 91 = .ok (.iload_n 2, 1) := by decide +kernel
theorem dX1_run_92 : decode cX1_run 92 = .ok (.invokevirtual 100, 3) := by decide +kernel
theorem dX1_run_95 : decode cX1_run 95 = .ok (.goto 8, 3) := by decide +kernel
theorem dX1_run_98 : decode cX1_run 98 = .ok (.aload_n 0, 1) := by decide +kernel
theorem dX1_run_99 : decode cX1_run 99 = .ok (.iload_n 3, 1) := by decide +kernel
theorem dX1_run_100 : decode cX1_run 100 = .ok (.invokevirtual 103, 3) := by decide +kernel
theorem dX1_run_103 : decode cX1_run 103 = .ok (.iload_n 3, 1) := by decide +kernel
theorem dX1_run_104 : decode cX1_run 104 = .ok (.iconst 4, 1) := by decide +kernel
theorem dX1_run_105 : decode cX1_run 105 = .ok (.iadd, 1) := by decide +kernel
theorem dX1_run_106 : decode cX1_run 106 = .ok (.istore_n 3, 1) := by decide +kernel
theorem dX1_run_107 : decode cX1_run 107 = .ok (.goto (-44), 3) := by decide +kernel
theorem dX1_run_110 : decode cX1_run 110 = .ok (.aload_n 0, 1) := by decide +kernel
theorem dX1_run_111 : decode cX1_run 111 = .ok (.getfield 37, 3) := by decide +kernel
theorem dX1_run_114 : decode cX1_run 114 = .ok (.iconst 4, 1) := by decide +kernel
theorem dX1_run_115 : decode cX1_run 115 = .ok (.idiv, 1) := by decide +kernel
theorem dX1_run_116 : decode cX1_run 116 = .ok (.ireturn, 1) := by decide +kernel
theorem dX1_seal_0 : decode cX1_seal 0 = .ok (.aload_n 0, 1) := by decide +kernel
theorem dX1_seal_1 : decode cX1_seal 1 = .ok (.iload_n 1, 1) := by decide +kernel
theorem dX1_seal_2 : decode cX1_seal 2 = .ok (.iconst 0, 1) := by decide +kernel
theorem dX1_seal_3 : decode cX1_seal 3 = .ok (.iconst 3, 1) := by decide +kernel
theorem dX1_seal_4 : decode cX1_seal 4 = .ok (.invokestatic 51, 3) := by decide +kernel
theorem dX1_seal_7 : decode cX1_seal 7 = .ok (.aload_n 0, 1) := by decide +kernel
theorem dX1_seal_8 : decode cX1_seal 8 = .ok (.getfield 59, 3) := by decide +kernel
theorem dX1_seal_11 : decode cX1_seal 11 = .ok (.ifCond .eq 16, 3) := by decide +kernel
theorem dX1_seal_14 : decode cX1_seal 14 = .ok (.aload_n 0, 1) := by decide +kernel
theorem dX1_seal_15 : decode cX1_seal 15 = .ok (.getfield 37, 3) := by decide +kernel
theorem dX1_seal_18 : decode cX1_seal 18 = .ok (.iconst 4, 1) := by decide +kernel
theorem dX1_seal_19 : decode cX1_seal 19 = .ok (.irem, 1) := by decide +kernel
theorem dX1_seal_20 : decode cX1_seal 20 = .ok (.ifCond .ne 7, 3) := by decide +kernel
theorem dX1_seal_23 : decode cX1_seal 23 = .ok (.iconst 1, 1) := by decide +kernel
theorem dX1_seal_24 : decode cX1_seal 24 = .ok (.goto 4, 3) := by decide +kernel
theorem dX1_seal_27 : decode cX1_seal 27 = .ok (.iconst 0, 1) := by decide +kernel
theorem dX1_seal_28 : decode cX1_seal 28 = .ok (.invokevirtual 55, 3) := by decide +kernel
theorem dX1_seal_31 : decode cX1_seal 31 = .ok (.ifCond .ne 5, 3) := by decide +kernel
theorem dX1_seal_34 : decode cX1_seal 34 = .ok (.iconst 0, 1) := by decide +kernel
theorem dX1_seal_35 : decode cX1_seal 35 = .ok (.ireturn, 1) := by decide +kernel
theorem dX1_seal_36 : decode cX1_seal 36 = .ok (.iconst 0, 1) := by decide +kernel
theorem dX1_seal_37 : decode cX1_seal 37 = .ok (.istore_n 2, 1) := by decide +kernel
theorem dX1_seal_38 : decode cX1_seal 38 = .ok (.iload_n 2, 1) := by decide +kernel
theorem dX1_seal_39 : decode cX1_seal 39 = .ok (.iconst 4, 1) := by decide +kernel
theorem dX1_seal_40 : decode cX1_seal 40 = .ok (.if_icmp .ge 16, 3) := by decide +kernel
theorem dX1_seal_43 : decode cX1_seal 43 = .ok (.aload_n 0, 1) := by decide +kernel
theorem dX1_seal_44 : decode cX1_seal 44 = .ok (.getfield 34, 3) := by decide +kernel
theorem dX1_seal_47 : decode cX1_seal 47 = .ok (.iload_n 2, 1) := by decide +kernel
theorem dX1_seal_48 : decode cX1_seal 48 = .ok (.iconst 0, 1) := by decide +kernel
theorem dX1_seal_49 : decode cX1_seal 49 = .ok (.iastore, 1) := by decide +kernel
theorem dX1_seal_50 : decode cX1_seal 50 = .ok (.iinc 2 1, 3) := by decide +kernel
theorem dX1_seal_53 : decode cX1_seal 53 = .ok (.goto (-15), 3) := by decide +kernel
theorem dX1_seal_56 : decode cX1_seal 56 = .ok (.iconst 0, 1) := by decide +kernel
theorem dX1_seal_57 : decode cX1_seal 57 = .ok (.istore_n 2, 1) := by decide +kernel
theorem dX1_seal_58 : decode cX1_seal 58 = .ok (.iload_n 2, 1) := by decide +kernel
theorem dX1_seal_59 : decode cX1_seal 59 = .ok (.aload_n 0, 1) := by decide +kernel
theorem dX1_seal_60 : decode cX1_seal 60 = .ok (.getfield 37, 3) := by decide +kernel
