theorem dL_isMended_48 : decode cL_isMended 48 = .ok (.iload_n 1, 1) := by decide +kernel
theorem dL_isMended_49 : decode cL_isMended 49 = .ok (.iadd, 1) := by decide +kernel
theorem dL_isMended_50 : decode cL_isMended 50 = .ok (.if_icmp .ne 7, 3) := by decide +kernel
theorem dL_isMended_53 : decode cL_isMended 53 = .ok (.iconst 2, 1) := by decide +kernel
theorem dL_isMended_54 : decode cL_isMended 54 = .ok (.goto 4, 3) := by decide +kernel
theorem dL_isMended_57 : decode cL_isMended 57 = .ok (.iconst 0, 1) := by decide +kernel
theorem dL_isMended_58 : decode cL_isMended 58 = .ok (.invokevirtual 106, 3) := by decide +kernel
theorem dL_isMended_61 : decode cL_isMended 61 = .ok (.ifCond .ge 5, 3) := by decide +kernel
theorem dL_isMended_64 : decode cL_isMended 64 = .ok (.iconst 0, 1) := by decide +kernel
theorem dL_isMended_65 : decode cL_isMended 65 = .ok (.ireturn, 1) := by decide +kernel
theorem dL_isMended_66 : decode cL_isMended 66 = .ok (.iinc 4 1, 3) := by decide +kernel
theorem dL_isMended_69 : decode cL_isMended 69 = .ok (.goto (-45), 3) := by decide +kernel
theorem dL_isMended_72 : decode cL_isMended 72 = .ok (.aload_n 3, 1) := by decide +kernel
theorem dL_isMended_73 : decode cL_isMended 73 = .ok (.iload_n 1, 1) := by decide +kernel
theorem dL_isMended_74 : decode cL_isMended 74 = .ok (.iload_n 2, 1) := by decide +kernel
theorem dL_isMended_75 : decode cL_isMended 75 = .ok (.iconst 1, 1) := by decide +kernel
theorem dL_isMended_76 : decode cL_isMended 76 = .ok (.invokevirtual 109, 3) := by decide +kernel
theorem dL_isMended_79 : decode cL_isMended 79 = .ok (.iconst 1, 1) := by decide +kernel
theorem dL_isMended_80 : decode cL_isMended 80 = .ok (.if_icmp .eq 5, 3) := by decide +kernel
theorem dL_isMended_83 : decode cL_isMended 83 = .ok (.iconst 0, 1) := by decide +kernel
theorem dL_isMended_84 : decode cL_isMended 84 = .ok (.ireturn, 1) := by decide +kernel
theorem dL_isMended_85 : decode cL_isMended 85 = .ok (.aload_n 3, 1) := by decide +kernel
theorem dL_isMended_86 : decode cL_isMended 86 = .ok (.bipush 20, 2) := by decide +kernel
theorem dL_isMended_88 : decode cL_isMended 88 = .ok (.iconst 2, 1) := by decide +kernel
theorem dL_isMended_89 : decode cL_isMended 89 = .ok (.invokevirtual 54, 3) := by decide +kernel
theorem dL_isMended_92 : decode cL_isMended 92 = .ok (.iconst 1, 1) := by decide +kernel
theorem dL_isMended_93 : decode cL_isMended 93 = .ok (.if_icmp .ne 27, 3) := by decide +kernel
theorem dL_isMended_96 : decode cL_isMended 96 = .ok (.aload_n 3, 1) := by decide +kernel
theorem dL_isMended_97 : decode cL_isMended 97 = .ok (.iconst 1, 1) := by decide +kernel
theorem dL_isMended_98 : decode cL_isMended 98 = .ok (.iload_n 1, 1) := by decide +kernel
theorem dL_isMended_99 : decode cL_isMended 99 = .ok (.iload_n 2, 1) := by decide +kernel
theorem dL_isMended_100 : decode cL_isMended 100 = .ok (.invokevirtual 113, 3) := by decide +kernel
theorem dL_isMended_103 : decode cL_isMended 103 = .ok (.sipush 255, 3) := by decide +kernel
theorem dL_isMended_106 : decode cL_isMended 106 = .ok (.if_icmp .ne 14, 3) := by decide +kernel
theorem dL_isMended_109 : decode cL_isMended 109 = .ok (.aload_n 3, 1) := by decide +kernel
theorem dL_isMended_110 : decode cL_isMended 110 = .ok (.iconst 1, 1) := by decide +kernel
theorem dL_isMended_111 : decode cL_isMended 111 = .ok (.iconst 5, 1) := by decide +kernel
theorem dL_isMended_112 : decode cL_isMended 112 = .ok (.iconst 0, 1) := by decide +kernel
theorem dL_isMended_113 : decode cL_isMended 113 = .ok (.invokevirtual 83, 3) := by decide +kernel
theorem dL_isMended_116 : decode cL_isMended 116 = .ok (.iconst 1, 1) := by decide +kernel
theorem dL_isMended_117 : decode cL_isMended 117 = .ok (.if_icmp .eq 5, 3) := by decide +kernel
theorem dL_isMended_120 : decode cL_isMended 120 = .ok (.iconst 0, 1) := by decide +kernel
theorem dL_isMended_121 : decode cL_isMended 121 = .ok (.ireturn, 1) := by decide +kernel
theorem dL_isMended_122 : decode cL_isMended 122 = .ok (.aload_n 3, 1) := by decide +kernel
theorem dL_isMended_123 : decode cL_isMended 123 = .ok (.iconst 1, 1) := by decide +kernel
theorem dL_isMended_124 : decode cL_isMended 124 = .ok (.iload_n 1, 1) := by decide +kernel
theorem dL_isMended_125 : decode cL_isMended 125 = .ok (.iconst 2, 1) := by decide +kernel
theorem dL_isMended_126 : decode cL_isMended 126 = .ok (.isub, 1) := by decide +kernel
theorem dL_isMended_127 : decode cL_isMended 127 = .ok (.iload_n 2, 1) := by decide +kernel
theorem dL_isMended_128 : decode cL_isMended 128 = .ok (.invokevirtual 113, 3) := by decide +kernel
theorem dL_isMended_131 : decode cL_isMended 131 = .ok (.aload_n 3, 1) := by decide +kernel
theorem dL_isMended_132 : decode cL_isMended 132 = .ok (.iconst 1, 1) := by decide +kernel
theorem dL_isMended_133 : decode cL_isMended 133 = .ok (.iload_n 1, 1) := by decide +kernel
theorem dL_isMended_134 : decode cL_isMended 134 = .ok (.iconst 2, 1) := by decide +kernel
theorem dL_isMended_135 : decode cL_isMended 135 = .ok (.iadd, 1) := by decide +kernel
theorem dL_isMended_136 : decode cL_isMended 136 = .ok (.iload_n 2, 1) := by decide +kernel
theorem dL_isMended_137 : decode cL_isMended 137 = .ok (.invokevirtual 113, 3) := by decide +kernel
theorem dL_isMended_140 : decode cL_isMended 140 = .ok (.iadd, 1) := by decide +kernel
theorem dL_isMended_141 : decode cL_isMended 141 = .ok (.aload_n 3, 1) := by decide +kernel
theorem dL_isMended_142 : decode cL_isMended 142 = .ok (.iconst 1, 1) := by decide +kernel
theorem dL_isMended_143 : decode cL_isMended 143 = .ok (.iload_n 1, 1) := by decide +kernel
theorem dL_isMended_144 : decode cL_isMended 144 = .ok (.iload_n 2, 1) := by decide +kernel
theorem dL_isMended_145 : decode cL_isMended 145 = .ok (.iconst 2, 1) := by decide +kernel
theorem dL_isMended_146 : decode cL_isMended 146 = .ok (.isub, 1) := by decide +kernel
theorem dL_isMended_147 : decode cL_isMended 147 = .ok (.invokevirtual 113, 3) := by decide +kernel
theorem dL_isMended_150 : decode cL_isMended 150 = .ok (.iadd, 1) := by decide +kernel
theorem dL_isMended_151 : decode cL_isMended 151 = .ok (.aload_n 3, 1) := by decide +kernel
theorem dL_isMended_152 : decode cL_isMended 152 = .ok (.iconst 1, 1) := by decide +kernel
theorem dL_isMended_153 : decode cL_isMended 153 = .ok (.iload_n 1, 1) := by decide +kernel
theorem dL_isMended_154 : decode cL_isMended 154 = .ok (.iload_n 2, 1) := by decide +kernel
theorem dL_isMended_155 : decode cL_isMended 155 = .ok (.iconst 2, 1) := by decide +kernel
theorem dL_isMended_156 : decode cL_isMended 156 = .ok (.iadd, 1) := by decide +kernel
theorem dL_isMended_157 : decode cL_isMended 157 = .ok (.invokevirtual 113, 3) := by decide +kernel
theorem dL_isMended_160 : decode cL_isMended 160 = .ok (.iadd, 1) := by decide +kernel
theorem dL_isMended_161 : decode cL_isMended 161 = .ok (.istore 4, 2) := by decide +kernel
theorem dL_isMended_163 : decode cL_isMended 163 = .ok (.aload_n 3, 1) := by decide +kernel
theorem dL_isMended_164 : decode cL_isMended 164 = .ok (.iload_n 1, 1) := by decide +kernel
theorem dL_isMended_165 : decode cL_isMended 165 = .ok (.iload_n 2, 1) := by decide +kernel
theorem dL_isMended_166 : decode cL_isMended 166 = .ok (.iconst 3, 1) := by decide +kernel
theorem dL_isMended_167 : decode cL_isMended 167 = .ok (.invokevirtual 116, 3) := by decide +kernel
theorem dL_isMended_170 : decode cL_isMended 170 = .ok (.istore 5, 2) := by decide +kernel
theorem dL_isMended_172 : decode cL_isMended 172 = .ok (.aload_n 3, 1) := by decide +kernel
theorem dL_isMended_173 : decode cL_isMended 173 = .ok (.iconst 1, 1) := by decide +kernel
theorem dL_isMended_174 : decode cL_isMended 174 = .ok (.iload_n 1, 1) := by decide +kernel
theorem dL_isMended_175 : decode cL_isMended 175 = .ok (.iload_n 2, 1) := by decide +kernel
theorem dL_isMended_176 : decode cL_isMended 176 = .ok (.iload 5, 2) := by decide +kernel
theorem dL_isMended_178 : decode cL_isMended 178 = .ok (.invokevirtual 85, 3) := by decide +kernel
theorem dL_isMended_181 : decode cL_isMended 181 = .ok (.iload 4, 2) := by decide +kernel
theorem dL_isMended_183 : decode cL_isMended 183 = .ok (.iconst 4, 1) := by decide +kernel
theorem dL_isMended_184 : decode cL_isMended 184 = .ok (.idiv, 1) := by decide +kernel
theorem dL_isMended_185 : decode cL_isMended 185 = .ok (.i2d, 1) := by decide +kernel
theorem dL_isMended_186 : decode cL_isMended 186 = .ok (.dcmp .l, 1) := by decide +kernel
theorem dL_isMended_187 : decode cL_isMended 187 = .ok (.ifCond .ne 16, 3) := by decide +kernel
theorem dL_isMended_190 : decode cL_isMended 190 = .ok (.aload_n 3, 1) := by decide +kernel
theorem dL_isMended_191 : decode cL_isMended 191 = .ok (.iconst 1, 1) := by decide +kernel
theorem dL_isMended_192 : decode cL_isMended 192 = .ok (.iload_n 1, 1) := by decide +kernel
theorem dL_isMended_193 : decode cL_isMended 193 = .ok (.iload_n 2, 1) := by decide +kernel
theorem dL_isMended_194 : decode cL_isMended 194 = .ok (.invokevirtual 113, 3) := by decide +kernel
theorem dL_isMended_197 : decode cL_isMended 197 = .ok (.sipush 255, 3) := by decide +kernel
theorem dL_isMended_200 : decode cL_isMended 200 = .ok (.if_icmp .eq 5, 3) := by decide +kernel
theorem dL_isMended_203 : decode cL_isMended 203 = .ok (.iconst 0, 1) := by decide +kernel
theorem dL_isMended_204 : decode cL_isMended 204 = .ok (.ireturn, 1) := by decide +kernel
theorem dL_isMended_205 : decode cL_isMended 205 = .ok (.aload_n 3, 1) := by decide +kernel
theorem dL_isMended_206 : decode cL_isMended 206 = .ok (.iconst 1, 1) := by decide +kernel
theorem dL_isMended_207 : decode cL_isMended 207 = .ok (.invokevirtual 97, 3) := by decide +kernel
theorem dL_isMended_210 : decode cL_isMended 210 = .ok (.istore 6, 2) := by decide +kernel
theorem dL_isMended_212 : decode cL_isMended 212 = .ok (.aload_n 3, 1) := by decide +kernel
theorem dL_isMended_213 : decode cL_isMended 213 = .ok (.iload_n 1, 1) := by decide +kernel
theorem dL_isMended_214 : decode cL_isMended 214 = .ok (.iload_n 2, 1) := by decide +kernel
theorem dL_isMended_215 : decode cL_isMended 215 = .ok (.iconst 0, 1) := by decide +kernel
theorem dL_isMended_216 : decode cL_isMended 216 = .ok (.invokevirtual 109, 3) := by decide +kernel
theorem dL_isMended_219 : decode cL_isMended 219 = .ok (.ifCond .ne 69, 3) := by decide +kernel
theorem dL_isMended_222 : decode cL_isMended 222 = .ok (.aload_n 3, 1) := by decide +kernel
theorem dL_isMended_223 : decode cL_isMended 223 = .ok (.iconst 1, 1) := by decide +kernel
theorem dL_isMended_224 : decode cL_isMended 224 = .ok (.iload_n 1, 1) := by decide +kernel
theorem dL_isMended_225 : decode cL_isMended 225 = .ok (.iload_n 2, 1) := by decide +kernel
theorem dL_isMended_226 : decode cL_isMended 226 = .ok (.iload 5, 2) := by decide +kernel
theorem dL_isMended_228 : decode cL_isMended 228 = .ok (.invokevirtual 85, 3) := by decide +kernel
theorem dL_isMended_231 : decode cL_isMended 231 = .ok (.ldc2_w 119, 3) := by decide +kernel
theorem dL_isMended_234 : decode cL_isMended 234 = .ok (.dcmp .l, 1) := by decide +kernel
theorem dL_isMended_235 : decode cL_isMended 235 = .ok (.ifCond .ne 53, 3) := by decide +kernel
theorem dL_isMended_238 : decode cL_isMended 238 = .ok (.aload_n 3, 1) := by decide +kernel
theorem dL_isMended_239 : decode cL_isMended 239 = .ok (.iload_n 1, 1) := by decide +kernel
theorem dL_isMended_240 : decode cL_isMended 240 = .ok (.iload_n 2, 1) := by decide +kernel
theorem dL_isMended_241 : decode cL_isMended 241 = .ok (.iconst 1, 1) := by decide +kernel
theorem dL_isMended_242 : decode cL_isMended 242 = .ok (.invokevirtual 109, 3) := by decide +kernel
theorem dL_isMended_245 : decode cL_isMended 245 = .ok (.iconst 1, 1) := by decide +kernel
theorem dL_isMended_246 : decode cL_isMended 246 = .ok (.if_icmp .ne 42, 3) := by decide +kernel
theorem dL_isMended_249 : decode cL_isMended 249 = .ok (.aload_n 3, 1) := by decide +kernel
theorem dL_isMended_250 : decode cL_isMended 250 = .ok (.iconst 1, 1) := by decide +kernel
theorem dL_isMended_251 : decode cL_isMended 251 = .ok (.invokevirtual 97, 3) := by decide +kernel
theorem dL_isMended_254 : decode cL_isMended 254 = .ok (.iload 6, 2) := by decide +kernel
theorem dL_isMended_256 : decode cL_isMended 256 = .ok (.if_icmp .ne 32, 3) := by decide +kernel
theorem dL_isMended_259 : decode cL_isMended 259 = .ok (.aload_n 3, 1) := by decide +kernel
theorem dL_isMended_260 : decode cL_isMended 260 = .ok (.iconst 1, 1) := by decide +kernel
theorem dL_isMended_261 : decode cL_isMended 261 = .ok (.invokevirtual 94, 3) := by decide +kernel
theorem dL_isMended_264 : decode cL_isMended 264 = .ok (.iconst 5, 1) := by decide +kernel
theorem dL_isMended_265 : decode cL_isMended 265 = .ok (.if_icmp .ne 23, 3) := by decide +kernel
theorem dL_isMended_268 : decode cL_isMended 268 = .ok (.aload_n 3, 1) := by decide +kernel
theorem dL_isMended_269 : decode cL_isMended 269 = .ok (.iconst 1, 1) := by decide +kernel
theorem dL_isMended_270 : decode cL_isMended 270 = .ok (.iload_n 1, 1) := by decide +kernel
theorem dL_isMended_271 : decode cL_isMended 271 = .ok (.iload_n 2, 1) := by decide +kernel
theorem dL_isMended_272 : decode cL_isMended 272 = .ok (.iload 5, 2) := by decide +kernel
theorem dL_isMended_274 : decode cL_isMended 274 = .ok (.invokevirtual 85, 3) := by decide +kernel
theorem dL_isMended_277 : decode cL_isMended 277 = .ok (.ldc2_w 119, 3) := by decide +kernel
theorem dL_isMended_280 : decode cL_isMended 280 = .ok (.dcmp .l, 1) := by decide +kernel
theorem dL_isMended_281 : decode cL_isMended 281 = .ok (.ifCond .ne 7, 3) := by decide +kernel
theorem dL_isMended_284 : decode cL_isMended 284 = .ok (.iconst 1, 1) := by decide +kernel
theorem dL_isMended_285 : decode cL_isMended 285 = .ok (.goto 4, 3) := by decide +kernel
theorem dL_isMended_288 : decode cL_isMended 288 = .ok (.iconst 0, 1) := by decide +kernel
theorem dL_isMended_289 : decode cL_isMended 289 = .ok (.ireturn, 1) := by decide +kernel
