/-! rows of the law -/
theorem d_TankArenaLaw_law_0 : decode code 0 = .ok (.new 7, 3) := by decide +kernel
theorem d_TankArenaLaw_law_3 : decode code 3 = .ok (.dup, 1) := by decide +kernel
theorem d_TankArenaLaw_law_4 : decode code 4 = .ok (.invokespecial 9, 3) := by decide +kernel
theorem d_TankArenaLaw_law_7 : decode code 7 = .ok (.astore_n 1, 1) := by decide +kernel
theorem d_TankArenaLaw_law_8 : decode code 8 = .ok (.new 10, 3) := by decide +kernel
theorem d_TankArenaLaw_law_11 : decode code 11 = .ok (.dup, 1) := by decide +kernel
theorem d_TankArenaLaw_law_12 : decode code 12 = .ok (.invokespecial 12, 3) := by decide +kernel
theorem d_TankArenaLaw_law_15 : decode code 15 = .ok (.astore_n 2, 1) := by decide +kernel
theorem d_TankArenaLaw_law_16 : decode code 16 = .ok (.iconst 0, 1) := by decide +kernel
theorem d_TankArenaLaw_law_17 : decode code 17 = .ok (.istore_n 3, 1) := by decide +kernel
theorem d_TankArenaLaw_law_18 : decode code 18 = .ok (.iload_n 3, 1) := by decide +kernel
theorem d_TankArenaLaw_law_19 : decode code 19 = .ok (.aload_n 0, 1) := by decide +kernel
theorem d_TankArenaLaw_law_20 : decode code 20 = .ok (.arraylength, 1) := by decide +kernel
theorem d_TankArenaLaw_law_21 : decode code 21 = .ok (.iconst 5, 1) := by decide +kernel
theorem d_TankArenaLaw_law_22 : decode code 22 = .ok (.isub, 1) := by decide +kernel
theorem d_TankArenaLaw_law_23 : decode code 23 = .ok (.if_icmp .gt 308, 3) := by decide +kernel
theorem d_TankArenaLaw_law_26 : decode code 26 = .ok (.aload_n 0, 1) := by decide +kernel
theorem d_TankArenaLaw_law_27 : decode code 27 = .ok (.iload_n 3, 1) := by decide +kernel
theorem d_TankArenaLaw_law_28 : decode code 28 = .ok (.iaload, 1) := by decide +kernel
theorem d_TankArenaLaw_law_29 : decode code 29 = .ok (.bipush 7, 2) := by decide +kernel
theorem d_TankArenaLaw_law_31 : decode code 31 = .ok (.iand, 1) := by decide +kernel
theorem d_TankArenaLaw_law_32 : decode code 32 = .ok (.tableswitch 293 0 7 #[48, 91, 144, 157, 170, 204, 237, 270], 48) := by decide +kernel
theorem d_TankArenaLaw_law_80 : decode code 80 = .ok (.aload_n 1, 1) := by decide +kernel
theorem d_TankArenaLaw_law_81 : decode code 81 = .ok (.aload_n 0, 1) := by decide +kernel
theorem d_TankArenaLaw_law_82 : decode code 82 = .ok (.iload_n 3, 1) := by decide +kernel
theorem d_TankArenaLaw_law_83 : decode code 83 = .ok (.iconst 1, 1) := by decide +kernel
theorem d_TankArenaLaw_law_84 : decode code 84 = .ok (.iadd, 1) := by decide +kernel
theorem d_TankArenaLaw_law_85 : decode code 85 = .ok (.iaload, 1) := by decide +kernel
theorem d_TankArenaLaw_law_86 : decode code 86 = .ok (.aload_n 0, 1) := by decide +kernel
theorem d_TankArenaLaw_law_87 : decode code 87 = .ok (.iload_n 3, 1) := by decide +kernel
theorem d_TankArenaLaw_law_88 : decode code 88 = .ok (.iconst 2, 1) := by decide +kernel
theorem d_TankArenaLaw_law_89 : decode code 89 = .ok (.iadd, 1) := by decide +kernel
theorem d_TankArenaLaw_law_90 : decode code 90 = .ok (.iaload, 1) := by decide +kernel
theorem d_TankArenaLaw_law_91 : decode code 91 = .ok (.aload_n 0, 1) := by decide +kernel
theorem d_TankArenaLaw_law_92 : decode code 92 = .ok (.iload_n 3, 1) := by decide +kernel
theorem d_TankArenaLaw_law_93 : decode code 93 = .ok (.iconst 3, 1) := by decide +kernel
theorem d_TankArenaLaw_law_94 : decode code 94 = .ok (.iadd, 1) := by decide +kernel
theorem d_TankArenaLaw_law_95 : decode code 95 = .ok (.iaload, 1) := by decide +kernel
theorem d_TankArenaLaw_law_96 : decode code 96 = .ok (.invokevirtual 13, 3) := by decide +kernel
theorem d_TankArenaLaw_law_99 : decode code 99 = .ok (.aload_n 2, 1) := by decide +kernel
theorem d_TankArenaLaw_law_100 : decode code 100 = .ok (.aload_n 0, 1) := by decide +kernel
theorem d_TankArenaLaw_law_101 : decode code 101 = .ok (.iload_n 3, 1) := by decide +kernel
theorem d_TankArenaLaw_law_102 : decode code 102 = .ok (.iconst 1, 1) := by decide +kernel
theorem d_TankArenaLaw_law_103 : decode code 103 = .ok (.iadd, 1) := by decide +kernel
theorem d_TankArenaLaw_law_104 : decode code 104 = .ok (.iaload, 1) := by decide +kernel
theorem d_TankArenaLaw_law_105 : decode code 105 = .ok (.aload_n 0, 1) := by decide +kernel
theorem d_TankArenaLaw_law_106 : decode code 106 = .ok (.iload_n 3, 1) := by decide +kernel
theorem d_TankArenaLaw_law_107 : decode code 107 = .ok (.iconst 2, 1) := by decide +kernel
theorem d_TankArenaLaw_law_108 : decode code 108 = .ok (.iadd, 1) := by decide +kernel
theorem d_TankArenaLaw_law_109 : decode code 109 = .ok (.iaload, 1) := by decide +kernel
theorem d_TankArenaLaw_law_110 : decode code 110 = .ok (.aload_n 0, 1) := by decide +kernel
theorem d_TankArenaLaw_law_111 : decode code 111 = .ok (.iload_n 3, 1) := by decide +kernel
theorem d_TankArenaLaw_law_112 : decode code 112 = .ok (.iconst 3, 1) := by decide +kernel
theorem d_TankArenaLaw_law_113 : decode code 113 = .ok (.iadd, 1) := by decide +kernel
theorem d_TankArenaLaw_law_114 : decode code 114 = .ok (.iaload, 1) := by decide +kernel
theorem d_TankArenaLaw_law_115 : decode code 115 = .ok (.invokevirtual 17, 3) := by decide +kernel
theorem d_TankArenaLaw_law_118 : decode code 118 = .ok (.if_icmp .eq 207, 3) := by decide +kernel
theorem d_TankArenaLaw_law_121 : decode code 121 = .ok (.iconst 0, 1) := by decide +kernel
theorem d_TankArenaLaw_law_122 : decode code 122 = .ok (.ireturn, 1) := by decide +kernel
theorem d_TankArenaLaw_law_123 : decode code 123 = .ok (.aload_n 1, 1) := by decide +kernel
theorem d_TankArenaLaw_law_124 : decode code 124 = .ok (.aload_n 0, 1) := by decide +kernel
theorem d_TankArenaLaw_law_125 : decode code 125 = .ok (.iload_n 3, 1) := by decide +kernel
theorem d_TankArenaLaw_law_126 : decode code 126 = .ok (.iconst 1, 1) := by decide +kernel
theorem d_TankArenaLaw_law_127 : decode code 127 = .ok (.iadd, 1) := by decide +kernel
theorem d_TankArenaLaw_law_128 : decode code 128 = .ok (.iaload, 1) := by decide +kernel
theorem d_TankArenaLaw_law_129 : decode code 129 = .ok (.aload_n 0, 1) := by decide +kernel
theorem d_TankArenaLaw_law_130 : decode code 130 = .ok (.iload_n 3, 1) := by decide +kernel
theorem d_TankArenaLaw_law_131 : decode code 131 = .ok (.iconst 2, 1) := by decide +kernel
theorem d_TankArenaLaw_law_132 : decode code 132 = .ok (.iadd, 1) := by decide +kernel
theorem d_TankArenaLaw_law_133 : decode code 133 = .ok (.iaload, 1) := by decide +kernel
theorem d_TankArenaLaw_law_134 : decode code 134 = .ok (.aload_n 0, 1) := by decide +kernel
theorem d_TankArenaLaw_law_135 : decode code 135 = .ok (.iload_n 3, 1) := by decide +kernel
theorem d_TankArenaLaw_law_136 : decode code 136 = .ok (.iconst 3, 1) := by decide +kernel
theorem d_TankArenaLaw_law_137 : decode code 137 = .ok (.iadd, 1) := by decide +kernel
theorem d_TankArenaLaw_law_138 : decode code 138 = .ok (.iaload, 1) := by decide +kernel
theorem d_TankArenaLaw_law_139 : decode code 139 = .ok (.aload_n 0, 1) := by decide +kernel
theorem d_TankArenaLaw_law_140 : decode code 140 = .ok (.iload_n 3, 1) := by decide +kernel
theorem d_TankArenaLaw_law_141 : decode code 141 = .ok (.iconst 4, 1) := by decide +kernel
theorem d_TankArenaLaw_law_142 : decode code 142 = .ok (.iadd, 1) := by decide +kernel
theorem d_TankArenaLaw_law_143 : decode code 143 = .ok (.iaload, 1) := by decide +kernel
theorem d_TankArenaLaw_law_144 : decode code 144 = .ok (.invokevirtual 18, 3) := by decide +kernel
theorem d_TankArenaLaw_law_147 : decode code 147 = .ok (.aload_n 2, 1) := by decide +kernel
theorem d_TankArenaLaw_law_148 : decode code 148 = .ok (.aload_n 0, 1) := by decide +kernel
theorem d_TankArenaLaw_law_149 : decode code 149 = .ok (.iload_n 3, 1) := by decide +kernel
theorem d_TankArenaLaw_law_150 : decode code 150 = .ok (.iconst 1, 1) := by decide +kernel
theorem d_TankArenaLaw_law_151 : decode code 151 = .ok (.iadd, 1) := by decide +kernel
theorem d_TankArenaLaw_law_152 : decode code 152 = .ok (.iaload, 1) := by decide +kernel
theorem d_TankArenaLaw_law_153 : decode code 153 = .ok (.aload_n 0, 1) := by decide +kernel
theorem d_TankArenaLaw_law_154 : decode code 154 = .ok (.iload_n 3, 1) := by decide +kernel
theorem d_TankArenaLaw_law_155 : decode code 155 = .ok (.iconst 2, 1) := by decide +kernel
theorem d_TankArenaLaw_law_156 : decode code 156 = .ok (.iadd, 1) := by decide +kernel
theorem d_TankArenaLaw_law_157 : decode code 157 = .ok (.iaload, 1) := by decide +kernel
theorem d_TankArenaLaw_law_158 : decode code 158 = .ok (.aload_n 0, 1) := by decide +kernel
theorem d_TankArenaLaw_law_159 : decode code 159 = .ok (.iload_n 3, 1) := by decide +kernel
theorem d_TankArenaLaw_law_160 : decode code 160 = .ok (.iconst 3, 1) := by decide +kernel
theorem d_TankArenaLaw_law_161 : decode code 161 = .ok (.iadd, 1) := by decide +kernel
theorem d_TankArenaLaw_law_162 : decode code 162 = .ok (.iaload, 1) := by decide +kernel
theorem d_TankArenaLaw_law_163 : decode code 163 = .ok (.aload_n 0, 1) := by decide +kernel
theorem d_TankArenaLaw_law_164 : decode code 164 = .ok (.iload_n 3, 1) := by decide +kernel
theorem d_TankArenaLaw_law_165 : decode code 165 = .ok (.iconst 4, 1) := by decide +kernel
theorem d_TankArenaLaw_law_166 : decode code 166 = .ok (.iadd, 1) := by decide +kernel
theorem d_TankArenaLaw_law_167 : decode code 167 = .ok (.iaload, 1) := by decide +kernel
theorem d_TankArenaLaw_law_168 : decode code 168 = .ok (.invokevirtual 22, 3) := by decide +kernel
theorem d_TankArenaLaw_law_171 : decode code 171 = .ok (.if_icmp .eq 154, 3) := by decide +kernel
theorem d_TankArenaLaw_law_174 : decode code 174 = .ok (.iconst 0, 1) := by decide +kernel
theorem d_TankArenaLaw_law_175 : decode code 175 = .ok (.ireturn, 1) := by decide +kernel
theorem d_TankArenaLaw_law_176 : decode code 176 = .ok (.aload_n 1, 1) := by decide +kernel
theorem d_TankArenaLaw_law_177 : decode code 177 = .ok (.invokevirtual 23, 3) := by decide +kernel
theorem d_TankArenaLaw_law_180 : decode code 180 = .ok (.aload_n 2, 1) := by decide +kernel
theorem d_TankArenaLaw_law_181 : decode code 181 = .ok (.invokevirtual 27, 3) := by decide +kernel
theorem d_TankArenaLaw_law_184 : decode code 184 = .ok (.if_icmp .eq 141, 3) := by decide +kernel
theorem d_TankArenaLaw_law_187 : decode code 187 = .ok (.iconst 0, 1) := by decide +kernel
theorem d_TankArenaLaw_law_188 : decode code 188 = .ok (.ireturn, 1) := by decide +kernel
theorem d_TankArenaLaw_law_189 : decode code 189 = .ok (.aload_n 1, 1) := by decide +kernel
theorem d_TankArenaLaw_law_190 : decode code 190 = .ok (.invokevirtual 28, 3) := by decide +kernel
theorem d_TankArenaLaw_law_193 : decode code 193 = .ok (.aload_n 2, 1) := by decide +kernel
theorem d_TankArenaLaw_law_194 : decode code 194 = .ok (.invokevirtual 31, 3) := by decide +kernel
theorem d_TankArenaLaw_law_197 : decode code 197 = .ok (.if_icmp .eq 128, 3) := by decide +kernel
theorem d_TankArenaLaw_law_200 : decode code 200 = .ok (.iconst 0, 1) := by decide +kernel
theorem d_TankArenaLaw_law_201 : decode code 201 = .ok (.ireturn, 1) := by decide +kernel
theorem d_TankArenaLaw_law_202 : decode code 202 = .ok (.aload_n 1, 1) := by decide +kernel
theorem d_TankArenaLaw_law_203 : decode code 203 = .ok (.aload_n 0, 1) := by decide +kernel
theorem d_TankArenaLaw_law_204 : decode code 204 = .ok (.iload_n 3, 1) := by decide +kernel
theorem d_TankArenaLaw_law_205 : decode code 205 = .ok (.iconst 1, 1) := by decide +kernel
theorem d_TankArenaLaw_law_206 : decode code 206 = .ok (.iadd, 1) := by decide +kernel
theorem d_TankArenaLaw_law_207 : decode code 207 = .ok (.iaload, 1) := by decide +kernel
theorem d_TankArenaLaw_law_208 : decode code 208 = .ok (.aload_n 0, 1) := by decide +kernel
theorem d_TankArenaLaw_law_209 : decode code 209 = .ok (.iload_n 3, 1) := by decide +kernel
theorem d_TankArenaLaw_law_210 : decode code 210 = .ok (.iconst 2, 1) := by decide +kernel
theorem d_TankArenaLaw_law_211 : decode code 211 = .ok (.iadd, 1) := by decide +kernel
theorem d_TankArenaLaw_law_212 : decode code 212 = .ok (.iaload, 1) := by decide +kernel
theorem d_TankArenaLaw_law_213 : decode code 213 = .ok (.invokevirtual 32, 3) := by decide +kernel
theorem d_TankArenaLaw_law_216 : decode code 216 = .ok (.aload_n 2, 1) := by decide +kernel
theorem d_TankArenaLaw_law_217 : decode code 217 = .ok (.aload_n 0, 1) := by decide +kernel
theorem d_TankArenaLaw_law_218 : decode code 218 = .ok (.iload_n 3, 1) := by decide +kernel
theorem d_TankArenaLaw_law_219 : decode code 219 = .ok (.iconst 1, 1) := by decide +kernel
theorem d_TankArenaLaw_law_220 : decode code 220 = .ok (.iadd, 1) := by decide +kernel
theorem d_TankArenaLaw_law_221 : decode code 221 = .ok (.iaload, 1) := by decide +kernel
theorem d_TankArenaLaw_law_222 : decode code 222 = .ok (.aload_n 0, 1) := by decide +kernel
theorem d_TankArenaLaw_law_223 : decode code 223 = .ok (.iload_n 3, 1) := by decide +kernel
theorem d_TankArenaLaw_law_224 : decode code 224 = .ok (.iconst 2, 1) := by decide +kernel
theorem d_TankArenaLaw_law_225 : decode code 225 = .ok (.iadd, 1) := by decide +kernel
theorem d_TankArenaLaw_law_226 : decode code 226 = .ok (.iaload, 1) := by decide +kernel
theorem d_TankArenaLaw_law_227 : decode code 227 = .ok (.invokevirtual 36, 3) := by decide +kernel
theorem d_TankArenaLaw_law_230 : decode code 230 = .ok (.lcmp, 1) := by decide +kernel
theorem d_TankArenaLaw_law_231 : decode code 231 = .ok (.ifCond .eq 94, 3) := by decide +kernel
theorem d_TankArenaLaw_law_234 : decode code 234 = .ok (.iconst 0, 1) := by decide +kernel
theorem d_TankArenaLaw_law_235 : decode code 235 = .ok (.ireturn, 1) := by decide +kernel
theorem d_TankArenaLaw_law_236 : decode code 236 = .ok (.aload_n 1, 1) := by decide +kernel
theorem d_TankArenaLaw_law_237 : decode code 237 = .ok (.aload_n 0, 1) := by decide +kernel
theorem d_TankArenaLaw_law_238 : decode code 238 = .ok (.iload_n 3, 1) := by decide +kernel
theorem d_TankArenaLaw_law_239 : decode code 239 = .ok (.iconst 1, 1) := by decide +kernel
theorem d_TankArenaLaw_law_240 : decode code 240 = .ok (.iadd, 1) := by decide +kernel
theorem d_TankArenaLaw_law_241 : decode code 241 = .ok (.iaload, 1) := by decide +kernel
theorem d_TankArenaLaw_law_242 : decode code 242 = .ok (.aload_n 0, 1) := by decide +kernel
theorem d_TankArenaLaw_law_243 : decode code 243 = .ok (.iload_n 3, 1) := by decide +kernel
theorem d_TankArenaLaw_law_244 : decode code 244 = .ok (.iconst 2, 1) := by decide +kernel
theorem d_TankArenaLaw_law_245 : decode code 245 = .ok (.iadd, 1) := by decide +kernel
theorem d_TankArenaLaw_law_246 : decode code 246 = .ok (.iaload, 1) := by decide +kernel
theorem d_TankArenaLaw_law_247 : decode code 247 = .ok (.invokevirtual 37, 3) := by decide +kernel
theorem d_TankArenaLaw_law_250 : decode code 250 = .ok (.aload_n 2, 1) := by decide +kernel
theorem d_TankArenaLaw_law_251 : decode code 251 = .ok (.aload_n 0, 1) := by decide +kernel
theorem d_TankArenaLaw_law_252 : decode code 252 = .ok (.iload_n 3, 1) := by decide +kernel
theorem d_TankArenaLaw_law_253 : decode code 253 = .ok (.iconst 1, 1) := by decide +kernel
theorem d_TankArenaLaw_law_254 : decode code 254 = .ok (.iadd, 1) := by decide +kernel
theorem d_TankArenaLaw_law_255 : decode code 255 = .ok (.iaload, 1) := by decide +kernel
theorem d_TankArenaLaw_law_256 : decode code 256 = .ok (.aload_n 0, 1) := by decide +kernel
theorem d_TankArenaLaw_law_257 : decode code 257 = .ok (.iload_n 3, 1) := by decide +kernel
theorem d_TankArenaLaw_law_258 : decode code 258 = .ok (.iconst 2, 1) := by decide +kernel
theorem d_TankArenaLaw_law_259 : decode code 259 = .ok (.iadd, 1) := by decide +kernel
theorem d_TankArenaLaw_law_260 : decode code 260 = .ok (.iaload, 1) := by decide +kernel
theorem d_TankArenaLaw_law_261 : decode code 261 = .ok (.invokevirtual 41, 3) := by decide +kernel
theorem d_TankArenaLaw_law_264 : decode code 264 = .ok (.if_icmp .eq 61, 3) := by decide +kernel
theorem d_TankArenaLaw_law_267 : decode code 267 = .ok (.iconst 0, 1) := by decide +kernel
theorem d_TankArenaLaw_law_268 : decode code 268 = .ok (.ireturn, 1) := by decide +kernel
theorem d_TankArenaLaw_law_269 : decode code 269 = .ok (.aload_n 1, 1) := by decide +kernel
theorem d_TankArenaLaw_law_270 : decode code 270 = .ok (.aload_n 0, 1) := by decide +kernel
theorem d_TankArenaLaw_law_271 : decode code 271 = .ok (.iload_n 3, 1) := by decide +kernel
theorem d_TankArenaLaw_law_272 : decode code 272 = .ok (.iconst 1, 1) := by decide +kernel
theorem d_TankArenaLaw_law_273 : decode code 273 = .ok (.iadd, 1) := by decide +kernel
theorem d_TankArenaLaw_law_274 : decode code 274 = .ok (.iaload, 1) := by decide +kernel
theorem d_TankArenaLaw_law_275 : decode code 275 = .ok (.aload_n 0, 1) := by decide +kernel
theorem d_TankArenaLaw_law_276 : decode code 276 = .ok (.iload_n 3, 1) := by decide +kernel
theorem d_TankArenaLaw_law_277 : decode code 277 = .ok (.iconst 2, 1) := by decide +kernel
theorem d_TankArenaLaw_law_278 : decode code 278 = .ok (.iadd, 1) := by decide +kernel
theorem d_TankArenaLaw_law_279 : decode code 279 = .ok (.iaload, 1) := by decide +kernel
theorem d_TankArenaLaw_law_280 : decode code 280 = .ok (.invokevirtual 42, 3) := by decide +kernel
theorem d_TankArenaLaw_law_283 : decode code 283 = .ok (.aload_n 2, 1) := by decide +kernel
theorem d_TankArenaLaw_law_284 : decode code 284 = .ok (.aload_n 0, 1) := by decide +kernel
theorem d_TankArenaLaw_law_285 : decode code 285 = .ok (.iload_n 3, 1) := by decide +kernel
theorem d_TankArenaLaw_law_286 : decode code 286 = .ok (.iconst 1, 1) := by decide +kernel
theorem d_TankArenaLaw_law_287 : decode code 287 = .ok (.iadd, 1) := by decide +kernel
theorem d_TankArenaLaw_law_288 : decode code 288 = .ok (.iaload, 1) := by decide +kernel
theorem d_TankArenaLaw_law_289 : decode code 289 = .ok (.aload_n 0, 1) := by decide +kernel
theorem d_TankArenaLaw_law_290 : decode code 290 = .ok (.iload_n 3, 1) := by decide +kernel
theorem d_TankArenaLaw_law_291 : decode code 291 = .ok (.iconst 2, 1) := by decide +kernel
theorem d_TankArenaLaw_law_292 : decode code 292 = .ok (.iadd, 1) := by decide +kernel
theorem d_TankArenaLaw_law_293 : decode code 293 = .ok (.iaload, 1) := by decide +kernel
theorem d_TankArenaLaw_law_294 : decode code 294 = .ok (.invokevirtual 45, 3) := by decide +kernel
theorem d_TankArenaLaw_law_297 : decode code 297 = .ok (.if_icmp .eq 28, 3) := by decide +kernel
theorem d_TankArenaLaw_law_300 : decode code 300 = .ok (.iconst 0, 1) := by decide +kernel
theorem d_TankArenaLaw_law_301 : decode code 301 = .ok (.ireturn, 1) := by decide +kernel
theorem d_TankArenaLaw_law_302 : decode code 302 = .ok (.aload_n 1, 1) := by decide +kernel
theorem d_TankArenaLaw_law_303 : decode code 303 = .ok (.aload_n 0, 1) := by decide +kernel
theorem d_TankArenaLaw_law_304 : decode code 304 = .ok (.iload_n 3, 1) := by decide +kernel
theorem d_TankArenaLaw_law_305 : decode code 305 = .ok (.iconst 1, 1) := by decide +kernel
theorem d_TankArenaLaw_law_306 : decode code 306 = .ok (.iadd, 1) := by decide +kernel
theorem d_TankArenaLaw_law_307 : decode code 307 = .ok (.iaload, 1) := by decide +kernel
theorem d_TankArenaLaw_law_308 : decode code 308 = .ok (.invokevirtual 46, 3) := by decide +kernel
theorem d_TankArenaLaw_law_311 : decode code 311 = .ok (.aload_n 2, 1) := by decide +kernel
theorem d_TankArenaLaw_law_312 : decode code 312 = .ok (.aload_n 0, 1) := by decide +kernel
theorem d_TankArenaLaw_law_313 : decode code 313 = .ok (.iload_n 3, 1) := by decide +kernel
theorem d_TankArenaLaw_law_314 : decode code 314 = .ok (.iconst 1, 1) := by decide +kernel
theorem d_TankArenaLaw_law_315 : decode code 315 = .ok (.iadd, 1) := by decide +kernel
theorem d_TankArenaLaw_law_316 : decode code 316 = .ok (.iaload, 1) := by decide +kernel
theorem d_TankArenaLaw_law_317 : decode code 317 = .ok (.invokevirtual 50, 3) := by decide +kernel
theorem d_TankArenaLaw_law_320 : decode code 320 = .ok (.if_icmp .eq 5, 3) := by decide +kernel
theorem d_TankArenaLaw_law_323 : decode code 323 = .ok (.iconst 0, 1) := by decide +kernel
theorem d_TankArenaLaw_law_324 : decode code 324 = .ok (.ireturn, 1) := by decide +kernel
theorem d_TankArenaLaw_law_325 : decode code 325 = .ok (.iinc 3 5, 3) := by decide +kernel
theorem d_TankArenaLaw_law_328 : decode code 328 = .ok (.goto (-310), 3) := by decide +kernel
theorem d_TankArenaLaw_law_331 : decode code 331 = .ok (.iconst 1, 1) := by decide +kernel
theorem d_TankArenaLaw_law_332 : decode code 332 = .ok (.ireturn, 1) := by decide +kernel
/-! WORDS of instructions (printed by gen/words.py) -/
theorem w_4f8a0a93c6 : .instantiable "TankArena$Bullet" 5 ∈ TT := tt_in (List.mem_append_left _ (List.mem_of_getElem? (i := 200) rfl)) rfl
theorem w_74ed4c2675 : .instantiable "TankArena$Orders" 4 ∈ TT := tt_in (List.mem_append_left _ (List.mem_of_getElem? (i := 72) rfl)) rfl
theorem w_08171dffcb : .instantiable "TankArena$Processor" 3 ∈ TT := tt_in (List.mem_append_left _ (List.mem_of_getElem? (i := 50) rfl)) rfl
theorem w_de0ab99ba4 : .instantiable "TankArena$Program" 4 ∈ TT := tt_in (List.mem_append_left _ (List.mem_of_getElem? (i := 26) rfl)) rfl
theorem w_881a6ae161 : .instantiable "TankArena$Report" 4 ∈ TT := tt_in (List.mem_append_left _ (List.mem_of_getElem? (i := 100) rfl)) rfl
theorem w_fd39f801a5 : .instantiable "TankArena$Tank" 18 ∈ TT := tt_in (List.mem_append_left _ (List.mem_of_getElem? (i := 20) rfl)) rfl
theorem w_f6ecad5d48 : .instantiable "TankArena" 7 ∈ TT := tt_in (List.mem_append_left _ (List.mem_of_getElem? (i := 11) rfl)) rfl
theorem w_d4410a0861 : .instantiable "TankArenaModel" 38 ∈ TT := tt_in (List.mem_append_right _ (List.mem_append_right _ (List.mem_append_left _ (List.mem_of_getElem? (i := 20) rfl)))) rfl
theorem w_b14e353508 : .initialized "TankArena" ∈ TT := tt_in (List.mem_append_left _ (List.mem_of_getElem? (i := 1) rfl)) rfl
theorem cV_TankArenaLaw_13 : CV "TankArenaLaw" 13 "TankArena" y_TankArena_enter b_TankArena_enter 4 (some .int) (wsm y_TankArena_enter b_TankArena_enter 4 (some .int)) TT 3 := ⟨cv_good (tt_in (List.mem_append_right _ (List.mem_append_left _ (List.mem_of_getElem? (i := 7) rfl))) rfl) (tt_in (List.mem_append_right _ (List.mem_append_left _ (List.mem_of_getElem? (i := 8) rfl))) rfl) (tt_in (List.mem_append_right _ (List.mem_append_left _ (List.mem_of_getElem? (i := 9) rfl))) rfl) (tt_in (List.mem_append_left _ (List.mem_of_getElem? (i := 1) rfl)) rfl) (tt_code (tt_in (List.mem_append_right _ (List.mem_append_left _ (List.mem_of_getElem? (i := 10) rfl))) rfl)), ⟨_, rfl⟩, rfl, by decide, by decide, by decide +kernel⟩
theorem cV_TankArenaLaw_17 : CV "TankArenaLaw" 17 "TankArenaModel" y_TankArenaModel_enter b_TankArenaModel_enter 5 (some .int) (wsm y_TankArenaModel_enter b_TankArenaModel_enter 5 (some .int)) TT 3 := ⟨cv_good (tt_in (List.mem_append_right _ (List.mem_append_right _ (List.mem_append_left _ (List.mem_of_getElem? (i := 141) rfl)))) rfl) (tt_in (List.mem_append_right _ (List.mem_append_right _ (List.mem_append_left _ (List.mem_of_getElem? (i := 142) rfl)))) rfl) (tt_in (List.mem_append_right _ (List.mem_append_right _ (List.mem_append_left _ (List.mem_of_getElem? (i := 143) rfl)))) rfl) (tt_in (List.mem_append_left _ (List.mem_of_getElem? (i := 8) rfl)) rfl) (tt_code (tt_in (List.mem_append_right _ (List.mem_append_right _ (List.mem_append_left _ (List.mem_of_getElem? (i := 144) rfl)))) rfl)), ⟨_, rfl⟩, rfl, by decide, by decide, by decide +kernel⟩
theorem cV_TankArenaLaw_18 : CV "TankArenaLaw" 18 "TankArena" y_TankArena_instr b_TankArena_instr 6 (some .int) (wsm y_TankArena_instr b_TankArena_instr 6 (some .int)) TT 4 := ⟨cv_good (tt_in (List.mem_append_right _ (List.mem_append_left _ (List.mem_of_getElem? (i := 49) rfl))) rfl) (tt_in (List.mem_append_right _ (List.mem_append_left _ (List.mem_of_getElem? (i := 50) rfl))) rfl) (tt_in (List.mem_append_right _ (List.mem_append_left _ (List.mem_of_getElem? (i := 51) rfl))) rfl) (tt_in (List.mem_append_left _ (List.mem_of_getElem? (i := 1) rfl)) rfl) (tt_code (tt_in (List.mem_append_right _ (List.mem_append_left _ (List.mem_of_getElem? (i := 52) rfl))) rfl)), ⟨_, rfl⟩, rfl, by decide, by decide, by decide +kernel⟩
theorem cV_TankArenaLaw_22 : CV "TankArenaLaw" 22 "TankArenaModel" y_TankArenaModel_instr b_TankArenaModel_instr 6 (some .int) (wsm y_TankArenaModel_instr b_TankArenaModel_instr 6 (some .int)) TT 4 := ⟨cv_good (tt_in (List.mem_append_right _ (List.mem_append_right _ (List.mem_append_left _ (List.mem_of_getElem? (i := 157) rfl)))) rfl) (tt_in (List.mem_append_right _ (List.mem_append_right _ (List.mem_append_left _ (List.mem_of_getElem? (i := 158) rfl)))) rfl) (tt_in (List.mem_append_right _ (List.mem_append_right _ (List.mem_append_left _ (List.mem_of_getElem? (i := 159) rfl)))) rfl) (tt_in (List.mem_append_left _ (List.mem_of_getElem? (i := 8) rfl)) rfl) (tt_code (tt_in (List.mem_append_right _ (List.mem_append_right _ (List.mem_append_left _ (List.mem_of_getElem? (i := 160) rfl)))) rfl)), ⟨_, rfl⟩, rfl, by decide, by decide, by decide +kernel⟩
theorem cV_TankArenaLaw_23 : CV "TankArenaLaw" 23 "TankArena" y_TankArena_turn b_TankArena_turn 1 (some .int) (wsm y_TankArena_turn b_TankArena_turn 1 (some .int)) TT 0 := ⟨cv_good (tt_in (List.mem_append_right _ (List.mem_append_left _ (List.mem_of_getElem? (i := 69) rfl))) rfl) (tt_in (List.mem_append_right _ (List.mem_append_left _ (List.mem_of_getElem? (i := 70) rfl))) rfl) (tt_in (List.mem_append_right _ (List.mem_append_left _ (List.mem_of_getElem? (i := 71) rfl))) rfl) (tt_in (List.mem_append_left _ (List.mem_of_getElem? (i := 1) rfl)) rfl) (tt_code (tt_in (List.mem_append_right _ (List.mem_append_left _ (List.mem_of_getElem? (i := 72) rfl))) rfl)), ⟨_, rfl⟩, rfl, by decide, by decide, by decide +kernel⟩
theorem cV_TankArenaLaw_27 : CV "TankArenaLaw" 27 "TankArenaModel" y_TankArenaModel_turn b_TankArenaModel_turn 2 (some .int) (wsm y_TankArenaModel_turn b_TankArenaModel_turn 2 (some .int)) TT 0 := ⟨cv_good (tt_in (List.mem_append_right _ (List.mem_append_right _ (List.mem_append_left _ (List.mem_of_getElem? (i := 167) rfl)))) rfl) (tt_in (List.mem_append_right _ (List.mem_append_right _ (List.mem_append_left _ (List.mem_of_getElem? (i := 168) rfl)))) rfl) (tt_in (List.mem_append_right _ (List.mem_append_right _ (List.mem_append_left _ (List.mem_of_getElem? (i := 169) rfl)))) rfl) (tt_in (List.mem_append_left _ (List.mem_of_getElem? (i := 8) rfl)) rfl) (tt_code (tt_in (List.mem_append_right _ (List.mem_append_right _ (List.mem_append_left _ (List.mem_of_getElem? (i := 170) rfl)))) rfl)), ⟨_, rfl⟩, rfl, by decide, by decide, by decide +kernel⟩
theorem cV_TankArenaLaw_28 : CV "TankArenaLaw" 28 "TankArena" y_TankArena_restart b_TankArena_restart 3 (some .int) (wsm y_TankArena_restart b_TankArena_restart 3 (some .int)) TT 0 := ⟨cv_good (tt_in (List.mem_append_right _ (List.mem_append_left _ (List.mem_of_getElem? (i := 223) rfl))) rfl) (tt_in (List.mem_append_right _ (List.mem_append_left _ (List.mem_of_getElem? (i := 224) rfl))) rfl) (tt_in (List.mem_append_right _ (List.mem_append_left _ (List.mem_of_getElem? (i := 225) rfl))) rfl) (tt_in (List.mem_append_left _ (List.mem_of_getElem? (i := 1) rfl)) rfl) (tt_code (tt_in (List.mem_append_right _ (List.mem_append_left _ (List.mem_of_getElem? (i := 226) rfl))) rfl)), ⟨_, rfl⟩, rfl, by decide, by decide, by decide +kernel⟩
theorem cV_TankArenaLaw_31 : CV "TankArenaLaw" 31 "TankArenaModel" y_TankArenaModel_restart b_TankArenaModel_restart 3 (some .int) (wsm y_TankArenaModel_restart b_TankArenaModel_restart 3 (some .int)) TT 0 := ⟨cv_good (tt_in (List.mem_append_right _ (List.mem_append_right _ (List.mem_append_left _ (List.mem_of_getElem? (i := 239) rfl)))) rfl) (tt_in (List.mem_append_right _ (List.mem_append_right _ (List.mem_append_right _ (List.mem_of_getElem? (i := 0) rfl)))) rfl) (tt_in (List.mem_append_right _ (List.mem_append_right _ (List.mem_append_right _ (List.mem_of_getElem? (i := 1) rfl)))) rfl) (tt_in (List.mem_append_left _ (List.mem_of_getElem? (i := 8) rfl)) rfl) (tt_code (tt_in (List.mem_append_right _ (List.mem_append_right _ (List.mem_append_right _ (List.mem_of_getElem? (i := 2) rfl)))) rfl)), ⟨_, rfl⟩, rfl, by decide, by decide, by decide +kernel⟩
theorem cV_TankArenaLaw_32 : CV "TankArenaLaw" 32 "TankArena" y_TankArena_measure b_TankArena_measure 3 (some .long) (wsm y_TankArena_measure b_TankArena_measure 3 (some .long)) TT 2 := ⟨cv_good (tt_in (List.mem_append_right _ (List.mem_append_left _ (List.mem_of_getElem? (i := 228) rfl))) rfl) (tt_in (List.mem_append_right _ (List.mem_append_left _ (List.mem_of_getElem? (i := 229) rfl))) rfl) (tt_in (List.mem_append_right _ (List.mem_append_left _ (List.mem_of_getElem? (i := 230) rfl))) rfl) (tt_in (List.mem_append_left _ (List.mem_of_getElem? (i := 1) rfl)) rfl) (tt_code (tt_in (List.mem_append_right _ (List.mem_append_left _ (List.mem_of_getElem? (i := 231) rfl))) rfl)), ⟨_, rfl⟩, rfl, by decide, by decide, by decide +kernel⟩
theorem cV_TankArenaLaw_36 : CV "TankArenaLaw" 36 "TankArenaModel" y_TankArenaModel_measure b_TankArenaModel_measure 3 (some .long) (wsm y_TankArenaModel_measure b_TankArenaModel_measure 3 (some .long)) TT 2 := ⟨cv_good (tt_in (List.mem_append_right _ (List.mem_append_right _ (List.mem_append_right _ (List.mem_of_getElem? (i := 3) rfl)))) rfl) (tt_in (List.mem_append_right _ (List.mem_append_right _ (List.mem_append_right _ (List.mem_of_getElem? (i := 4) rfl)))) rfl) (tt_in (List.mem_append_right _ (List.mem_append_right _ (List.mem_append_right _ (List.mem_of_getElem? (i := 5) rfl)))) rfl) (tt_in (List.mem_append_left _ (List.mem_of_getElem? (i := 8) rfl)) rfl) (tt_code (tt_in (List.mem_append_right _ (List.mem_append_right _ (List.mem_append_right _ (List.mem_of_getElem? (i := 6) rfl)))) rfl)), ⟨_, rfl⟩, rfl, by decide, by decide, by decide +kernel⟩
theorem cV_TankArenaLaw_37 : CV "TankArenaLaw" 37 "TankArena" y_TankArena_state b_TankArena_state 3 (some .int) (wsm y_TankArena_state b_TankArena_state 3 (some .int)) TT 2 := ⟨cv_good (tt_in (List.mem_append_right _ (List.mem_append_left _ (List.mem_of_getElem? (i := 238) rfl))) rfl) (tt_in (List.mem_append_right _ (List.mem_append_left _ (List.mem_of_getElem? (i := 239) rfl))) rfl) (tt_in (List.mem_append_right _ (List.mem_append_right _ (List.mem_append_left _ (List.mem_of_getElem? (i := 0) rfl)))) rfl) (tt_in (List.mem_append_left _ (List.mem_of_getElem? (i := 1) rfl)) rfl) (tt_code (tt_in (List.mem_append_right _ (List.mem_append_right _ (List.mem_append_left _ (List.mem_of_getElem? (i := 1) rfl)))) rfl)), ⟨_, rfl⟩, rfl, by decide, by decide, by decide +kernel⟩
theorem cV_TankArenaLaw_41 : CV "TankArenaLaw" 41 "TankArenaModel" y_TankArenaModel_state b_TankArenaModel_state 3 (some .int) (wsm y_TankArenaModel_state b_TankArenaModel_state 3 (some .int)) TT 2 := ⟨cv_good (tt_in (List.mem_append_right _ (List.mem_append_right _ (List.mem_append_right _ (List.mem_of_getElem? (i := 8) rfl)))) rfl) (tt_in (List.mem_append_right _ (List.mem_append_right _ (List.mem_append_right _ (List.mem_of_getElem? (i := 9) rfl)))) rfl) (tt_in (List.mem_append_right _ (List.mem_append_right _ (List.mem_append_right _ (List.mem_of_getElem? (i := 10) rfl)))) rfl) (tt_in (List.mem_append_left _ (List.mem_of_getElem? (i := 8) rfl)) rfl) (tt_code (tt_in (List.mem_append_right _ (List.mem_append_right _ (List.mem_append_right _ (List.mem_of_getElem? (i := 11) rfl)))) rfl)), ⟨_, rfl⟩, rfl, by decide, by decide, by decide +kernel⟩
theorem cV_TankArenaLaw_42 : CV "TankArenaLaw" 42 "TankArena" y_TankArena_bullet b_TankArena_bullet 3 (some .int) (wsm y_TankArena_bullet b_TankArena_bullet 3 (some .int)) TT 2 := ⟨cv_good (tt_in (List.mem_append_right _ (List.mem_append_right _ (List.mem_append_left _ (List.mem_of_getElem? (i := 6) rfl)))) rfl) (tt_in (List.mem_append_right _ (List.mem_append_right _ (List.mem_append_left _ (List.mem_of_getElem? (i := 7) rfl)))) rfl) (tt_in (List.mem_append_right _ (List.mem_append_right _ (List.mem_append_left _ (List.mem_of_getElem? (i := 8) rfl)))) rfl) (tt_in (List.mem_append_left _ (List.mem_of_getElem? (i := 1) rfl)) rfl) (tt_code (tt_in (List.mem_append_right _ (List.mem_append_right _ (List.mem_append_left _ (List.mem_of_getElem? (i := 9) rfl)))) rfl)), ⟨_, rfl⟩, rfl, by decide, by decide, by decide +kernel⟩
theorem cV_TankArenaLaw_45 : CV "TankArenaLaw" 45 "TankArenaModel" y_TankArenaModel_bullet b_TankArenaModel_bullet 5 (some .int) (wsm y_TankArenaModel_bullet b_TankArenaModel_bullet 5 (some .int)) TT 2 := ⟨cv_good (tt_in (List.mem_append_right _ (List.mem_append_right _ (List.mem_append_right _ (List.mem_of_getElem? (i := 12) rfl)))) rfl) (tt_in (List.mem_append_right _ (List.mem_append_right _ (List.mem_append_right _ (List.mem_of_getElem? (i := 13) rfl)))) rfl) (tt_in (List.mem_append_right _ (List.mem_append_right _ (List.mem_append_right _ (List.mem_of_getElem? (i := 14) rfl)))) rfl) (tt_in (List.mem_append_left _ (List.mem_of_getElem? (i := 8) rfl)) rfl) (tt_code (tt_in (List.mem_append_right _ (List.mem_append_right _ (List.mem_append_right _ (List.mem_of_getElem? (i := 15) rfl)))) rfl)), ⟨_, rfl⟩, rfl, by decide, by decide, by decide +kernel⟩
theorem cV_TankArenaLaw_46 : CV "TankArenaLaw" 46 "TankArena" y_TankArena_count b_TankArena_count 2 (some .int) (wsm y_TankArena_count b_TankArena_count 2 (some .int)) TT 1 := ⟨cv_good (tt_in (List.mem_append_right _ (List.mem_append_right _ (List.mem_append_left _ (List.mem_of_getElem? (i := 15) rfl)))) rfl) (tt_in (List.mem_append_right _ (List.mem_append_right _ (List.mem_append_left _ (List.mem_of_getElem? (i := 16) rfl)))) rfl) (tt_in (List.mem_append_right _ (List.mem_append_right _ (List.mem_append_left _ (List.mem_of_getElem? (i := 17) rfl)))) rfl) (tt_in (List.mem_append_left _ (List.mem_of_getElem? (i := 1) rfl)) rfl) (tt_code (tt_in (List.mem_append_right _ (List.mem_append_right _ (List.mem_append_left _ (List.mem_of_getElem? (i := 18) rfl)))) rfl)), ⟨_, rfl⟩, rfl, by decide, by decide, by decide +kernel⟩
theorem cV_TankArenaLaw_50 : CV "TankArenaLaw" 50 "TankArenaModel" y_TankArenaModel_count b_TankArenaModel_count 2 (some .int) (wsm y_TankArenaModel_count b_TankArenaModel_count 2 (some .int)) TT 1 := ⟨cv_good (tt_in (List.mem_append_right _ (List.mem_append_right _ (List.mem_append_right _ (List.mem_of_getElem? (i := 16) rfl)))) rfl) (tt_in (List.mem_append_right _ (List.mem_append_right _ (List.mem_append_right _ (List.mem_of_getElem? (i := 17) rfl)))) rfl) (tt_in (List.mem_append_right _ (List.mem_append_right _ (List.mem_append_right _ (List.mem_of_getElem? (i := 18) rfl)))) rfl) (tt_in (List.mem_append_left _ (List.mem_of_getElem? (i := 8) rfl)) rfl) (tt_code (tt_in (List.mem_append_right _ (List.mem_append_right _ (List.mem_append_right _ (List.mem_of_getElem? (i := 19) rfl)))) rfl)), ⟨_, rfl⟩, rfl, by decide, by decide, by decide +kernel⟩
theorem fn_TankArenaLaw_7 : Fn "TankArenaLaw" 7 TT clA 6 7 [.null, .null, .int 0, .int 0, .int 0, .int 0, .int 0] := ⟨R_TankArena, F_TankArena, t_TankArena, rfl, in_TankArena, t_TankArena_ok, tt_in (List.mem_append_left _ (List.mem_of_getElem? (i := 10) rfl)) rfl, tt_in (List.mem_append_left _ (List.mem_of_getElem? (i := 11) rfl)) rfl, tt_in (List.mem_append_left _ (List.mem_of_getElem? (i := 1) rfl)) rfl, by intro j hj; match j, hj with | 0, _ => rfl | 1, _ => rfl | 2, _ => rfl | 3, _ => rfl | 4, _ => rfl | 5, _ => rfl | 6, _ => rfl | j + 7, hj => exact absurd hj (by omega)⟩
theorem cI_TankArenaLaw_9 : CI "TankArenaLaw" 9 y_TankArena__init_ b_TankArena__init_ 2 (wsm y_TankArena__init_ b_TankArena__init_ 2 none) TT 0 := ⟨tt_code (tt_in (List.mem_append_left _ (List.mem_of_getElem? (i := 14) rfl)) rfl), ⟨_, rfl⟩, tt_in (List.mem_append_left _ (List.mem_of_getElem? (i := 1) rfl)) rfl, tt_in (List.mem_append_left _ (List.mem_of_getElem? (i := 12) rfl)) rfl, tt_in (List.mem_append_left _ (List.mem_of_getElem? (i := 13) rfl)) rfl, rfl, by decide, by decide, by decide +kernel⟩
theorem fn_TankArenaLaw_10 : Fn "TankArenaLaw" 10 TT clA 7 38 [.null, .null, .null, .null, .null, .null, .null, .int 0, .int 0, .int 0, .int 0, .null, .null, .null, .null, .null, .null, .null, .null, .null, .null, .null, .null, .null, .null, .null, .null, .null, .null, .null, .null, .null, .null, .null, .null, .null, .null, .int 0] := ⟨R_Model, F_Model, t_Model, rfl, in_Model, t_Model_ok, tt_in (List.mem_append_right _ (List.mem_append_right _ (List.mem_append_left _ (List.mem_of_getElem? (i := 19) rfl)))) rfl, tt_in (List.mem_append_right _ (List.mem_append_right _ (List.mem_append_left _ (List.mem_of_getElem? (i := 20) rfl)))) rfl, tt_in (List.mem_append_left _ (List.mem_of_getElem? (i := 8) rfl)) rfl, by intro j hj; match j, hj with | 0, _ => rfl | 1, _ => rfl | 2, _ => rfl | 3, _ => rfl | 4, _ => rfl | 5, _ => rfl | 6, _ => rfl | 7, _ => rfl | 8, _ => rfl | 9, _ => rfl | 10, _ => rfl | 11, _ => rfl | 12, _ => rfl | 13, _ => rfl | 14, _ => rfl | 15, _ => rfl | 16, _ => rfl | 17, _ => rfl | 18, _ => rfl | 19, _ => rfl | 20, _ => rfl | 21, _ => rfl | 22, _ => rfl | 23, _ => rfl | 24, _ => rfl | 25, _ => rfl | 26, _ => rfl | 27, _ => rfl | 28, _ => rfl | 29, _ => rfl | 30, _ => rfl | 31, _ => rfl | 32, _ => rfl | 33, _ => rfl | 34, _ => rfl | 35, _ => rfl | 36, _ => rfl | 37, _ => rfl | j + 38, hj => exact absurd hj (by omega)⟩
theorem cI_TankArenaLaw_12 : CI "TankArenaLaw" 12 y_TankArenaModel__init_ b_TankArenaModel__init_ 1 (wsm y_TankArenaModel__init_ b_TankArenaModel__init_ 1 none) TT 0 := ⟨tt_code (tt_in (List.mem_append_right _ (List.mem_append_right _ (List.mem_append_left _ (List.mem_of_getElem? (i := 23) rfl)))) rfl), ⟨_, rfl⟩, tt_in (List.mem_append_left _ (List.mem_of_getElem? (i := 8) rfl)) rfl, tt_in (List.mem_append_right _ (List.mem_append_right _ (List.mem_append_left _ (List.mem_of_getElem? (i := 21) rfl)))) rfl, tt_in (List.mem_append_right _ (List.mem_append_right _ (List.mem_append_left _ (List.mem_of_getElem? (i := 22) rfl)))) rfl, rfl, by decide, by decide, by decide +kernel⟩
