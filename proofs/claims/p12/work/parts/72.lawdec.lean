abbrev c_L_law : ByteArray := code
theorem d_L_law_0 : decode c_L_law 0 = .ok (.new 7, 3) := by decide +kernel
theorem d_L_law_3 : decode c_L_law 3 = .ok (.dup, 1) := by decide +kernel
theorem d_L_law_4 : decode c_L_law 4 = .ok (.invokespecial 9, 3) := by decide +kernel
theorem d_L_law_7 : decode c_L_law 7 = .ok (.astore_n 1, 1) := by decide +kernel
theorem d_L_law_8 : decode c_L_law 8 = .ok (.new 10, 3) := by decide +kernel
theorem d_L_law_11 : decode c_L_law 11 = .ok (.dup, 1) := by decide +kernel
theorem d_L_law_12 : decode c_L_law 12 = .ok (.invokespecial 12, 3) := by decide +kernel
theorem d_L_law_15 : decode c_L_law 15 = .ok (.astore_n 2, 1) := by decide +kernel
theorem d_L_law_16 : decode c_L_law 16 = .ok (.iconst 0, 1) := by decide +kernel
theorem d_L_law_17 : decode c_L_law 17 = .ok (.istore_n 3, 1) := by decide +kernel
theorem d_L_law_18 : decode c_L_law 18 = .ok (.iload_n 3, 1) := by decide +kernel
theorem d_L_law_19 : decode c_L_law 19 = .ok (.aload_n 0, 1) := by decide +kernel
theorem d_L_law_20 : decode c_L_law 20 = .ok (.arraylength, 1) := by decide +kernel
theorem d_L_law_21 : decode c_L_law 21 = .ok (.iconst 5, 1) := by decide +kernel
theorem d_L_law_22 : decode c_L_law 22 = .ok (.isub, 1) := by decide +kernel
theorem d_L_law_23 : decode c_L_law 23 = .ok (.if_icmp .gt 491, 3) := by decide +kernel
theorem d_L_law_26 : decode c_L_law 26 = .ok (.aload_n 0, 1) := by decide +kernel
theorem d_L_law_27 : decode c_L_law 27 = .ok (.iload_n 3, 1) := by decide +kernel
theorem d_L_law_28 : decode c_L_law 28 = .ok (.iaload, 1) := by decide +kernel
theorem d_L_law_29 : decode c_L_law 29 = .ok (.bipush 15, 2) := by decide +kernel
theorem d_L_law_31 : decode c_L_law 31 = .ok (.iand, 1) := by decide +kernel
theorem d_L_law_32 : decode c_L_law 32 = .ok (.tableswitch 476 0 11 #[64, 113, 156, 179, 222, 275, 328, 341, 354, 387, 420, 453], 64) := by decide +kernel
theorem d_L_law_96 : decode c_L_law 96 = .ok (.aload_n 1, 1) := by decide +kernel
theorem d_L_law_97 : decode c_L_law 97 = .ok (.aload_n 0, 1) := by decide +kernel
theorem d_L_law_98 : decode c_L_law 98 = .ok (.iload_n 3, 1) := by decide +kernel
theorem d_L_law_99 : decode c_L_law 99 = .ok (.iconst 1, 1) := by decide +kernel
theorem d_L_law_100 : decode c_L_law 100 = .ok (.iadd, 1) := by decide +kernel
theorem d_L_law_101 : decode c_L_law 101 = .ok (.iaload, 1) := by decide +kernel
theorem d_L_law_102 : decode c_L_law 102 = .ok (.aload_n 0, 1) := by decide +kernel
theorem d_L_law_103 : decode c_L_law 103 = .ok (.iload_n 3, 1) := by decide +kernel
theorem d_L_law_104 : decode c_L_law 104 = .ok (.iconst 2, 1) := by decide +kernel
theorem d_L_law_105 : decode c_L_law 105 = .ok (.iadd, 1) := by decide +kernel
theorem d_L_law_106 : decode c_L_law 106 = .ok (.iaload, 1) := by decide +kernel
theorem d_L_law_107 : decode c_L_law 107 = .ok (.ifCond .eq 7, 3) := by decide +kernel
theorem d_L_law_110 : decode c_L_law 110 = .ok (.iconst 1, 1) := by decide +kernel
theorem d_L_law_111 : decode c_L_law 111 = .ok (.goto 4, 3) := by decide +kernel
theorem d_L_law_114 : decode c_L_law 114 = .ok (.iconst 0, 1) := by decide +kernel
theorem d_L_law_115 : decode c_L_law 115 = .ok (.invokevirtual 13, 3) := by decide +kernel
theorem d_L_law_118 : decode c_L_law 118 = .ok (.pop, 1) := by decide +kernel
theorem d_L_law_119 : decode c_L_law 119 = .ok (.aload_n 2, 1) := by decide +kernel
theorem d_L_law_120 : decode c_L_law 120 = .ok (.aload_n 0, 1) := by decide +kernel
theorem d_L_law_121 : decode c_L_law 121 = .ok (.iload_n 3, 1) := by decide +kernel
theorem d_L_law_122 : decode c_L_law 122 = .ok (.iconst 1, 1) := by decide +kernel
theorem d_L_law_123 : decode c_L_law 123 = .ok (.iadd, 1) := by decide +kernel
theorem d_L_law_124 : decode c_L_law 124 = .ok (.iaload, 1) := by decide +kernel
theorem d_L_law_125 : decode c_L_law 125 = .ok (.aload_n 0, 1) := by decide +kernel
theorem d_L_law_126 : decode c_L_law 126 = .ok (.iload_n 3, 1) := by decide +kernel
theorem d_L_law_127 : decode c_L_law 127 = .ok (.iconst 2, 1) := by decide +kernel
theorem d_L_law_128 : decode c_L_law 128 = .ok (.iadd, 1) := by decide +kernel
theorem d_L_law_129 : decode c_L_law 129 = .ok (.iaload, 1) := by decide +kernel
theorem d_L_law_130 : decode c_L_law 130 = .ok (.ifCond .eq 7, 3) := by decide +kernel
theorem d_L_law_133 : decode c_L_law 133 = .ok (.iconst 1, 1) := by decide +kernel
theorem d_L_law_134 : decode c_L_law 134 = .ok (.goto 4, 3) := by decide +kernel
theorem d_L_law_137 : decode c_L_law 137 = .ok (.iconst 0, 1) := by decide +kernel
theorem d_L_law_138 : decode c_L_law 138 = .ok (.invokevirtual 17, 3) := by decide +kernel
theorem d_L_law_141 : decode c_L_law 141 = .ok (.pop, 1) := by decide +kernel
theorem d_L_law_142 : decode c_L_law 142 = .ok (.goto 366, 3) := by decide +kernel
theorem d_L_law_145 : decode c_L_law 145 = .ok (.aload_n 1, 1) := by decide +kernel
theorem d_L_law_146 : decode c_L_law 146 = .ok (.aload_n 0, 1) := by decide +kernel
theorem d_L_law_147 : decode c_L_law 147 = .ok (.iload_n 3, 1) := by decide +kernel
theorem d_L_law_148 : decode c_L_law 148 = .ok (.iconst 1, 1) := by decide +kernel
theorem d_L_law_149 : decode c_L_law 149 = .ok (.iadd, 1) := by decide +kernel
theorem d_L_law_150 : decode c_L_law 150 = .ok (.iaload, 1) := by decide +kernel
theorem d_L_law_151 : decode c_L_law 151 = .ok (.aload_n 0, 1) := by decide +kernel
theorem d_L_law_152 : decode c_L_law 152 = .ok (.iload_n 3, 1) := by decide +kernel
theorem d_L_law_153 : decode c_L_law 153 = .ok (.iconst 2, 1) := by decide +kernel
theorem d_L_law_154 : decode c_L_law 154 = .ok (.iadd, 1) := by decide +kernel
theorem d_L_law_155 : decode c_L_law 155 = .ok (.iaload, 1) := by decide +kernel
theorem d_L_law_156 : decode c_L_law 156 = .ok (.aload_n 0, 1) := by decide +kernel
theorem d_L_law_157 : decode c_L_law 157 = .ok (.iload_n 3, 1) := by decide +kernel
theorem d_L_law_158 : decode c_L_law 158 = .ok (.iconst 3, 1) := by decide +kernel
theorem d_L_law_159 : decode c_L_law 159 = .ok (.iadd, 1) := by decide +kernel
theorem d_L_law_160 : decode c_L_law 160 = .ok (.iaload, 1) := by decide +kernel
theorem d_L_law_161 : decode c_L_law 161 = .ok (.invokevirtual 18, 3) := by decide +kernel
theorem d_L_law_164 : decode c_L_law 164 = .ok (.pop, 1) := by decide +kernel
theorem d_L_law_165 : decode c_L_law 165 = .ok (.aload_n 2, 1) := by decide +kernel
theorem d_L_law_166 : decode c_L_law 166 = .ok (.aload_n 0, 1) := by decide +kernel
theorem d_L_law_167 : decode c_L_law 167 = .ok (.iload_n 3, 1) := by decide +kernel
theorem d_L_law_168 : decode c_L_law 168 = .ok (.iconst 1, 1) := by decide +kernel
theorem d_L_law_169 : decode c_L_law 169 = .ok (.iadd, 1) := by decide +kernel
theorem d_L_law_170 : decode c_L_law 170 = .ok (.iaload, 1) := by decide +kernel
theorem d_L_law_171 : decode c_L_law 171 = .ok (.aload_n 0, 1) := by decide +kernel
theorem d_L_law_172 : decode c_L_law 172 = .ok (.iload_n 3, 1) := by decide +kernel
theorem d_L_law_173 : decode c_L_law 173 = .ok (.iconst 2, 1) := by decide +kernel
theorem d_L_law_174 : decode c_L_law 174 = .ok (.iadd, 1) := by decide +kernel
theorem d_L_law_175 : decode c_L_law 175 = .ok (.iaload, 1) := by decide +kernel
theorem d_L_law_176 : decode c_L_law 176 = .ok (.aload_n 0, 1) := by decide +kernel
theorem d_L_law_177 : decode c_L_law 177 = .ok (.iload_n 3, 1) := by decide +kernel
theorem d_L_law_178 : decode c_L_law 178 = .ok (.iconst 3, 1) := by decide +kernel
theorem d_L_law_179 : decode c_L_law 179 = .ok (.iadd, 1) := by decide +kernel
theorem d_L_law_180 : decode c_L_law 180 = .ok (.iaload, 1) := by decide +kernel
theorem d_L_law_181 : decode c_L_law 181 = .ok (.invokevirtual 22, 3) := by decide +kernel
theorem d_L_law_184 : decode c_L_law 184 = .ok (.pop, 1) := by decide +kernel
theorem d_L_law_185 : decode c_L_law 185 = .ok (.goto 323, 3) := by decide +kernel
theorem d_L_law_188 : decode c_L_law 188 = .ok (.aload_n 1, 1) := by decide +kernel
theorem d_L_law_189 : decode c_L_law 189 = .ok (.aload_n 0, 1) := by decide +kernel
theorem d_L_law_190 : decode c_L_law 190 = .ok (.iload_n 3, 1) := by decide +kernel
theorem d_L_law_191 : decode c_L_law 191 = .ok (.iconst 1, 1) := by decide +kernel
theorem d_L_law_192 : decode c_L_law 192 = .ok (.iadd, 1) := by decide +kernel
theorem d_L_law_193 : decode c_L_law 193 = .ok (.iaload, 1) := by decide +kernel
theorem d_L_law_194 : decode c_L_law 194 = .ok (.invokevirtual 23, 3) := by decide +kernel
theorem d_L_law_197 : decode c_L_law 197 = .ok (.pop, 1) := by decide +kernel
theorem d_L_law_198 : decode c_L_law 198 = .ok (.aload_n 2, 1) := by decide +kernel
theorem d_L_law_199 : decode c_L_law 199 = .ok (.aload_n 0, 1) := by decide +kernel
theorem d_L_law_200 : decode c_L_law 200 = .ok (.iload_n 3, 1) := by decide +kernel
theorem d_L_law_201 : decode c_L_law 201 = .ok (.iconst 1, 1) := by decide +kernel
theorem d_L_law_202 : decode c_L_law 202 = .ok (.iadd, 1) := by decide +kernel
theorem d_L_law_203 : decode c_L_law 203 = .ok (.iaload, 1) := by decide +kernel
theorem d_L_law_204 : decode c_L_law 204 = .ok (.invokevirtual 27, 3) := by decide +kernel
theorem d_L_law_207 : decode c_L_law 207 = .ok (.pop, 1) := by decide +kernel
theorem d_L_law_208 : decode c_L_law 208 = .ok (.goto 300, 3) := by decide +kernel
theorem d_L_law_211 : decode c_L_law 211 = .ok (.aload_n 1, 1) := by decide +kernel
theorem d_L_law_212 : decode c_L_law 212 = .ok (.aload_n 0, 1) := by decide +kernel
theorem d_L_law_213 : decode c_L_law 213 = .ok (.iload_n 3, 1) := by decide +kernel
theorem d_L_law_214 : decode c_L_law 214 = .ok (.iconst 1, 1) := by decide +kernel
theorem d_L_law_215 : decode c_L_law 215 = .ok (.iadd, 1) := by decide +kernel
theorem d_L_law_216 : decode c_L_law 216 = .ok (.iaload, 1) := by decide +kernel
theorem d_L_law_217 : decode c_L_law 217 = .ok (.aload_n 0, 1) := by decide +kernel
theorem d_L_law_218 : decode c_L_law 218 = .ok (.iload_n 3, 1) := by decide +kernel
theorem d_L_law_219 : decode c_L_law 219 = .ok (.iconst 2, 1) := by decide +kernel
theorem d_L_law_220 : decode c_L_law 220 = .ok (.iadd, 1) := by decide +kernel
theorem d_L_law_221 : decode c_L_law 221 = .ok (.iaload, 1) := by decide +kernel
theorem d_L_law_222 : decode c_L_law 222 = .ok (.aload_n 0, 1) := by decide +kernel
theorem d_L_law_223 : decode c_L_law 223 = .ok (.iload_n 3, 1) := by decide +kernel
theorem d_L_law_224 : decode c_L_law 224 = .ok (.iconst 3, 1) := by decide +kernel
theorem d_L_law_225 : decode c_L_law 225 = .ok (.iadd, 1) := by decide +kernel
theorem d_L_law_226 : decode c_L_law 226 = .ok (.iaload, 1) := by decide +kernel
theorem d_L_law_227 : decode c_L_law 227 = .ok (.invokevirtual 28, 3) := by decide +kernel
theorem d_L_law_230 : decode c_L_law 230 = .ok (.pop, 1) := by decide +kernel
theorem d_L_law_231 : decode c_L_law 231 = .ok (.aload_n 2, 1) := by decide +kernel
theorem d_L_law_232 : decode c_L_law 232 = .ok (.aload_n 0, 1) := by decide +kernel
theorem d_L_law_233 : decode c_L_law 233 = .ok (.iload_n 3, 1) := by decide +kernel
theorem d_L_law_234 : decode c_L_law 234 = .ok (.iconst 1, 1) := by decide +kernel
theorem d_L_law_235 : decode c_L_law 235 = .ok (.iadd, 1) := by decide +kernel
theorem d_L_law_236 : decode c_L_law 236 = .ok (.iaload, 1) := by decide +kernel
theorem d_L_law_237 : decode c_L_law 237 = .ok (.aload_n 0, 1) := by decide +kernel
theorem d_L_law_238 : decode c_L_law 238 = .ok (.iload_n 3, 1) := by decide +kernel
theorem d_L_law_239 : decode c_L_law 239 = .ok (.iconst 2, 1) := by decide +kernel
theorem d_L_law_240 : decode c_L_law 240 = .ok (.iadd, 1) := by decide +kernel
theorem d_L_law_241 : decode c_L_law 241 = .ok (.iaload, 1) := by decide +kernel
theorem d_L_law_242 : decode c_L_law 242 = .ok (.aload_n 0, 1) := by decide +kernel
theorem d_L_law_243 : decode c_L_law 243 = .ok (.iload_n 3, 1) := by decide +kernel
theorem d_L_law_244 : decode c_L_law 244 = .ok (.iconst 3, 1) := by decide +kernel
theorem d_L_law_245 : decode c_L_law 245 = .ok (.iadd, 1) := by decide +kernel
theorem d_L_law_246 : decode c_L_law 246 = .ok (.iaload, 1) := by decide +kernel
theorem d_L_law_247 : decode c_L_law 247 = .ok (.invokevirtual 31, 3) := by decide +kernel
theorem d_L_law_250 : decode c_L_law 250 = .ok (.pop, 1) := by decide +kernel
theorem d_L_law_251 : decode c_L_law 251 = .ok (.goto 257, 3) := by decide +kernel
theorem d_L_law_254 : decode c_L_law 254 = .ok (.aload_n 1, 1) := by decide +kernel
theorem d_L_law_255 : decode c_L_law 255 = .ok (.aload_n 0, 1) := by decide +kernel
theorem d_L_law_256 : decode c_L_law 256 = .ok (.iload_n 3, 1) := by decide +kernel
theorem d_L_law_257 : decode c_L_law 257 = .ok (.iconst 1, 1) := by decide +kernel
theorem d_L_law_258 : decode c_L_law 258 = .ok (.iadd, 1) := by decide +kernel
theorem d_L_law_259 : decode c_L_law 259 = .ok (.iaload, 1) := by decide +kernel
theorem d_L_law_260 : decode c_L_law 260 = .ok (.aload_n 0, 1) := by decide +kernel
theorem d_L_law_261 : decode c_L_law 261 = .ok (.iload_n 3, 1) := by decide +kernel
theorem d_L_law_262 : decode c_L_law 262 = .ok (.iconst 2, 1) := by decide +kernel
theorem d_L_law_263 : decode c_L_law 263 = .ok (.iadd, 1) := by decide +kernel
theorem d_L_law_264 : decode c_L_law 264 = .ok (.iaload, 1) := by decide +kernel
theorem d_L_law_265 : decode c_L_law 265 = .ok (.aload_n 0, 1) := by decide +kernel
theorem d_L_law_266 : decode c_L_law 266 = .ok (.iload_n 3, 1) := by decide +kernel
theorem d_L_law_267 : decode c_L_law 267 = .ok (.iconst 3, 1) := by decide +kernel
theorem d_L_law_268 : decode c_L_law 268 = .ok (.iadd, 1) := by decide +kernel
theorem d_L_law_269 : decode c_L_law 269 = .ok (.iaload, 1) := by decide +kernel
theorem d_L_law_270 : decode c_L_law 270 = .ok (.aload_n 0, 1) := by decide +kernel
theorem d_L_law_271 : decode c_L_law 271 = .ok (.iload_n 3, 1) := by decide +kernel
theorem d_L_law_272 : decode c_L_law 272 = .ok (.iconst 4, 1) := by decide +kernel
theorem d_L_law_273 : decode c_L_law 273 = .ok (.iadd, 1) := by decide +kernel
theorem d_L_law_274 : decode c_L_law 274 = .ok (.iaload, 1) := by decide +kernel
theorem d_L_law_275 : decode c_L_law 275 = .ok (.invokevirtual 32, 3) := by decide +kernel
theorem d_L_law_278 : decode c_L_law 278 = .ok (.pop, 1) := by decide +kernel
theorem d_L_law_279 : decode c_L_law 279 = .ok (.aload_n 2, 1) := by decide +kernel
theorem d_L_law_280 : decode c_L_law 280 = .ok (.aload_n 0, 1) := by decide +kernel
theorem d_L_law_281 : decode c_L_law 281 = .ok (.iload_n 3, 1) := by decide +kernel
theorem d_L_law_282 : decode c_L_law 282 = .ok (.iconst 1, 1) := by decide +kernel
theorem d_L_law_283 : decode c_L_law 283 = .ok (.iadd, 1) := by decide +kernel
theorem d_L_law_284 : decode c_L_law 284 = .ok (.iaload, 1) := by decide +kernel
theorem d_L_law_285 : decode c_L_law 285 = .ok (.aload_n 0, 1) := by decide +kernel
theorem d_L_law_286 : decode c_L_law 286 = .ok (.iload_n 3, 1) := by decide +kernel
theorem d_L_law_287 : decode c_L_law 287 = .ok (.iconst 2, 1) := by decide +kernel
theorem d_L_law_288 : decode c_L_law 288 = .ok (.iadd, 1) := by decide +kernel
theorem d_L_law_289 : decode c_L_law 289 = .ok (.iaload, 1) := by decide +kernel
theorem d_L_law_290 : decode c_L_law 290 = .ok (.aload_n 0, 1) := by decide +kernel
theorem d_L_law_291 : decode c_L_law 291 = .ok (.iload_n 3, 1) := by decide +kernel
theorem d_L_law_292 : decode c_L_law 292 = .ok (.iconst 3, 1) := by decide +kernel
theorem d_L_law_293 : decode c_L_law 293 = .ok (.iadd, 1) := by decide +kernel
theorem d_L_law_294 : decode c_L_law 294 = .ok (.iaload, 1) := by decide +kernel
theorem d_L_law_295 : decode c_L_law 295 = .ok (.aload_n 0, 1) := by decide +kernel
theorem d_L_law_296 : decode c_L_law 296 = .ok (.iload_n 3, 1) := by decide +kernel
theorem d_L_law_297 : decode c_L_law 297 = .ok (.iconst 4, 1) := by decide +kernel
theorem d_L_law_298 : decode c_L_law 298 = .ok (.iadd, 1) := by decide +kernel
theorem d_L_law_299 : decode c_L_law 299 = .ok (.iaload, 1) := by decide +kernel
theorem d_L_law_300 : decode c_L_law 300 = .ok (.invokevirtual 36, 3) := by decide +kernel
theorem d_L_law_303 : decode c_L_law 303 = .ok (.pop, 1) := by decide +kernel
theorem d_L_law_304 : decode c_L_law 304 = .ok (.goto 204, 3) := by decide +kernel
theorem d_L_law_307 : decode c_L_law 307 = .ok (.aload_n 1, 1) := by decide +kernel
theorem d_L_law_308 : decode c_L_law 308 = .ok (.aload_n 0, 1) := by decide +kernel
theorem d_L_law_309 : decode c_L_law 309 = .ok (.iload_n 3, 1) := by decide +kernel
theorem d_L_law_310 : decode c_L_law 310 = .ok (.iconst 1, 1) := by decide +kernel
theorem d_L_law_311 : decode c_L_law 311 = .ok (.iadd, 1) := by decide +kernel
theorem d_L_law_312 : decode c_L_law 312 = .ok (.iaload, 1) := by decide +kernel
theorem d_L_law_313 : decode c_L_law 313 = .ok (.aload_n 0, 1) := by decide +kernel
theorem d_L_law_314 : decode c_L_law 314 = .ok (.iload_n 3, 1) := by decide +kernel
theorem d_L_law_315 : decode c_L_law 315 = .ok (.iconst 2, 1) := by decide +kernel
theorem d_L_law_316 : decode c_L_law 316 = .ok (.iadd, 1) := by decide +kernel
theorem d_L_law_317 : decode c_L_law 317 = .ok (.iaload, 1) := by decide +kernel
theorem d_L_law_318 : decode c_L_law 318 = .ok (.aload_n 0, 1) := by decide +kernel
theorem d_L_law_319 : decode c_L_law 319 = .ok (.iload_n 3, 1) := by decide +kernel
theorem d_L_law_320 : decode c_L_law 320 = .ok (.iconst 3, 1) := by decide +kernel
theorem d_L_law_321 : decode c_L_law 321 = .ok (.iadd, 1) := by decide +kernel
theorem d_L_law_322 : decode c_L_law 322 = .ok (.iaload, 1) := by decide +kernel
theorem d_L_law_323 : decode c_L_law 323 = .ok (.aload_n 0, 1) := by decide +kernel
theorem d_L_law_324 : decode c_L_law 324 = .ok (.iload_n 3, 1) := by decide +kernel
theorem d_L_law_325 : decode c_L_law 325 = .ok (.iconst 4, 1) := by decide +kernel
theorem d_L_law_326 : decode c_L_law 326 = .ok (.iadd, 1) := by decide +kernel
theorem d_L_law_327 : decode c_L_law 327 = .ok (.iaload, 1) := by decide +kernel
theorem d_L_law_328 : decode c_L_law 328 = .ok (.invokevirtual 37, 3) := by decide +kernel
theorem d_L_law_331 : decode c_L_law 331 = .ok (.pop, 1) := by decide +kernel
theorem d_L_law_332 : decode c_L_law 332 = .ok (.aload_n 2, 1) := by decide +kernel
theorem d_L_law_333 : decode c_L_law 333 = .ok (.aload_n 0, 1) := by decide +kernel
theorem d_L_law_334 : decode c_L_law 334 = .ok (.iload_n 3, 1) := by decide +kernel
theorem d_L_law_335 : decode c_L_law 335 = .ok (.iconst 1, 1) := by decide +kernel
theorem d_L_law_336 : decode c_L_law 336 = .ok (.iadd, 1) := by decide +kernel
theorem d_L_law_337 : decode c_L_law 337 = .ok (.iaload, 1) := by decide +kernel
theorem d_L_law_338 : decode c_L_law 338 = .ok (.aload_n 0, 1) := by decide +kernel
theorem d_L_law_339 : decode c_L_law 339 = .ok (.iload_n 3, 1) := by decide +kernel
theorem d_L_law_340 : decode c_L_law 340 = .ok (.iconst 2, 1) := by decide +kernel
theorem d_L_law_341 : decode c_L_law 341 = .ok (.iadd, 1) := by decide +kernel
theorem d_L_law_342 : decode c_L_law 342 = .ok (.iaload, 1) := by decide +kernel
theorem d_L_law_343 : decode c_L_law 343 = .ok (.aload_n 0, 1) := by decide +kernel
theorem d_L_law_344 : decode c_L_law 344 = .ok (.iload_n 3, 1) := by decide +kernel
theorem d_L_law_345 : decode c_L_law 345 = .ok (.iconst 3, 1) := by decide +kernel
theorem d_L_law_346 : decode c_L_law 346 = .ok (.iadd, 1) := by decide +kernel
theorem d_L_law_347 : decode c_L_law 347 = .ok (.iaload, 1) := by decide +kernel
theorem d_L_law_348 : decode c_L_law 348 = .ok (.aload_n 0, 1) := by decide +kernel
theorem d_L_law_349 : decode c_L_law 349 = .ok (.iload_n 3, 1) := by decide +kernel
theorem d_L_law_350 : decode c_L_law 350 = .ok (.iconst 4, 1) := by decide +kernel
theorem d_L_law_351 : decode c_L_law 351 = .ok (.iadd, 1) := by decide +kernel
theorem d_L_law_352 : decode c_L_law 352 = .ok (.iaload, 1) := by decide +kernel
theorem d_L_law_353 : decode c_L_law 353 = .ok (.invokevirtual 40, 3) := by decide +kernel
theorem d_L_law_356 : decode c_L_law 356 = .ok (.pop, 1) := by decide +kernel
theorem d_L_law_357 : decode c_L_law 357 = .ok (.goto 151, 3) := by decide +kernel
theorem d_L_law_360 : decode c_L_law 360 = .ok (.aload_n 1, 1) := by decide +kernel
theorem d_L_law_361 : decode c_L_law 361 = .ok (.invokevirtual 41, 3) := by decide +kernel
theorem d_L_law_364 : decode c_L_law 364 = .ok (.pop, 1) := by decide +kernel
theorem d_L_law_365 : decode c_L_law 365 = .ok (.aload_n 2, 1) := by decide +kernel
theorem d_L_law_366 : decode c_L_law 366 = .ok (.invokevirtual 45, 3) := by decide +kernel
theorem d_L_law_369 : decode c_L_law 369 = .ok (.pop, 1) := by decide +kernel
theorem d_L_law_370 : decode c_L_law 370 = .ok (.goto 138, 3) := by decide +kernel
theorem d_L_law_373 : decode c_L_law 373 = .ok (.aload_n 1, 1) := by decide +kernel
theorem d_L_law_374 : decode c_L_law 374 = .ok (.invokevirtual 46, 3) := by decide +kernel
theorem d_L_law_377 : decode c_L_law 377 = .ok (.pop, 1) := by decide +kernel
theorem d_L_law_378 : decode c_L_law 378 = .ok (.aload_n 2, 1) := by decide +kernel
theorem d_L_law_379 : decode c_L_law 379 = .ok (.invokevirtual 49, 3) := by decide +kernel
theorem d_L_law_382 : decode c_L_law 382 = .ok (.pop, 1) := by decide +kernel
theorem d_L_law_383 : decode c_L_law 383 = .ok (.goto 125, 3) := by decide +kernel
theorem d_L_law_386 : decode c_L_law 386 = .ok (.aload_n 1, 1) := by decide +kernel
theorem d_L_law_387 : decode c_L_law 387 = .ok (.aload_n 0, 1) := by decide +kernel
theorem d_L_law_388 : decode c_L_law 388 = .ok (.iload_n 3, 1) := by decide +kernel
theorem d_L_law_389 : decode c_L_law 389 = .ok (.iconst 1, 1) := by decide +kernel
theorem d_L_law_390 : decode c_L_law 390 = .ok (.iadd, 1) := by decide +kernel
theorem d_L_law_391 : decode c_L_law 391 = .ok (.iaload, 1) := by decide +kernel
theorem d_L_law_392 : decode c_L_law 392 = .ok (.aload_n 0, 1) := by decide +kernel
theorem d_L_law_393 : decode c_L_law 393 = .ok (.iload_n 3, 1) := by decide +kernel
theorem d_L_law_394 : decode c_L_law 394 = .ok (.iconst 2, 1) := by decide +kernel
theorem d_L_law_395 : decode c_L_law 395 = .ok (.iadd, 1) := by decide +kernel
theorem d_L_law_396 : decode c_L_law 396 = .ok (.iaload, 1) := by decide +kernel
theorem d_L_law_397 : decode c_L_law 397 = .ok (.invokevirtual 50, 3) := by decide +kernel
theorem d_L_law_400 : decode c_L_law 400 = .ok (.pop, 1) := by decide +kernel
theorem d_L_law_401 : decode c_L_law 401 = .ok (.aload_n 2, 1) := by decide +kernel
theorem d_L_law_402 : decode c_L_law 402 = .ok (.aload_n 0, 1) := by decide +kernel
theorem d_L_law_403 : decode c_L_law 403 = .ok (.iload_n 3, 1) := by decide +kernel
theorem d_L_law_404 : decode c_L_law 404 = .ok (.iconst 1, 1) := by decide +kernel
theorem d_L_law_405 : decode c_L_law 405 = .ok (.iadd, 1) := by decide +kernel
theorem d_L_law_406 : decode c_L_law 406 = .ok (.iaload, 1) := by decide +kernel
theorem d_L_law_407 : decode c_L_law 407 = .ok (.aload_n 0, 1) := by decide +kernel
theorem d_L_law_408 : decode c_L_law 408 = .ok (.iload_n 3, 1) := by decide +kernel
theorem d_L_law_409 : decode c_L_law 409 = .ok (.iconst 2, 1) := by decide +kernel
theorem d_L_law_410 : decode c_L_law 410 = .ok (.iadd, 1) := by decide +kernel
theorem d_L_law_411 : decode c_L_law 411 = .ok (.iaload, 1) := by decide +kernel
theorem d_L_law_412 : decode c_L_law 412 = .ok (.invokevirtual 54, 3) := by decide +kernel
theorem d_L_law_415 : decode c_L_law 415 = .ok (.pop, 1) := by decide +kernel
theorem d_L_law_416 : decode c_L_law 416 = .ok (.goto 92, 3) := by decide +kernel
theorem d_L_law_419 : decode c_L_law 419 = .ok (.aload_n 1, 1) := by decide +kernel
theorem d_L_law_420 : decode c_L_law 420 = .ok (.aload_n 0, 1) := by decide +kernel
theorem d_L_law_421 : decode c_L_law 421 = .ok (.iload_n 3, 1) := by decide +kernel
theorem d_L_law_422 : decode c_L_law 422 = .ok (.iconst 1, 1) := by decide +kernel
theorem d_L_law_423 : decode c_L_law 423 = .ok (.iadd, 1) := by decide +kernel
theorem d_L_law_424 : decode c_L_law 424 = .ok (.iaload, 1) := by decide +kernel
theorem d_L_law_425 : decode c_L_law 425 = .ok (.aload_n 0, 1) := by decide +kernel
theorem d_L_law_426 : decode c_L_law 426 = .ok (.iload_n 3, 1) := by decide +kernel
theorem d_L_law_427 : decode c_L_law 427 = .ok (.iconst 2, 1) := by decide +kernel
theorem d_L_law_428 : decode c_L_law 428 = .ok (.iadd, 1) := by decide +kernel
theorem d_L_law_429 : decode c_L_law 429 = .ok (.iaload, 1) := by decide +kernel
theorem d_L_law_430 : decode c_L_law 430 = .ok (.invokevirtual 55, 3) := by decide +kernel
theorem d_L_law_433 : decode c_L_law 433 = .ok (.pop, 1) := by decide +kernel
theorem d_L_law_434 : decode c_L_law 434 = .ok (.aload_n 2, 1) := by decide +kernel
theorem d_L_law_435 : decode c_L_law 435 = .ok (.aload_n 0, 1) := by decide +kernel
theorem d_L_law_436 : decode c_L_law 436 = .ok (.iload_n 3, 1) := by decide +kernel
theorem d_L_law_437 : decode c_L_law 437 = .ok (.iconst 1, 1) := by decide +kernel
theorem d_L_law_438 : decode c_L_law 438 = .ok (.iadd, 1) := by decide +kernel
theorem d_L_law_439 : decode c_L_law 439 = .ok (.iaload, 1) := by decide +kernel
theorem d_L_law_440 : decode c_L_law 440 = .ok (.aload_n 0, 1) := by decide +kernel
theorem d_L_law_441 : decode c_L_law 441 = .ok (.iload_n 3, 1) := by decide +kernel
theorem d_L_law_442 : decode c_L_law 442 = .ok (.iconst 2, 1) := by decide +kernel
theorem d_L_law_443 : decode c_L_law 443 = .ok (.iadd, 1) := by decide +kernel
theorem d_L_law_444 : decode c_L_law 444 = .ok (.iaload, 1) := by decide +kernel
theorem d_L_law_445 : decode c_L_law 445 = .ok (.invokevirtual 58, 3) := by decide +kernel
theorem d_L_law_448 : decode c_L_law 448 = .ok (.pop, 1) := by decide +kernel
theorem d_L_law_449 : decode c_L_law 449 = .ok (.goto 59, 3) := by decide +kernel
theorem d_L_law_452 : decode c_L_law 452 = .ok (.aload_n 1, 1) := by decide +kernel
theorem d_L_law_453 : decode c_L_law 453 = .ok (.aload_n 0, 1) := by decide +kernel
theorem d_L_law_454 : decode c_L_law 454 = .ok (.iload_n 3, 1) := by decide +kernel
theorem d_L_law_455 : decode c_L_law 455 = .ok (.iconst 1, 1) := by decide +kernel
theorem d_L_law_456 : decode c_L_law 456 = .ok (.iadd, 1) := by decide +kernel
theorem d_L_law_457 : decode c_L_law 457 = .ok (.iaload, 1) := by decide +kernel
theorem d_L_law_458 : decode c_L_law 458 = .ok (.aload_n 0, 1) := by decide +kernel
theorem d_L_law_459 : decode c_L_law 459 = .ok (.iload_n 3, 1) := by decide +kernel
theorem d_L_law_460 : decode c_L_law 460 = .ok (.iconst 2, 1) := by decide +kernel
theorem d_L_law_461 : decode c_L_law 461 = .ok (.iadd, 1) := by decide +kernel
theorem d_L_law_462 : decode c_L_law 462 = .ok (.iaload, 1) := by decide +kernel
theorem d_L_law_463 : decode c_L_law 463 = .ok (.invokevirtual 59, 3) := by decide +kernel
theorem d_L_law_466 : decode c_L_law 466 = .ok (.aload_n 2, 1) := by decide +kernel
theorem d_L_law_467 : decode c_L_law 467 = .ok (.aload_n 0, 1) := by decide +kernel
theorem d_L_law_468 : decode c_L_law 468 = .ok (.iload_n 3, 1) := by decide +kernel
theorem d_L_law_469 : decode c_L_law 469 = .ok (.iconst 1, 1) := by decide +kernel
theorem d_L_law_470 : decode c_L_law 470 = .ok (.iadd, 1) := by decide +kernel
theorem d_L_law_471 : decode c_L_law 471 = .ok (.iaload, 1) := by decide +kernel
theorem d_L_law_472 : decode c_L_law 472 = .ok (.aload_n 0, 1) := by decide +kernel
theorem d_L_law_473 : decode c_L_law 473 = .ok (.iload_n 3, 1) := by decide +kernel
theorem d_L_law_474 : decode c_L_law 474 = .ok (.iconst 2, 1) := by decide +kernel
theorem d_L_law_475 : decode c_L_law 475 = .ok (.iadd, 1) := by decide +kernel
theorem d_L_law_476 : decode c_L_law 476 = .ok (.iaload, 1) := by decide +kernel
theorem d_L_law_477 : decode c_L_law 477 = .ok (.invokevirtual 62, 3) := by decide +kernel
theorem d_L_law_480 : decode c_L_law 480 = .ok (.if_icmp .eq 28, 3) := by decide +kernel
theorem d_L_law_483 : decode c_L_law 483 = .ok (.iconst 0, 1) := by decide +kernel
theorem d_L_law_484 : decode c_L_law 484 = .ok (.ireturn, 1) := by decide +kernel
theorem d_L_law_485 : decode c_L_law 485 = .ok (.aload_n 1, 1) := by decide +kernel
theorem d_L_law_486 : decode c_L_law 486 = .ok (.aload_n 0, 1) := by decide +kernel
theorem d_L_law_487 : decode c_L_law 487 = .ok (.iload_n 3, 1) := by decide +kernel
theorem d_L_law_488 : decode c_L_law 488 = .ok (.iconst 1, 1) := by decide +kernel
theorem d_L_law_489 : decode c_L_law 489 = .ok (.iadd, 1) := by decide +kernel
theorem d_L_law_490 : decode c_L_law 490 = .ok (.iaload, 1) := by decide +kernel
theorem d_L_law_491 : decode c_L_law 491 = .ok (.invokevirtual 63, 3) := by decide +kernel
theorem d_L_law_494 : decode c_L_law 494 = .ok (.pop, 1) := by decide +kernel
theorem d_L_law_495 : decode c_L_law 495 = .ok (.aload_n 2, 1) := by decide +kernel
theorem d_L_law_496 : decode c_L_law 496 = .ok (.aload_n 0, 1) := by decide +kernel
theorem d_L_law_497 : decode c_L_law 497 = .ok (.iload_n 3, 1) := by decide +kernel
theorem d_L_law_498 : decode c_L_law 498 = .ok (.iconst 1, 1) := by decide +kernel
theorem d_L_law_499 : decode c_L_law 499 = .ok (.iadd, 1) := by decide +kernel
theorem d_L_law_500 : decode c_L_law 500 = .ok (.iaload, 1) := by decide +kernel
theorem d_L_law_501 : decode c_L_law 501 = .ok (.invokevirtual 66, 3) := by decide +kernel
theorem d_L_law_504 : decode c_L_law 504 = .ok (.pop, 1) := by decide +kernel
theorem d_L_law_505 : decode c_L_law 505 = .ok (.goto 3, 3) := by decide +kernel
theorem d_L_law_508 : decode c_L_law 508 = .ok (.iinc 3 5, 3) := by decide +kernel
theorem d_L_law_511 : decode c_L_law 511 = .ok (.goto (-493), 3) := by decide +kernel
theorem d_L_law_514 : decode c_L_law 514 = .ok (.iconst 1, 1) := by decide +kernel
theorem d_L_law_515 : decode c_L_law 515 = .ok (.ireturn, 1) := by decide +kernel
