theorem d_D_change_0 : decode c_D_change 0 = .ok (.iload_n 1, 1) := by decide +kernel
theorem d_D_change_1 : decode c_D_change 1 = .ok (.iconst 0, 1) := by decide +kernel
theorem d_D_change_2 : decode c_D_change 2 = .ok (.aload_n 0, 1) := by decide +kernel
theorem d_D_change_3 : decode c_D_change 3 = .ok (.getfield 118, 3) := by decide +kernel
theorem d_D_change_6 : decode c_D_change 6 = .ok (.iconst 1, 1) := by decide +kernel
theorem d_D_change_7 : decode c_D_change 7 = .ok (.isub, 1) := by decide +kernel
theorem d_D_change_8 : decode c_D_change 8 = .ok (.invokestatic 91, 3) := by decide +kernel
theorem d_D_change_11 : decode c_D_change 11 = .ok (.ifCond .eq 13, 3) := by decide +kernel
theorem d_D_change_14 : decode c_D_change 14 = .ok (.iload_n 2, 1) := by decide +kernel
theorem d_D_change_15 : decode c_D_change 15 = .ok (.iconst 0, 1) := by decide +kernel
theorem d_D_change_16 : decode c_D_change 16 = .ok (.bipush 30, 2) := by decide +kernel
theorem d_D_change_18 : decode c_D_change 18 = .ok (.invokestatic 91, 3) := by decide +kernel
theorem d_D_change_21 : decode c_D_change 21 = .ok (.ifCond .ne 5, 3) := by decide +kernel
theorem d_D_change_24 : decode c_D_change 24 = .ok (.iconst (-1), 1) := by decide +kernel
theorem d_D_change_25 : decode c_D_change 25 = .ok (.ireturn, 1) := by decide +kernel
theorem d_D_change_26 : decode c_D_change 26 = .ok (.aload_n 0, 1) := by decide +kernel
theorem d_D_change_27 : decode c_D_change 27 = .ok (.getfield 21, 3) := by decide +kernel
theorem d_D_change_30 : decode c_D_change 30 = .ok (.iload_n 1, 1) := by decide +kernel
theorem d_D_change_31 : decode c_D_change 31 = .ok (.iaload, 1) := by decide +kernel
theorem d_D_change_32 : decode c_D_change 32 = .ok (.istore 5, 2) := by decide +kernel
theorem d_D_change_34 : decode c_D_change 34 = .ok (.aload_n 0, 1) := by decide +kernel
theorem d_D_change_35 : decode c_D_change 35 = .ok (.getfield 21, 3) := by decide +kernel
theorem d_D_change_38 : decode c_D_change 38 = .ok (.iload_n 1, 1) := by decide +kernel
theorem d_D_change_39 : decode c_D_change 39 = .ok (.iload_n 2, 1) := by decide +kernel
theorem d_D_change_40 : decode c_D_change 40 = .ok (.iastore, 1) := by decide +kernel
theorem d_D_change_41 : decode c_D_change 41 = .ok (.aload_n 0, 1) := by decide +kernel
theorem d_D_change_42 : decode c_D_change 42 = .ok (.getfield 24, 3) := by decide +kernel
theorem d_D_change_45 : decode c_D_change 45 = .ok (.iload_n 1, 1) := by decide +kernel
theorem d_D_change_46 : decode c_D_change 46 = .ok (.iload_n 3, 1) := by decide +kernel
theorem d_D_change_47 : decode c_D_change 47 = .ok (.iastore, 1) := by decide +kernel
theorem d_D_change_48 : decode c_D_change 48 = .ok (.aload_n 0, 1) := by decide +kernel
theorem d_D_change_49 : decode c_D_change 49 = .ok (.getfield 27, 3) := by decide +kernel
theorem d_D_change_52 : decode c_D_change 52 = .ok (.iload_n 1, 1) := by decide +kernel
theorem d_D_change_53 : decode c_D_change 53 = .ok (.iload 4, 2) := by decide +kernel
theorem d_D_change_55 : decode c_D_change 55 = .ok (.iastore, 1) := by decide +kernel
theorem d_D_change_56 : decode c_D_change 56 = .ok (.iload 5, 2) := by decide +kernel
theorem d_D_change_58 : decode c_D_change 58 = .ok (.ireturn, 1) := by decide +kernel
theorem d_D_handler_0 : decode c_D_handler 0 = .ok (.aload_n 0, 1) := by decide +kernel
theorem d_D_handler_1 : decode c_D_handler 1 = .ok (.getfield 121, 3) := by decide +kernel
theorem d_D_handler_4 : decode c_D_handler 4 = .ok (.iconst 3, 1) := by decide +kernel
theorem d_D_handler_5 : decode c_D_handler 5 = .ok (.if_icmp .ne 6, 3) := by decide +kernel
theorem d_D_handler_8 : decode c_D_handler 8 = .ok (.bipush (-2), 2) := by decide +kernel
theorem d_D_handler_10 : decode c_D_handler 10 = .ok (.ireturn, 1) := by decide +kernel
theorem d_D_handler_11 : decode c_D_handler 11 = .ok (.aload_n 0, 1) := by decide +kernel
theorem d_D_handler_12 : decode c_D_handler 12 = .ok (.getfield 30, 3) := by decide +kernel
theorem d_D_handler_15 : decode c_D_handler 15 = .ok (.aload_n 0, 1) := by decide +kernel
theorem d_D_handler_16 : decode c_D_handler 16 = .ok (.getfield 121, 3) := by decide +kernel
theorem d_D_handler_19 : decode c_D_handler 19 = .ok (.iload_n 1, 1) := by decide +kernel
theorem d_D_handler_20 : decode c_D_handler 20 = .ok (.iastore, 1) := by decide +kernel
theorem d_D_handler_21 : decode c_D_handler 21 = .ok (.aload_n 0, 1) := by decide +kernel
theorem d_D_handler_22 : decode c_D_handler 22 = .ok (.getfield 33, 3) := by decide +kernel
theorem d_D_handler_25 : decode c_D_handler 25 = .ok (.aload_n 0, 1) := by decide +kernel
theorem d_D_handler_26 : decode c_D_handler 26 = .ok (.getfield 121, 3) := by decide +kernel
theorem d_D_handler_29 : decode c_D_handler 29 = .ok (.iload_n 2, 1) := by decide +kernel
theorem d_D_handler_30 : decode c_D_handler 30 = .ok (.iastore, 1) := by decide +kernel
theorem d_D_handler_31 : decode c_D_handler 31 = .ok (.aload_n 0, 1) := by decide +kernel
theorem d_D_handler_32 : decode c_D_handler 32 = .ok (.getfield 36, 3) := by decide +kernel
theorem d_D_handler_35 : decode c_D_handler 35 = .ok (.aload_n 0, 1) := by decide +kernel
theorem d_D_handler_36 : decode c_D_handler 36 = .ok (.getfield 121, 3) := by decide +kernel
theorem d_D_handler_39 : decode c_D_handler 39 = .ok (.iload_n 3, 1) := by decide +kernel
theorem d_D_handler_40 : decode c_D_handler 40 = .ok (.iastore, 1) := by decide +kernel
theorem d_D_handler_41 : decode c_D_handler 41 = .ok (.aload_n 0, 1) := by decide +kernel
theorem d_D_handler_42 : decode c_D_handler 42 = .ok (.getfield 39, 3) := by decide +kernel
theorem d_D_handler_45 : decode c_D_handler 45 = .ok (.aload_n 0, 1) := by decide +kernel
theorem d_D_handler_46 : decode c_D_handler 46 = .ok (.getfield 121, 3) := by decide +kernel
theorem d_D_handler_49 : decode c_D_handler 49 = .ok (.iload 4, 2) := by decide +kernel
theorem d_D_handler_51 : decode c_D_handler 51 = .ok (.iastore, 1) := by decide +kernel
theorem d_D_handler_52 : decode c_D_handler 52 = .ok (.aload_n 0, 1) := by decide +kernel
theorem d_D_handler_53 : decode c_D_handler 53 = .ok (.dup, 1) := by decide +kernel
theorem d_D_handler_54 : decode c_D_handler 54 = .ok (.getfield 121, 3) := by decide +kernel
theorem d_D_handler_57 : decode c_D_handler 57 = .ok (.iconst 1, 1) := by decide +kernel
theorem d_D_handler_58 : decode c_D_handler 58 = .ok (.iadd, 1) := by decide +kernel
theorem d_D_handler_59 : decode c_D_handler 59 = .ok (.putfield 121, 3) := by decide +kernel
theorem d_D_handler_62 : decode c_D_handler 62 = .ok (.aload_n 0, 1) := by decide +kernel
theorem d_D_handler_63 : decode c_D_handler 63 = .ok (.getfield 121, 3) := by decide +kernel
theorem d_D_handler_66 : decode c_D_handler 66 = .ok (.ireturn, 1) := by decide +kernel
theorem d_D_isGoal_0 : decode c_D_isGoal 0 = .ok (.iload_n 1, 1) := by decide +kernel
theorem d_D_isGoal_1 : decode c_D_isGoal 1 = .ok (.iconst 0, 1) := by decide +kernel
theorem d_D_isGoal_2 : decode c_D_isGoal 2 = .ok (.aload_n 0, 1) := by decide +kernel
theorem d_D_isGoal_3 : decode c_D_isGoal 3 = .ok (.getfield 118, 3) := by decide +kernel
theorem d_D_isGoal_6 : decode c_D_isGoal 6 = .ok (.iconst 1, 1) := by decide +kernel
theorem d_D_isGoal_7 : decode c_D_isGoal 7 = .ok (.isub, 1) := by decide +kernel
theorem d_D_isGoal_8 : decode c_D_isGoal 8 = .ok (.invokestatic 91, 3) := by decide +kernel
theorem d_D_isGoal_11 : decode c_D_isGoal 11 = .ok (.ireturn, 1) := by decide +kernel
theorem d_D_isFormed_0 : decode c_D_isFormed 0 = .ok (.iload_n 1, 1) := by decide +kernel
theorem d_D_isFormed_1 : decode c_D_isFormed 1 = .ok (.tableswitch 335 1 30 #[135, 142, 142, 335, 335, 335, 335, 335, 154, 161, 185, 192, 192, 192, 192, 142, 198, 335, 335, 220, 220, 232, 232, 260, 282, 288, 315, 315, 335, 142], 135) := by decide +kernel
theorem d_D_isFormed_136 : decode c_D_isFormed 136 = .ok (.iload_n 2, 1) := by decide +kernel
theorem d_D_isFormed_137 : decode c_D_isFormed 137 = .ok (.iconst 1, 1) := by decide +kernel
theorem d_D_isFormed_138 : decode c_D_isFormed 138 = .ok (.iconst 5, 1) := by decide +kernel
theorem d_D_isFormed_139 : decode c_D_isFormed 139 = .ok (.invokestatic 91, 3) := by decide +kernel
theorem d_D_isFormed_142 : decode c_D_isFormed 142 = .ok (.ireturn, 1) := by decide +kernel
theorem d_D_isFormed_143 : decode c_D_isFormed 143 = .ok (.iload_n 2, 1) := by decide +kernel
theorem d_D_isFormed_144 : decode c_D_isFormed 144 = .ok (.iconst 0, 1) := by decide +kernel
theorem d_D_isFormed_145 : decode c_D_isFormed 145 = .ok (.aload_n 0, 1) := by decide +kernel
theorem d_D_isFormed_146 : decode c_D_isFormed 146 = .ok (.getfield 112, 3) := by decide +kernel
theorem d_D_isFormed_149 : decode c_D_isFormed 149 = .ok (.iconst 1, 1) := by decide +kernel
theorem d_D_isFormed_150 : decode c_D_isFormed 150 = .ok (.isub, 1) := by decide +kernel
theorem d_D_isFormed_151 : decode c_D_isFormed 151 = .ok (.invokestatic 91, 3) := by decide +kernel
theorem d_D_isFormed_154 : decode c_D_isFormed 154 = .ok (.ireturn, 1) := by decide +kernel
theorem d_D_isFormed_155 : decode c_D_isFormed 155 = .ok (.iload_n 2, 1) := by decide +kernel
theorem d_D_isFormed_156 : decode c_D_isFormed 156 = .ok (.iconst 1, 1) := by decide +kernel
theorem d_D_isFormed_157 : decode c_D_isFormed 157 = .ok (.iconst 4, 1) := by decide +kernel
theorem d_D_isFormed_158 : decode c_D_isFormed 158 = .ok (.invokestatic 91, 3) := by decide +kernel
theorem d_D_isFormed_161 : decode c_D_isFormed 161 = .ok (.ireturn, 1) := by decide +kernel
theorem d_D_isFormed_162 : decode c_D_isFormed 162 = .ok (.iload_n 2, 1) := by decide +kernel
theorem d_D_isFormed_163 : decode c_D_isFormed 163 = .ok (.iconst 1, 1) := by decide +kernel
theorem d_D_isFormed_164 : decode c_D_isFormed 164 = .ok (.iconst 4, 1) := by decide +kernel
theorem d_D_isFormed_165 : decode c_D_isFormed 165 = .ok (.invokestatic 91, 3) := by decide +kernel
theorem d_D_isFormed_168 : decode c_D_isFormed 168 = .ok (.ifCond .eq 16, 3) := by decide +kernel
theorem d_D_isFormed_171 : decode c_D_isFormed 171 = .ok (.iload_n 3, 1) := by decide +kernel
theorem d_D_isFormed_172 : decode c_D_isFormed 172 = .ok (.iconst 1, 1) := by decide +kernel
theorem d_D_isFormed_173 : decode c_D_isFormed 173 = .ok (.iconst 4, 1) := by decide +kernel
theorem d_D_isFormed_174 : decode c_D_isFormed 174 = .ok (.invokestatic 91, 3) := by decide +kernel
theorem d_D_isFormed_177 : decode c_D_isFormed 177 = .ok (.ifCond .eq 7, 3) := by decide +kernel
theorem d_D_isFormed_180 : decode c_D_isFormed 180 = .ok (.iconst 1, 1) := by decide +kernel
theorem d_D_isFormed_181 : decode c_D_isFormed 181 = .ok (.goto 4, 3) := by decide +kernel
theorem d_D_isFormed_184 : decode c_D_isFormed 184 = .ok (.iconst 0, 1) := by decide +kernel
theorem d_D_isFormed_185 : decode c_D_isFormed 185 = .ok (.ireturn, 1) := by decide +kernel
theorem d_D_isFormed_186 : decode c_D_isFormed 186 = .ok (.iload_n 2, 1) := by decide +kernel
theorem d_D_isFormed_187 : decode c_D_isFormed 187 = .ok (.iconst 2, 1) := by decide +kernel
theorem d_D_isFormed_188 : decode c_D_isFormed 188 = .ok (.iconst 4, 1) := by decide +kernel
theorem d_D_isFormed_189 : decode c_D_isFormed 189 = .ok (.invokestatic 91, 3) := by decide +kernel
theorem d_D_isFormed_192 : decode c_D_isFormed 192 = .ok (.ireturn, 1) := by decide +kernel
theorem d_D_isFormed_193 : decode c_D_isFormed 193 = .ok (.aload_n 0, 1) := by decide +kernel
theorem d_D_isFormed_194 : decode c_D_isFormed 194 = .ok (.iload_n 3, 1) := by decide +kernel
theorem d_D_isFormed_195 : decode c_D_isFormed 195 = .ok (.invokevirtual 127, 3) := by decide +kernel
theorem d_D_isFormed_198 : decode c_D_isFormed 198 = .ok (.ireturn, 1) := by decide +kernel
theorem d_D_isFormed_199 : decode c_D_isFormed 199 = .ok (.aload_n 0, 1) := by decide +kernel
theorem d_D_isFormed_200 : decode c_D_isFormed 200 = .ok (.iload_n 2, 1) := by decide +kernel
theorem d_D_isFormed_201 : decode c_D_isFormed 201 = .ok (.invokevirtual 127, 3) := by decide +kernel
theorem d_D_isFormed_204 : decode c_D_isFormed 204 = .ok (.ifCond .eq 15, 3) := by decide +kernel
theorem d_D_isFormed_207 : decode c_D_isFormed 207 = .ok (.aload_n 0, 1) := by decide +kernel
theorem d_D_isFormed_208 : decode c_D_isFormed 208 = .ok (.iload_n 3, 1) := by decide +kernel
theorem d_D_isFormed_209 : decode c_D_isFormed 209 = .ok (.invokevirtual 127, 3) := by decide +kernel
theorem d_D_isFormed_212 : decode c_D_isFormed 212 = .ok (.ifCond .eq 7, 3) := by decide +kernel
theorem d_D_isFormed_215 : decode c_D_isFormed 215 = .ok (.iconst 1, 1) := by decide +kernel
theorem d_D_isFormed_216 : decode c_D_isFormed 216 = .ok (.goto 4, 3) := by decide +kernel
theorem d_D_isFormed_219 : decode c_D_isFormed 219 = .ok (.iconst 0, 1) := by decide +kernel
theorem d_D_isFormed_220 : decode c_D_isFormed 220 = .ok (.ireturn, 1) := by decide +kernel
theorem d_D_isFormed_221 : decode c_D_isFormed 221 = .ok (.iload_n 2, 1) := by decide +kernel
theorem d_D_isFormed_222 : decode c_D_isFormed 222 = .ok (.iconst 0, 1) := by decide +kernel
theorem d_D_isFormed_223 : decode c_D_isFormed 223 = .ok (.aload_n 0, 1) := by decide +kernel
theorem d_D_isFormed_224 : decode c_D_isFormed 224 = .ok (.getfield 17, 3) := by decide +kernel
theorem d_D_isFormed_227 : decode c_D_isFormed 227 = .ok (.iconst 1, 1) := by decide +kernel
theorem d_D_isFormed_228 : decode c_D_isFormed 228 = .ok (.isub, 1) := by decide +kernel
theorem d_D_isFormed_229 : decode c_D_isFormed 229 = .ok (.invokestatic 91, 3) := by decide +kernel
theorem d_D_isFormed_232 : decode c_D_isFormed 232 = .ok (.ireturn, 1) := by decide +kernel
theorem d_D_isFormed_233 : decode c_D_isFormed 233 = .ok (.iload_n 2, 1) := by decide +kernel
theorem d_D_isFormed_234 : decode c_D_isFormed 234 = .ok (.iconst 0, 1) := by decide +kernel
theorem d_D_isFormed_235 : decode c_D_isFormed 235 = .ok (.aload_n 0, 1) := by decide +kernel
theorem d_D_isFormed_236 : decode c_D_isFormed 236 = .ok (.getfield 17, 3) := by decide +kernel
theorem d_D_isFormed_239 : decode c_D_isFormed 239 = .ok (.iconst 1, 1) := by decide +kernel
theorem d_D_isFormed_240 : decode c_D_isFormed 240 = .ok (.isub, 1) := by decide +kernel
theorem d_D_isFormed_241 : decode c_D_isFormed 241 = .ok (.invokestatic 91, 3) := by decide +kernel
theorem d_D_isFormed_244 : decode c_D_isFormed 244 = .ok (.ifCond .eq 15, 3) := by decide +kernel
theorem d_D_isFormed_247 : decode c_D_isFormed 247 = .ok (.aload_n 0, 1) := by decide +kernel
theorem d_D_isFormed_248 : decode c_D_isFormed 248 = .ok (.iload_n 3, 1) := by decide +kernel
theorem d_D_isFormed_249 : decode c_D_isFormed 249 = .ok (.invokevirtual 106, 3) := by decide +kernel
theorem d_D_isFormed_252 : decode c_D_isFormed 252 = .ok (.ifCond .eq 7, 3) := by decide +kernel
theorem d_D_isFormed_255 : decode c_D_isFormed 255 = .ok (.iconst 1, 1) := by decide +kernel
theorem d_D_isFormed_256 : decode c_D_isFormed 256 = .ok (.goto 4, 3) := by decide +kernel
theorem d_D_isFormed_259 : decode c_D_isFormed 259 = .ok (.iconst 0, 1) := by decide +kernel
theorem d_D_isFormed_260 : decode c_D_isFormed 260 = .ok (.ireturn, 1) := by decide +kernel
theorem d_D_isFormed_261 : decode c_D_isFormed 261 = .ok (.aload_n 0, 1) := by decide +kernel
theorem d_D_isFormed_262 : decode c_D_isFormed 262 = .ok (.iload_n 2, 1) := by decide +kernel
theorem d_D_isFormed_263 : decode c_D_isFormed 263 = .ok (.invokevirtual 106, 3) := by decide +kernel
theorem d_D_isFormed_266 : decode c_D_isFormed 266 = .ok (.ifCond .eq 15, 3) := by decide +kernel
theorem d_D_isFormed_269 : decode c_D_isFormed 269 = .ok (.aload_n 0, 1) := by decide +kernel
theorem d_D_isFormed_270 : decode c_D_isFormed 270 = .ok (.iload_n 3, 1) := by decide +kernel
theorem d_D_isFormed_271 : decode c_D_isFormed 271 = .ok (.invokevirtual 106, 3) := by decide +kernel
theorem d_D_isFormed_274 : decode c_D_isFormed 274 = .ok (.ifCond .eq 7, 3) := by decide +kernel
theorem d_D_isFormed_277 : decode c_D_isFormed 277 = .ok (.iconst 1, 1) := by decide +kernel
theorem d_D_isFormed_278 : decode c_D_isFormed 278 = .ok (.goto 4, 3) := by decide +kernel
theorem d_D_isFormed_281 : decode c_D_isFormed 281 = .ok (.iconst 0, 1) := by decide +kernel
theorem d_D_isFormed_282 : decode c_D_isFormed 282 = .ok (.ireturn, 1) := by decide +kernel
theorem d_D_isFormed_283 : decode c_D_isFormed 283 = .ok (.aload_n 0, 1) := by decide +kernel
theorem d_D_isFormed_284 : decode c_D_isFormed 284 = .ok (.iload_n 2, 1) := by decide +kernel
theorem d_D_isFormed_285 : decode c_D_isFormed 285 = .ok (.invokevirtual 99, 3) := by decide +kernel
theorem d_D_isFormed_288 : decode c_D_isFormed 288 = .ok (.ireturn, 1) := by decide +kernel
theorem d_D_isFormed_289 : decode c_D_isFormed 289 = .ok (.iload_n 2, 1) := by decide +kernel
theorem d_D_isFormed_290 : decode c_D_isFormed 290 = .ok (.bipush 12, 2) := by decide +kernel
theorem d_D_isFormed_292 : decode c_D_isFormed 292 = .ok (.if_icmp .eq 18, 3) := by decide +kernel
theorem d_D_isFormed_295 : decode c_D_isFormed 295 = .ok (.aload_n 0, 1) := by decide +kernel
theorem d_D_isFormed_296 : decode c_D_isFormed 296 = .ok (.iload_n 2, 1) := by decide +kernel
theorem d_D_isFormed_297 : decode c_D_isFormed 297 = .ok (.invokevirtual 99, 3) := by decide +kernel
theorem d_D_isFormed_300 : decode c_D_isFormed 300 = .ok (.ifCond .eq 14, 3) := by decide +kernel
theorem d_D_isFormed_303 : decode c_D_isFormed 303 = .ok (.iload_n 2, 1) := by decide +kernel
theorem d_D_isFormed_304 : decode c_D_isFormed 304 = .ok (.sipush 192, 3) := by decide +kernel
theorem d_D_isFormed_307 : decode c_D_isFormed 307 = .ok (.if_icmp .ge 7, 3) := by decide +kernel
theorem d_D_isFormed_310 : decode c_D_isFormed 310 = .ok (.iconst 1, 1) := by decide +kernel
theorem d_D_isFormed_311 : decode c_D_isFormed 311 = .ok (.goto 4, 3) := by decide +kernel
theorem d_D_isFormed_314 : decode c_D_isFormed 314 = .ok (.iconst 0, 1) := by decide +kernel
theorem d_D_isFormed_315 : decode c_D_isFormed 315 = .ok (.ireturn, 1) := by decide +kernel
theorem d_D_isFormed_316 : decode c_D_isFormed 316 = .ok (.aload_n 0, 1) := by decide +kernel
theorem d_D_isFormed_317 : decode c_D_isFormed 317 = .ok (.iload_n 2, 1) := by decide +kernel
theorem d_D_isFormed_318 : decode c_D_isFormed 318 = .ok (.invokevirtual 99, 3) := by decide +kernel
theorem d_D_isFormed_321 : decode c_D_isFormed 321 = .ok (.ifCond .eq 13, 3) := by decide +kernel
theorem d_D_isFormed_324 : decode c_D_isFormed 324 = .ok (.iload_n 2, 1) := by decide +kernel
theorem d_D_isFormed_325 : decode c_D_isFormed 325 = .ok (.bipush 64, 2) := by decide +kernel
theorem d_D_isFormed_327 : decode c_D_isFormed 327 = .ok (.if_icmp .lt 7, 3) := by decide +kernel
theorem d_D_isFormed_330 : decode c_D_isFormed 330 = .ok (.iconst 1, 1) := by decide +kernel
theorem d_D_isFormed_331 : decode c_D_isFormed 331 = .ok (.goto 4, 3) := by decide +kernel
theorem d_D_isFormed_334 : decode c_D_isFormed 334 = .ok (.iconst 0, 1) := by decide +kernel
theorem d_D_isFormed_335 : decode c_D_isFormed 335 = .ok (.ireturn, 1) := by decide +kernel
theorem d_D_isFormed_336 : decode c_D_isFormed 336 = .ok (.iconst 1, 1) := by decide +kernel
theorem d_D_isFormed_337 : decode c_D_isFormed 337 = .ok (.ireturn, 1) := by decide +kernel
theorem d_D_fail_0 : decode c_D_fail 0 = .ok (.aload_n 0, 1) := by decide +kernel
theorem d_D_fail_1 : decode c_D_fail 1 = .ok (.getfield 130, 3) := by decide +kernel
theorem d_D_fail_4 : decode c_D_fail 4 = .ok (.ifCond .le 4, 3) := by decide +kernel
theorem d_D_fail_7 : decode c_D_fail 7 = .ok (.return_, 1) := by decide +kernel
theorem d_D_fail_8 : decode c_D_fail 8 = .ok (.aload_n 0, 1) := by decide +kernel
theorem d_D_fail_9 : decode c_D_fail 9 = .ok (.iload_n 1, 1) := by decide +kernel
theorem d_D_fail_10 : decode c_D_fail 10 = .ok (.putfield 130, 3) := by decide +kernel
theorem d_D_fail_13 : decode c_D_fail 13 = .ok (.aload_n 0, 1) := by decide +kernel
theorem d_D_fail_14 : decode c_D_fail 14 = .ok (.iload_n 2, 1) := by decide +kernel
theorem d_D_fail_15 : decode c_D_fail 15 = .ok (.putfield 88, 3) := by decide +kernel
theorem d_D_fail_18 : decode c_D_fail 18 = .ok (.return_, 1) := by decide +kernel
theorem d_D_form_0 : decode c_D_form 0 = .ok (.aload_n 0, 1) := by decide +kernel
theorem d_D_form_1 : decode c_D_form 1 = .ok (.getfield 118, 3) := by decide +kernel
theorem d_D_form_4 : decode c_D_form 4 = .ok (.ifCond .ne 9, 3) := by decide +kernel
theorem d_D_form_7 : decode c_D_form 7 = .ok (.aload_n 0, 1) := by decide +kernel
theorem d_D_form_8 : decode c_D_form 8 = .ok (.iconst 1, 1) := by decide +kernel
theorem d_D_form_9 : decode c_D_form 9 = .ok (.iconst 0, 1) := by decide +kernel
theorem d_D_form_10 : decode c_D_form 10 = .ok (.invokevirtual 133, 3) := by decide +kernel
theorem d_D_form_13 : decode c_D_form 13 = .ok (.iconst 0, 1) := by decide +kernel
theorem d_D_form_14 : decode c_D_form 14 = .ok (.istore_n 1, 1) := by decide +kernel
theorem d_D_form_15 : decode c_D_form 15 = .ok (.iload_n 1, 1) := by decide +kernel
theorem d_D_form_16 : decode c_D_form 16 = .ok (.aload_n 0, 1) := by decide +kernel
theorem d_D_form_17 : decode c_D_form 17 = .ok (.getfield 118, 3) := by decide +kernel
theorem d_D_form_20 : decode c_D_form 20 = .ok (.if_icmp .ge 42, 3) := by decide +kernel
theorem d_D_form_23 : decode c_D_form 23 = .ok (.aload_n 0, 1) := by decide +kernel
theorem d_D_form_24 : decode c_D_form 24 = .ok (.aload_n 0, 1) := by decide +kernel
theorem d_D_form_25 : decode c_D_form 25 = .ok (.getfield 21, 3) := by decide +kernel
theorem d_D_form_28 : decode c_D_form 28 = .ok (.iload_n 1, 1) := by decide +kernel
theorem d_D_form_29 : decode c_D_form 29 = .ok (.iaload, 1) := by decide +kernel
theorem d_D_form_30 : decode c_D_form 30 = .ok (.aload_n 0, 1) := by decide +kernel
theorem d_D_form_31 : decode c_D_form 31 = .ok (.getfield 24, 3) := by decide +kernel
theorem d_D_form_34 : decode c_D_form 34 = .ok (.iload_n 1, 1) := by decide +kernel
theorem d_D_form_35 : decode c_D_form 35 = .ok (.iaload, 1) := by decide +kernel
theorem d_D_form_36 : decode c_D_form 36 = .ok (.aload_n 0, 1) := by decide +kernel
theorem d_D_form_37 : decode c_D_form 37 = .ok (.getfield 27, 3) := by decide +kernel
theorem d_D_form_40 : decode c_D_form 40 = .ok (.iload_n 1, 1) := by decide +kernel
theorem d_D_form_41 : decode c_D_form 41 = .ok (.iaload, 1) := by decide +kernel
theorem d_D_form_42 : decode c_D_form 42 = .ok (.invokevirtual 137, 3) := by decide +kernel
theorem d_D_form_45 : decode c_D_form 45 = .ok (.istore_n 2, 1) := by decide +kernel
theorem d_D_form_46 : decode c_D_form 46 = .ok (.iload_n 2, 1) := by decide +kernel
theorem d_D_form_47 : decode c_D_form 47 = .ok (.ifCond .ne 9, 3) := by decide +kernel
theorem d_D_form_50 : decode c_D_form 50 = .ok (.aload_n 0, 1) := by decide +kernel
theorem d_D_form_51 : decode c_D_form 51 = .ok (.iconst 1, 1) := by decide +kernel
theorem d_D_form_52 : decode c_D_form 52 = .ok (.iload_n 1, 1) := by decide +kernel
theorem d_D_form_53 : decode c_D_form 53 = .ok (.invokevirtual 133, 3) := by decide +kernel
theorem d_D_form_56 : decode c_D_form 56 = .ok (.iinc 1 1, 3) := by decide +kernel
theorem d_D_form_59 : decode c_D_form 59 = .ok (.goto (-44), 3) := by decide +kernel
theorem d_D_form_62 : decode c_D_form 62 = .ok (.iconst 0, 1) := by decide +kernel
theorem d_D_form_63 : decode c_D_form 63 = .ok (.istore_n 1, 1) := by decide +kernel
theorem d_D_form_64 : decode c_D_form 64 = .ok (.iload_n 1, 1) := by decide +kernel
theorem d_D_form_65 : decode c_D_form 65 = .ok (.aload_n 0, 1) := by decide +kernel
theorem d_D_form_66 : decode c_D_form 66 = .ok (.getfield 121, 3) := by decide +kernel
theorem d_D_form_69 : decode c_D_form 69 = .ok (.if_icmp .ge 101, 3) := by decide +kernel
theorem d_D_form_72 : decode c_D_form 72 = .ok (.aload_n 0, 1) := by decide +kernel
theorem d_D_form_73 : decode c_D_form 73 = .ok (.getfield 30, 3) := by decide +kernel
theorem d_D_form_76 : decode c_D_form 76 = .ok (.iload_n 1, 1) := by decide +kernel
theorem d_D_form_77 : decode c_D_form 77 = .ok (.iaload, 1) := by decide +kernel
theorem d_D_form_78 : decode c_D_form 78 = .ok (.ifCond .lt 77, 3) := by decide +kernel
theorem d_D_form_81 : decode c_D_form 81 = .ok (.aload_n 0, 1) := by decide +kernel
theorem d_D_form_82 : decode c_D_form 82 = .ok (.getfield 30, 3) := by decide +kernel
theorem d_D_form_85 : decode c_D_form 85 = .ok (.iload_n 1, 1) := by decide +kernel
theorem d_D_form_86 : decode c_D_form 86 = .ok (.iaload, 1) := by decide +kernel
theorem d_D_form_87 : decode c_D_form 87 = .ok (.aload_n 0, 1) := by decide +kernel
theorem d_D_form_88 : decode c_D_form 88 = .ok (.getfield 33, 3) := by decide +kernel
theorem d_D_form_91 : decode c_D_form 91 = .ok (.iload_n 1, 1) := by decide +kernel
theorem d_D_form_92 : decode c_D_form 92 = .ok (.iaload, 1) := by decide +kernel
theorem d_D_form_93 : decode c_D_form 93 = .ok (.if_icmp .ge 62, 3) := by decide +kernel
theorem d_D_form_96 : decode c_D_form 96 = .ok (.aload_n 0, 1) := by decide +kernel
theorem d_D_form_97 : decode c_D_form 97 = .ok (.getfield 33, 3) := by decide +kernel
theorem d_D_form_100 : decode c_D_form 100 = .ok (.iload_n 1, 1) := by decide +kernel
theorem d_D_form_101 : decode c_D_form 101 = .ok (.iaload, 1) := by decide +kernel
theorem d_D_form_102 : decode c_D_form 102 = .ok (.aload_n 0, 1) := by decide +kernel
theorem d_D_form_103 : decode c_D_form 103 = .ok (.getfield 118, 3) := by decide +kernel
theorem d_D_form_106 : decode c_D_form 106 = .ok (.if_icmp .gt 49, 3) := by decide +kernel
theorem d_D_form_109 : decode c_D_form 109 = .ok (.aload_n 0, 1) := by decide +kernel
theorem d_D_form_110 : decode c_D_form 110 = .ok (.aload_n 0, 1) := by decide +kernel
theorem d_D_form_111 : decode c_D_form 111 = .ok (.getfield 36, 3) := by decide +kernel
theorem d_D_form_114 : decode c_D_form 114 = .ok (.iload_n 1, 1) := by decide +kernel
theorem d_D_form_115 : decode c_D_form 115 = .ok (.iaload, 1) := by decide +kernel
theorem d_D_form_116 : decode c_D_form 116 = .ok (.invokevirtual 127, 3) := by decide +kernel
theorem d_D_form_119 : decode c_D_form 119 = .ok (.ifCond .eq 36, 3) := by decide +kernel
theorem d_D_form_122 : decode c_D_form 122 = .ok (.aload_n 0, 1) := by decide +kernel
theorem d_D_form_123 : decode c_D_form 123 = .ok (.getfield 39, 3) := by decide +kernel
theorem d_D_form_126 : decode c_D_form 126 = .ok (.iload_n 1, 1) := by decide +kernel
theorem d_D_form_127 : decode c_D_form 127 = .ok (.iaload, 1) := by decide +kernel
theorem d_D_form_128 : decode c_D_form 128 = .ok (.iconst 0, 1) := by decide +kernel
theorem d_D_form_129 : decode c_D_form 129 = .ok (.aload_n 0, 1) := by decide +kernel
theorem d_D_form_130 : decode c_D_form 130 = .ok (.getfield 17, 3) := by decide +kernel
theorem d_D_form_133 : decode c_D_form 133 = .ok (.iconst 1, 1) := by decide +kernel
theorem d_D_form_134 : decode c_D_form 134 = .ok (.isub, 1) := by decide +kernel
theorem d_D_form_135 : decode c_D_form 135 = .ok (.invokestatic 91, 3) := by decide +kernel
theorem d_D_form_138 : decode c_D_form 138 = .ok (.ifCond .eq 17, 3) := by decide +kernel
theorem d_D_form_141 : decode c_D_form 141 = .ok (.aload_n 0, 1) := by decide +kernel
theorem d_D_form_142 : decode c_D_form 142 = .ok (.aload_n 0, 1) := by decide +kernel
theorem d_D_form_143 : decode c_D_form 143 = .ok (.getfield 39, 3) := by decide +kernel
theorem d_D_form_146 : decode c_D_form 146 = .ok (.iload_n 1, 1) := by decide +kernel
theorem d_D_form_147 : decode c_D_form 147 = .ok (.iaload, 1) := by decide +kernel
theorem d_D_form_148 : decode c_D_form 148 = .ok (.iconst 1, 1) := by decide +kernel
theorem d_D_form_149 : decode c_D_form 149 = .ok (.invokevirtual 102, 3) := by decide +kernel
theorem d_D_form_152 : decode c_D_form 152 = .ok (.ifCond .ne 12, 3) := by decide +kernel
theorem d_D_form_155 : decode c_D_form 155 = .ok (.aload_n 0, 1) := by decide +kernel
theorem d_D_form_156 : decode c_D_form 156 = .ok (.iconst 1, 1) := by decide +kernel
theorem d_D_form_157 : decode c_D_form 157 = .ok (.bipush 100, 2) := by decide +kernel
theorem d_D_form_159 : decode c_D_form 159 = .ok (.iload_n 1, 1) := by decide +kernel
theorem d_D_form_160 : decode c_D_form 160 = .ok (.iadd, 1) := by decide +kernel
theorem d_D_form_161 : decode c_D_form 161 = .ok (.invokevirtual 133, 3) := by decide +kernel
theorem d_D_form_164 : decode c_D_form 164 = .ok (.iinc 1 1, 3) := by decide +kernel
theorem d_D_form_167 : decode c_D_form 167 = .ok (.goto (-103), 3) := by decide +kernel
theorem d_D_form_170 : decode c_D_form 170 = .ok (.iconst 0, 1) := by decide +kernel
theorem d_D_form_171 : decode c_D_form 171 = .ok (.istore_n 1, 1) := by decide +kernel
theorem d_D_form_172 : decode c_D_form 172 = .ok (.iconst 0, 1) := by decide +kernel
theorem d_D_form_173 : decode c_D_form 173 = .ok (.istore_n 2, 1) := by decide +kernel
theorem d_D_form_174 : decode c_D_form 174 = .ok (.iload_n 2, 1) := by decide +kernel
theorem d_D_form_175 : decode c_D_form 175 = .ok (.aload_n 0, 1) := by decide +kernel
theorem d_D_form_176 : decode c_D_form 176 = .ok (.getfield 124, 3) := by decide +kernel
theorem d_D_form_179 : decode c_D_form 179 = .ok (.if_icmp .ge 29, 3) := by decide +kernel
theorem d_D_form_182 : decode c_D_form 182 = .ok (.iload_n 1, 1) := by decide +kernel
theorem d_D_form_183 : decode c_D_form 183 = .ok (.aload_n 0, 1) := by decide +kernel
theorem d_D_form_184 : decode c_D_form 184 = .ok (.getfield 42, 3) := by decide +kernel
theorem d_D_form_187 : decode c_D_form 187 = .ok (.iload_n 2, 1) := by decide +kernel
theorem d_D_form_188 : decode c_D_form 188 = .ok (.iaload, 1) := by decide +kernel
theorem d_D_form_189 : decode c_D_form 189 = .ok (.invokestatic 140, 3) := by decide +kernel
theorem d_D_form_192 : decode c_D_form 192 = .ok (.ifCond .eq 7, 3) := by decide +kernel
theorem d_D_form_195 : decode c_D_form 195 = .ok (.iconst 2, 1) := by decide +kernel
theorem d_D_form_196 : decode c_D_form 196 = .ok (.goto 4, 3) := by decide +kernel
theorem d_D_form_199 : decode c_D_form 199 = .ok (.iconst 1, 1) := by decide +kernel
theorem d_D_form_200 : decode c_D_form 200 = .ok (.iadd, 1) := by decide +kernel
theorem d_D_form_201 : decode c_D_form 201 = .ok (.istore_n 1, 1) := by decide +kernel
theorem d_D_form_202 : decode c_D_form 202 = .ok (.iinc 2 1, 3) := by decide +kernel
theorem d_D_form_205 : decode c_D_form 205 = .ok (.goto (-31), 3) := by decide +kernel
theorem d_D_form_208 : decode c_D_form 208 = .ok (.iload_n 1, 1) := by decide +kernel
theorem d_D_form_209 : decode c_D_form 209 = .ok (.aload_n 0, 1) := by decide +kernel
theorem d_D_form_210 : decode c_D_form 210 = .ok (.getfield 112, 3) := by decide +kernel
theorem d_D_form_213 : decode c_D_form 213 = .ok (.if_icmp .le 11, 3) := by decide +kernel
theorem d_D_form_216 : decode c_D_form 216 = .ok (.aload_n 0, 1) := by decide +kernel
theorem d_D_form_217 : decode c_D_form 217 = .ok (.iconst 1, 1) := by decide +kernel
theorem d_D_form_218 : decode c_D_form 218 = .ok (.sipush 200, 3) := by decide +kernel
theorem d_D_form_221 : decode c_D_form 221 = .ok (.invokevirtual 133, 3) := by decide +kernel
theorem d_D_form_224 : decode c_D_form 224 = .ok (.return_, 1) := by decide +kernel
theorem d_D_verify_0 : decode c_D_verify 0 = .ok (.aload_n 0, 1) := by decide +kernel
theorem d_D_verify_1 : decode c_D_verify 1 = .ok (.iconst 0, 1) := by decide +kernel
theorem d_D_verify_2 : decode c_D_verify 2 = .ok (.putfield 130, 3) := by decide +kernel
theorem d_D_verify_5 : decode c_D_verify 5 = .ok (.aload_n 0, 1) := by decide +kernel
theorem d_D_verify_6 : decode c_D_verify 6 = .ok (.iconst (-1), 1) := by decide +kernel
theorem d_D_verify_7 : decode c_D_verify 7 = .ok (.putfield 88, 3) := by decide +kernel
theorem d_D_verify_10 : decode c_D_verify 10 = .ok (.aload_n 0, 1) := by decide +kernel
theorem d_D_verify_11 : decode c_D_verify 11 = .ok (.iconst 0, 1) := by decide +kernel
theorem d_D_verify_12 : decode c_D_verify 12 = .ok (.putfield 143, 3) := by decide +kernel
theorem d_D_verify_15 : decode c_D_verify 15 = .ok (.iconst 0, 1) := by decide +kernel
theorem d_D_verify_16 : decode c_D_verify 16 = .ok (.istore_n 1, 1) := by decide +kernel
theorem d_D_verify_17 : decode c_D_verify 17 = .ok (.iload_n 1, 1) := by decide +kernel
theorem d_D_verify_18 : decode c_D_verify 18 = .ok (.bipush 48, 2) := by decide +kernel
theorem d_D_verify_20 : decode c_D_verify 20 = .ok (.if_icmp .ge 30, 3) := by decide +kernel
theorem d_D_verify_23 : decode c_D_verify 23 = .ok (.aload_n 0, 1) := by decide +kernel
theorem d_D_verify_24 : decode c_D_verify 24 = .ok (.getfield 45, 3) := by decide +kernel
theorem d_D_verify_27 : decode c_D_verify 27 = .ok (.iload_n 1, 1) := by decide +kernel
theorem d_D_verify_28 : decode c_D_verify 28 = .ok (.iconst 0, 1) := by decide +kernel
theorem d_D_verify_29 : decode c_D_verify 29 = .ok (.bastore, 1) := by decide +kernel
theorem d_D_verify_30 : decode c_D_verify 30 = .ok (.aload_n 0, 1) := by decide +kernel
theorem d_D_verify_31 : decode c_D_verify 31 = .ok (.getfield 48, 3) := by decide +kernel
theorem d_D_verify_34 : decode c_D_verify 34 = .ok (.iload_n 1, 1) := by decide +kernel
theorem d_D_verify_35 : decode c_D_verify 35 = .ok (.iconst 0, 1) := by decide +kernel
theorem d_D_verify_36 : decode c_D_verify 36 = .ok (.bastore, 1) := by decide +kernel
theorem d_D_verify_37 : decode c_D_verify 37 = .ok (.aload_n 0, 1) := by decide +kernel
theorem d_D_verify_38 : decode c_D_verify 38 = .ok (.getfield 67, 3) := by decide +kernel
theorem d_D_verify_41 : decode c_D_verify 41 = .ok (.iload_n 1, 1) := by decide +kernel
theorem d_D_verify_42 : decode c_D_verify 42 = .ok (.lconst 0, 1) := by decide +kernel
theorem d_D_verify_43 : decode c_D_verify 43 = .ok (.lastore, 1) := by decide +kernel
theorem d_D_verify_44 : decode c_D_verify 44 = .ok (.iinc 1 1, 3) := by decide +kernel
theorem d_D_verify_47 : decode c_D_verify 47 = .ok (.goto (-30), 3) := by decide +kernel
theorem d_D_verify_50 : decode c_D_verify 50 = .ok (.aload_n 0, 1) := by decide +kernel
theorem d_D_verify_51 : decode c_D_verify 51 = .ok (.invokevirtual 146, 3) := by decide +kernel
theorem d_D_verify_54 : decode c_D_verify 54 = .ok (.aload_n 0, 1) := by decide +kernel
theorem d_D_verify_55 : decode c_D_verify 55 = .ok (.getfield 130, 3) := by decide +kernel
theorem d_D_verify_58 : decode c_D_verify 58 = .ok (.ifCond .ne 7, 3) := by decide +kernel
theorem d_D_verify_61 : decode c_D_verify 61 = .ok (.aload_n 0, 1) := by decide +kernel
theorem d_D_verify_62 : decode c_D_verify 62 = .ok (.invokevirtual 149, 3) := by decide +kernel
theorem d_D_verify_65 : decode c_D_verify 65 = .ok (.aload_n 0, 1) := by decide +kernel
theorem d_D_verify_66 : decode c_D_verify 66 = .ok (.getfield 130, 3) := by decide +kernel
theorem d_D_verify_69 : decode c_D_verify 69 = .ok (.ifCond .ne 67, 3) := by decide +kernel
theorem d_D_verify_72 : decode c_D_verify 72 = .ok (.iconst 0, 1) := by decide +kernel
theorem d_D_verify_73 : decode c_D_verify 73 = .ok (.istore_n 1, 1) := by decide +kernel
theorem d_D_verify_74 : decode c_D_verify 74 = .ok (.iload_n 1, 1) := by decide +kernel
theorem d_D_verify_75 : decode c_D_verify 75 = .ok (.aload_n 0, 1) := by decide +kernel
theorem d_D_verify_76 : decode c_D_verify 76 = .ok (.getfield 118, 3) := by decide +kernel
theorem d_D_verify_79 : decode c_D_verify 79 = .ok (.if_icmp .ge 18, 3) := by decide +kernel
theorem d_D_verify_82 : decode c_D_verify 82 = .ok (.aload_n 0, 1) := by decide +kernel
theorem d_D_verify_83 : decode c_D_verify 83 = .ok (.getfield 48, 3) := by decide +kernel
theorem d_D_verify_86 : decode c_D_verify 86 = .ok (.iload_n 1, 1) := by decide +kernel
theorem d_D_verify_87 : decode c_D_verify 87 = .ok (.baload, 1) := by decide +kernel
theorem d_D_verify_88 : decode c_D_verify 88 = .ok (.ifCond .ne 9, 3) := by decide +kernel
theorem d_D_verify_91 : decode c_D_verify 91 = .ok (.iinc 1 1, 3) := by decide +kernel
theorem d_D_verify_94 : decode c_D_verify 94 = .ok (.goto (-20), 3) := by decide +kernel
theorem d_D_verify_97 : decode c_D_verify 97 = .ok (.iload_n 1, 1) := by decide +kernel
theorem d_D_verify_98 : decode c_D_verify 98 = .ok (.aload_n 0, 1) := by decide +kernel
theorem d_D_verify_99 : decode c_D_verify 99 = .ok (.getfield 118, 3) := by decide +kernel
theorem d_D_verify_102 : decode c_D_verify 102 = .ok (.if_icmp .ne 6, 3) := by decide +kernel
theorem d_D_verify_105 : decode c_D_verify 105 = .ok (.goto 31, 3) := by decide +kernel
theorem d_D_verify_108 : decode c_D_verify 108 = .ok (.aload_n 0, 1) := by decide +kernel
theorem d_D_verify_109 : decode c_D_verify 109 = .ok (.getfield 143, 3) := by decide +kernel
theorem d_D_verify_112 : decode c_D_verify 112 = .ok (.sipush 2999, 3) := by decide +kernel
theorem d_D_verify_115 : decode c_D_verify 115 = .ok (.if_icmp .ne 13, 3) := by decide +kernel
theorem d_D_verify_118 : decode c_D_verify 118 = .ok (.aload_n 0, 1) := by decide +kernel
theorem d_D_verify_119 : decode c_D_verify 119 = .ok (.bipush 9, 2) := by decide +kernel
theorem d_D_verify_121 : decode c_D_verify 121 = .ok (.iload_n 1, 1) := by decide +kernel
theorem d_D_verify_122 : decode c_D_verify 122 = .ok (.invokevirtual 133, 3) := by decide +kernel
theorem d_D_verify_125 : decode c_D_verify 125 = .ok (.goto 8, 3) := by decide +kernel
theorem d_D_verify_128 : decode c_D_verify 128 = .ok (.aload_n 0, 1) := by decide +kernel
theorem d_D_verify_129 : decode c_D_verify 129 = .ok (.iload_n 1, 1) := by decide +kernel
theorem d_D_verify_130 : decode c_D_verify 130 = .ok (.invokevirtual 152, 3) := by decide +kernel
theorem d_D_verify_133 : decode c_D_verify 133 = .ok (.goto (-68), 3) := by decide +kernel
theorem d_D_verify_136 : decode c_D_verify 136 = .ok (.aload_n 0, 1) := by decide +kernel
theorem d_D_verify_137 : decode c_D_verify 137 = .ok (.getfield 130, 3) := by decide +kernel
theorem d_D_verify_140 : decode c_D_verify 140 = .ok (.ifCond .ne 13, 3) := by decide +kernel
theorem d_D_verify_143 : decode c_D_verify 143 = .ok (.aload_n 0, 1) := by decide +kernel
theorem d_D_verify_144 : decode c_D_verify 144 = .ok (.dup, 1) := by decide +kernel
theorem d_D_verify_145 : decode c_D_verify 145 = .ok (.getfield 156, 3) := by decide +kernel
theorem d_D_verify_148 : decode c_D_verify 148 = .ok (.iconst 1, 1) := by decide +kernel
theorem d_D_verify_149 : decode c_D_verify 149 = .ok (.iadd, 1) := by decide +kernel
theorem d_D_verify_150 : decode c_D_verify 150 = .ok (.putfield 156, 3) := by decide +kernel
theorem d_D_verify_153 : decode c_D_verify 153 = .ok (.aload_n 0, 1) := by decide +kernel
theorem d_D_verify_154 : decode c_D_verify 154 = .ok (.iconst 0, 1) := by decide +kernel
theorem d_D_verify_155 : decode c_D_verify 155 = .ok (.putfield 159, 3) := by decide +kernel
theorem d_D_verify_158 : decode c_D_verify 158 = .ok (.aload_n 0, 1) := by decide +kernel
theorem d_D_verify_159 : decode c_D_verify 159 = .ok (.lconst 0, 1) := by decide +kernel
theorem d_D_verify_160 : decode c_D_verify 160 = .ok (.putfield 162, 3) := by decide +kernel
theorem d_D_verify_163 : decode c_D_verify 163 = .ok (.iconst 0, 1) := by decide +kernel
theorem d_D_verify_164 : decode c_D_verify 164 = .ok (.istore_n 1, 1) := by decide +kernel
theorem d_D_verify_165 : decode c_D_verify 165 = .ok (.iload_n 1, 1) := by decide +kernel
theorem d_D_verify_166 : decode c_D_verify 166 = .ok (.aload_n 0, 1) := by decide +kernel
theorem d_D_verify_167 : decode c_D_verify 167 = .ok (.getfield 118, 3) := by decide +kernel
theorem d_D_verify_170 : decode c_D_verify 170 = .ok (.if_icmp .ge 56, 3) := by decide +kernel
theorem d_D_verify_173 : decode c_D_verify 173 = .ok (.aload_n 0, 1) := by decide +kernel
theorem d_D_verify_174 : decode c_D_verify 174 = .ok (.getfield 45, 3) := by decide +kernel
theorem d_D_verify_177 : decode c_D_verify 177 = .ok (.iload_n 1, 1) := by decide +kernel
theorem d_D_verify_178 : decode c_D_verify 178 = .ok (.baload, 1) := by decide +kernel
theorem d_D_verify_179 : decode c_D_verify 179 = .ok (.ifCond .eq 41, 3) := by decide +kernel
theorem d_D_verify_182 : decode c_D_verify 182 = .ok (.aload_n 0, 1) := by decide +kernel
theorem d_D_verify_183 : decode c_D_verify 183 = .ok (.dup, 1) := by decide +kernel
theorem d_D_verify_184 : decode c_D_verify 184 = .ok (.getfield 159, 3) := by decide +kernel
theorem d_D_verify_187 : decode c_D_verify 187 = .ok (.iconst 1, 1) := by decide +kernel
theorem d_D_verify_188 : decode c_D_verify 188 = .ok (.iadd, 1) := by decide +kernel
theorem d_D_verify_189 : decode c_D_verify 189 = .ok (.putfield 159, 3) := by decide +kernel
theorem d_D_verify_192 : decode c_D_verify 192 = .ok (.aload_n 0, 1) := by decide +kernel
theorem d_D_verify_193 : decode c_D_verify 193 = .ok (.getfield 21, 3) := by decide +kernel
theorem d_D_verify_196 : decode c_D_verify 196 = .ok (.iload_n 1, 1) := by decide +kernel
theorem d_D_verify_197 : decode c_D_verify 197 = .ok (.iaload, 1) := by decide +kernel
theorem d_D_verify_198 : decode c_D_verify 198 = .ok (.bipush 15, 2) := by decide +kernel
theorem d_D_verify_200 : decode c_D_verify 200 = .ok (.if_icmp .ne 20, 3) := by decide +kernel
theorem d_D_verify_203 : decode c_D_verify 203 = .ok (.aload_n 0, 1) := by decide +kernel
theorem d_D_verify_204 : decode c_D_verify 204 = .ok (.dup, 1) := by decide +kernel
theorem d_D_verify_205 : decode c_D_verify 205 = .ok (.getfield 162, 3) := by decide +kernel
theorem d_D_verify_208 : decode c_D_verify 208 = .ok (.lconst 1, 1) := by decide +kernel
theorem d_D_verify_209 : decode c_D_verify 209 = .ok (.aload_n 0, 1) := by decide +kernel
theorem d_D_verify_210 : decode c_D_verify 210 = .ok (.getfield 27, 3) := by decide +kernel
theorem d_D_verify_213 : decode c_D_verify 213 = .ok (.iload_n 1, 1) := by decide +kernel
theorem d_D_verify_214 : decode c_D_verify 214 = .ok (.iaload, 1) := by decide +kernel
theorem d_D_verify_215 : decode c_D_verify 215 = .ok (.lshl, 1) := by decide +kernel
theorem d_D_verify_216 : decode c_D_verify 216 = .ok (.lor, 1) := by decide +kernel
theorem d_D_verify_217 : decode c_D_verify 217 = .ok (.putfield 162, 3) := by decide +kernel
theorem d_D_verify_220 : decode c_D_verify 220 = .ok (.iinc 1 1, 3) := by decide +kernel
theorem d_D_verify_223 : decode c_D_verify 223 = .ok (.goto (-58), 3) := by decide +kernel
theorem d_D_verify_226 : decode c_D_verify 226 = .ok (.aload_n 0, 1) := by decide +kernel
theorem d_D_verify_227 : decode c_D_verify 227 = .ok (.getfield 130, 3) := by decide +kernel
theorem d_D_verify_230 : decode c_D_verify 230 = .ok (.ireturn, 1) := by decide +kernel
theorem d_D_begins_0 : decode c_D_begins 0 = .ok (.iconst 0, 1) := by decide +kernel
theorem d_D_begins_1 : decode c_D_begins 1 = .ok (.istore_n 1, 1) := by decide +kernel
theorem d_D_begins_2 : decode c_D_begins 2 = .ok (.iconst 0, 1) := by decide +kernel
theorem d_D_begins_3 : decode c_D_begins 3 = .ok (.istore_n 2, 1) := by decide +kernel
theorem d_D_begins_4 : decode c_D_begins 4 = .ok (.iload_n 2, 1) := by decide +kernel
theorem d_D_begins_5 : decode c_D_begins 5 = .ok (.bipush 12, 2) := by decide +kernel
theorem d_D_begins_7 : decode c_D_begins 7 = .ok (.if_icmp .ge 16, 3) := by decide +kernel
theorem d_D_begins_10 : decode c_D_begins 10 = .ok (.aload_n 0, 1) := by decide +kernel
theorem d_D_begins_11 : decode c_D_begins 11 = .ok (.getfield 79, 3) := by decide +kernel
theorem d_D_begins_14 : decode c_D_begins 14 = .ok (.iload_n 2, 1) := by decide +kernel
theorem d_D_begins_15 : decode c_D_begins 15 = .ok (.iconst 0, 1) := by decide +kernel
theorem d_D_begins_16 : decode c_D_begins 16 = .ok (.iastore, 1) := by decide +kernel
theorem d_D_begins_17 : decode c_D_begins 17 = .ok (.iinc 2 1, 3) := by decide +kernel
theorem d_D_begins_20 : decode c_D_begins 20 = .ok (.goto (-16), 3) := by decide +kernel
theorem d_D_begins_23 : decode c_D_begins 23 = .ok (.iconst 0, 1) := by decide +kernel
theorem d_D_begins_24 : decode c_D_begins 24 = .ok (.istore_n 2, 1) := by decide +kernel
theorem d_D_begins_25 : decode c_D_begins 25 = .ok (.iload_n 2, 1) := by decide +kernel
theorem d_D_begins_26 : decode c_D_begins 26 = .ok (.aload_n 0, 1) := by decide +kernel
theorem d_D_begins_27 : decode c_D_begins 27 = .ok (.getfield 124, 3) := by decide +kernel
theorem d_D_begins_30 : decode c_D_begins 30 = .ok (.if_icmp .ge 41, 3) := by decide +kernel
theorem d_D_begins_33 : decode c_D_begins 33 = .ok (.aload_n 0, 1) := by decide +kernel
theorem d_D_begins_34 : decode c_D_begins 34 = .ok (.getfield 79, 3) := by decide +kernel
theorem d_D_begins_37 : decode c_D_begins 37 = .ok (.iload_n 1, 1) := by decide +kernel
theorem d_D_begins_38 : decode c_D_begins 38 = .ok (.aload_n 0, 1) := by decide +kernel
theorem d_D_begins_39 : decode c_D_begins 39 = .ok (.getfield 42, 3) := by decide +kernel
theorem d_D_begins_42 : decode c_D_begins 42 = .ok (.iload_n 2, 1) := by decide +kernel
theorem d_D_begins_43 : decode c_D_begins 43 = .ok (.iaload, 1) := by decide +kernel
theorem d_D_begins_44 : decode c_D_begins 44 = .ok (.iastore, 1) := by decide +kernel
theorem d_D_begins_45 : decode c_D_begins 45 = .ok (.iload_n 1, 1) := by decide +kernel
theorem d_D_begins_46 : decode c_D_begins 46 = .ok (.aload_n 0, 1) := by decide +kernel
theorem d_D_begins_47 : decode c_D_begins 47 = .ok (.getfield 42, 3) := by decide +kernel
theorem d_D_begins_50 : decode c_D_begins 50 = .ok (.iload_n 2, 1) := by decide +kernel
theorem d_D_begins_51 : decode c_D_begins 51 = .ok (.iaload, 1) := by decide +kernel
theorem d_D_begins_52 : decode c_D_begins 52 = .ok (.invokestatic 140, 3) := by decide +kernel
theorem d_D_begins_55 : decode c_D_begins 55 = .ok (.ifCond .eq 7, 3) := by decide +kernel
theorem d_D_begins_58 : decode c_D_begins 58 = .ok (.iconst 2, 1) := by decide +kernel
theorem d_D_begins_59 : decode c_D_begins 59 = .ok (.goto 4, 3) := by decide +kernel
theorem d_D_begins_62 : decode c_D_begins 62 = .ok (.iconst 1, 1) := by decide +kernel
theorem d_D_begins_63 : decode c_D_begins 63 = .ok (.iadd, 1) := by decide +kernel
theorem d_D_begins_64 : decode c_D_begins 64 = .ok (.istore_n 1, 1) := by decide +kernel
theorem d_D_begins_65 : decode c_D_begins 65 = .ok (.iinc 2 1, 3) := by decide +kernel
theorem d_D_begins_68 : decode c_D_begins 68 = .ok (.goto (-43), 3) := by decide +kernel
theorem d_D_begins_71 : decode c_D_begins 71 = .ok (.aload_n 0, 1) := by decide +kernel
theorem d_D_begins_72 : decode c_D_begins 72 = .ok (.iconst 0, 1) := by decide +kernel
theorem d_D_begins_73 : decode c_D_begins 73 = .ok (.putfield 166, 3) := by decide +kernel
theorem d_D_begins_76 : decode c_D_begins 76 = .ok (.aload_n 0, 1) := by decide +kernel
theorem d_D_begins_77 : decode c_D_begins 77 = .ok (.lconst 0, 1) := by decide +kernel
theorem d_D_begins_78 : decode c_D_begins 78 = .ok (.putfield 169, 3) := by decide +kernel
theorem d_D_begins_81 : decode c_D_begins 81 = .ok (.aload_n 0, 1) := by decide +kernel
theorem d_D_begins_82 : decode c_D_begins 82 = .ok (.iconst 0, 1) := by decide +kernel
theorem d_D_begins_83 : decode c_D_begins 83 = .ok (.invokevirtual 172, 3) := by decide +kernel
theorem d_D_begins_86 : decode c_D_begins 86 = .ok (.return_, 1) := by decide +kernel
theorem d_D_meet_0 : decode c_D_meet 0 = .ok (.aload_n 0, 1) := by decide +kernel
theorem d_D_meet_1 : decode c_D_meet 1 = .ok (.getfield 45, 3) := by decide +kernel
theorem d_D_meet_4 : decode c_D_meet 4 = .ok (.iload_n 1, 1) := by decide +kernel
theorem d_D_meet_5 : decode c_D_meet 5 = .ok (.baload, 1) := by decide +kernel
theorem d_D_meet_6 : decode c_D_meet 6 = .ok (.ifCond .ne 133, 3) := by decide +kernel
theorem d_D_meet_9 : decode c_D_meet 9 = .ok (.aload_n 0, 1) := by decide +kernel
theorem d_D_meet_10 : decode c_D_meet 10 = .ok (.getfield 45, 3) := by decide +kernel
theorem d_D_meet_13 : decode c_D_meet 13 = .ok (.iload_n 1, 1) := by decide +kernel
theorem d_D_meet_14 : decode c_D_meet 14 = .ok (.iconst 1, 1) := by decide +kernel
theorem d_D_meet_15 : decode c_D_meet 15 = .ok (.bastore, 1) := by decide +kernel
theorem d_D_meet_16 : decode c_D_meet 16 = .ok (.aload_n 0, 1) := by decide +kernel
theorem d_D_meet_17 : decode c_D_meet 17 = .ok (.getfield 48, 3) := by decide +kernel
theorem d_D_meet_20 : decode c_D_meet 20 = .ok (.iload_n 1, 1) := by decide +kernel
theorem d_D_meet_21 : decode c_D_meet 21 = .ok (.iconst 1, 1) := by decide +kernel
theorem d_D_meet_22 : decode c_D_meet 22 = .ok (.bastore, 1) := by decide +kernel
theorem d_D_meet_23 : decode c_D_meet 23 = .ok (.aload_n 0, 1) := by decide +kernel
theorem d_D_meet_24 : decode c_D_meet 24 = .ok (.getfield 57, 3) := by decide +kernel
theorem d_D_meet_27 : decode c_D_meet 27 = .ok (.iload_n 1, 1) := by decide +kernel
theorem d_D_meet_28 : decode c_D_meet 28 = .ok (.aload_n 0, 1) := by decide +kernel
theorem d_D_meet_29 : decode c_D_meet 29 = .ok (.getfield 166, 3) := by decide +kernel
theorem d_D_meet_32 : decode c_D_meet 32 = .ok (.iastore, 1) := by decide +kernel
theorem d_D_meet_33 : decode c_D_meet 33 = .ok (.aload_n 0, 1) := by decide +kernel
theorem d_D_meet_34 : decode c_D_meet 34 = .ok (.getfield 63, 3) := by decide +kernel
theorem d_D_meet_37 : decode c_D_meet 37 = .ok (.iload_n 1, 1) := by decide +kernel
theorem d_D_meet_38 : decode c_D_meet 38 = .ok (.aload_n 0, 1) := by decide +kernel
theorem d_D_meet_39 : decode c_D_meet 39 = .ok (.getfield 169, 3) := by decide +kernel
theorem d_D_meet_42 : decode c_D_meet 42 = .ok (.lastore, 1) := by decide +kernel
theorem d_D_meet_43 : decode c_D_meet 43 = .ok (.iconst 0, 1) := by decide +kernel
theorem d_D_meet_44 : decode c_D_meet 44 = .ok (.istore_n 2, 1) := by decide +kernel
theorem d_D_meet_45 : decode c_D_meet 45 = .ok (.iload_n 2, 1) := by decide +kernel
theorem d_D_meet_46 : decode c_D_meet 46 = .ok (.bipush 12, 2) := by decide +kernel
theorem d_D_meet_48 : decode c_D_meet 48 = .ok (.if_icmp .ge 26, 3) := by decide +kernel
theorem d_D_meet_51 : decode c_D_meet 51 = .ok (.aload_n 0, 1) := by decide +kernel
theorem d_D_meet_52 : decode c_D_meet 52 = .ok (.getfield 51, 3) := by decide +kernel
theorem d_D_meet_55 : decode c_D_meet 55 = .ok (.bipush 12, 2) := by decide +kernel
theorem d_D_meet_57 : decode c_D_meet 57 = .ok (.iload_n 1, 1) := by decide +kernel
theorem d_D_meet_58 : decode c_D_meet 58 = .ok (.imul, 1) := by decide +kernel
theorem d_D_meet_59 : decode c_D_meet 59 = .ok (.iload_n 2, 1) := by decide +kernel
theorem d_D_meet_60 : decode c_D_meet 60 = .ok (.iadd, 1) := by decide +kernel
theorem d_D_meet_61 : decode c_D_meet 61 = .ok (.aload_n 0, 1) := by decide +kernel
theorem d_D_meet_62 : decode c_D_meet 62 = .ok (.getfield 79, 3) := by decide +kernel
theorem d_D_meet_65 : decode c_D_meet 65 = .ok (.iload_n 2, 1) := by decide +kernel
theorem d_D_meet_66 : decode c_D_meet 66 = .ok (.iaload, 1) := by decide +kernel
theorem d_D_meet_67 : decode c_D_meet 67 = .ok (.iastore, 1) := by decide +kernel
theorem d_D_meet_68 : decode c_D_meet 68 = .ok (.iinc 2 1, 3) := by decide +kernel
theorem d_D_meet_71 : decode c_D_meet 71 = .ok (.goto (-26), 3) := by decide +kernel
theorem d_D_meet_74 : decode c_D_meet 74 = .ok (.iconst 0, 1) := by decide +kernel
theorem d_D_meet_75 : decode c_D_meet 75 = .ok (.istore_n 2, 1) := by decide +kernel
theorem d_D_meet_76 : decode c_D_meet 76 = .ok (.iload_n 2, 1) := by decide +kernel
theorem d_D_meet_77 : decode c_D_meet 77 = .ok (.aload_n 0, 1) := by decide +kernel
theorem d_D_meet_78 : decode c_D_meet 78 = .ok (.getfield 166, 3) := by decide +kernel
theorem d_D_meet_81 : decode c_D_meet 81 = .ok (.if_icmp .ge 26, 3) := by decide +kernel
theorem d_D_meet_84 : decode c_D_meet 84 = .ok (.aload_n 0, 1) := by decide +kernel
theorem d_D_meet_85 : decode c_D_meet 85 = .ok (.getfield 54, 3) := by decide +kernel
theorem d_D_meet_88 : decode c_D_meet 88 = .ok (.bipush 12, 2) := by decide +kernel
theorem d_D_meet_90 : decode c_D_meet 90 = .ok (.iload_n 1, 1) := by decide +kernel
theorem d_D_meet_91 : decode c_D_meet 91 = .ok (.imul, 1) := by decide +kernel
theorem d_D_meet_92 : decode c_D_meet 92 = .ok (.iload_n 2, 1) := by decide +kernel
theorem d_D_meet_93 : decode c_D_meet 93 = .ok (.iadd, 1) := by decide +kernel
theorem d_D_meet_94 : decode c_D_meet 94 = .ok (.aload_n 0, 1) := by decide +kernel
theorem d_D_meet_95 : decode c_D_meet 95 = .ok (.getfield 82, 3) := by decide +kernel
theorem d_D_meet_98 : decode c_D_meet 98 = .ok (.iload_n 2, 1) := by decide +kernel
theorem d_D_meet_99 : decode c_D_meet 99 = .ok (.iaload, 1) := by decide +kernel
theorem d_D_meet_100 : decode c_D_meet 100 = .ok (.iastore, 1) := by decide +kernel
theorem d_D_meet_101 : decode c_D_meet 101 = .ok (.iinc 2 1, 3) := by decide +kernel
theorem d_D_meet_104 : decode c_D_meet 104 = .ok (.goto (-28), 3) := by decide +kernel
theorem d_D_meet_107 : decode c_D_meet 107 = .ok (.iconst 0, 1) := by decide +kernel
theorem d_D_meet_108 : decode c_D_meet 108 = .ok (.istore_n 2, 1) := by decide +kernel
theorem d_D_meet_109 : decode c_D_meet 109 = .ok (.iload_n 2, 1) := by decide +kernel
theorem d_D_meet_110 : decode c_D_meet 110 = .ok (.bipush 48, 2) := by decide +kernel
theorem d_D_meet_112 : decode c_D_meet 112 = .ok (.if_icmp .ge 26, 3) := by decide +kernel
theorem d_D_meet_115 : decode c_D_meet 115 = .ok (.aload_n 0, 1) := by decide +kernel
theorem d_D_meet_116 : decode c_D_meet 116 = .ok (.getfield 60, 3) := by decide +kernel
theorem d_D_meet_119 : decode c_D_meet 119 = .ok (.bipush 48, 2) := by decide +kernel
theorem d_D_meet_121 : decode c_D_meet 121 = .ok (.iload_n 1, 1) := by decide +kernel
theorem d_D_meet_122 : decode c_D_meet 122 = .ok (.imul, 1) := by decide +kernel
theorem d_D_meet_123 : decode c_D_meet 123 = .ok (.iload_n 2, 1) := by decide +kernel
theorem d_D_meet_124 : decode c_D_meet 124 = .ok (.iadd, 1) := by decide +kernel
theorem d_D_meet_125 : decode c_D_meet 125 = .ok (.aload_n 0, 1) := by decide +kernel
theorem d_D_meet_126 : decode c_D_meet 126 = .ok (.getfield 85, 3) := by decide +kernel
theorem d_D_meet_129 : decode c_D_meet 129 = .ok (.iload_n 2, 1) := by decide +kernel
theorem d_D_meet_130 : decode c_D_meet 130 = .ok (.iaload, 1) := by decide +kernel
theorem d_D_meet_131 : decode c_D_meet 131 = .ok (.iastore, 1) := by decide +kernel
theorem d_D_meet_132 : decode c_D_meet 132 = .ok (.iinc 2 1, 3) := by decide +kernel
theorem d_D_meet_135 : decode c_D_meet 135 = .ok (.goto (-26), 3) := by decide +kernel
theorem d_D_meet_138 : decode c_D_meet 138 = .ok (.return_, 1) := by decide +kernel
theorem d_D_meet_139 : decode c_D_meet 139 = .ok (.aload_n 0, 1) := by decide +kernel
theorem d_D_meet_140 : decode c_D_meet 140 = .ok (.getfield 57, 3) := by decide +kernel
theorem d_D_meet_143 : decode c_D_meet 143 = .ok (.iload_n 1, 1) := by decide +kernel
theorem d_D_meet_144 : decode c_D_meet 144 = .ok (.iaload, 1) := by decide +kernel
theorem d_D_meet_145 : decode c_D_meet 145 = .ok (.aload_n 0, 1) := by decide +kernel
theorem d_D_meet_146 : decode c_D_meet 146 = .ok (.getfield 166, 3) := by decide +kernel
theorem d_D_meet_149 : decode c_D_meet 149 = .ok (.if_icmp .eq 10, 3) := by decide +kernel
theorem d_D_meet_152 : decode c_D_meet 152 = .ok (.aload_n 0, 1) := by decide +kernel
theorem d_D_meet_153 : decode c_D_meet 153 = .ok (.iconst 4, 1) := by decide +kernel
theorem d_D_meet_154 : decode c_D_meet 154 = .ok (.iload_n 1, 1) := by decide +kernel
theorem d_D_meet_155 : decode c_D_meet 155 = .ok (.invokevirtual 133, 3) := by decide +kernel
theorem d_D_meet_158 : decode c_D_meet 158 = .ok (.return_, 1) := by decide +kernel
theorem d_D_meet_159 : decode c_D_meet 159 = .ok (.aload_n 0, 1) := by decide +kernel
theorem d_D_meet_160 : decode c_D_meet 160 = .ok (.getfield 63, 3) := by decide +kernel
theorem d_D_meet_163 : decode c_D_meet 163 = .ok (.iload_n 1, 1) := by decide +kernel
theorem d_D_meet_164 : decode c_D_meet 164 = .ok (.laload, 1) := by decide +kernel
theorem d_D_meet_165 : decode c_D_meet 165 = .ok (.aload_n 0, 1) := by decide +kernel
theorem d_D_meet_166 : decode c_D_meet 166 = .ok (.getfield 169, 3) := by decide +kernel
theorem d_D_meet_169 : decode c_D_meet 169 = .ok (.land, 1) := by decide +kernel
theorem d_D_meet_170 : decode c_D_meet 170 = .ok (.aload_n 0, 1) := by decide +kernel
theorem d_D_meet_171 : decode c_D_meet 171 = .ok (.getfield 63, 3) := by decide +kernel
theorem d_D_meet_174 : decode c_D_meet 174 = .ok (.iload_n 1, 1) := by decide +kernel
theorem d_D_meet_175 : decode c_D_meet 175 = .ok (.laload, 1) := by decide +kernel
theorem d_D_meet_176 : decode c_D_meet 176 = .ok (.lcmp, 1) := by decide +kernel
theorem d_D_meet_177 : decode c_D_meet 177 = .ok (.ifCond .eq 7, 3) := by decide +kernel
theorem d_D_meet_180 : decode c_D_meet 180 = .ok (.iconst 1, 1) := by decide +kernel
theorem d_D_meet_181 : decode c_D_meet 181 = .ok (.goto 4, 3) := by decide +kernel
theorem d_D_meet_184 : decode c_D_meet 184 = .ok (.iconst 0, 1) := by decide +kernel
theorem d_D_meet_185 : decode c_D_meet 185 = .ok (.istore_n 2, 1) := by decide +kernel
theorem d_D_meet_186 : decode c_D_meet 186 = .ok (.aload_n 0, 1) := by decide +kernel
theorem d_D_meet_187 : decode c_D_meet 187 = .ok (.getfield 63, 3) := by decide +kernel
theorem d_D_meet_190 : decode c_D_meet 190 = .ok (.iload_n 1, 1) := by decide +kernel
theorem d_D_meet_191 : decode c_D_meet 191 = .ok (.dup2, 1) := by decide +kernel
theorem d_D_meet_192 : decode c_D_meet 192 = .ok (.laload, 1) := by decide +kernel
theorem d_D_meet_193 : decode c_D_meet 193 = .ok (.aload_n 0, 1) := by decide +kernel
theorem d_D_meet_194 : decode c_D_meet 194 = .ok (.getfield 169, 3) := by decide +kernel
theorem d_D_meet_197 : decode c_D_meet 197 = .ok (.land, 1) := by decide +kernel
theorem d_D_meet_198 : decode c_D_meet 198 = .ok (.lastore, 1) := by decide +kernel
theorem d_D_meet_199 : decode c_D_meet 199 = .ok (.iconst 0, 1) := by decide +kernel
theorem d_D_meet_200 : decode c_D_meet 200 = .ok (.istore_n 3, 1) := by decide +kernel
theorem d_D_meet_201 : decode c_D_meet 201 = .ok (.iload_n 3, 1) := by decide +kernel
theorem d_D_meet_202 : decode c_D_meet 202 = .ok (.bipush 12, 2) := by decide +kernel
theorem d_D_meet_204 : decode c_D_meet 204 = .ok (.if_icmp .ge 69, 3) := by decide +kernel
theorem d_D_meet_207 : decode c_D_meet 207 = .ok (.aload_n 0, 1) := by decide +kernel
theorem d_D_meet_208 : decode c_D_meet 208 = .ok (.aload_n 0, 1) := by decide +kernel
theorem d_D_meet_209 : decode c_D_meet 209 = .ok (.getfield 51, 3) := by decide +kernel
theorem d_D_meet_212 : decode c_D_meet 212 = .ok (.bipush 12, 2) := by decide +kernel
theorem d_D_meet_214 : decode c_D_meet 214 = .ok (.iload_n 1, 1) := by decide +kernel
theorem d_D_meet_215 : decode c_D_meet 215 = .ok (.imul, 1) := by decide +kernel
theorem d_D_meet_216 : decode c_D_meet 216 = .ok (.iload_n 3, 1) := by decide +kernel
theorem d_D_meet_217 : decode c_D_meet 217 = .ok (.iadd, 1) := by decide +kernel
theorem d_D_meet_218 : decode c_D_meet 218 = .ok (.iaload, 1) := by decide +kernel
theorem d_D_meet_219 : decode c_D_meet 219 = .ok (.aload_n 0, 1) := by decide +kernel
theorem d_D_meet_220 : decode c_D_meet 220 = .ok (.getfield 79, 3) := by decide +kernel
theorem d_D_meet_223 : decode c_D_meet 223 = .ok (.iload_n 3, 1) := by decide +kernel
theorem d_D_meet_224 : decode c_D_meet 224 = .ok (.iaload, 1) := by decide +kernel
theorem d_D_meet_225 : decode c_D_meet 225 = .ok (.invokevirtual 175, 3) := by decide +kernel
theorem d_D_meet_228 : decode c_D_meet 228 = .ok (.istore 4, 2) := by decide +kernel
theorem d_D_meet_230 : decode c_D_meet 230 = .ok (.iload_n 2, 1) := by decide +kernel
theorem d_D_meet_231 : decode c_D_meet 231 = .ok (.iload 4, 2) := by decide +kernel
theorem d_D_meet_233 : decode c_D_meet 233 = .ok (.aload_n 0, 1) := by decide +kernel
theorem d_D_meet_234 : decode c_D_meet 234 = .ok (.getfield 51, 3) := by decide +kernel
theorem d_D_meet_237 : decode c_D_meet 237 = .ok (.bipush 12, 2) := by decide +kernel
theorem d_D_meet_239 : decode c_D_meet 239 = .ok (.iload_n 1, 1) := by decide +kernel
theorem d_D_meet_240 : decode c_D_meet 240 = .ok (.imul, 1) := by decide +kernel
theorem d_D_meet_241 : decode c_D_meet 241 = .ok (.iload_n 3, 1) := by decide +kernel
theorem d_D_meet_242 : decode c_D_meet 242 = .ok (.iadd, 1) := by decide +kernel
theorem d_D_meet_243 : decode c_D_meet 243 = .ok (.iaload, 1) := by decide +kernel
theorem d_D_meet_244 : decode c_D_meet 244 = .ok (.if_icmp .eq 7, 3) := by decide +kernel
theorem d_D_meet_247 : decode c_D_meet 247 = .ok (.iconst 1, 1) := by decide +kernel
theorem d_D_meet_248 : decode c_D_meet 248 = .ok (.goto 4, 3) := by decide +kernel
theorem d_D_meet_251 : decode c_D_meet 251 = .ok (.iconst 0, 1) := by decide +kernel
theorem d_D_meet_252 : decode c_D_meet 252 = .ok (.ior, 1) := by decide +kernel
theorem d_D_meet_253 : decode c_D_meet 253 = .ok (.istore_n 2, 1) := by decide +kernel
theorem d_D_meet_254 : decode c_D_meet 254 = .ok (.aload_n 0, 1) := by decide +kernel
theorem d_D_meet_255 : decode c_D_meet 255 = .ok (.getfield 51, 3) := by decide +kernel
theorem d_D_meet_258 : decode c_D_meet 258 = .ok (.bipush 12, 2) := by decide +kernel
theorem d_D_meet_260 : decode c_D_meet 260 = .ok (.iload_n 1, 1) := by decide +kernel
theorem d_D_meet_261 : decode c_D_meet 261 = .ok (.imul, 1) := by decide +kernel
theorem d_D_meet_262 : decode c_D_meet 262 = .ok (.iload_n 3, 1) := by decide +kernel
theorem d_D_meet_263 : decode c_D_meet 263 = .ok (.iadd, 1) := by decide +kernel
theorem d_D_meet_264 : decode c_D_meet 264 = .ok (.iload 4, 2) := by decide +kernel
theorem d_D_meet_266 : decode c_D_meet 266 = .ok (.iastore, 1) := by decide +kernel
theorem d_D_meet_267 : decode c_D_meet 267 = .ok (.iinc 3 1, 3) := by decide +kernel
theorem d_D_meet_270 : decode c_D_meet 270 = .ok (.goto (-69), 3) := by decide +kernel
theorem d_D_meet_273 : decode c_D_meet 273 = .ok (.iconst 0, 1) := by decide +kernel
theorem d_D_meet_274 : decode c_D_meet 274 = .ok (.istore_n 3, 1) := by decide +kernel
theorem d_D_meet_275 : decode c_D_meet 275 = .ok (.iload_n 3, 1) := by decide +kernel
theorem d_D_meet_276 : decode c_D_meet 276 = .ok (.aload_n 0, 1) := by decide +kernel
theorem d_D_meet_277 : decode c_D_meet 277 = .ok (.getfield 166, 3) := by decide +kernel
theorem d_D_meet_280 : decode c_D_meet 280 = .ok (.if_icmp .ge 69, 3) := by decide +kernel
theorem d_D_meet_283 : decode c_D_meet 283 = .ok (.aload_n 0, 1) := by decide +kernel
theorem d_D_meet_284 : decode c_D_meet 284 = .ok (.aload_n 0, 1) := by decide +kernel
theorem d_D_meet_285 : decode c_D_meet 285 = .ok (.getfield 54, 3) := by decide +kernel
theorem d_D_meet_288 : decode c_D_meet 288 = .ok (.bipush 12, 2) := by decide +kernel
theorem d_D_meet_290 : decode c_D_meet 290 = .ok (.iload_n 1, 1) := by decide +kernel
theorem d_D_meet_291 : decode c_D_meet 291 = .ok (.imul, 1) := by decide +kernel
theorem d_D_meet_292 : decode c_D_meet 292 = .ok (.iload_n 3, 1) := by decide +kernel
theorem d_D_meet_293 : decode c_D_meet 293 = .ok (.iadd, 1) := by decide +kernel
theorem d_D_meet_294 : decode c_D_meet 294 = .ok (.iaload, 1) := by decide +kernel
theorem d_D_meet_295 : decode c_D_meet 295 = .ok (.aload_n 0, 1) := by decide +kernel
theorem d_D_meet_296 : decode c_D_meet 296 = .ok (.getfield 82, 3) := by decide +kernel
theorem d_D_meet_299 : decode c_D_meet 299 = .ok (.iload_n 3, 1) := by decide +kernel
theorem d_D_meet_300 : decode c_D_meet 300 = .ok (.iaload, 1) := by decide +kernel
theorem d_D_meet_301 : decode c_D_meet 301 = .ok (.invokevirtual 175, 3) := by decide +kernel
theorem d_D_meet_304 : decode c_D_meet 304 = .ok (.istore 4, 2) := by decide +kernel
theorem d_D_meet_306 : decode c_D_meet 306 = .ok (.iload_n 2, 1) := by decide +kernel
theorem d_D_meet_307 : decode c_D_meet 307 = .ok (.iload 4, 2) := by decide +kernel
theorem d_D_meet_309 : decode c_D_meet 309 = .ok (.aload_n 0, 1) := by decide +kernel
theorem d_D_meet_310 : decode c_D_meet 310 = .ok (.getfield 54, 3) := by decide +kernel
theorem d_D_meet_313 : decode c_D_meet 313 = .ok (.bipush 12, 2) := by decide +kernel
theorem d_D_meet_315 : decode c_D_meet 315 = .ok (.iload_n 1, 1) := by decide +kernel
theorem d_D_meet_316 : decode c_D_meet 316 = .ok (.imul, 1) := by decide +kernel
theorem d_D_meet_317 : decode c_D_meet 317 = .ok (.iload_n 3, 1) := by decide +kernel
theorem d_D_meet_318 : decode c_D_meet 318 = .ok (.iadd, 1) := by decide +kernel
theorem d_D_meet_319 : decode c_D_meet 319 = .ok (.iaload, 1) := by decide +kernel
theorem d_D_meet_320 : decode c_D_meet 320 = .ok (.if_icmp .eq 7, 3) := by decide +kernel
theorem d_D_meet_323 : decode c_D_meet 323 = .ok (.iconst 1, 1) := by decide +kernel
theorem d_D_meet_324 : decode c_D_meet 324 = .ok (.goto 4, 3) := by decide +kernel
theorem d_D_meet_327 : decode c_D_meet 327 = .ok (.iconst 0, 1) := by decide +kernel
theorem d_D_meet_328 : decode c_D_meet 328 = .ok (.ior, 1) := by decide +kernel
theorem d_D_meet_329 : decode c_D_meet 329 = .ok (.istore_n 2, 1) := by decide +kernel
theorem d_D_meet_330 : decode c_D_meet 330 = .ok (.aload_n 0, 1) := by decide +kernel
theorem d_D_meet_331 : decode c_D_meet 331 = .ok (.getfield 54, 3) := by decide +kernel
theorem d_D_meet_334 : decode c_D_meet 334 = .ok (.bipush 12, 2) := by decide +kernel
theorem d_D_meet_336 : decode c_D_meet 336 = .ok (.iload_n 1, 1) := by decide +kernel
theorem d_D_meet_337 : decode c_D_meet 337 = .ok (.imul, 1) := by decide +kernel
theorem d_D_meet_338 : decode c_D_meet 338 = .ok (.iload_n 3, 1) := by decide +kernel
theorem d_D_meet_339 : decode c_D_meet 339 = .ok (.iadd, 1) := by decide +kernel
theorem d_D_meet_340 : decode c_D_meet 340 = .ok (.iload 4, 2) := by decide +kernel
theorem d_D_meet_342 : decode c_D_meet 342 = .ok (.iastore, 1) := by decide +kernel
theorem d_D_meet_343 : decode c_D_meet 343 = .ok (.iinc 3 1, 3) := by decide +kernel
theorem d_D_meet_346 : decode c_D_meet 346 = .ok (.goto (-71), 3) := by decide +kernel
theorem d_D_meet_349 : decode c_D_meet 349 = .ok (.iconst 0, 1) := by decide +kernel
theorem d_D_meet_350 : decode c_D_meet 350 = .ok (.istore_n 3, 1) := by decide +kernel
theorem d_D_meet_351 : decode c_D_meet 351 = .ok (.iload_n 3, 1) := by decide +kernel
theorem d_D_meet_352 : decode c_D_meet 352 = .ok (.bipush 48, 2) := by decide +kernel
theorem d_D_meet_354 : decode c_D_meet 354 = .ok (.if_icmp .ge 84, 3) := by decide +kernel
theorem d_D_meet_357 : decode c_D_meet 357 = .ok (.aload_n 0, 1) := by decide +kernel
theorem d_D_meet_358 : decode c_D_meet 358 = .ok (.getfield 63, 3) := by decide +kernel
theorem d_D_meet_361 : decode c_D_meet 361 = .ok (.iload_n 1, 1) := by decide +kernel
theorem d_D_meet_362 : decode c_D_meet 362 = .ok (.laload, 1) := by decide +kernel
theorem d_D_meet_363 : decode c_D_meet 363 = .ok (.iload_n 3, 1) := by decide +kernel
theorem d_D_meet_364 : decode c_D_meet 364 = .ok (.lshr, 1) := by decide +kernel
theorem d_D_meet_365 : decode c_D_meet 365 = .ok (.lconst 1, 1) := by decide +kernel
theorem d_D_meet_366 : decode c_D_meet 366 = .ok (.land, 1) := by decide +kernel
theorem d_D_meet_367 : decode c_D_meet 367 = .ok (.lconst 0, 1) := by decide +kernel
theorem d_D_meet_368 : decode c_D_meet 368 = .ok (.lcmp, 1) := by decide +kernel
theorem d_D_meet_369 : decode c_D_meet 369 = .ok (.ifCond .ne 6, 3) := by decide +kernel
theorem d_D_meet_372 : decode c_D_meet 372 = .ok (.goto 60, 3) := by decide +kernel
theorem d_D_meet_375 : decode c_D_meet 375 = .ok (.aload_n 0, 1) := by decide +kernel
theorem d_D_meet_376 : decode c_D_meet 376 = .ok (.getfield 60, 3) := by decide +kernel
theorem d_D_meet_379 : decode c_D_meet 379 = .ok (.bipush 48, 2) := by decide +kernel
theorem d_D_meet_381 : decode c_D_meet 381 = .ok (.iload_n 1, 1) := by decide +kernel
theorem d_D_meet_382 : decode c_D_meet 382 = .ok (.imul, 1) := by decide +kernel
theorem d_D_meet_383 : decode c_D_meet 383 = .ok (.iload_n 3, 1) := by decide +kernel
theorem d_D_meet_384 : decode c_D_meet 384 = .ok (.iadd, 1) := by decide +kernel
theorem d_D_meet_385 : decode c_D_meet 385 = .ok (.iaload, 1) := by decide +kernel
theorem d_D_meet_386 : decode c_D_meet 386 = .ok (.aload_n 0, 1) := by decide +kernel
theorem d_D_meet_387 : decode c_D_meet 387 = .ok (.getfield 85, 3) := by decide +kernel
theorem d_D_meet_390 : decode c_D_meet 390 = .ok (.iload_n 3, 1) := by decide +kernel
theorem d_D_meet_391 : decode c_D_meet 391 = .ok (.iaload, 1) := by decide +kernel
theorem d_D_meet_392 : decode c_D_meet 392 = .ok (.ior, 1) := by decide +kernel
theorem d_D_meet_393 : decode c_D_meet 393 = .ok (.istore 4, 2) := by decide +kernel
theorem d_D_meet_395 : decode c_D_meet 395 = .ok (.iload_n 2, 1) := by decide +kernel
theorem d_D_meet_396 : decode c_D_meet 396 = .ok (.iload 4, 2) := by decide +kernel
theorem d_D_meet_398 : decode c_D_meet 398 = .ok (.aload_n 0, 1) := by decide +kernel
theorem d_D_meet_399 : decode c_D_meet 399 = .ok (.getfield 60, 3) := by decide +kernel
theorem d_D_meet_402 : decode c_D_meet 402 = .ok (.bipush 48, 2) := by decide +kernel
theorem d_D_meet_404 : decode c_D_meet 404 = .ok (.iload_n 1, 1) := by decide +kernel
theorem d_D_meet_405 : decode c_D_meet 405 = .ok (.imul, 1) := by decide +kernel
theorem d_D_meet_406 : decode c_D_meet 406 = .ok (.iload_n 3, 1) := by decide +kernel
theorem d_D_meet_407 : decode c_D_meet 407 = .ok (.iadd, 1) := by decide +kernel
theorem d_D_meet_408 : decode c_D_meet 408 = .ok (.iaload, 1) := by decide +kernel
theorem d_D_meet_409 : decode c_D_meet 409 = .ok (.if_icmp .eq 7, 3) := by decide +kernel
theorem d_D_meet_412 : decode c_D_meet 412 = .ok (.iconst 1, 1) := by decide +kernel
theorem d_D_meet_413 : decode c_D_meet 413 = .ok (.goto 4, 3) := by decide +kernel
theorem d_D_meet_416 : decode c_D_meet 416 = .ok (.iconst 0, 1) := by decide +kernel
theorem d_D_meet_417 : decode c_D_meet 417 = .ok (.ior, 1) := by decide +kernel
theorem d_D_meet_418 : decode c_D_meet 418 = .ok (.istore_n 2, 1) := by decide +kernel
theorem d_D_meet_419 : decode c_D_meet 419 = .ok (.aload_n 0, 1) := by decide +kernel
theorem d_D_meet_420 : decode c_D_meet 420 = .ok (.getfield 60, 3) := by decide +kernel
theorem d_D_meet_423 : decode c_D_meet 423 = .ok (.bipush 48, 2) := by decide +kernel
theorem d_D_meet_425 : decode c_D_meet 425 = .ok (.iload_n 1, 1) := by decide +kernel
theorem d_D_meet_426 : decode c_D_meet 426 = .ok (.imul, 1) := by decide +kernel
theorem d_D_meet_427 : decode c_D_meet 427 = .ok (.iload_n 3, 1) := by decide +kernel
theorem d_D_meet_428 : decode c_D_meet 428 = .ok (.iadd, 1) := by decide +kernel
theorem d_D_meet_429 : decode c_D_meet 429 = .ok (.iload 4, 2) := by decide +kernel
theorem d_D_meet_431 : decode c_D_meet 431 = .ok (.iastore, 1) := by decide +kernel
theorem d_D_meet_432 : decode c_D_meet 432 = .ok (.iinc 3 1, 3) := by decide +kernel
theorem d_D_meet_435 : decode c_D_meet 435 = .ok (.goto (-84), 3) := by decide +kernel
theorem d_D_meet_438 : decode c_D_meet 438 = .ok (.iload_n 2, 1) := by decide +kernel
theorem d_D_meet_439 : decode c_D_meet 439 = .ok (.ifCond .eq 10, 3) := by decide +kernel
theorem d_D_meet_442 : decode c_D_meet 442 = .ok (.aload_n 0, 1) := by decide +kernel
theorem d_D_meet_443 : decode c_D_meet 443 = .ok (.getfield 48, 3) := by decide +kernel
theorem d_D_meet_446 : decode c_D_meet 446 = .ok (.iload_n 1, 1) := by decide +kernel
theorem d_D_meet_447 : decode c_D_meet 447 = .ok (.iconst 1, 1) := by decide +kernel
theorem d_D_meet_448 : decode c_D_meet 448 = .ok (.bastore, 1) := by decide +kernel
theorem d_D_meet_449 : decode c_D_meet 449 = .ok (.return_, 1) := by decide +kernel
theorem d_D_hasRaw_0 : decode c_D_hasRaw 0 = .ok (.iconst 0, 1) := by decide +kernel
theorem d_D_hasRaw_1 : decode c_D_hasRaw 1 = .ok (.istore_n 2, 1) := by decide +kernel
theorem d_D_hasRaw_2 : decode c_D_hasRaw 2 = .ok (.iload_n 2, 1) := by decide +kernel
theorem d_D_hasRaw_3 : decode c_D_hasRaw 3 = .ok (.bipush 12, 2) := by decide +kernel
theorem d_D_hasRaw_5 : decode c_D_hasRaw 5 = .ok (.if_icmp .ge 29, 3) := by decide +kernel
theorem d_D_hasRaw_8 : decode c_D_hasRaw 8 = .ok (.aload_n 0, 1) := by decide +kernel
theorem d_D_hasRaw_9 : decode c_D_hasRaw 9 = .ok (.getfield 79, 3) := by decide +kernel
theorem d_D_hasRaw_12 : decode c_D_hasRaw 12 = .ok (.iload_n 2, 1) := by decide +kernel
theorem d_D_hasRaw_13 : decode c_D_hasRaw 13 = .ok (.iaload, 1) := by decide +kernel
theorem d_D_hasRaw_14 : decode c_D_hasRaw 14 = .ok (.sipush 1000, 3) := by decide +kernel
theorem d_D_hasRaw_17 : decode c_D_hasRaw 17 = .ok (.sipush 1099, 3) := by decide +kernel
theorem d_D_hasRaw_20 : decode c_D_hasRaw 20 = .ok (.invokestatic 91, 3) := by decide +kernel
theorem d_D_hasRaw_23 : decode c_D_hasRaw 23 = .ok (.ifCond .eq 5, 3) := by decide +kernel
theorem d_D_hasRaw_26 : decode c_D_hasRaw 26 = .ok (.iconst 1, 1) := by decide +kernel
theorem d_D_hasRaw_27 : decode c_D_hasRaw 27 = .ok (.ireturn, 1) := by decide +kernel
theorem d_D_hasRaw_28 : decode c_D_hasRaw 28 = .ok (.iinc 2 1, 3) := by decide +kernel
theorem d_D_hasRaw_31 : decode c_D_hasRaw 31 = .ok (.goto (-29), 3) := by decide +kernel
theorem d_D_hasRaw_34 : decode c_D_hasRaw 34 = .ok (.iconst 0, 1) := by decide +kernel
theorem d_D_hasRaw_35 : decode c_D_hasRaw 35 = .ok (.istore_n 2, 1) := by decide +kernel
theorem d_D_hasRaw_36 : decode c_D_hasRaw 36 = .ok (.iload_n 2, 1) := by decide +kernel
theorem d_D_hasRaw_37 : decode c_D_hasRaw 37 = .ok (.aload_n 0, 1) := by decide +kernel
theorem d_D_hasRaw_38 : decode c_D_hasRaw 38 = .ok (.getfield 166, 3) := by decide +kernel
theorem d_D_hasRaw_41 : decode c_D_hasRaw 41 = .ok (.if_icmp .ge 33, 3) := by decide +kernel
theorem d_D_hasRaw_44 : decode c_D_hasRaw 44 = .ok (.iload_n 1, 1) := by decide +kernel
theorem d_D_hasRaw_45 : decode c_D_hasRaw 45 = .ok (.ifCond .eq 29, 3) := by decide +kernel
theorem d_D_hasRaw_48 : decode c_D_hasRaw 48 = .ok (.aload_n 0, 1) := by decide +kernel
theorem d_D_hasRaw_49 : decode c_D_hasRaw 49 = .ok (.getfield 82, 3) := by decide +kernel
theorem d_D_hasRaw_52 : decode c_D_hasRaw 52 = .ok (.iload_n 2, 1) := by decide +kernel
theorem d_D_hasRaw_53 : decode c_D_hasRaw 53 = .ok (.iaload, 1) := by decide +kernel
theorem d_D_hasRaw_54 : decode c_D_hasRaw 54 = .ok (.sipush 1000, 3) := by decide +kernel
theorem d_D_hasRaw_57 : decode c_D_hasRaw 57 = .ok (.sipush 1099, 3) := by decide +kernel
theorem d_D_hasRaw_60 : decode c_D_hasRaw 60 = .ok (.invokestatic 91, 3) := by decide +kernel
theorem d_D_hasRaw_63 : decode c_D_hasRaw 63 = .ok (.ifCond .eq 5, 3) := by decide +kernel
theorem d_D_hasRaw_66 : decode c_D_hasRaw 66 = .ok (.iconst 1, 1) := by decide +kernel
theorem d_D_hasRaw_67 : decode c_D_hasRaw 67 = .ok (.ireturn, 1) := by decide +kernel
theorem d_D_hasRaw_68 : decode c_D_hasRaw 68 = .ok (.iinc 2 1, 3) := by decide +kernel
theorem d_D_hasRaw_71 : decode c_D_hasRaw 71 = .ok (.goto (-35), 3) := by decide +kernel
theorem d_D_hasRaw_74 : decode c_D_hasRaw 74 = .ok (.iconst 0, 1) := by decide +kernel
theorem d_D_hasRaw_75 : decode c_D_hasRaw 75 = .ok (.ireturn, 1) := by decide +kernel
theorem d_D_go_0 : decode c_D_go 0 = .ok (.aload_n 0, 1) := by decide +kernel
theorem d_D_go_1 : decode c_D_go 1 = .ok (.getfield 130, 3) := by decide +kernel
theorem d_D_go_4 : decode c_D_go 4 = .ok (.ifCond .le 4, 3) := by decide +kernel
theorem d_D_go_7 : decode c_D_go 7 = .ok (.return_, 1) := by decide +kernel
theorem d_D_go_8 : decode c_D_go 8 = .ok (.iload_n 2, 1) := by decide +kernel
theorem d_D_go_9 : decode c_D_go 9 = .ok (.aload_n 0, 1) := by decide +kernel
theorem d_D_go_10 : decode c_D_go 10 = .ok (.getfield 118, 3) := by decide +kernel
theorem d_D_go_13 : decode c_D_go 13 = .ok (.if_icmp .lt 10, 3) := by decide +kernel
theorem d_D_go_16 : decode c_D_go 16 = .ok (.aload_n 0, 1) := by decide +kernel
theorem d_D_go_17 : decode c_D_go 17 = .ok (.iconst 5, 1) := by decide +kernel
theorem d_D_go_18 : decode c_D_go 18 = .ok (.iload_n 1, 1) := by decide +kernel
theorem d_D_go_19 : decode c_D_go 19 = .ok (.invokevirtual 133, 3) := by decide +kernel
theorem d_D_go_22 : decode c_D_go 22 = .ok (.return_, 1) := by decide +kernel
theorem d_D_go_23 : decode c_D_go 23 = .ok (.iload_n 2, 1) := by decide +kernel
theorem d_D_go_24 : decode c_D_go 24 = .ok (.iload_n 1, 1) := by decide +kernel
theorem d_D_go_25 : decode c_D_go 25 = .ok (.if_icmp .gt 19, 3) := by decide +kernel
theorem d_D_go_28 : decode c_D_go 28 = .ok (.aload_n 0, 1) := by decide +kernel
theorem d_D_go_29 : decode c_D_go 29 = .ok (.iconst 1, 1) := by decide +kernel
theorem d_D_go_30 : decode c_D_go 30 = .ok (.invokevirtual 179, 3) := by decide +kernel
theorem d_D_go_33 : decode c_D_go 33 = .ok (.ifCond .eq 11, 3) := by decide +kernel
theorem d_D_go_36 : decode c_D_go 36 = .ok (.aload_n 0, 1) := by decide +kernel
theorem d_D_go_37 : decode c_D_go 37 = .ok (.bipush 8, 2) := by decide +kernel
theorem d_D_go_39 : decode c_D_go 39 = .ok (.iload_n 1, 1) := by decide +kernel
theorem d_D_go_40 : decode c_D_go 40 = .ok (.invokevirtual 133, 3) := by decide +kernel
theorem d_D_go_43 : decode c_D_go 43 = .ok (.return_, 1) := by decide +kernel
theorem d_D_go_44 : decode c_D_go 44 = .ok (.aload_n 0, 1) := by decide +kernel
theorem d_D_go_45 : decode c_D_go 45 = .ok (.iload_n 2, 1) := by decide +kernel
theorem d_D_go_46 : decode c_D_go 46 = .ok (.invokevirtual 172, 3) := by decide +kernel
theorem d_D_go_49 : decode c_D_go 49 = .ok (.return_, 1) := by decide +kernel
