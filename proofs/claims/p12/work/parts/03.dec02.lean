theorem d_D_copyOut_0 : decode c_D_copyOut 0 = .ok (.iconst 0, 1) := by decide +kernel
theorem d_D_copyOut_1 : decode c_D_copyOut 1 = .ok (.istore_n 1, 1) := by decide +kernel
theorem d_D_copyOut_2 : decode c_D_copyOut 2 = .ok (.iload_n 1, 1) := by decide +kernel
theorem d_D_copyOut_3 : decode c_D_copyOut 3 = .ok (.bipush 12, 2) := by decide +kernel
theorem d_D_copyOut_5 : decode c_D_copyOut 5 = .ok (.if_icmp .ge 21, 3) := by decide +kernel
theorem d_D_copyOut_8 : decode c_D_copyOut 8 = .ok (.aload_n 0, 1) := by decide +kernel
theorem d_D_copyOut_9 : decode c_D_copyOut 9 = .ok (.getfield 79, 3) := by decide +kernel
theorem d_D_copyOut_12 : decode c_D_copyOut 12 = .ok (.iload_n 1, 1) := by decide +kernel
theorem d_D_copyOut_13 : decode c_D_copyOut 13 = .ok (.aload_n 0, 1) := by decide +kernel
theorem d_D_copyOut_14 : decode c_D_copyOut 14 = .ok (.getfield 70, 3) := by decide +kernel
theorem d_D_copyOut_17 : decode c_D_copyOut 17 = .ok (.iload_n 1, 1) := by decide +kernel
theorem d_D_copyOut_18 : decode c_D_copyOut 18 = .ok (.iaload, 1) := by decide +kernel
theorem d_D_copyOut_19 : decode c_D_copyOut 19 = .ok (.iastore, 1) := by decide +kernel
theorem d_D_copyOut_20 : decode c_D_copyOut 20 = .ok (.iinc 1 1, 3) := by decide +kernel
theorem d_D_copyOut_23 : decode c_D_copyOut 23 = .ok (.goto (-21), 3) := by decide +kernel
theorem d_D_copyOut_26 : decode c_D_copyOut 26 = .ok (.iconst 0, 1) := by decide +kernel
theorem d_D_copyOut_27 : decode c_D_copyOut 27 = .ok (.istore_n 1, 1) := by decide +kernel
theorem d_D_copyOut_28 : decode c_D_copyOut 28 = .ok (.iload_n 1, 1) := by decide +kernel
theorem d_D_copyOut_29 : decode c_D_copyOut 29 = .ok (.aload_n 0, 1) := by decide +kernel
theorem d_D_copyOut_30 : decode c_D_copyOut 30 = .ok (.getfield 183, 3) := by decide +kernel
theorem d_D_copyOut_33 : decode c_D_copyOut 33 = .ok (.if_icmp .ge 21, 3) := by decide +kernel
theorem d_D_copyOut_36 : decode c_D_copyOut 36 = .ok (.aload_n 0, 1) := by decide +kernel
theorem d_D_copyOut_37 : decode c_D_copyOut 37 = .ok (.getfield 82, 3) := by decide +kernel
theorem d_D_copyOut_40 : decode c_D_copyOut 40 = .ok (.iload_n 1, 1) := by decide +kernel
theorem d_D_copyOut_41 : decode c_D_copyOut 41 = .ok (.aload_n 0, 1) := by decide +kernel
theorem d_D_copyOut_42 : decode c_D_copyOut 42 = .ok (.getfield 73, 3) := by decide +kernel
theorem d_D_copyOut_45 : decode c_D_copyOut 45 = .ok (.iload_n 1, 1) := by decide +kernel
theorem d_D_copyOut_46 : decode c_D_copyOut 46 = .ok (.iaload, 1) := by decide +kernel
theorem d_D_copyOut_47 : decode c_D_copyOut 47 = .ok (.iastore, 1) := by decide +kernel
theorem d_D_copyOut_48 : decode c_D_copyOut 48 = .ok (.iinc 1 1, 3) := by decide +kernel
theorem d_D_copyOut_51 : decode c_D_copyOut 51 = .ok (.goto (-23), 3) := by decide +kernel
theorem d_D_copyOut_54 : decode c_D_copyOut 54 = .ok (.iconst 0, 1) := by decide +kernel
theorem d_D_copyOut_55 : decode c_D_copyOut 55 = .ok (.istore_n 1, 1) := by decide +kernel
theorem d_D_copyOut_56 : decode c_D_copyOut 56 = .ok (.iload_n 1, 1) := by decide +kernel
theorem d_D_copyOut_57 : decode c_D_copyOut 57 = .ok (.bipush 48, 2) := by decide +kernel
theorem d_D_copyOut_59 : decode c_D_copyOut 59 = .ok (.if_icmp .ge 21, 3) := by decide +kernel
theorem d_D_copyOut_62 : decode c_D_copyOut 62 = .ok (.aload_n 0, 1) := by decide +kernel
theorem d_D_copyOut_63 : decode c_D_copyOut 63 = .ok (.getfield 85, 3) := by decide +kernel
theorem d_D_copyOut_66 : decode c_D_copyOut 66 = .ok (.iload_n 1, 1) := by decide +kernel
theorem d_D_copyOut_67 : decode c_D_copyOut 67 = .ok (.aload_n 0, 1) := by decide +kernel
theorem d_D_copyOut_68 : decode c_D_copyOut 68 = .ok (.getfield 76, 3) := by decide +kernel
theorem d_D_copyOut_71 : decode c_D_copyOut 71 = .ok (.iload_n 1, 1) := by decide +kernel
theorem d_D_copyOut_72 : decode c_D_copyOut 72 = .ok (.iaload, 1) := by decide +kernel
theorem d_D_copyOut_73 : decode c_D_copyOut 73 = .ok (.iastore, 1) := by decide +kernel
theorem d_D_copyOut_74 : decode c_D_copyOut 74 = .ok (.iinc 1 1, 3) := by decide +kernel
theorem d_D_copyOut_77 : decode c_D_copyOut 77 = .ok (.goto (-21), 3) := by decide +kernel
theorem d_D_copyOut_80 : decode c_D_copyOut 80 = .ok (.aload_n 0, 1) := by decide +kernel
theorem d_D_copyOut_81 : decode c_D_copyOut 81 = .ok (.aload_n 0, 1) := by decide +kernel
theorem d_D_copyOut_82 : decode c_D_copyOut 82 = .ok (.getfield 183, 3) := by decide +kernel
theorem d_D_copyOut_85 : decode c_D_copyOut 85 = .ok (.putfield 166, 3) := by decide +kernel
theorem d_D_copyOut_88 : decode c_D_copyOut 88 = .ok (.aload_n 0, 1) := by decide +kernel
theorem d_D_copyOut_89 : decode c_D_copyOut 89 = .ok (.aload_n 0, 1) := by decide +kernel
theorem d_D_copyOut_90 : decode c_D_copyOut 90 = .ok (.getfield 186, 3) := by decide +kernel
theorem d_D_copyOut_93 : decode c_D_copyOut 93 = .ok (.putfield 169, 3) := by decide +kernel
theorem d_D_copyOut_96 : decode c_D_copyOut 96 = .ok (.return_, 1) := by decide +kernel
theorem d_D_lookAt_0 : decode c_D_lookAt 0 = .ok (.aload_n 0, 1) := by decide +kernel
theorem d_D_lookAt_1 : decode c_D_lookAt 1 = .ok (.dup, 1) := by decide +kernel
theorem d_D_lookAt_2 : decode c_D_lookAt 2 = .ok (.getfield 143, 3) := by decide +kernel
theorem d_D_lookAt_5 : decode c_D_lookAt 5 = .ok (.iconst 1, 1) := by decide +kernel
theorem d_D_lookAt_6 : decode c_D_lookAt 6 = .ok (.iadd, 1) := by decide +kernel
theorem d_D_lookAt_7 : decode c_D_lookAt 7 = .ok (.putfield 143, 3) := by decide +kernel
theorem d_D_lookAt_10 : decode c_D_lookAt 10 = .ok (.aload_n 0, 1) := by decide +kernel
theorem d_D_lookAt_11 : decode c_D_lookAt 11 = .ok (.getfield 48, 3) := by decide +kernel
theorem d_D_lookAt_14 : decode c_D_lookAt 14 = .ok (.iload_n 1, 1) := by decide +kernel
theorem d_D_lookAt_15 : decode c_D_lookAt 15 = .ok (.iconst 0, 1) := by decide +kernel
theorem d_D_lookAt_16 : decode c_D_lookAt 16 = .ok (.bastore, 1) := by decide +kernel
theorem d_D_lookAt_17 : decode c_D_lookAt 17 = .ok (.aload_n 0, 1) := by decide +kernel
theorem d_D_lookAt_18 : decode c_D_lookAt 18 = .ok (.iconst 0, 1) := by decide +kernel
theorem d_D_lookAt_19 : decode c_D_lookAt 19 = .ok (.putfield 189, 3) := by decide +kernel
theorem d_D_lookAt_22 : decode c_D_lookAt 22 = .ok (.aload_n 0, 1) := by decide +kernel
theorem d_D_lookAt_23 : decode c_D_lookAt 23 = .ok (.aload_n 0, 1) := by decide +kernel
theorem d_D_lookAt_24 : decode c_D_lookAt 24 = .ok (.getfield 57, 3) := by decide +kernel
theorem d_D_lookAt_27 : decode c_D_lookAt 27 = .ok (.iload_n 1, 1) := by decide +kernel
theorem d_D_lookAt_28 : decode c_D_lookAt 28 = .ok (.iaload, 1) := by decide +kernel
theorem d_D_lookAt_29 : decode c_D_lookAt 29 = .ok (.putfield 183, 3) := by decide +kernel
theorem d_D_lookAt_32 : decode c_D_lookAt 32 = .ok (.aload_n 0, 1) := by decide +kernel
theorem d_D_lookAt_33 : decode c_D_lookAt 33 = .ok (.aload_n 0, 1) := by decide +kernel
theorem d_D_lookAt_34 : decode c_D_lookAt 34 = .ok (.getfield 63, 3) := by decide +kernel
theorem d_D_lookAt_37 : decode c_D_lookAt 37 = .ok (.iload_n 1, 1) := by decide +kernel
theorem d_D_lookAt_38 : decode c_D_lookAt 38 = .ok (.laload, 1) := by decide +kernel
theorem d_D_lookAt_39 : decode c_D_lookAt 39 = .ok (.putfield 186, 3) := by decide +kernel
theorem d_D_lookAt_42 : decode c_D_lookAt 42 = .ok (.iconst 0, 1) := by decide +kernel
theorem d_D_lookAt_43 : decode c_D_lookAt 43 = .ok (.istore_n 2, 1) := by decide +kernel
theorem d_D_lookAt_44 : decode c_D_lookAt 44 = .ok (.iload_n 2, 1) := by decide +kernel
theorem d_D_lookAt_45 : decode c_D_lookAt 45 = .ok (.bipush 12, 2) := by decide +kernel
theorem d_D_lookAt_47 : decode c_D_lookAt 47 = .ok (.if_icmp .ge 26, 3) := by decide +kernel
theorem d_D_lookAt_50 : decode c_D_lookAt 50 = .ok (.aload_n 0, 1) := by decide +kernel
theorem d_D_lookAt_51 : decode c_D_lookAt 51 = .ok (.getfield 70, 3) := by decide +kernel
theorem d_D_lookAt_54 : decode c_D_lookAt 54 = .ok (.iload_n 2, 1) := by decide +kernel
theorem d_D_lookAt_55 : decode c_D_lookAt 55 = .ok (.aload_n 0, 1) := by decide +kernel
theorem d_D_lookAt_56 : decode c_D_lookAt 56 = .ok (.getfield 51, 3) := by decide +kernel
theorem d_D_lookAt_59 : decode c_D_lookAt 59 = .ok (.bipush 12, 2) := by decide +kernel
theorem d_D_lookAt_61 : decode c_D_lookAt 61 = .ok (.iload_n 1, 1) := by decide +kernel
theorem d_D_lookAt_62 : decode c_D_lookAt 62 = .ok (.imul, 1) := by decide +kernel
theorem d_D_lookAt_63 : decode c_D_lookAt 63 = .ok (.iload_n 2, 1) := by decide +kernel
theorem d_D_lookAt_64 : decode c_D_lookAt 64 = .ok (.iadd, 1) := by decide +kernel
theorem d_D_lookAt_65 : decode c_D_lookAt 65 = .ok (.iaload, 1) := by decide +kernel
theorem d_D_lookAt_66 : decode c_D_lookAt 66 = .ok (.iastore, 1) := by decide +kernel
theorem d_D_lookAt_67 : decode c_D_lookAt 67 = .ok (.iinc 2 1, 3) := by decide +kernel
theorem d_D_lookAt_70 : decode c_D_lookAt 70 = .ok (.goto (-26), 3) := by decide +kernel
theorem d_D_lookAt_73 : decode c_D_lookAt 73 = .ok (.iconst 0, 1) := by decide +kernel
theorem d_D_lookAt_74 : decode c_D_lookAt 74 = .ok (.istore_n 2, 1) := by decide +kernel
theorem d_D_lookAt_75 : decode c_D_lookAt 75 = .ok (.iload_n 2, 1) := by decide +kernel
theorem d_D_lookAt_76 : decode c_D_lookAt 76 = .ok (.aload_n 0, 1) := by decide +kernel
theorem d_D_lookAt_77 : decode c_D_lookAt 77 = .ok (.getfield 183, 3) := by decide +kernel
theorem d_D_lookAt_80 : decode c_D_lookAt 80 = .ok (.if_icmp .ge 52, 3) := by decide +kernel
theorem d_D_lookAt_83 : decode c_D_lookAt 83 = .ok (.aload_n 0, 1) := by decide +kernel
theorem d_D_lookAt_84 : decode c_D_lookAt 84 = .ok (.getfield 73, 3) := by decide +kernel
theorem d_D_lookAt_87 : decode c_D_lookAt 87 = .ok (.iload_n 2, 1) := by decide +kernel
theorem d_D_lookAt_88 : decode c_D_lookAt 88 = .ok (.aload_n 0, 1) := by decide +kernel
theorem d_D_lookAt_89 : decode c_D_lookAt 89 = .ok (.getfield 54, 3) := by decide +kernel
theorem d_D_lookAt_92 : decode c_D_lookAt 92 = .ok (.bipush 12, 2) := by decide +kernel
theorem d_D_lookAt_94 : decode c_D_lookAt 94 = .ok (.iload_n 1, 1) := by decide +kernel
theorem d_D_lookAt_95 : decode c_D_lookAt 95 = .ok (.imul, 1) := by decide +kernel
theorem d_D_lookAt_96 : decode c_D_lookAt 96 = .ok (.iload_n 2, 1) := by decide +kernel
theorem d_D_lookAt_97 : decode c_D_lookAt 97 = .ok (.iadd, 1) := by decide +kernel
theorem d_D_lookAt_98 : decode c_D_lookAt 98 = .ok (.iaload, 1) := by decide +kernel
theorem d_D_lookAt_99 : decode c_D_lookAt 99 = .ok (.iastore, 1) := by decide +kernel
theorem d_D_lookAt_100 : decode c_D_lookAt 100 = .ok (.aload_n 0, 1) := by decide +kernel
theorem d_D_lookAt_101 : decode c_D_lookAt 101 = .ok (.dup, 1) := by decide +kernel
theorem d_D_lookAt_102 : decode c_D_lookAt 102 = .ok (.getfield 189, 3) := by decide +kernel
theorem d_D_lookAt_105 : decode c_D_lookAt 105 = .ok (.aload_n 0, 1) := by decide +kernel
theorem d_D_lookAt_106 : decode c_D_lookAt 106 = .ok (.getfield 73, 3) := by decide +kernel
theorem d_D_lookAt_109 : decode c_D_lookAt 109 = .ok (.iload_n 2, 1) := by decide +kernel
theorem d_D_lookAt_110 : decode c_D_lookAt 110 = .ok (.iaload, 1) := by decide +kernel
theorem d_D_lookAt_111 : decode c_D_lookAt 111 = .ok (.invokestatic 140, 3) := by decide +kernel
theorem d_D_lookAt_114 : decode c_D_lookAt 114 = .ok (.ifCond .eq 7, 3) := by decide +kernel
theorem d_D_lookAt_117 : decode c_D_lookAt 117 = .ok (.iconst 2, 1) := by decide +kernel
theorem d_D_lookAt_118 : decode c_D_lookAt 118 = .ok (.goto 4, 3) := by decide +kernel
theorem d_D_lookAt_121 : decode c_D_lookAt 121 = .ok (.iconst 1, 1) := by decide +kernel
theorem d_D_lookAt_122 : decode c_D_lookAt 122 = .ok (.iadd, 1) := by decide +kernel
theorem d_D_lookAt_123 : decode c_D_lookAt 123 = .ok (.putfield 189, 3) := by decide +kernel
theorem d_D_lookAt_126 : decode c_D_lookAt 126 = .ok (.iinc 2 1, 3) := by decide +kernel
theorem d_D_lookAt_129 : decode c_D_lookAt 129 = .ok (.goto (-54), 3) := by decide +kernel
theorem d_D_lookAt_132 : decode c_D_lookAt 132 = .ok (.iconst 0, 1) := by decide +kernel
theorem d_D_lookAt_133 : decode c_D_lookAt 133 = .ok (.istore_n 2, 1) := by decide +kernel
theorem d_D_lookAt_134 : decode c_D_lookAt 134 = .ok (.iload_n 2, 1) := by decide +kernel
theorem d_D_lookAt_135 : decode c_D_lookAt 135 = .ok (.bipush 48, 2) := by decide +kernel
theorem d_D_lookAt_137 : decode c_D_lookAt 137 = .ok (.if_icmp .ge 26, 3) := by decide +kernel
theorem d_D_lookAt_140 : decode c_D_lookAt 140 = .ok (.aload_n 0, 1) := by decide +kernel
theorem d_D_lookAt_141 : decode c_D_lookAt 141 = .ok (.getfield 76, 3) := by decide +kernel
theorem d_D_lookAt_144 : decode c_D_lookAt 144 = .ok (.iload_n 2, 1) := by decide +kernel
theorem d_D_lookAt_145 : decode c_D_lookAt 145 = .ok (.aload_n 0, 1) := by decide +kernel
theorem d_D_lookAt_146 : decode c_D_lookAt 146 = .ok (.getfield 60, 3) := by decide +kernel
theorem d_D_lookAt_149 : decode c_D_lookAt 149 = .ok (.bipush 48, 2) := by decide +kernel
theorem d_D_lookAt_151 : decode c_D_lookAt 151 = .ok (.iload_n 1, 1) := by decide +kernel
theorem d_D_lookAt_152 : decode c_D_lookAt 152 = .ok (.imul, 1) := by decide +kernel
theorem d_D_lookAt_153 : decode c_D_lookAt 153 = .ok (.iload_n 2, 1) := by decide +kernel
theorem d_D_lookAt_154 : decode c_D_lookAt 154 = .ok (.iadd, 1) := by decide +kernel
theorem d_D_lookAt_155 : decode c_D_lookAt 155 = .ok (.iaload, 1) := by decide +kernel
theorem d_D_lookAt_156 : decode c_D_lookAt 156 = .ok (.iastore, 1) := by decide +kernel
theorem d_D_lookAt_157 : decode c_D_lookAt 157 = .ok (.iinc 2 1, 3) := by decide +kernel
theorem d_D_lookAt_160 : decode c_D_lookAt 160 = .ok (.goto (-26), 3) := by decide +kernel
theorem d_D_lookAt_163 : decode c_D_lookAt 163 = .ok (.iconst 0, 1) := by decide +kernel
theorem d_D_lookAt_164 : decode c_D_lookAt 164 = .ok (.istore_n 2, 1) := by decide +kernel
theorem d_D_lookAt_165 : decode c_D_lookAt 165 = .ok (.iload_n 2, 1) := by decide +kernel
theorem d_D_lookAt_166 : decode c_D_lookAt 166 = .ok (.aload_n 0, 1) := by decide +kernel
theorem d_D_lookAt_167 : decode c_D_lookAt 167 = .ok (.getfield 121, 3) := by decide +kernel
theorem d_D_lookAt_170 : decode c_D_lookAt 170 = .ok (.if_icmp .ge 105, 3) := by decide +kernel
theorem d_D_lookAt_173 : decode c_D_lookAt 173 = .ok (.aload_n 0, 1) := by decide +kernel
theorem d_D_lookAt_174 : decode c_D_lookAt 174 = .ok (.getfield 130, 3) := by decide +kernel
theorem d_D_lookAt_177 : decode c_D_lookAt 177 = .ok (.ifCond .ne 98, 3) := by decide +kernel
theorem d_D_lookAt_180 : decode c_D_lookAt 180 = .ok (.iload_n 1, 1) := by decide +kernel
theorem d_D_lookAt_181 : decode c_D_lookAt 181 = .ok (.aload_n 0, 1) := by decide +kernel
theorem d_D_lookAt_182 : decode c_D_lookAt 182 = .ok (.getfield 30, 3) := by decide +kernel
theorem d_D_lookAt_185 : decode c_D_lookAt 185 = .ok (.iload_n 2, 1) := by decide +kernel
theorem d_D_lookAt_186 : decode c_D_lookAt 186 = .ok (.iaload, 1) := by decide +kernel
theorem d_D_lookAt_187 : decode c_D_lookAt 187 = .ok (.if_icmp .lt 82, 3) := by decide +kernel
theorem d_D_lookAt_190 : decode c_D_lookAt 190 = .ok (.iload_n 1, 1) := by decide +kernel
theorem d_D_lookAt_191 : decode c_D_lookAt 191 = .ok (.aload_n 0, 1) := by decide +kernel
theorem d_D_lookAt_192 : decode c_D_lookAt 192 = .ok (.getfield 33, 3) := by decide +kernel
theorem d_D_lookAt_195 : decode c_D_lookAt 195 = .ok (.iload_n 2, 1) := by decide +kernel
theorem d_D_lookAt_196 : decode c_D_lookAt 196 = .ok (.iaload, 1) := by decide +kernel
theorem d_D_lookAt_197 : decode c_D_lookAt 197 = .ok (.if_icmp .ge 72, 3) := by decide +kernel
theorem d_D_lookAt_200 : decode c_D_lookAt 200 = .ok (.aload_n 0, 1) := by decide +kernel
theorem d_D_lookAt_201 : decode c_D_lookAt 201 = .ok (.invokevirtual 192, 3) := by decide +kernel
theorem d_D_lookAt_204 : decode c_D_lookAt 204 = .ok (.aload_n 0, 1) := by decide +kernel
theorem d_D_lookAt_205 : decode c_D_lookAt 205 = .ok (.iconst 1, 1) := by decide +kernel
theorem d_D_lookAt_206 : decode c_D_lookAt 206 = .ok (.putfield 166, 3) := by decide +kernel
theorem d_D_lookAt_209 : decode c_D_lookAt 209 = .ok (.aload_n 0, 1) := by decide +kernel
theorem d_D_lookAt_210 : decode c_D_lookAt 210 = .ok (.getfield 82, 3) := by decide +kernel
theorem d_D_lookAt_213 : decode c_D_lookAt 213 = .ok (.iconst 0, 1) := by decide +kernel
theorem d_D_lookAt_214 : decode c_D_lookAt 214 = .ok (.bipush 16, 2) := by decide +kernel
theorem d_D_lookAt_216 : decode c_D_lookAt 216 = .ok (.aload_n 0, 1) := by decide +kernel
theorem d_D_lookAt_217 : decode c_D_lookAt 217 = .ok (.getfield 39, 3) := by decide +kernel
theorem d_D_lookAt_220 : decode c_D_lookAt 220 = .ok (.iload_n 2, 1) := by decide +kernel
theorem d_D_lookAt_221 : decode c_D_lookAt 221 = .ok (.iaload, 1) := by decide +kernel
theorem d_D_lookAt_222 : decode c_D_lookAt 222 = .ok (.iadd, 1) := by decide +kernel
theorem d_D_lookAt_223 : decode c_D_lookAt 223 = .ok (.iastore, 1) := by decide +kernel
theorem d_D_lookAt_224 : decode c_D_lookAt 224 = .ok (.aload_n 0, 1) := by decide +kernel
theorem d_D_lookAt_225 : decode c_D_lookAt 225 = .ok (.iconst 0, 1) := by decide +kernel
theorem d_D_lookAt_226 : decode c_D_lookAt 226 = .ok (.invokevirtual 179, 3) := by decide +kernel
theorem d_D_lookAt_229 : decode c_D_lookAt 229 = .ok (.ifCond .eq 10, 3) := by decide +kernel
theorem d_D_lookAt_232 : decode c_D_lookAt 232 = .ok (.aload_n 0, 1) := by decide +kernel
theorem d_D_lookAt_233 : decode c_D_lookAt 233 = .ok (.bipush 8, 2) := by decide +kernel
theorem d_D_lookAt_235 : decode c_D_lookAt 235 = .ok (.iload_n 1, 1) := by decide +kernel
theorem d_D_lookAt_236 : decode c_D_lookAt 236 = .ok (.invokevirtual 133, 3) := by decide +kernel
theorem d_D_lookAt_239 : decode c_D_lookAt 239 = .ok (.aload_n 0, 1) := by decide +kernel
theorem d_D_lookAt_240 : decode c_D_lookAt 240 = .ok (.getfield 115, 3) := by decide +kernel
theorem d_D_lookAt_243 : decode c_D_lookAt 243 = .ok (.ifCond .ne 9, 3) := by decide +kernel
theorem d_D_lookAt_246 : decode c_D_lookAt 246 = .ok (.aload_n 0, 1) := by decide +kernel
theorem d_D_lookAt_247 : decode c_D_lookAt 247 = .ok (.iconst 3, 1) := by decide +kernel
theorem d_D_lookAt_248 : decode c_D_lookAt 248 = .ok (.iload_n 1, 1) := by decide +kernel
theorem d_D_lookAt_249 : decode c_D_lookAt 249 = .ok (.invokevirtual 133, 3) := by decide +kernel
theorem d_D_lookAt_252 : decode c_D_lookAt 252 = .ok (.aload_n 0, 1) := by decide +kernel
theorem d_D_lookAt_253 : decode c_D_lookAt 253 = .ok (.getfield 130, 3) := by decide +kernel
theorem d_D_lookAt_256 : decode c_D_lookAt 256 = .ok (.ifCond .ne 13, 3) := by decide +kernel
theorem d_D_lookAt_259 : decode c_D_lookAt 259 = .ok (.aload_n 0, 1) := by decide +kernel
theorem d_D_lookAt_260 : decode c_D_lookAt 260 = .ok (.aload_n 0, 1) := by decide +kernel
theorem d_D_lookAt_261 : decode c_D_lookAt 261 = .ok (.getfield 36, 3) := by decide +kernel
theorem d_D_lookAt_264 : decode c_D_lookAt 264 = .ok (.iload_n 2, 1) := by decide +kernel
theorem d_D_lookAt_265 : decode c_D_lookAt 265 = .ok (.iaload, 1) := by decide +kernel
theorem d_D_lookAt_266 : decode c_D_lookAt 266 = .ok (.invokevirtual 172, 3) := by decide +kernel
theorem d_D_lookAt_269 : decode c_D_lookAt 269 = .ok (.iinc 2 1, 3) := by decide +kernel
theorem d_D_lookAt_272 : decode c_D_lookAt 272 = .ok (.goto (-107), 3) := by decide +kernel
theorem d_D_lookAt_275 : decode c_D_lookAt 275 = .ok (.aload_n 0, 1) := by decide +kernel
theorem d_D_lookAt_276 : decode c_D_lookAt 276 = .ok (.getfield 130, 3) := by decide +kernel
theorem d_D_lookAt_279 : decode c_D_lookAt 279 = .ok (.ifCond .le 4, 3) := by decide +kernel
theorem d_D_lookAt_282 : decode c_D_lookAt 282 = .ok (.return_, 1) := by decide +kernel
theorem d_D_lookAt_283 : decode c_D_lookAt 283 = .ok (.aload_n 0, 1) := by decide +kernel
theorem d_D_lookAt_284 : decode c_D_lookAt 284 = .ok (.getfield 21, 3) := by decide +kernel
theorem d_D_lookAt_287 : decode c_D_lookAt 287 = .ok (.iload_n 1, 1) := by decide +kernel
theorem d_D_lookAt_288 : decode c_D_lookAt 288 = .ok (.iaload, 1) := by decide +kernel
theorem d_D_lookAt_289 : decode c_D_lookAt 289 = .ok (.istore_n 2, 1) := by decide +kernel
theorem d_D_lookAt_290 : decode c_D_lookAt 290 = .ok (.aload_n 0, 1) := by decide +kernel
theorem d_D_lookAt_291 : decode c_D_lookAt 291 = .ok (.getfield 24, 3) := by decide +kernel
theorem d_D_lookAt_294 : decode c_D_lookAt 294 = .ok (.iload_n 1, 1) := by decide +kernel
theorem d_D_lookAt_295 : decode c_D_lookAt 295 = .ok (.iaload, 1) := by decide +kernel
theorem d_D_lookAt_296 : decode c_D_lookAt 296 = .ok (.istore_n 3, 1) := by decide +kernel
theorem d_D_lookAt_297 : decode c_D_lookAt 297 = .ok (.aload_n 0, 1) := by decide +kernel
theorem d_D_lookAt_298 : decode c_D_lookAt 298 = .ok (.getfield 27, 3) := by decide +kernel
theorem d_D_lookAt_301 : decode c_D_lookAt 301 = .ok (.iload_n 1, 1) := by decide +kernel
theorem d_D_lookAt_302 : decode c_D_lookAt 302 = .ok (.iaload, 1) := by decide +kernel
theorem d_D_lookAt_303 : decode c_D_lookAt 303 = .ok (.istore 4, 2) := by decide +kernel
theorem d_D_lookAt_305 : decode c_D_lookAt 305 = .ok (.iload_n 2, 1) := by decide +kernel
theorem d_D_lookAt_306 : decode c_D_lookAt 306 = .ok (.bipush 16, 2) := by decide +kernel
theorem d_D_lookAt_308 : decode c_D_lookAt 308 = .ok (.if_icmp .ne 10, 3) := by decide +kernel
theorem d_D_lookAt_311 : decode c_D_lookAt 311 = .ok (.aload_n 0, 1) := by decide +kernel
theorem d_D_lookAt_312 : decode c_D_lookAt 312 = .ok (.iload_n 1, 1) := by decide +kernel
theorem d_D_lookAt_313 : decode c_D_lookAt 313 = .ok (.iload_n 3, 1) := by decide +kernel
theorem d_D_lookAt_314 : decode c_D_lookAt 314 = .ok (.invokevirtual 195, 3) := by decide +kernel
theorem d_D_lookAt_317 : decode c_D_lookAt 317 = .ok (.return_, 1) := by decide +kernel
theorem d_D_lookAt_318 : decode c_D_lookAt 318 = .ok (.iload_n 2, 1) := by decide +kernel
theorem d_D_lookAt_319 : decode c_D_lookAt 319 = .ok (.bipush 9, 2) := by decide +kernel
theorem d_D_lookAt_321 : decode c_D_lookAt 321 = .ok (.if_icmp .ge 12, 3) := by decide +kernel
theorem d_D_lookAt_324 : decode c_D_lookAt 324 = .ok (.aload_n 0, 1) := by decide +kernel
theorem d_D_lookAt_325 : decode c_D_lookAt 325 = .ok (.iload_n 2, 1) := by decide +kernel
theorem d_D_lookAt_326 : decode c_D_lookAt 326 = .ok (.iload_n 3, 1) := by decide +kernel
theorem d_D_lookAt_327 : decode c_D_lookAt 327 = .ok (.invokevirtual 198, 3) := by decide +kernel
theorem d_D_lookAt_330 : decode c_D_lookAt 330 = .ok (.goto 29, 3) := by decide +kernel
theorem d_D_lookAt_333 : decode c_D_lookAt 333 = .ok (.iload_n 2, 1) := by decide +kernel
theorem d_D_lookAt_334 : decode c_D_lookAt 334 = .ok (.bipush 20, 2) := by decide +kernel
theorem d_D_lookAt_336 : decode c_D_lookAt 336 = .ok (.if_icmp .ge 14, 3) := by decide +kernel
theorem d_D_lookAt_339 : decode c_D_lookAt 339 = .ok (.aload_n 0, 1) := by decide +kernel
theorem d_D_lookAt_340 : decode c_D_lookAt 340 = .ok (.iload_n 2, 1) := by decide +kernel
theorem d_D_lookAt_341 : decode c_D_lookAt 341 = .ok (.iload_n 3, 1) := by decide +kernel
theorem d_D_lookAt_342 : decode c_D_lookAt 342 = .ok (.iload 4, 2) := by decide +kernel
theorem d_D_lookAt_344 : decode c_D_lookAt 344 = .ok (.invokevirtual 201, 3) := by decide +kernel
theorem d_D_lookAt_347 : decode c_D_lookAt 347 = .ok (.goto 12, 3) := by decide +kernel
theorem d_D_lookAt_350 : decode c_D_lookAt 350 = .ok (.aload_n 0, 1) := by decide +kernel
theorem d_D_lookAt_351 : decode c_D_lookAt 351 = .ok (.iload_n 1, 1) := by decide +kernel
theorem d_D_lookAt_352 : decode c_D_lookAt 352 = .ok (.iload_n 2, 1) := by decide +kernel
theorem d_D_lookAt_353 : decode c_D_lookAt 353 = .ok (.iload_n 3, 1) := by decide +kernel
theorem d_D_lookAt_354 : decode c_D_lookAt 354 = .ok (.iload 4, 2) := by decide +kernel
theorem d_D_lookAt_356 : decode c_D_lookAt 356 = .ok (.invokevirtual 204, 3) := by decide +kernel
theorem d_D_lookAt_359 : decode c_D_lookAt 359 = .ok (.istore 5, 2) := by decide +kernel
theorem d_D_lookAt_361 : decode c_D_lookAt 361 = .ok (.iload 5, 2) := by decide +kernel
theorem d_D_lookAt_363 : decode c_D_lookAt 363 = .ok (.ifCond .ne 10, 3) := by decide +kernel
theorem d_D_lookAt_366 : decode c_D_lookAt 366 = .ok (.aload_n 0, 1) := by decide +kernel
theorem d_D_lookAt_367 : decode c_D_lookAt 367 = .ok (.iconst 2, 1) := by decide +kernel
theorem d_D_lookAt_368 : decode c_D_lookAt 368 = .ok (.iload_n 1, 1) := by decide +kernel
theorem d_D_lookAt_369 : decode c_D_lookAt 369 = .ok (.invokevirtual 133, 3) := by decide +kernel
theorem d_D_lookAt_372 : decode c_D_lookAt 372 = .ok (.return_, 1) := by decide +kernel
theorem d_D_lookAt_373 : decode c_D_lookAt 373 = .ok (.iload_n 2, 1) := by decide +kernel
theorem d_D_lookAt_374 : decode c_D_lookAt 374 = .ok (.bipush 15, 2) := by decide +kernel
theorem d_D_lookAt_376 : decode c_D_lookAt 376 = .ok (.if_icmp .ne 11, 3) := by decide +kernel
theorem d_D_lookAt_379 : decode c_D_lookAt 379 = .ok (.aload_n 0, 1) := by decide +kernel
theorem d_D_lookAt_380 : decode c_D_lookAt 380 = .ok (.iload_n 1, 1) := by decide +kernel
theorem d_D_lookAt_381 : decode c_D_lookAt 381 = .ok (.iload 4, 2) := by decide +kernel
theorem d_D_lookAt_383 : decode c_D_lookAt 383 = .ok (.invokevirtual 208, 3) := by decide +kernel
theorem d_D_lookAt_386 : decode c_D_lookAt 386 = .ok (.return_, 1) := by decide +kernel
theorem d_D_lookAt_387 : decode c_D_lookAt 387 = .ok (.aload_n 0, 1) := by decide +kernel
theorem d_D_lookAt_388 : decode c_D_lookAt 388 = .ok (.getfield 189, 3) := by decide +kernel
theorem d_D_lookAt_391 : decode c_D_lookAt 391 = .ok (.aload_n 0, 1) := by decide +kernel
theorem d_D_lookAt_392 : decode c_D_lookAt 392 = .ok (.getfield 115, 3) := by decide +kernel
theorem d_D_lookAt_395 : decode c_D_lookAt 395 = .ok (.if_icmp .le 10, 3) := by decide +kernel
theorem d_D_lookAt_398 : decode c_D_lookAt 398 = .ok (.aload_n 0, 1) := by decide +kernel
theorem d_D_lookAt_399 : decode c_D_lookAt 399 = .ok (.iconst 3, 1) := by decide +kernel
theorem d_D_lookAt_400 : decode c_D_lookAt 400 = .ok (.iload_n 1, 1) := by decide +kernel
theorem d_D_lookAt_401 : decode c_D_lookAt 401 = .ok (.invokevirtual 133, 3) := by decide +kernel
theorem d_D_lookAt_404 : decode c_D_lookAt 404 = .ok (.return_, 1) := by decide +kernel
theorem d_D_lookAt_405 : decode c_D_lookAt 405 = .ok (.aload_n 0, 1) := by decide +kernel
theorem d_D_lookAt_406 : decode c_D_lookAt 406 = .ok (.invokevirtual 192, 3) := by decide +kernel
theorem d_D_lookAt_409 : decode c_D_lookAt 409 = .ok (.iload_n 2, 1) := by decide +kernel
theorem d_D_lookAt_410 : decode c_D_lookAt 410 = .ok (.bipush 14, 2) := by decide +kernel
theorem d_D_lookAt_412 : decode c_D_lookAt 412 = .ok (.if_icmp .eq 22, 3) := by decide +kernel
theorem d_D_lookAt_415 : decode c_D_lookAt 415 = .ok (.iload_n 2, 1) := by decide +kernel
theorem d_D_lookAt_416 : decode c_D_lookAt 416 = .ok (.bipush 17, 2) := by decide +kernel
theorem d_D_lookAt_418 : decode c_D_lookAt 418 = .ok (.bipush 19, 2) := by decide +kernel
theorem d_D_lookAt_420 : decode c_D_lookAt 420 = .ok (.invokestatic 91, 3) := by decide +kernel
theorem d_D_lookAt_423 : decode c_D_lookAt 423 = .ok (.ifCond .ne 11, 3) := by decide +kernel
theorem d_D_lookAt_426 : decode c_D_lookAt 426 = .ok (.aload_n 0, 1) := by decide +kernel
theorem d_D_lookAt_427 : decode c_D_lookAt 427 = .ok (.iload_n 1, 1) := by decide +kernel
theorem d_D_lookAt_428 : decode c_D_lookAt 428 = .ok (.iload_n 1, 1) := by decide +kernel
theorem d_D_lookAt_429 : decode c_D_lookAt 429 = .ok (.iconst 1, 1) := by decide +kernel
theorem d_D_lookAt_430 : decode c_D_lookAt 430 = .ok (.iadd, 1) := by decide +kernel
theorem d_D_lookAt_431 : decode c_D_lookAt 431 = .ok (.invokevirtual 211, 3) := by decide +kernel
theorem d_D_lookAt_434 : decode c_D_lookAt 434 = .ok (.iload_n 2, 1) := by decide +kernel
theorem d_D_lookAt_435 : decode c_D_lookAt 435 = .ok (.bipush 17, 2) := by decide +kernel
theorem d_D_lookAt_437 : decode c_D_lookAt 437 = .ok (.if_icmp .ne 9, 3) := by decide +kernel
theorem d_D_lookAt_440 : decode c_D_lookAt 440 = .ok (.aload_n 0, 1) := by decide +kernel
theorem d_D_lookAt_441 : decode c_D_lookAt 441 = .ok (.iload_n 1, 1) := by decide +kernel
theorem d_D_lookAt_442 : decode c_D_lookAt 442 = .ok (.iload_n 3, 1) := by decide +kernel
theorem d_D_lookAt_443 : decode c_D_lookAt 443 = .ok (.invokevirtual 211, 3) := by decide +kernel
theorem d_D_lookAt_446 : decode c_D_lookAt 446 = .ok (.iload_n 2, 1) := by decide +kernel
theorem d_D_lookAt_447 : decode c_D_lookAt 447 = .ok (.bipush 12, 2) := by decide +kernel
theorem d_D_lookAt_449 : decode c_D_lookAt 449 = .ok (.bipush 14, 2) := by decide +kernel
theorem d_D_lookAt_451 : decode c_D_lookAt 451 = .ok (.invokestatic 91, 3) := by decide +kernel
theorem d_D_lookAt_454 : decode c_D_lookAt 454 = .ok (.ifCond .ne 9, 3) := by decide +kernel
theorem d_D_lookAt_457 : decode c_D_lookAt 457 = .ok (.iload_n 2, 1) := by decide +kernel
theorem d_D_lookAt_458 : decode c_D_lookAt 458 = .ok (.bipush 17, 2) := by decide +kernel
theorem d_D_lookAt_460 : decode c_D_lookAt 460 = .ok (.if_icmp .ne 10, 3) := by decide +kernel
theorem d_D_lookAt_463 : decode c_D_lookAt 463 = .ok (.aload_n 0, 1) := by decide +kernel
theorem d_D_lookAt_464 : decode c_D_lookAt 464 = .ok (.iload_n 1, 1) := by decide +kernel
theorem d_D_lookAt_465 : decode c_D_lookAt 465 = .ok (.iload 4, 2) := by decide +kernel
theorem d_D_lookAt_467 : decode c_D_lookAt 467 = .ok (.invokevirtual 211, 3) := by decide +kernel
theorem d_D_lookAt_470 : decode c_D_lookAt 470 = .ok (.return_, 1) := by decide +kernel
theorem d_D_top_0 : decode c_D_top 0 = .ok (.aload_n 0, 1) := by decide +kernel
theorem d_D_top_1 : decode c_D_top 1 = .ok (.getfield 183, 3) := by decide +kernel
theorem d_D_top_4 : decode c_D_top 4 = .ok (.iload_n 1, 1) := by decide +kernel
theorem d_D_top_5 : decode c_D_top 5 = .ok (.if_icmp .le 19, 3) := by decide +kernel
theorem d_D_top_8 : decode c_D_top 8 = .ok (.aload_n 0, 1) := by decide +kernel
theorem d_D_top_9 : decode c_D_top 9 = .ok (.getfield 73, 3) := by decide +kernel
theorem d_D_top_12 : decode c_D_top 12 = .ok (.aload_n 0, 1) := by decide +kernel
theorem d_D_top_13 : decode c_D_top 13 = .ok (.getfield 183, 3) := by decide +kernel
theorem d_D_top_16 : decode c_D_top 16 = .ok (.iconst 1, 1) := by decide +kernel
theorem d_D_top_17 : decode c_D_top 17 = .ok (.isub, 1) := by decide +kernel
theorem d_D_top_18 : decode c_D_top 18 = .ok (.iload_n 1, 1) := by decide +kernel
theorem d_D_top_19 : decode c_D_top 19 = .ok (.isub, 1) := by decide +kernel
theorem d_D_top_20 : decode c_D_top 20 = .ok (.iaload, 1) := by decide +kernel
theorem d_D_top_21 : decode c_D_top 21 = .ok (.goto 4, 3) := by decide +kernel
theorem d_D_top_24 : decode c_D_top 24 = .ok (.iconst (-1), 1) := by decide +kernel
theorem d_D_top_25 : decode c_D_top 25 = .ok (.ireturn, 1) := by decide +kernel
theorem d_D_drop_0 : decode c_D_drop 0 = .ok (.aload_n 0, 1) := by decide +kernel
theorem d_D_drop_1 : decode c_D_drop 1 = .ok (.dup, 1) := by decide +kernel
theorem d_D_drop_2 : decode c_D_drop 2 = .ok (.getfield 183, 3) := by decide +kernel
theorem d_D_drop_5 : decode c_D_drop 5 = .ok (.iconst 1, 1) := by decide +kernel
theorem d_D_drop_6 : decode c_D_drop 6 = .ok (.isub, 1) := by decide +kernel
theorem d_D_drop_7 : decode c_D_drop 7 = .ok (.putfield 183, 3) := by decide +kernel
theorem d_D_drop_10 : decode c_D_drop 10 = .ok (.aload_n 0, 1) := by decide +kernel
theorem d_D_drop_11 : decode c_D_drop 11 = .ok (.dup, 1) := by decide +kernel
theorem d_D_drop_12 : decode c_D_drop 12 = .ok (.getfield 189, 3) := by decide +kernel
theorem d_D_drop_15 : decode c_D_drop 15 = .ok (.aload_n 0, 1) := by decide +kernel
theorem d_D_drop_16 : decode c_D_drop 16 = .ok (.getfield 73, 3) := by decide +kernel
theorem d_D_drop_19 : decode c_D_drop 19 = .ok (.aload_n 0, 1) := by decide +kernel
theorem d_D_drop_20 : decode c_D_drop 20 = .ok (.getfield 183, 3) := by decide +kernel
theorem d_D_drop_23 : decode c_D_drop 23 = .ok (.iaload, 1) := by decide +kernel
theorem d_D_drop_24 : decode c_D_drop 24 = .ok (.invokestatic 140, 3) := by decide +kernel
theorem d_D_drop_27 : decode c_D_drop 27 = .ok (.ifCond .eq 7, 3) := by decide +kernel
theorem d_D_drop_30 : decode c_D_drop 30 = .ok (.iconst 2, 1) := by decide +kernel
theorem d_D_drop_31 : decode c_D_drop 31 = .ok (.goto 4, 3) := by decide +kernel
theorem d_D_drop_34 : decode c_D_drop 34 = .ok (.iconst 1, 1) := by decide +kernel
theorem d_D_drop_35 : decode c_D_drop 35 = .ok (.isub, 1) := by decide +kernel
theorem d_D_drop_36 : decode c_D_drop 36 = .ok (.putfield 189, 3) := by decide +kernel
theorem d_D_drop_39 : decode c_D_drop 39 = .ok (.return_, 1) := by decide +kernel
theorem d_D_put_0 : decode c_D_put 0 = .ok (.aload_n 0, 1) := by decide +kernel
theorem d_D_put_1 : decode c_D_put 1 = .ok (.getfield 73, 3) := by decide +kernel
theorem d_D_put_4 : decode c_D_put 4 = .ok (.aload_n 0, 1) := by decide +kernel
theorem d_D_put_5 : decode c_D_put 5 = .ok (.getfield 183, 3) := by decide +kernel
theorem d_D_put_8 : decode c_D_put 8 = .ok (.iload_n 1, 1) := by decide +kernel
theorem d_D_put_9 : decode c_D_put 9 = .ok (.iastore, 1) := by decide +kernel
theorem d_D_put_10 : decode c_D_put 10 = .ok (.aload_n 0, 1) := by decide +kernel
theorem d_D_put_11 : decode c_D_put 11 = .ok (.dup, 1) := by decide +kernel
theorem d_D_put_12 : decode c_D_put 12 = .ok (.getfield 183, 3) := by decide +kernel
theorem d_D_put_15 : decode c_D_put 15 = .ok (.iconst 1, 1) := by decide +kernel
theorem d_D_put_16 : decode c_D_put 16 = .ok (.iadd, 1) := by decide +kernel
theorem d_D_put_17 : decode c_D_put 17 = .ok (.putfield 183, 3) := by decide +kernel
theorem d_D_put_20 : decode c_D_put 20 = .ok (.aload_n 0, 1) := by decide +kernel
theorem d_D_put_21 : decode c_D_put 21 = .ok (.dup, 1) := by decide +kernel
theorem d_D_put_22 : decode c_D_put 22 = .ok (.getfield 189, 3) := by decide +kernel
theorem d_D_put_25 : decode c_D_put 25 = .ok (.iload_n 1, 1) := by decide +kernel
theorem d_D_put_26 : decode c_D_put 26 = .ok (.invokestatic 140, 3) := by decide +kernel
theorem d_D_put_29 : decode c_D_put 29 = .ok (.ifCond .eq 7, 3) := by decide +kernel
theorem d_D_put_32 : decode c_D_put 32 = .ok (.iconst 2, 1) := by decide +kernel
theorem d_D_put_33 : decode c_D_put 33 = .ok (.goto 4, 3) := by decide +kernel
theorem d_D_put_36 : decode c_D_put 36 = .ok (.iconst 1, 1) := by decide +kernel
theorem d_D_put_37 : decode c_D_put 37 = .ok (.iadd, 1) := by decide +kernel
theorem d_D_put_38 : decode c_D_put 38 = .ok (.putfield 189, 3) := by decide +kernel
theorem d_D_put_41 : decode c_D_put 41 = .ok (.iconst 1, 1) := by decide +kernel
theorem d_D_put_42 : decode c_D_put 42 = .ok (.ireturn, 1) := by decide +kernel
theorem d_D_takes_0 : decode c_D_takes 0 = .ok (.aload_n 0, 1) := by decide +kernel
theorem d_D_takes_1 : decode c_D_takes 1 = .ok (.getfield 183, 3) := by decide +kernel
theorem d_D_takes_4 : decode c_D_takes 4 = .ok (.ifCond .eq 12, 3) := by decide +kernel
theorem d_D_takes_7 : decode c_D_takes 7 = .ok (.aload_n 0, 1) := by decide +kernel
theorem d_D_takes_8 : decode c_D_takes 8 = .ok (.iconst 0, 1) := by decide +kernel
theorem d_D_takes_9 : decode c_D_takes 9 = .ok (.invokevirtual 214, 3) := by decide +kernel
theorem d_D_takes_12 : decode c_D_takes 12 = .ok (.iload_n 1, 1) := by decide +kernel
theorem d_D_takes_13 : decode c_D_takes 13 = .ok (.if_icmp .eq 5, 3) := by decide +kernel
theorem d_D_takes_16 : decode c_D_takes 16 = .ok (.iconst 0, 1) := by decide +kernel
theorem d_D_takes_17 : decode c_D_takes 17 = .ok (.ireturn, 1) := by decide +kernel
theorem d_D_takes_18 : decode c_D_takes 18 = .ok (.aload_n 0, 1) := by decide +kernel
theorem d_D_takes_19 : decode c_D_takes 19 = .ok (.invokevirtual 218, 3) := by decide +kernel
theorem d_D_takes_22 : decode c_D_takes 22 = .ok (.iconst 1, 1) := by decide +kernel
theorem d_D_takes_23 : decode c_D_takes 23 = .ok (.ireturn, 1) := by decide +kernel
theorem d_D_takesFor_0 : decode c_D_takesFor 0 = .ok (.aload_n 0, 1) := by decide +kernel
theorem d_D_takesFor_1 : decode c_D_takesFor 1 = .ok (.getfield 183, 3) := by decide +kernel
theorem d_D_takesFor_4 : decode c_D_takesFor 4 = .ok (.ifCond .eq 16, 3) := by decide +kernel
theorem d_D_takesFor_7 : decode c_D_takesFor 7 = .ok (.aload_n 0, 1) := by decide +kernel
theorem d_D_takesFor_8 : decode c_D_takesFor 8 = .ok (.aload_n 0, 1) := by decide +kernel
theorem d_D_takesFor_9 : decode c_D_takesFor 9 = .ok (.iconst 0, 1) := by decide +kernel
theorem d_D_takesFor_10 : decode c_D_takesFor 10 = .ok (.invokevirtual 214, 3) := by decide +kernel
theorem d_D_takesFor_13 : decode c_D_takesFor 13 = .ok (.iload_n 1, 1) := by decide +kernel
theorem d_D_takesFor_14 : decode c_D_takesFor 14 = .ok (.invokevirtual 221, 3) := by decide +kernel
theorem d_D_takesFor_17 : decode c_D_takesFor 17 = .ok (.ifCond .ne 5, 3) := by decide +kernel
theorem d_D_takesFor_20 : decode c_D_takesFor 20 = .ok (.iconst 0, 1) := by decide +kernel
theorem d_D_takesFor_21 : decode c_D_takesFor 21 = .ok (.ireturn, 1) := by decide +kernel
theorem d_D_takesFor_22 : decode c_D_takesFor 22 = .ok (.aload_n 0, 1) := by decide +kernel
theorem d_D_takesFor_23 : decode c_D_takesFor 23 = .ok (.invokevirtual 218, 3) := by decide +kernel
theorem d_D_takesFor_26 : decode c_D_takesFor 26 = .ok (.iconst 1, 1) := by decide +kernel
theorem d_D_takesFor_27 : decode c_D_takesFor 27 = .ok (.ireturn, 1) := by decide +kernel
theorem d_D_takesRef_0 : decode c_D_takesRef 0 = .ok (.aload_n 0, 1) := by decide +kernel
theorem d_D_takesRef_1 : decode c_D_takesRef 1 = .ok (.getfield 183, 3) := by decide +kernel
theorem d_D_takesRef_4 : decode c_D_takesRef 4 = .ok (.ifCond .eq 24, 3) := by decide +kernel
theorem d_D_takesRef_7 : decode c_D_takesRef 7 = .ok (.aload_n 0, 1) := by decide +kernel
theorem d_D_takesRef_8 : decode c_D_takesRef 8 = .ok (.iconst 0, 1) := by decide +kernel
theorem d_D_takesRef_9 : decode c_D_takesRef 9 = .ok (.invokevirtual 214, 3) := by decide +kernel
theorem d_D_takesRef_12 : decode c_D_takesRef 12 = .ok (.iconst 5, 1) := by decide +kernel
theorem d_D_takesRef_13 : decode c_D_takesRef 13 = .ok (.if_icmp .eq 17, 3) := by decide +kernel
theorem d_D_takesRef_16 : decode c_D_takesRef 16 = .ok (.aload_n 0, 1) := by decide +kernel
theorem d_D_takesRef_17 : decode c_D_takesRef 17 = .ok (.aload_n 0, 1) := by decide +kernel
theorem d_D_takesRef_18 : decode c_D_takesRef 18 = .ok (.iconst 0, 1) := by decide +kernel
theorem d_D_takesRef_19 : decode c_D_takesRef 19 = .ok (.invokevirtual 214, 3) := by decide +kernel
theorem d_D_takesRef_22 : decode c_D_takesRef 22 = .ok (.invokevirtual 99, 3) := by decide +kernel
theorem d_D_takesRef_25 : decode c_D_takesRef 25 = .ok (.ifCond .ne 5, 3) := by decide +kernel
theorem d_D_takesRef_28 : decode c_D_takesRef 28 = .ok (.iconst 0, 1) := by decide +kernel
theorem d_D_takesRef_29 : decode c_D_takesRef 29 = .ok (.ireturn, 1) := by decide +kernel
theorem d_D_takesRef_30 : decode c_D_takesRef 30 = .ok (.aload_n 0, 1) := by decide +kernel
theorem d_D_takesRef_31 : decode c_D_takesRef 31 = .ok (.invokevirtual 218, 3) := by decide +kernel
theorem d_D_takesRef_34 : decode c_D_takesRef 34 = .ok (.iconst 1, 1) := by decide +kernel
theorem d_D_takesRef_35 : decode c_D_takesRef 35 = .ok (.ireturn, 1) := by decide +kernel
theorem d_D_takesRow_0 : decode c_D_takesRow 0 = .ok (.aload_n 0, 1) := by decide +kernel
theorem d_D_takesRow_1 : decode c_D_takesRow 1 = .ok (.iload_n 1, 1) := by decide +kernel
theorem d_D_takesRow_2 : decode c_D_takesRow 2 = .ok (.invokevirtual 224, 3) := by decide +kernel
theorem d_D_takesRow_5 : decode c_D_takesRow 5 = .ok (.ifCond .ne 11, 3) := by decide +kernel
theorem d_D_takesRow_8 : decode c_D_takesRow 8 = .ok (.aload_n 0, 1) := by decide +kernel
theorem d_D_takesRow_9 : decode c_D_takesRow 9 = .ok (.iconst 5, 1) := by decide +kernel
theorem d_D_takesRow_10 : decode c_D_takesRow 10 = .ok (.invokevirtual 224, 3) := by decide +kernel
theorem d_D_takesRow_13 : decode c_D_takesRow 13 = .ok (.ifCond .eq 7, 3) := by decide +kernel
theorem d_D_takesRow_16 : decode c_D_takesRow 16 = .ok (.iconst 1, 1) := by decide +kernel
theorem d_D_takesRow_17 : decode c_D_takesRow 17 = .ok (.goto 4, 3) := by decide +kernel
theorem d_D_takesRow_20 : decode c_D_takesRow 20 = .ok (.iconst 0, 1) := by decide +kernel
theorem d_D_takesRow_21 : decode c_D_takesRow 21 = .ok (.ireturn, 1) := by decide +kernel
theorem d_D_single_0 : decode c_D_single 0 = .ok (.aload_n 0, 1) := by decide +kernel
theorem d_D_single_1 : decode c_D_single 1 = .ok (.getfield 183, 3) := by decide +kernel
theorem d_D_single_4 : decode c_D_single 4 = .ok (.iload_n 1, 1) := by decide +kernel
theorem d_D_single_5 : decode c_D_single 5 = .ok (.if_icmp .le 26, 3) := by decide +kernel
theorem d_D_single_8 : decode c_D_single 8 = .ok (.aload_n 0, 1) := by decide +kernel
theorem d_D_single_9 : decode c_D_single 9 = .ok (.getfield 73, 3) := by decide +kernel
theorem d_D_single_12 : decode c_D_single 12 = .ok (.aload_n 0, 1) := by decide +kernel
theorem d_D_single_13 : decode c_D_single 13 = .ok (.getfield 183, 3) := by decide +kernel
theorem d_D_single_16 : decode c_D_single 16 = .ok (.iconst 1, 1) := by decide +kernel
theorem d_D_single_17 : decode c_D_single 17 = .ok (.isub, 1) := by decide +kernel
theorem d_D_single_18 : decode c_D_single 18 = .ok (.iload_n 1, 1) := by decide +kernel
theorem d_D_single_19 : decode c_D_single 19 = .ok (.isub, 1) := by decide +kernel
theorem d_D_single_20 : decode c_D_single 20 = .ok (.iaload, 1) := by decide +kernel
theorem d_D_single_21 : decode c_D_single 21 = .ok (.invokestatic 140, 3) := by decide +kernel
theorem d_D_single_24 : decode c_D_single 24 = .ok (.ifCond .ne 7, 3) := by decide +kernel
theorem d_D_single_27 : decode c_D_single 27 = .ok (.iconst 1, 1) := by decide +kernel
theorem d_D_single_28 : decode c_D_single 28 = .ok (.goto 4, 3) := by decide +kernel
theorem d_D_single_31 : decode c_D_single 31 = .ok (.iconst 0, 1) := by decide +kernel
theorem d_D_single_32 : decode c_D_single 32 = .ok (.ireturn, 1) := by decide +kernel
theorem d_D_touches_0 : decode c_D_touches 0 = .ok (.iconst 0, 1) := by decide +kernel
theorem d_D_touches_1 : decode c_D_touches 1 = .ok (.istore_n 3, 1) := by decide +kernel
theorem d_D_touches_2 : decode c_D_touches 2 = .ok (.iload_n 3, 1) := by decide +kernel
theorem d_D_touches_3 : decode c_D_touches 3 = .ok (.bipush 48, 2) := by decide +kernel
theorem d_D_touches_5 : decode c_D_touches 5 = .ok (.if_icmp .ge 49, 3) := by decide +kernel
theorem d_D_touches_8 : decode c_D_touches 8 = .ok (.aload_n 0, 1) := by decide +kernel
theorem d_D_touches_9 : decode c_D_touches 9 = .ok (.getfield 186, 3) := by decide +kernel
theorem d_D_touches_12 : decode c_D_touches 12 = .ok (.iload_n 3, 1) := by decide +kernel
theorem d_D_touches_13 : decode c_D_touches 13 = .ok (.lshr, 1) := by decide +kernel
theorem d_D_touches_14 : decode c_D_touches 14 = .ok (.lconst 1, 1) := by decide +kernel
theorem d_D_touches_15 : decode c_D_touches 15 = .ok (.land, 1) := by decide +kernel
theorem d_D_touches_16 : decode c_D_touches 16 = .ok (.lconst 1, 1) := by decide +kernel
theorem d_D_touches_17 : decode c_D_touches 17 = .ok (.lcmp, 1) := by decide +kernel
theorem d_D_touches_18 : decode c_D_touches 18 = .ok (.ifCond .ne 30, 3) := by decide +kernel
theorem d_D_touches_21 : decode c_D_touches 21 = .ok (.aload_n 0, 1) := by decide +kernel
theorem d_D_touches_22 : decode c_D_touches 22 = .ok (.getfield 76, 3) := by decide +kernel
theorem d_D_touches_25 : decode c_D_touches 25 = .ok (.iload_n 3, 1) := by decide +kernel
theorem d_D_touches_26 : decode c_D_touches 26 = .ok (.dup2, 1) := by decide +kernel
theorem d_D_touches_27 : decode c_D_touches 27 = .ok (.iaload, 1) := by decide +kernel
theorem d_D_touches_28 : decode c_D_touches 28 = .ok (.iconst 1, 1) := by decide +kernel
theorem d_D_touches_29 : decode c_D_touches 29 = .ok (.iload_n 1, 1) := by decide +kernel
theorem d_D_touches_30 : decode c_D_touches 30 = .ok (.ishl, 1) := by decide +kernel
theorem d_D_touches_31 : decode c_D_touches 31 = .ok (.iload_n 2, 1) := by decide +kernel
theorem d_D_touches_32 : decode c_D_touches 32 = .ok (.invokestatic 140, 3) := by decide +kernel
theorem d_D_touches_35 : decode c_D_touches 35 = .ok (.ifCond .eq 9, 3) := by decide +kernel
theorem d_D_touches_38 : decode c_D_touches 38 = .ok (.iconst 2, 1) := by decide +kernel
theorem d_D_touches_39 : decode c_D_touches 39 = .ok (.iload_n 1, 1) := by decide +kernel
theorem d_D_touches_40 : decode c_D_touches 40 = .ok (.ishl, 1) := by decide +kernel
theorem d_D_touches_41 : decode c_D_touches 41 = .ok (.goto 4, 3) := by decide +kernel
theorem d_D_touches_44 : decode c_D_touches 44 = .ok (.iconst 0, 1) := by decide +kernel
theorem d_D_touches_45 : decode c_D_touches 45 = .ok (.ior, 1) := by decide +kernel
theorem d_D_touches_46 : decode c_D_touches 46 = .ok (.ior, 1) := by decide +kernel
theorem d_D_touches_47 : decode c_D_touches 47 = .ok (.iastore, 1) := by decide +kernel
theorem d_D_touches_48 : decode c_D_touches 48 = .ok (.iinc 3 1, 3) := by decide +kernel
theorem d_D_touches_51 : decode c_D_touches 51 = .ok (.goto (-49), 3) := by decide +kernel
theorem d_D_touches_54 : decode c_D_touches 54 = .ok (.return_, 1) := by decide +kernel
theorem d_D_moves_0 : decode c_D_moves 0 = .ok (.iload_n 1, 1) := by decide +kernel
theorem d_D_moves_1 : decode c_D_moves 1 = .ok (.tableswitch 310 0 7 #[47, 49, 55, 104, 196, 212, 238, 238], 47) := by decide +kernel
theorem d_D_moves_48 : decode c_D_moves 48 = .ok (.iconst 1, 1) := by decide +kernel
theorem d_D_moves_49 : decode c_D_moves 49 = .ok (.ireturn, 1) := by decide +kernel
theorem d_D_moves_50 : decode c_D_moves 50 = .ok (.aload_n 0, 1) := by decide +kernel
theorem d_D_moves_51 : decode c_D_moves 51 = .ok (.iload_n 2, 1) := by decide +kernel
theorem d_D_moves_52 : decode c_D_moves 52 = .ok (.invokevirtual 227, 3) := by decide +kernel
theorem d_D_moves_55 : decode c_D_moves 55 = .ok (.ireturn, 1) := by decide +kernel
theorem d_D_moves_56 : decode c_D_moves 56 = .ok (.aload_n 0, 1) := by decide +kernel
theorem d_D_moves_57 : decode c_D_moves 57 = .ok (.getfield 70, 3) := by decide +kernel
theorem d_D_moves_60 : decode c_D_moves 60 = .ok (.iload_n 2, 1) := by decide +kernel
theorem d_D_moves_61 : decode c_D_moves 61 = .ok (.iaload, 1) := by decide +kernel
theorem d_D_moves_62 : decode c_D_moves 62 = .ok (.istore_n 3, 1) := by decide +kernel
theorem d_D_moves_63 : decode c_D_moves 63 = .ok (.iload_n 3, 1) := by decide +kernel
theorem d_D_moves_64 : decode c_D_moves 64 = .ok (.ifCond .eq 27, 3) := by decide +kernel
theorem d_D_moves_67 : decode c_D_moves 67 = .ok (.iload_n 3, 1) := by decide +kernel
theorem d_D_moves_68 : decode c_D_moves 68 = .ok (.sipush 2000, 3) := by decide +kernel
theorem d_D_moves_71 : decode c_D_moves 71 = .ok (.if_icmp .ge 20, 3) := by decide +kernel
theorem d_D_moves_74 : decode c_D_moves 74 = .ok (.iload_n 3, 1) := by decide +kernel
theorem d_D_moves_75 : decode c_D_moves 75 = .ok (.invokestatic 140, 3) := by decide +kernel
theorem d_D_moves_78 : decode c_D_moves 78 = .ok (.ifCond .eq 15, 3) := by decide +kernel
theorem d_D_moves_81 : decode c_D_moves 81 = .ok (.iload_n 2, 1) := by decide +kernel
theorem d_D_moves_82 : decode c_D_moves 82 = .ok (.iconst 1, 1) := by decide +kernel
theorem d_D_moves_83 : decode c_D_moves 83 = .ok (.iadd, 1) := by decide +kernel
theorem d_D_moves_84 : decode c_D_moves 84 = .ok (.aload_n 0, 1) := by decide +kernel
theorem d_D_moves_85 : decode c_D_moves 85 = .ok (.getfield 112, 3) := by decide +kernel
theorem d_D_moves_88 : decode c_D_moves 88 = .ok (.if_icmp .lt 5, 3) := by decide +kernel
theorem d_D_moves_91 : decode c_D_moves 91 = .ok (.iconst 0, 1) := by decide +kernel
theorem d_D_moves_92 : decode c_D_moves 92 = .ok (.ireturn, 1) := by decide +kernel
theorem d_D_moves_93 : decode c_D_moves 93 = .ok (.aload_n 0, 1) := by decide +kernel
theorem d_D_moves_94 : decode c_D_moves 94 = .ok (.iload_n 2, 1) := by decide +kernel
theorem d_D_moves_95 : decode c_D_moves 95 = .ok (.iload_n 3, 1) := by decide +kernel
theorem d_D_moves_96 : decode c_D_moves 96 = .ok (.invokevirtual 230, 3) := by decide +kernel
theorem d_D_moves_99 : decode c_D_moves 99 = .ok (.aload_n 0, 1) := by decide +kernel
theorem d_D_moves_100 : decode c_D_moves 100 = .ok (.iload_n 3, 1) := by decide +kernel
theorem d_D_moves_101 : decode c_D_moves 101 = .ok (.invokevirtual 227, 3) := by decide +kernel
theorem d_D_moves_104 : decode c_D_moves 104 = .ok (.ireturn, 1) := by decide +kernel
theorem d_D_moves_105 : decode c_D_moves 105 = .ok (.aload_n 0, 1) := by decide +kernel
theorem d_D_moves_106 : decode c_D_moves 106 = .ok (.iconst 0, 1) := by decide +kernel
theorem d_D_moves_107 : decode c_D_moves 107 = .ok (.invokevirtual 214, 3) := by decide +kernel
theorem d_D_moves_110 : decode c_D_moves 110 = .ok (.istore_n 3, 1) := by decide +kernel
theorem d_D_moves_111 : decode c_D_moves 111 = .ok (.iload_n 3, 1) := by decide +kernel
theorem d_D_moves_112 : decode c_D_moves 112 = .ok (.iconst 1, 1) := by decide +kernel
theorem d_D_moves_113 : decode c_D_moves 113 = .ok (.if_icmp .lt 20, 3) := by decide +kernel
theorem d_D_moves_116 : decode c_D_moves 116 = .ok (.iload_n 3, 1) := by decide +kernel
theorem d_D_moves_117 : decode c_D_moves 117 = .ok (.invokestatic 140, 3) := by decide +kernel
theorem d_D_moves_120 : decode c_D_moves 120 = .ok (.ifCond .eq 15, 3) := by decide +kernel
theorem d_D_moves_123 : decode c_D_moves 123 = .ok (.iload_n 2, 1) := by decide +kernel
theorem d_D_moves_124 : decode c_D_moves 124 = .ok (.iconst 1, 1) := by decide +kernel
theorem d_D_moves_125 : decode c_D_moves 125 = .ok (.iadd, 1) := by decide +kernel
theorem d_D_moves_126 : decode c_D_moves 126 = .ok (.aload_n 0, 1) := by decide +kernel
theorem d_D_moves_127 : decode c_D_moves 127 = .ok (.getfield 112, 3) := by decide +kernel
theorem d_D_moves_130 : decode c_D_moves 130 = .ok (.if_icmp .lt 5, 3) := by decide +kernel
theorem d_D_moves_133 : decode c_D_moves 133 = .ok (.iconst 0, 1) := by decide +kernel
theorem d_D_moves_134 : decode c_D_moves 134 = .ok (.ireturn, 1) := by decide +kernel
theorem d_D_moves_135 : decode c_D_moves 135 = .ok (.aload_n 0, 1) := by decide +kernel
theorem d_D_moves_136 : decode c_D_moves 136 = .ok (.invokevirtual 218, 3) := by decide +kernel
theorem d_D_moves_139 : decode c_D_moves 139 = .ok (.aload_n 0, 1) := by decide +kernel
theorem d_D_moves_140 : decode c_D_moves 140 = .ok (.iload_n 2, 1) := by decide +kernel
theorem d_D_moves_141 : decode c_D_moves 141 = .ok (.iload_n 3, 1) := by decide +kernel
theorem d_D_moves_142 : decode c_D_moves 142 = .ok (.invokevirtual 230, 3) := by decide +kernel
theorem d_D_moves_145 : decode c_D_moves 145 = .ok (.iload_n 2, 1) := by decide +kernel
theorem d_D_moves_146 : decode c_D_moves 146 = .ok (.ifCond .le 26, 3) := by decide +kernel
theorem d_D_moves_149 : decode c_D_moves 149 = .ok (.aload_n 0, 1) := by decide +kernel
theorem d_D_moves_150 : decode c_D_moves 150 = .ok (.getfield 70, 3) := by decide +kernel
theorem d_D_moves_153 : decode c_D_moves 153 = .ok (.iload_n 2, 1) := by decide +kernel
theorem d_D_moves_154 : decode c_D_moves 154 = .ok (.iconst 1, 1) := by decide +kernel
theorem d_D_moves_155 : decode c_D_moves 155 = .ok (.isub, 1) := by decide +kernel
theorem d_D_moves_156 : decode c_D_moves 156 = .ok (.iaload, 1) := by decide +kernel
theorem d_D_moves_157 : decode c_D_moves 157 = .ok (.invokestatic 140, 3) := by decide +kernel
theorem d_D_moves_160 : decode c_D_moves 160 = .ok (.ifCond .eq 12, 3) := by decide +kernel
theorem d_D_moves_163 : decode c_D_moves 163 = .ok (.aload_n 0, 1) := by decide +kernel
theorem d_D_moves_164 : decode c_D_moves 164 = .ok (.getfield 70, 3) := by decide +kernel
theorem d_D_moves_167 : decode c_D_moves 167 = .ok (.iload_n 2, 1) := by decide +kernel
theorem d_D_moves_168 : decode c_D_moves 168 = .ok (.iconst 1, 1) := by decide +kernel
theorem d_D_moves_169 : decode c_D_moves 169 = .ok (.isub, 1) := by decide +kernel
theorem d_D_moves_170 : decode c_D_moves 170 = .ok (.iconst 0, 1) := by decide +kernel
theorem d_D_moves_171 : decode c_D_moves 171 = .ok (.iastore, 1) := by decide +kernel
theorem d_D_moves_172 : decode c_D_moves 172 = .ok (.aload_n 0, 1) := by decide +kernel
theorem d_D_moves_173 : decode c_D_moves 173 = .ok (.getfield 70, 3) := by decide +kernel
theorem d_D_moves_176 : decode c_D_moves 176 = .ok (.iload_n 2, 1) := by decide +kernel
theorem d_D_moves_177 : decode c_D_moves 177 = .ok (.iload_n 3, 1) := by decide +kernel
theorem d_D_moves_178 : decode c_D_moves 178 = .ok (.iastore, 1) := by decide +kernel
theorem d_D_moves_179 : decode c_D_moves 179 = .ok (.iload_n 3, 1) := by decide +kernel
theorem d_D_moves_180 : decode c_D_moves 180 = .ok (.invokestatic 140, 3) := by decide +kernel
theorem d_D_moves_183 : decode c_D_moves 183 = .ok (.ifCond .eq 12, 3) := by decide +kernel
theorem d_D_moves_186 : decode c_D_moves 186 = .ok (.aload_n 0, 1) := by decide +kernel
theorem d_D_moves_187 : decode c_D_moves 187 = .ok (.getfield 70, 3) := by decide +kernel
theorem d_D_moves_190 : decode c_D_moves 190 = .ok (.iload_n 2, 1) := by decide +kernel
theorem d_D_moves_191 : decode c_D_moves 191 = .ok (.iconst 1, 1) := by decide +kernel
theorem d_D_moves_192 : decode c_D_moves 192 = .ok (.iadd, 1) := by decide +kernel
theorem d_D_moves_193 : decode c_D_moves 193 = .ok (.iconst 0, 1) := by decide +kernel
theorem d_D_moves_194 : decode c_D_moves 194 = .ok (.iastore, 1) := by decide +kernel
theorem d_D_moves_195 : decode c_D_moves 195 = .ok (.iconst 1, 1) := by decide +kernel
theorem d_D_moves_196 : decode c_D_moves 196 = .ok (.ireturn, 1) := by decide +kernel
theorem d_D_moves_197 : decode c_D_moves 197 = .ok (.aload_n 0, 1) := by decide +kernel
theorem d_D_moves_198 : decode c_D_moves 198 = .ok (.iconst 0, 1) := by decide +kernel
theorem d_D_moves_199 : decode c_D_moves 199 = .ok (.invokevirtual 233, 3) := by decide +kernel
theorem d_D_moves_202 : decode c_D_moves 202 = .ok (.ifCond .ne 5, 3) := by decide +kernel
theorem d_D_moves_205 : decode c_D_moves 205 = .ok (.iconst 0, 1) := by decide +kernel
theorem d_D_moves_206 : decode c_D_moves 206 = .ok (.ireturn, 1) := by decide +kernel
theorem d_D_moves_207 : decode c_D_moves 207 = .ok (.aload_n 0, 1) := by decide +kernel
theorem d_D_moves_208 : decode c_D_moves 208 = .ok (.invokevirtual 218, 3) := by decide +kernel
theorem d_D_moves_211 : decode c_D_moves 211 = .ok (.iconst 1, 1) := by decide +kernel
theorem d_D_moves_212 : decode c_D_moves 212 = .ok (.ireturn, 1) := by decide +kernel
theorem d_D_moves_213 : decode c_D_moves 213 = .ok (.aload_n 0, 1) := by decide +kernel
theorem d_D_moves_214 : decode c_D_moves 214 = .ok (.iconst 0, 1) := by decide +kernel
theorem d_D_moves_215 : decode c_D_moves 215 = .ok (.invokevirtual 233, 3) := by decide +kernel
theorem d_D_moves_218 : decode c_D_moves 218 = .ok (.ifCond .eq 19, 3) := by decide +kernel
theorem d_D_moves_221 : decode c_D_moves 221 = .ok (.aload_n 0, 1) := by decide +kernel
theorem d_D_moves_222 : decode c_D_moves 222 = .ok (.aload_n 0, 1) := by decide +kernel
theorem d_D_moves_223 : decode c_D_moves 223 = .ok (.iconst 0, 1) := by decide +kernel
theorem d_D_moves_224 : decode c_D_moves 224 = .ok (.invokevirtual 214, 3) := by decide +kernel
theorem d_D_moves_227 : decode c_D_moves 227 = .ok (.invokevirtual 227, 3) := by decide +kernel
theorem d_D_moves_230 : decode c_D_moves 230 = .ok (.ifCond .eq 7, 3) := by decide +kernel
theorem d_D_moves_233 : decode c_D_moves 233 = .ok (.iconst 1, 1) := by decide +kernel
theorem d_D_moves_234 : decode c_D_moves 234 = .ok (.goto 4, 3) := by decide +kernel
theorem d_D_moves_237 : decode c_D_moves 237 = .ok (.iconst 0, 1) := by decide +kernel
theorem d_D_moves_238 : decode c_D_moves 238 = .ok (.ireturn, 1) := by decide +kernel
theorem d_D_moves_239 : decode c_D_moves 239 = .ok (.aload_n 0, 1) := by decide +kernel
theorem d_D_moves_240 : decode c_D_moves 240 = .ok (.iconst 0, 1) := by decide +kernel
theorem d_D_moves_241 : decode c_D_moves 241 = .ok (.invokevirtual 233, 3) := by decide +kernel
theorem d_D_moves_244 : decode c_D_moves 244 = .ok (.ifCond .eq 11, 3) := by decide +kernel
theorem d_D_moves_247 : decode c_D_moves 247 = .ok (.aload_n 0, 1) := by decide +kernel
theorem d_D_moves_248 : decode c_D_moves 248 = .ok (.iconst 1, 1) := by decide +kernel
theorem d_D_moves_249 : decode c_D_moves 249 = .ok (.invokevirtual 233, 3) := by decide +kernel
theorem d_D_moves_252 : decode c_D_moves 252 = .ok (.ifCond .ne 5, 3) := by decide +kernel
theorem d_D_moves_255 : decode c_D_moves 255 = .ok (.iconst 0, 1) := by decide +kernel
theorem d_D_moves_256 : decode c_D_moves 256 = .ok (.ireturn, 1) := by decide +kernel
theorem d_D_moves_257 : decode c_D_moves 257 = .ok (.aload_n 0, 1) := by decide +kernel
theorem d_D_moves_258 : decode c_D_moves 258 = .ok (.iconst 0, 1) := by decide +kernel
theorem d_D_moves_259 : decode c_D_moves 259 = .ok (.invokevirtual 214, 3) := by decide +kernel
theorem d_D_moves_262 : decode c_D_moves 262 = .ok (.istore_n 3, 1) := by decide +kernel
theorem d_D_moves_263 : decode c_D_moves 263 = .ok (.aload_n 0, 1) := by decide +kernel
theorem d_D_moves_264 : decode c_D_moves 264 = .ok (.iconst 1, 1) := by decide +kernel
theorem d_D_moves_265 : decode c_D_moves 265 = .ok (.invokevirtual 214, 3) := by decide +kernel
theorem d_D_moves_268 : decode c_D_moves 268 = .ok (.istore 4, 2) := by decide +kernel
theorem d_D_moves_270 : decode c_D_moves 270 = .ok (.aload_n 0, 1) := by decide +kernel
theorem d_D_moves_271 : decode c_D_moves 271 = .ok (.invokevirtual 218, 3) := by decide +kernel
theorem d_D_moves_274 : decode c_D_moves 274 = .ok (.aload_n 0, 1) := by decide +kernel
theorem d_D_moves_275 : decode c_D_moves 275 = .ok (.invokevirtual 218, 3) := by decide +kernel
theorem d_D_moves_278 : decode c_D_moves 278 = .ok (.aload_n 0, 1) := by decide +kernel
theorem d_D_moves_279 : decode c_D_moves 279 = .ok (.iload_n 3, 1) := by decide +kernel
theorem d_D_moves_280 : decode c_D_moves 280 = .ok (.invokevirtual 227, 3) := by decide +kernel
theorem d_D_moves_283 : decode c_D_moves 283 = .ok (.pop, 1) := by decide +kernel
theorem d_D_moves_284 : decode c_D_moves 284 = .ok (.aload_n 0, 1) := by decide +kernel
theorem d_D_moves_285 : decode c_D_moves 285 = .ok (.iload 4, 2) := by decide +kernel
theorem d_D_moves_287 : decode c_D_moves 287 = .ok (.invokevirtual 227, 3) := by decide +kernel
theorem d_D_moves_290 : decode c_D_moves 290 = .ok (.pop, 1) := by decide +kernel
theorem d_D_moves_291 : decode c_D_moves 291 = .ok (.iload_n 1, 1) := by decide +kernel
theorem d_D_moves_292 : decode c_D_moves 292 = .ok (.bipush 7, 2) := by decide +kernel
theorem d_D_moves_294 : decode c_D_moves 294 = .ok (.if_icmp .eq 11, 3) := by decide +kernel
theorem d_D_moves_297 : decode c_D_moves 297 = .ok (.aload_n 0, 1) := by decide +kernel
theorem d_D_moves_298 : decode c_D_moves 298 = .ok (.iload_n 3, 1) := by decide +kernel
theorem d_D_moves_299 : decode c_D_moves 299 = .ok (.invokevirtual 227, 3) := by decide +kernel
theorem d_D_moves_302 : decode c_D_moves 302 = .ok (.ifCond .eq 7, 3) := by decide +kernel
theorem d_D_moves_305 : decode c_D_moves 305 = .ok (.iconst 1, 1) := by decide +kernel
theorem d_D_moves_306 : decode c_D_moves 306 = .ok (.goto 4, 3) := by decide +kernel
theorem d_D_moves_309 : decode c_D_moves 309 = .ok (.iconst 0, 1) := by decide +kernel
theorem d_D_moves_310 : decode c_D_moves 310 = .ok (.ireturn, 1) := by decide +kernel
theorem d_D_moves_311 : decode c_D_moves 311 = .ok (.aload_n 0, 1) := by decide +kernel
theorem d_D_moves_312 : decode c_D_moves 312 = .ok (.getfield 183, 3) := by decide +kernel
theorem d_D_moves_315 : decode c_D_moves 315 = .ok (.ifCond .le 21, 3) := by decide +kernel
theorem d_D_moves_318 : decode c_D_moves 318 = .ok (.aload_n 0, 1) := by decide +kernel
theorem d_D_moves_319 : decode c_D_moves 319 = .ok (.iconst 0, 1) := by decide +kernel
theorem d_D_moves_320 : decode c_D_moves 320 = .ok (.invokevirtual 233, 3) := by decide +kernel
theorem d_D_moves_323 : decode c_D_moves 323 = .ok (.ifCond .ne 13, 3) := by decide +kernel
theorem d_D_moves_326 : decode c_D_moves 326 = .ok (.aload_n 0, 1) := by decide +kernel
theorem d_D_moves_327 : decode c_D_moves 327 = .ok (.aload_n 0, 1) := by decide +kernel
theorem d_D_moves_328 : decode c_D_moves 328 = .ok (.iconst 0, 1) := by decide +kernel
theorem d_D_moves_329 : decode c_D_moves 329 = .ok (.invokevirtual 214, 3) := by decide +kernel
theorem d_D_moves_332 : decode c_D_moves 332 = .ok (.invokevirtual 227, 3) := by decide +kernel
theorem d_D_moves_335 : decode c_D_moves 335 = .ok (.ireturn, 1) := by decide +kernel
theorem d_D_moves_336 : decode c_D_moves 336 = .ok (.aload_n 0, 1) := by decide +kernel
theorem d_D_moves_337 : decode c_D_moves 337 = .ok (.iconst 0, 1) := by decide +kernel
theorem d_D_moves_338 : decode c_D_moves 338 = .ok (.invokevirtual 233, 3) := by decide +kernel
theorem d_D_moves_341 : decode c_D_moves 341 = .ok (.ifCond .eq 11, 3) := by decide +kernel
theorem d_D_moves_344 : decode c_D_moves 344 = .ok (.aload_n 0, 1) := by decide +kernel
theorem d_D_moves_345 : decode c_D_moves 345 = .ok (.iconst 1, 1) := by decide +kernel
theorem d_D_moves_346 : decode c_D_moves 346 = .ok (.invokevirtual 233, 3) := by decide +kernel
theorem d_D_moves_349 : decode c_D_moves 349 = .ok (.ifCond .ne 5, 3) := by decide +kernel
theorem d_D_moves_352 : decode c_D_moves 352 = .ok (.iconst 0, 1) := by decide +kernel
theorem d_D_moves_353 : decode c_D_moves 353 = .ok (.ireturn, 1) := by decide +kernel
theorem d_D_moves_354 : decode c_D_moves 354 = .ok (.aload_n 0, 1) := by decide +kernel
theorem d_D_moves_355 : decode c_D_moves 355 = .ok (.iconst 1, 1) := by decide +kernel
theorem d_D_moves_356 : decode c_D_moves 356 = .ok (.invokevirtual 214, 3) := by decide +kernel
theorem d_D_moves_359 : decode c_D_moves 359 = .ok (.istore_n 3, 1) := by decide +kernel
theorem d_D_moves_360 : decode c_D_moves 360 = .ok (.aload_n 0, 1) := by decide +kernel
theorem d_D_moves_361 : decode c_D_moves 361 = .ok (.iconst 0, 1) := by decide +kernel
theorem d_D_moves_362 : decode c_D_moves 362 = .ok (.invokevirtual 214, 3) := by decide +kernel
theorem d_D_moves_365 : decode c_D_moves 365 = .ok (.istore 4, 2) := by decide +kernel
theorem d_D_moves_367 : decode c_D_moves 367 = .ok (.aload_n 0, 1) := by decide +kernel
theorem d_D_moves_368 : decode c_D_moves 368 = .ok (.iload_n 3, 1) := by decide +kernel
theorem d_D_moves_369 : decode c_D_moves 369 = .ok (.invokevirtual 227, 3) := by decide +kernel
theorem d_D_moves_372 : decode c_D_moves 372 = .ok (.pop, 1) := by decide +kernel
theorem d_D_moves_373 : decode c_D_moves 373 = .ok (.aload_n 0, 1) := by decide +kernel
theorem d_D_moves_374 : decode c_D_moves 374 = .ok (.iload 4, 2) := by decide +kernel
theorem d_D_moves_376 : decode c_D_moves 376 = .ok (.invokevirtual 227, 3) := by decide +kernel
theorem d_D_moves_379 : decode c_D_moves 379 = .ok (.ireturn, 1) := by decide +kernel
theorem d_D_flows_0 : decode c_D_flows 0 = .ok (.iload_n 1, 1) := by decide +kernel
theorem d_D_flows_1 : decode c_D_flows 1 = .ok (.tableswitch 183 9 19 #[59, 89, 111, 141, 147, 183, 183, 183, 141, 152, 176], 59) := by decide +kernel
theorem d_D_flows_60 : decode c_D_flows 60 = .ok (.aload_n 0, 1) := by decide +kernel
theorem d_D_flows_61 : decode c_D_flows 61 = .ok (.iload_n 2, 1) := by decide +kernel
theorem d_D_flows_62 : decode c_D_flows 62 = .ok (.invokevirtual 224, 3) := by decide +kernel
theorem d_D_flows_65 : decode c_D_flows 65 = .ok (.ifCond .eq 23, 3) := by decide +kernel
theorem d_D_flows_68 : decode c_D_flows 68 = .ok (.aload_n 0, 1) := by decide +kernel
theorem d_D_flows_69 : decode c_D_flows 69 = .ok (.iload_n 2, 1) := by decide +kernel
theorem d_D_flows_70 : decode c_D_flows 70 = .ok (.invokevirtual 224, 3) := by decide +kernel
theorem d_D_flows_73 : decode c_D_flows 73 = .ok (.ifCond .eq 15, 3) := by decide +kernel
theorem d_D_flows_76 : decode c_D_flows 76 = .ok (.aload_n 0, 1) := by decide +kernel
theorem d_D_flows_77 : decode c_D_flows 77 = .ok (.iload_n 2, 1) := by decide +kernel
theorem d_D_flows_78 : decode c_D_flows 78 = .ok (.invokevirtual 227, 3) := by decide +kernel
theorem d_D_flows_81 : decode c_D_flows 81 = .ok (.ifCond .eq 7, 3) := by decide +kernel
theorem d_D_flows_84 : decode c_D_flows 84 = .ok (.iconst 1, 1) := by decide +kernel
theorem d_D_flows_85 : decode c_D_flows 85 = .ok (.goto 4, 3) := by decide +kernel
theorem d_D_flows_88 : decode c_D_flows 88 = .ok (.iconst 0, 1) := by decide +kernel
theorem d_D_flows_89 : decode c_D_flows 89 = .ok (.ireturn, 1) := by decide +kernel
theorem d_D_flows_90 : decode c_D_flows 90 = .ok (.aload_n 0, 1) := by decide +kernel
theorem d_D_flows_91 : decode c_D_flows 91 = .ok (.iload_n 2, 1) := by decide +kernel
theorem d_D_flows_92 : decode c_D_flows 92 = .ok (.invokevirtual 224, 3) := by decide +kernel
theorem d_D_flows_95 : decode c_D_flows 95 = .ok (.ifCond .eq 15, 3) := by decide +kernel
theorem d_D_flows_98 : decode c_D_flows 98 = .ok (.aload_n 0, 1) := by decide +kernel
theorem d_D_flows_99 : decode c_D_flows 99 = .ok (.iload_n 3, 1) := by decide +kernel
theorem d_D_flows_100 : decode c_D_flows 100 = .ok (.invokevirtual 227, 3) := by decide +kernel
theorem d_D_flows_103 : decode c_D_flows 103 = .ok (.ifCond .eq 7, 3) := by decide +kernel
theorem d_D_flows_106 : decode c_D_flows 106 = .ok (.iconst 1, 1) := by decide +kernel
theorem d_D_flows_107 : decode c_D_flows 107 = .ok (.goto 4, 3) := by decide +kernel
theorem d_D_flows_110 : decode c_D_flows 110 = .ok (.iconst 0, 1) := by decide +kernel
theorem d_D_flows_111 : decode c_D_flows 111 = .ok (.ireturn, 1) := by decide +kernel
theorem d_D_flows_112 : decode c_D_flows 112 = .ok (.aload_n 0, 1) := by decide +kernel
theorem d_D_flows_113 : decode c_D_flows 113 = .ok (.iload_n 2, 1) := by decide +kernel
theorem d_D_flows_114 : decode c_D_flows 114 = .ok (.invokevirtual 224, 3) := by decide +kernel
theorem d_D_flows_117 : decode c_D_flows 117 = .ok (.ifCond .eq 23, 3) := by decide +kernel
theorem d_D_flows_120 : decode c_D_flows 120 = .ok (.aload_n 0, 1) := by decide +kernel
theorem d_D_flows_121 : decode c_D_flows 121 = .ok (.iload_n 2, 1) := by decide +kernel
theorem d_D_flows_122 : decode c_D_flows 122 = .ok (.invokevirtual 224, 3) := by decide +kernel
theorem d_D_flows_125 : decode c_D_flows 125 = .ok (.ifCond .eq 15, 3) := by decide +kernel
theorem d_D_flows_128 : decode c_D_flows 128 = .ok (.aload_n 0, 1) := by decide +kernel
theorem d_D_flows_129 : decode c_D_flows 129 = .ok (.iconst 1, 1) := by decide +kernel
theorem d_D_flows_130 : decode c_D_flows 130 = .ok (.invokevirtual 227, 3) := by decide +kernel
theorem d_D_flows_133 : decode c_D_flows 133 = .ok (.ifCond .eq 7, 3) := by decide +kernel
theorem d_D_flows_136 : decode c_D_flows 136 = .ok (.iconst 1, 1) := by decide +kernel
theorem d_D_flows_137 : decode c_D_flows 137 = .ok (.goto 4, 3) := by decide +kernel
theorem d_D_flows_140 : decode c_D_flows 140 = .ok (.iconst 0, 1) := by decide +kernel
theorem d_D_flows_141 : decode c_D_flows 141 = .ok (.ireturn, 1) := by decide +kernel
theorem d_D_flows_142 : decode c_D_flows 142 = .ok (.aload_n 0, 1) := by decide +kernel
theorem d_D_flows_143 : decode c_D_flows 143 = .ok (.iconst 1, 1) := by decide +kernel
theorem d_D_flows_144 : decode c_D_flows 144 = .ok (.invokevirtual 224, 3) := by decide +kernel
theorem d_D_flows_147 : decode c_D_flows 147 = .ok (.ireturn, 1) := by decide +kernel
theorem d_D_flows_148 : decode c_D_flows 148 = .ok (.aload_n 0, 1) := by decide +kernel
theorem d_D_flows_149 : decode c_D_flows 149 = .ok (.invokevirtual 236, 3) := by decide +kernel
theorem d_D_flows_152 : decode c_D_flows 152 = .ok (.ireturn, 1) := by decide +kernel
theorem d_D_flows_153 : decode c_D_flows 153 = .ok (.aload_n 0, 1) := by decide +kernel
theorem d_D_flows_154 : decode c_D_flows 154 = .ok (.getfield 109, 3) := by decide +kernel
theorem d_D_flows_157 : decode c_D_flows 157 = .ok (.ifCond .eq 14, 3) := by decide +kernel
theorem d_D_flows_160 : decode c_D_flows 160 = .ok (.aload_n 0, 1) := by decide +kernel
theorem d_D_flows_161 : decode c_D_flows 161 = .ok (.aload_n 0, 1) := by decide +kernel
theorem d_D_flows_162 : decode c_D_flows 162 = .ok (.getfield 109, 3) := by decide +kernel
theorem d_D_flows_165 : decode c_D_flows 165 = .ok (.invokevirtual 240, 3) := by decide +kernel
theorem d_D_flows_168 : decode c_D_flows 168 = .ok (.ifCond .eq 7, 3) := by decide +kernel
theorem d_D_flows_171 : decode c_D_flows 171 = .ok (.iconst 1, 1) := by decide +kernel
theorem d_D_flows_172 : decode c_D_flows 172 = .ok (.goto 4, 3) := by decide +kernel
theorem d_D_flows_175 : decode c_D_flows 175 = .ok (.iconst 0, 1) := by decide +kernel
theorem d_D_flows_176 : decode c_D_flows 176 = .ok (.ireturn, 1) := by decide +kernel
theorem d_D_flows_177 : decode c_D_flows 177 = .ok (.aload_n 0, 1) := by decide +kernel
theorem d_D_flows_178 : decode c_D_flows 178 = .ok (.bipush 17, 2) := by decide +kernel
theorem d_D_flows_180 : decode c_D_flows 180 = .ok (.invokevirtual 240, 3) := by decide +kernel
theorem d_D_flows_183 : decode c_D_flows 183 = .ok (.ireturn, 1) := by decide +kernel
theorem d_D_flows_184 : decode c_D_flows 184 = .ok (.iconst 1, 1) := by decide +kernel
theorem d_D_flows_185 : decode c_D_flows 185 = .ok (.ireturn, 1) := by decide +kernel
