/-! written by wip/whole/pp.py out of wip/whole/src/32.mod5.lean -/
theorem dX7_keeps_0 : decode cX7_keeps 0 = .ok (.aload_n 0, 1) := by decide +kernel
theorem dX7_keeps_1 : decode cX7_keeps 1 = .ok (.getfield 88, 3) := by decide +kernel
theorem dX7_keeps_4 : decode cX7_keeps 4 = .ok (.iconst 4, 1) := by decide +kernel
theorem dX7_keeps_5 : decode cX7_keeps 5 = .ok (.if_icmp .ne 158, 3) := by decide +kernel
theorem dX7_keeps_8 : decode cX7_keeps 8 = .ok (.iconst 0, 1) := by decide +kernel
theorem dX7_keeps_9 : decode cX7_keeps 9 = .ok (.istore_n 1, 1) := by decide +kernel
theorem dX7_keeps_10 : decode cX7_keeps 10 = .ok (.iload_n 1, 1) := by decide +kernel
theorem dX7_keeps_11 : decode cX7_keeps 11 = .ok (.bipush 30, 2) := by decide +kernel
theorem dX7_keeps_13 : decode cX7_keeps 13 = .ok (.if_icmp .ge 69, 3) := by decide +kernel
theorem dX7_keeps_16 : decode cX7_keeps 16 = .ok (.aload_n 0, 1) := by decide +kernel
theorem dX7_keeps_17 : decode cX7_keeps 17 = .ok (.getfield 48, 3) := by decide +kernel
theorem dX7_keeps_20 : decode cX7_keeps 20 = .ok (.iload_n 1, 1) := by decide +kernel
theorem dX7_keeps_21 : decode cX7_keeps 21 = .ok (.aload_n 0, 1) := by decide +kernel
theorem dX7_keeps_22 : decode cX7_keeps 22 = .ok (.getfield 48, 3) := by decide +kernel
theorem dX7_keeps_25 : decode cX7_keeps 25 = .ok (.bipush 10, 2) := by decide +kernel
theorem dX7_keeps_27 : decode cX7_keeps 27 = .ok (.iload_n 1, 1) := by decide +kernel
theorem dX7_keeps_28 : decode cX7_keeps 28 = .ok (.iadd, 1) := by decide +kernel
theorem dX7_keeps_29 : decode cX7_keeps 29 = .ok (.iaload, 1) := by decide +kernel
theorem dX7_keeps_30 : decode cX7_keeps 30 = .ok (.iastore, 1) := by decide +kernel
theorem dX7_keeps_31 : decode cX7_keeps 31 = .ok (.aload_n 0, 1) := by decide +kernel
theorem dX7_keeps_32 : decode cX7_keeps 32 = .ok (.getfield 51, 3) := by decide +kernel
theorem dX7_keeps_35 : decode cX7_keeps 35 = .ok (.iload_n 1, 1) := by decide +kernel
theorem dX7_keeps_36 : decode cX7_keeps 36 = .ok (.aload_n 0, 1) := by decide +kernel
theorem dX7_keeps_37 : decode cX7_keeps 37 = .ok (.getfield 51, 3) := by decide +kernel
theorem dX7_keeps_40 : decode cX7_keeps 40 = .ok (.bipush 10, 2) := by decide +kernel
theorem dX7_keeps_42 : decode cX7_keeps 42 = .ok (.iload_n 1, 1) := by decide +kernel
theorem dX7_keeps_43 : decode cX7_keeps 43 = .ok (.iadd, 1) := by decide +kernel
theorem dX7_keeps_44 : decode cX7_keeps 44 = .ok (.iaload, 1) := by decide +kernel
theorem dX7_keeps_45 : decode cX7_keeps 45 = .ok (.iastore, 1) := by decide +kernel
theorem dX7_keeps_46 : decode cX7_keeps 46 = .ok (.aload_n 0, 1) := by decide +kernel
theorem dX7_keeps_47 : decode cX7_keeps 47 = .ok (.getfield 54, 3) := by decide +kernel
theorem dX7_keeps_50 : decode cX7_keeps 50 = .ok (.iload_n 1, 1) := by decide +kernel
theorem dX7_keeps_51 : decode cX7_keeps 51 = .ok (.aload_n 0, 1) := by decide +kernel
theorem dX7_keeps_52 : decode cX7_keeps 52 = .ok (.getfield 54, 3) := by decide +kernel
theorem dX7_keeps_55 : decode cX7_keeps 55 = .ok (.bipush 10, 2) := by decide +kernel
theorem dX7_keeps_57 : decode cX7_keeps 57 = .ok (.iload_n 1, 1) := by decide +kernel
theorem dX7_keeps_58 : decode cX7_keeps 58 = .ok (.iadd, 1) := by decide +kernel
theorem dX7_keeps_59 : decode cX7_keeps 59 = .ok (.iaload, 1) := by decide +kernel
theorem dX7_keeps_60 : decode cX7_keeps 60 = .ok (.iastore, 1) := by decide +kernel
theorem dX7_keeps_61 : decode cX7_keeps 61 = .ok (.aload_n 0, 1) := by decide +kernel
theorem dX7_keeps_62 : decode cX7_keeps 62 = .ok (.getfield 57, 3) := by decide +kernel
theorem dX7_keeps_65 : decode cX7_keeps 65 = .ok (.iload_n 1, 1) := by decide +kernel
theorem dX7_keeps_66 : decode cX7_keeps 66 = .ok (.aload_n 0, 1) := by decide +kernel
theorem dX7_keeps_67 : decode cX7_keeps 67 = .ok (.getfield 57, 3) := by decide +kernel
theorem dX7_keeps_70 : decode cX7_keeps 70 = .ok (.bipush 10, 2) := by decide +kernel
theorem dX7_keeps_72 : decode cX7_keeps 72 = .ok (.iload_n 1, 1) := by decide +kernel
theorem dX7_keeps_73 : decode cX7_keeps 73 = .ok (.iadd, 1) := by decide +kernel
theorem dX7_keeps_74 : decode cX7_keeps 74 = .ok (.laload, 1) := by decide +kernel
theorem dX7_keeps_75 : decode cX7_keeps 75 = .ok (.lastore, 1) := by decide +kernel
theorem dX7_keeps_76 : decode cX7_keeps 76 = .ok (.iinc 1 1, 3) := by decide +kernel
theorem dX7_keeps_79 : decode cX7_keeps 79 = .ok (.goto (-69), 3) := by decide +kernel
theorem dX7_keeps_82 : decode cX7_keeps 82 = .ok (.iconst 0, 1) := by decide +kernel
theorem dX7_keeps_83 : decode cX7_keeps 83 = .ok (.istore_n 1, 1) := by decide +kernel
theorem dX7_keeps_84 : decode cX7_keeps 84 = .ok (.iload_n 1, 1) := by decide +kernel
theorem dX7_keeps_85 : decode cX7_keeps 85 = .ok (.bipush 18, 2) := by decide +kernel
theorem dX7_keeps_87 : decode cX7_keeps 87 = .ok (.if_icmp .ge 39, 3) := by decide +kernel
theorem dX7_keeps_90 : decode cX7_keeps 90 = .ok (.aload_n 0, 1) := by decide +kernel
theorem dX7_keeps_91 : decode cX7_keeps 91 = .ok (.getfield 63, 3) := by decide +kernel
theorem dX7_keeps_94 : decode cX7_keeps 94 = .ok (.iload_n 1, 1) := by decide +kernel
theorem dX7_keeps_95 : decode cX7_keeps 95 = .ok (.aload_n 0, 1) := by decide +kernel
theorem dX7_keeps_96 : decode cX7_keeps 96 = .ok (.getfield 63, 3) := by decide +kernel
theorem dX7_keeps_99 : decode cX7_keeps 99 = .ok (.bipush 6, 2) := by decide +kernel
theorem dX7_keeps_101 : decode cX7_keeps 101 = .ok (.iload_n 1, 1) := by decide +kernel
theorem dX7_keeps_102 : decode cX7_keeps 102 = .ok (.iadd, 1) := by decide +kernel
theorem dX7_keeps_103 : decode cX7_keeps 103 = .ok (.iaload, 1) := by decide +kernel
theorem dX7_keeps_104 : decode cX7_keeps 104 = .ok (.iastore, 1) := by decide +kernel
theorem dX7_keeps_105 : decode cX7_keeps 105 = .ok (.aload_n 0, 1) := by decide +kernel
theorem dX7_keeps_106 : decode cX7_keeps 106 = .ok (.getfield 66, 3) := by decide +kernel
theorem dX7_keeps_109 : decode cX7_keeps 109 = .ok (.iload_n 1, 1) := by decide +kernel
theorem dX7_keeps_110 : decode cX7_keeps 110 = .ok (.aload_n 0, 1) := by decide +kernel
theorem dX7_keeps_111 : decode cX7_keeps 111 = .ok (.getfield 66, 3) := by decide +kernel
theorem dX7_keeps_114 : decode cX7_keeps 114 = .ok (.bipush 6, 2) := by decide +kernel
theorem dX7_keeps_116 : decode cX7_keeps 116 = .ok (.iload_n 1, 1) := by decide +kernel
theorem dX7_keeps_117 : decode cX7_keeps 117 = .ok (.iadd, 1) := by decide +kernel
theorem dX7_keeps_118 : decode cX7_keeps 118 = .ok (.iaload, 1) := by decide +kernel
theorem dX7_keeps_119 : decode cX7_keeps 119 = .ok (.iastore, 1) := by decide +kernel
theorem dX7_keeps_120 : decode cX7_keeps 120 = .ok (.iinc 1 1, 3) := by decide +kernel
theorem dX7_keeps_123 : decode cX7_keeps 123 = .ok (.goto (-39), 3) := by decide +kernel
theorem dX7_keeps_126 : decode cX7_keeps 126 = .ok (.iconst 0, 1) := by decide +kernel
theorem dX7_keeps_127 : decode cX7_keeps 127 = .ok (.istore_n 1, 1) := by decide +kernel
theorem dX7_keeps_128 : decode cX7_keeps 128 = .ok (.iload_n 1, 1) := by decide +kernel
theorem dX7_keeps_129 : decode cX7_keeps 129 = .ok (.iconst 3, 1) := by decide +kernel
theorem dX7_keeps_130 : decode cX7_keeps 130 = .ok (.if_icmp .ge 23, 3) := by decide +kernel
theorem dX7_keeps_133 : decode cX7_keeps 133 = .ok (.aload_n 0, 1) := by decide +kernel
theorem dX7_keeps_134 : decode cX7_keeps 134 = .ok (.getfield 60, 3) := by decide +kernel
theorem dX7_keeps_137 : decode cX7_keeps 137 = .ok (.iload_n 1, 1) := by decide +kernel
theorem dX7_keeps_138 : decode cX7_keeps 138 = .ok (.aload_n 0, 1) := by decide +kernel
theorem dX7_keeps_139 : decode cX7_keeps 139 = .ok (.getfield 60, 3) := by decide +kernel
theorem dX7_keeps_142 : decode cX7_keeps 142 = .ok (.iload_n 1, 1) := by decide +kernel
theorem dX7_keeps_143 : decode cX7_keeps 143 = .ok (.iconst 1, 1) := by decide +kernel
theorem dX7_keeps_144 : decode cX7_keeps 144 = .ok (.iadd, 1) := by decide +kernel
theorem dX7_keeps_145 : decode cX7_keeps 145 = .ok (.iaload, 1) := by decide +kernel
theorem dX7_keeps_146 : decode cX7_keeps 146 = .ok (.iastore, 1) := by decide +kernel
theorem dX7_keeps_147 : decode cX7_keeps 147 = .ok (.iinc 1 1, 3) := by decide +kernel
theorem dX7_keeps_150 : decode cX7_keeps 150 = .ok (.goto (-22), 3) := by decide +kernel
theorem dX7_keeps_153 : decode cX7_keeps 153 = .ok (.aload_n 0, 1) := by decide +kernel
theorem dX7_keeps_154 : decode cX7_keeps 154 = .ok (.dup, 1) := by decide +kernel
theorem dX7_keeps_155 : decode cX7_keeps 155 = .ok (.getfield 88, 3) := by decide +kernel
theorem dX7_keeps_158 : decode cX7_keeps 158 = .ok (.iconst 1, 1) := by decide +kernel
theorem dX7_keeps_159 : decode cX7_keeps 159 = .ok (.isub, 1) := by decide +kernel
theorem dX7_keeps_160 : decode cX7_keeps 160 = .ok (.putfield 88, 3) := by decide +kernel
theorem dX7_keeps_163 : decode cX7_keeps 163 = .ok (.iconst 0, 1) := by decide +kernel
theorem dX7_keeps_164 : decode cX7_keeps 164 = .ok (.istore_n 1, 1) := by decide +kernel
theorem dX7_keeps_165 : decode cX7_keeps 165 = .ok (.iload_n 1, 1) := by decide +kernel
theorem dX7_keeps_166 : decode cX7_keeps 166 = .ok (.bipush 10, 2) := by decide +kernel
theorem dX7_keeps_168 : decode cX7_keeps 168 = .ok (.if_icmp .ge 89, 3) := by decide +kernel
theorem dX7_keeps_171 : decode cX7_keeps 171 = .ok (.aload_n 0, 1) := by decide +kernel
theorem dX7_keeps_172 : decode cX7_keeps 172 = .ok (.getfield 48, 3) := by decide +kernel
theorem dX7_keeps_175 : decode cX7_keeps 175 = .ok (.bipush 10, 2) := by decide +kernel
theorem dX7_keeps_177 : decode cX7_keeps 177 = .ok (.aload_n 0, 1) := by decide +kernel
theorem dX7_keeps_178 : decode cX7_keeps 178 = .ok (.getfield 88, 3) := by decide +kernel
theorem dX7_keeps_181 : decode cX7_keeps 181 = .ok (.imul, 1) := by decide +kernel
theorem dX7_keeps_182 : decode cX7_keeps 182 = .ok (.iload_n 1, 1) := by decide +kernel
theorem dX7_keeps_183 : decode cX7_keeps 183 = .ok (.iadd, 1) := by decide +kernel
theorem dX7_keeps_184 : decode cX7_keeps 184 = .ok (.aload_n 0, 1) := by decide +kernel
theorem dX7_keeps_185 : decode cX7_keeps 185 = .ok (.getfield 13, 3) := by decide +kernel
theorem dX7_keeps_188 : decode cX7_keeps 188 = .ok (.iload_n 1, 1) := by decide +kernel
theorem dX7_keeps_189 : decode cX7_keeps 189 = .ok (.iaload, 1) := by decide +kernel
theorem dX7_keeps_190 : decode cX7_keeps 190 = .ok (.iastore, 1) := by decide +kernel
theorem dX7_keeps_191 : decode cX7_keeps 191 = .ok (.aload_n 0, 1) := by decide +kernel
theorem dX7_keeps_192 : decode cX7_keeps 192 = .ok (.getfield 51, 3) := by decide +kernel
theorem dX7_keeps_195 : decode cX7_keeps 195 = .ok (.bipush 10, 2) := by decide +kernel
theorem dX7_keeps_197 : decode cX7_keeps 197 = .ok (.aload_n 0, 1) := by decide +kernel
theorem dX7_keeps_198 : decode cX7_keeps 198 = .ok (.getfield 88, 3) := by decide +kernel
theorem dX7_keeps_201 : decode cX7_keeps 201 = .ok (.imul, 1) := by decide +kernel
theorem dX7_keeps_202 : decode cX7_keeps 202 = .ok (.iload_n 1, 1) := by decide +kernel
theorem dX7_keeps_203 : decode cX7_keeps 203 = .ok (.iadd, 1) := by decide +kernel
theorem dX7_keeps_204 : decode cX7_keeps 204 = .ok (.aload_n 0, 1) := by decide +kernel
theorem dX7_keeps_205 : decode cX7_keeps 205 = .ok (.getfield 17, 3) := by decide +kernel
theorem dX7_keeps_208 : decode cX7_keeps 208 = .ok (.iload_n 1, 1) := by decide +kernel
theorem dX7_keeps_209 : decode cX7_keeps 209 = .ok (.iaload, 1) := by decide +kernel
theorem dX7_keeps_210 : decode cX7_keeps 210 = .ok (.iastore, 1) := by decide +kernel
theorem dX7_keeps_211 : decode cX7_keeps 211 = .ok (.aload_n 0, 1) := by decide +kernel
theorem dX7_keeps_212 : decode cX7_keeps 212 = .ok (.getfield 54, 3) := by decide +kernel
theorem dX7_keeps_215 : decode cX7_keeps 215 = .ok (.bipush 10, 2) := by decide +kernel
theorem dX7_keeps_217 : decode cX7_keeps 217 = .ok (.aload_n 0, 1) := by decide +kernel
theorem dX7_keeps_218 : decode cX7_keeps 218 = .ok (.getfield 88, 3) := by decide +kernel
theorem dX7_keeps_221 : decode cX7_keeps 221 = .ok (.imul, 1) := by decide +kernel
theorem dX7_keeps_222 : decode cX7_keeps 222 = .ok (.iload_n 1, 1) := by decide +kernel
theorem dX7_keeps_223 : decode cX7_keeps 223 = .ok (.iadd, 1) := by decide +kernel
theorem dX7_keeps_224 : decode cX7_keeps 224 = .ok (.aload_n 0, 1) := by decide +kernel
theorem dX7_keeps_225 : decode cX7_keeps 225 = .ok (.getfield 20, 3) := by decide +kernel
theorem dX7_keeps_228 : decode cX7_keeps 228 = .ok (.iload_n 1, 1) := by decide +kernel
theorem dX7_keeps_229 : decode cX7_keeps 229 = .ok (.iaload, 1) := by decide +kernel
theorem dX7_keeps_230 : decode cX7_keeps 230 = .ok (.iastore, 1) := by decide +kernel
theorem dX7_keeps_231 : decode cX7_keeps 231 = .ok (.aload_n 0, 1) := by decide +kernel
theorem dX7_keeps_232 : decode cX7_keeps 232 = .ok (.getfield 57, 3) := by decide +kernel
theorem dX7_keeps_235 : decode cX7_keeps 235 = .ok (.bipush 10, 2) := by decide +kernel
theorem dX7_keeps_237 : decode cX7_keeps 237 = .ok (.aload_n 0, 1) := by decide +kernel
theorem dX7_keeps_238 : decode cX7_keeps 238 = .ok (.getfield 88, 3) := by decide +kernel
theorem dX7_keeps_241 : decode cX7_keeps 241 = .ok (.imul, 1) := by decide +kernel
theorem dX7_keeps_242 : decode cX7_keeps 242 = .ok (.iload_n 1, 1) := by decide +kernel
theorem dX7_keeps_243 : decode cX7_keeps 243 = .ok (.iadd, 1) := by decide +kernel
theorem dX7_keeps_244 : decode cX7_keeps 244 = .ok (.aload_n 0, 1) := by decide +kernel
theorem dX7_keeps_245 : decode cX7_keeps 245 = .ok (.getfield 23, 3) := by decide +kernel
theorem dX7_keeps_248 : decode cX7_keeps 248 = .ok (.iload_n 1, 1) := by decide +kernel
theorem dX7_keeps_249 : decode cX7_keeps 249 = .ok (.laload, 1) := by decide +kernel
theorem dX7_keeps_250 : decode cX7_keeps 250 = .ok (.lastore, 1) := by decide +kernel
theorem dX7_keeps_251 : decode cX7_keeps 251 = .ok (.iinc 1 1, 3) := by decide +kernel
theorem dX7_keeps_254 : decode cX7_keeps 254 = .ok (.goto (-89), 3) := by decide +kernel
theorem dX7_keeps_257 : decode cX7_keeps 257 = .ok (.iconst 0, 1) := by decide +kernel
theorem dX7_keeps_258 : decode cX7_keeps 258 = .ok (.istore_n 1, 1) := by decide +kernel
theorem dX7_keeps_259 : decode cX7_keeps 259 = .ok (.iload_n 1, 1) := by decide +kernel
theorem dX7_keeps_260 : decode cX7_keeps 260 = .ok (.bipush 6, 2) := by decide +kernel
theorem dX7_keeps_262 : decode cX7_keeps 262 = .ok (.if_icmp .ge 49, 3) := by decide +kernel
theorem dX7_keeps_265 : decode cX7_keeps 265 = .ok (.aload_n 0, 1) := by decide +kernel
theorem dX7_keeps_266 : decode cX7_keeps 266 = .ok (.getfield 63, 3) := by decide +kernel
theorem dX7_keeps_269 : decode cX7_keeps 269 = .ok (.bipush 6, 2) := by decide +kernel
theorem dX7_keeps_271 : decode cX7_keeps 271 = .ok (.aload_n 0, 1) := by decide +kernel
theorem dX7_keeps_272 : decode cX7_keeps 272 = .ok (.getfield 88, 3) := by decide +kernel
theorem dX7_keeps_275 : decode cX7_keeps 275 = .ok (.imul, 1) := by decide +kernel
theorem dX7_keeps_276 : decode cX7_keeps 276 = .ok (.iload_n 1, 1) := by decide +kernel
theorem dX7_keeps_277 : decode cX7_keeps 277 = .ok (.iadd, 1) := by decide +kernel
theorem dX7_keeps_278 : decode cX7_keeps 278 = .ok (.aload_n 0, 1) := by decide +kernel
theorem dX7_keeps_279 : decode cX7_keeps 279 = .ok (.getfield 33, 3) := by decide +kernel
theorem dX7_keeps_282 : decode cX7_keeps 282 = .ok (.iload_n 1, 1) := by decide +kernel
theorem dX7_keeps_283 : decode cX7_keeps 283 = .ok (.iaload, 1) := by decide +kernel
theorem dX7_keeps_284 : decode cX7_keeps 284 = .ok (.iastore, 1) := by decide +kernel
theorem dX7_keeps_285 : decode cX7_keeps 285 = .ok (.aload_n 0, 1) := by decide +kernel
theorem dX7_keeps_286 : decode cX7_keeps 286 = .ok (.getfield 66, 3) := by decide +kernel
theorem dX7_keeps_289 : decode cX7_keeps 289 = .ok (.bipush 6, 2) := by decide +kernel
theorem dX7_keeps_291 : decode cX7_keeps 291 = .ok (.aload_n 0, 1) := by decide +kernel
theorem dX7_keeps_292 : decode cX7_keeps 292 = .ok (.getfield 88, 3) := by decide +kernel
theorem dX7_keeps_295 : decode cX7_keeps 295 = .ok (.imul, 1) := by decide +kernel
theorem dX7_keeps_296 : decode cX7_keeps 296 = .ok (.iload_n 1, 1) := by decide +kernel
theorem dX7_keeps_297 : decode cX7_keeps 297 = .ok (.iadd, 1) := by decide +kernel
theorem dX7_keeps_298 : decode cX7_keeps 298 = .ok (.aload_n 0, 1) := by decide +kernel
theorem dX7_keeps_299 : decode cX7_keeps 299 = .ok (.getfield 36, 3) := by decide +kernel
theorem dX7_keeps_302 : decode cX7_keeps 302 = .ok (.iload_n 1, 1) := by decide +kernel
theorem dX7_keeps_303 : decode cX7_keeps 303 = .ok (.iaload, 1) := by decide +kernel
theorem dX7_keeps_304 : decode cX7_keeps 304 = .ok (.iastore, 1) := by decide +kernel
theorem dX7_keeps_305 : decode cX7_keeps 305 = .ok (.iinc 1 1, 3) := by decide +kernel
theorem dX7_keeps_308 : decode cX7_keeps 308 = .ok (.goto (-49), 3) := by decide +kernel
theorem dX7_keeps_311 : decode cX7_keeps 311 = .ok (.aload_n 0, 1) := by decide +kernel
theorem dX7_keeps_312 : decode cX7_keeps 312 = .ok (.getfield 60, 3) := by decide +kernel
theorem dX7_keeps_315 : decode cX7_keeps 315 = .ok (.aload_n 0, 1) := by decide +kernel
theorem dX7_keeps_316 : decode cX7_keeps 316 = .ok (.getfield 88, 3) := by decide +kernel
theorem dX7_keeps_319 : decode cX7_keeps 319 = .ok (.aload_n 0, 1) := by decide +kernel
theorem dX7_keeps_320 : decode cX7_keeps 320 = .ok (.getfield 82, 3) := by decide +kernel
theorem dX7_keeps_323 : decode cX7_keeps 323 = .ok (.iastore, 1) := by decide +kernel
theorem dX7_keeps_324 : decode cX7_keeps 324 = .ok (.aload_n 0, 1) := by decide +kernel
theorem dX7_keeps_325 : decode cX7_keeps 325 = .ok (.dup, 1) := by decide +kernel
theorem dX7_keeps_326 : decode cX7_keeps 326 = .ok (.getfield 88, 3) := by decide +kernel
theorem dX7_keeps_329 : decode cX7_keeps 329 = .ok (.iconst 1, 1) := by decide +kernel
theorem dX7_keeps_330 : decode cX7_keeps 330 = .ok (.iadd, 1) := by decide +kernel
theorem dX7_keeps_331 : decode cX7_keeps 331 = .ok (.putfield 88, 3) := by decide +kernel
theorem dX7_keeps_334 : decode cX7_keeps 334 = .ok (.return_, 1) := by decide +kernel
theorem dX7_tracks_0 : decode cX7_tracks 0 = .ok (.iconst (-1), 1) := by decide +kernel
theorem dX7_tracks_1 : decode cX7_tracks 1 = .ok (.istore_n 3, 1) := by decide +kernel
theorem dX7_tracks_2 : decode cX7_tracks 2 = .ok (.iconst 0, 1) := by decide +kernel
theorem dX7_tracks_3 : decode cX7_tracks 3 = .ok (.istore 4, 2) := by decide +kernel
theorem dX7_tracks_5 : decode cX7_tracks 5 = .ok (.iconst 0, 1) := by decide +kernel
theorem dX7_tracks_6 : decode cX7_tracks 6 = .ok (.istore 5, 2) := by decide +kernel
theorem dX7_tracks_8 : decode cX7_tracks 8 = .ok (.iload 5, 2) := by decide +kernel
theorem dX7_tracks_10 : decode cX7_tracks 10 = .ok (.aload_n 0, 1) := by decide +kernel
theorem dX7_tracks_11 : decode cX7_tracks 11 = .ok (.getfield 85, 3) := by decide +kernel
theorem dX7_tracks_14 : decode cX7_tracks 14 = .ok (.if_icmp .ge 89, 3) := by decide +kernel
theorem dX7_tracks_17 : decode cX7_tracks 17 = .ok (.aload_n 0, 1) := by decide +kernel
theorem dX7_tracks_18 : decode cX7_tracks 18 = .ok (.getfield 39, 3) := by decide +kernel
theorem dX7_tracks_21 : decode cX7_tracks 21 = .ok (.iload 5, 2) := by decide +kernel
theorem dX7_tracks_23 : decode cX7_tracks 23 = .ok (.iaload, 1) := by decide +kernel
theorem dX7_tracks_24 : decode cX7_tracks 24 = .ok (.iload_n 1, 1) := by decide +kernel
theorem dX7_tracks_25 : decode cX7_tracks 25 = .ok (.if_icmp .ne 8, 3) := by decide +kernel
theorem dX7_tracks_28 : decode cX7_tracks 28 = .ok (.iload 5, 2) := by decide +kernel
theorem dX7_tracks_30 : decode cX7_tracks 30 = .ok (.goto 4, 3) := by decide +kernel
theorem dX7_tracks_33 : decode cX7_tracks 33 = .ok (.iload_n 3, 1) := by decide +kernel
theorem dX7_tracks_34 : decode cX7_tracks 34 = .ok (.istore_n 3, 1) := by decide +kernel
theorem dX7_tracks_35 : decode cX7_tracks 35 = .ok (.aload_n 0, 1) := by decide +kernel
theorem dX7_tracks_36 : decode cX7_tracks 36 = .ok (.getfield 42, 3) := by decide +kernel
theorem dX7_tracks_39 : decode cX7_tracks 39 = .ok (.iload 5, 2) := by decide +kernel
theorem dX7_tracks_41 : decode cX7_tracks 41 = .ok (.laload, 1) := by decide +kernel
theorem dX7_tracks_42 : decode cX7_tracks 42 = .ok (.aload_n 0, 1) := by decide +kernel
theorem dX7_tracks_43 : decode cX7_tracks 43 = .ok (.getfield 42, 3) := by decide +kernel
theorem dX7_tracks_46 : decode cX7_tracks 46 = .ok (.iload 4, 2) := by decide +kernel
theorem dX7_tracks_48 : decode cX7_tracks 48 = .ok (.laload, 1) := by decide +kernel
theorem dX7_tracks_49 : decode cX7_tracks 49 = .ok (.lcmp, 1) := by decide +kernel
theorem dX7_tracks_50 : decode cX7_tracks 50 = .ok (.ifCond .lt 38, 3) := by decide +kernel
theorem dX7_tracks_53 : decode cX7_tracks 53 = .ok (.aload_n 0, 1) := by decide +kernel
theorem dX7_tracks_54 : decode cX7_tracks 54 = .ok (.getfield 42, 3) := by decide +kernel
theorem dX7_tracks_57 : decode cX7_tracks 57 = .ok (.iload 5, 2) := by decide +kernel
theorem dX7_tracks_59 : decode cX7_tracks 59 = .ok (.laload, 1) := by decide +kernel
theorem dX7_tracks_60 : decode cX7_tracks 60 = .ok (.aload_n 0, 1) := by decide +kernel
theorem dX7_tracks_61 : decode cX7_tracks 61 = .ok (.getfield 42, 3) := by decide +kernel
theorem dX7_tracks_64 : decode cX7_tracks 64 = .ok (.iload 4, 2) := by decide +kernel
theorem dX7_tracks_66 : decode cX7_tracks 66 = .ok (.laload, 1) := by decide +kernel
theorem dX7_tracks_67 : decode cX7_tracks 67 = .ok (.lcmp, 1) := by decide +kernel
theorem dX7_tracks_68 : decode cX7_tracks 68 = .ok (.ifCond .ne 25, 3) := by decide +kernel
theorem dX7_tracks_71 : decode cX7_tracks 71 = .ok (.aload_n 0, 1) := by decide +kernel
theorem dX7_tracks_72 : decode cX7_tracks 72 = .ok (.getfield 39, 3) := by decide +kernel
theorem dX7_tracks_75 : decode cX7_tracks 75 = .ok (.iload 5, 2) := by decide +kernel
theorem dX7_tracks_77 : decode cX7_tracks 77 = .ok (.iaload, 1) := by decide +kernel
theorem dX7_tracks_78 : decode cX7_tracks 78 = .ok (.aload_n 0, 1) := by decide +kernel
theorem dX7_tracks_79 : decode cX7_tracks 79 = .ok (.getfield 39, 3) := by decide +kernel
theorem dX7_tracks_82 : decode cX7_tracks 82 = .ok (.iload 4, 2) := by decide +kernel
theorem dX7_tracks_84 : decode cX7_tracks 84 = .ok (.iaload, 1) := by decide +kernel
theorem dX7_tracks_85 : decode cX7_tracks 85 = .ok (.if_icmp .ge 8, 3) := by decide +kernel
theorem dX7_tracks_88 : decode cX7_tracks 88 = .ok (.iload 5, 2) := by decide +kernel
theorem dX7_tracks_90 : decode cX7_tracks 90 = .ok (.goto 5, 3) := by decide +kernel
theorem dX7_tracks_93 : decode cX7_tracks 93 = .ok (.iload 4, 2) := by decide +kernel
theorem dX7_tracks_95 : decode cX7_tracks 95 = .ok (.istore 4, 2) := by decide +kernel
theorem dX7_tracks_97 : decode cX7_tracks 97 = .ok (.iinc 5 1, 3) := by decide +kernel
theorem dX7_tracks_100 : decode cX7_tracks 100 = .ok (.goto (-92), 3) := by decide +kernel
theorem dX7_tracks_103 : decode cX7_tracks 103 = .ok (.iload_n 3, 1) := by decide +kernel
theorem dX7_tracks_104 : decode cX7_tracks 104 = .ok (.iconst (-1), 1) := by decide +kernel
theorem dX7_tracks_105 : decode cX7_tracks 105 = .ok (.if_icmp .eq 17, 3) := by decide +kernel
theorem dX7_tracks_108 : decode cX7_tracks 108 = .ok (.aload_n 0, 1) := by decide +kernel
theorem dX7_tracks_109 : decode cX7_tracks 109 = .ok (.getfield 42, 3) := by decide +kernel
theorem dX7_tracks_112 : decode cX7_tracks 112 = .ok (.iload_n 3, 1) := by decide +kernel
theorem dX7_tracks_113 : decode cX7_tracks 113 = .ok (.dup2, 1) := by decide +kernel
theorem dX7_tracks_114 : decode cX7_tracks 114 = .ok (.laload, 1) := by decide +kernel
theorem dX7_tracks_115 : decode cX7_tracks 115 = .ok (.iload_n 2, 1) := by decide +kernel
theorem dX7_tracks_116 : decode cX7_tracks 116 = .ok (.i2l, 1) := by decide +kernel
theorem dX7_tracks_117 : decode cX7_tracks 117 = .ok (.ladd, 1) := by decide +kernel
theorem dX7_tracks_118 : decode cX7_tracks 118 = .ok (.lastore, 1) := by decide +kernel
theorem dX7_tracks_119 : decode cX7_tracks 119 = .ok (.goto 90, 3) := by decide +kernel
theorem dX7_tracks_122 : decode cX7_tracks 122 = .ok (.aload_n 0, 1) := by decide +kernel
theorem dX7_tracks_123 : decode cX7_tracks 123 = .ok (.getfield 85, 3) := by decide +kernel
theorem dX7_tracks_126 : decode cX7_tracks 126 = .ok (.bipush 8, 2) := by decide +kernel
theorem dX7_tracks_128 : decode cX7_tracks 128 = .ok (.if_icmp .ge 47, 3) := by decide +kernel
theorem dX7_tracks_131 : decode cX7_tracks 131 = .ok (.aload_n 0, 1) := by decide +kernel
theorem dX7_tracks_132 : decode cX7_tracks 132 = .ok (.getfield 39, 3) := by decide +kernel
theorem dX7_tracks_135 : decode cX7_tracks 135 = .ok (.aload_n 0, 1) := by decide +kernel
theorem dX7_tracks_136 : decode cX7_tracks 136 = .ok (.getfield 85, 3) := by decide +kernel
theorem dX7_tracks_139 : decode cX7_tracks 139 = .ok (.iload_n 1, 1) := by decide +kernel
theorem dX7_tracks_140 : decode cX7_tracks 140 = .ok (.iastore, 1) := by decide +kernel
theorem dX7_tracks_141 : decode cX7_tracks 141 = .ok (.aload_n 0, 1) := by decide +kernel
theorem dX7_tracks_142 : decode cX7_tracks 142 = .ok (.getfield 42, 3) := by decide +kernel
theorem dX7_tracks_145 : decode cX7_tracks 145 = .ok (.aload_n 0, 1) := by decide +kernel
theorem dX7_tracks_146 : decode cX7_tracks 146 = .ok (.getfield 85, 3) := by decide +kernel
theorem dX7_tracks_149 : decode cX7_tracks 149 = .ok (.iload_n 2, 1) := by decide +kernel
theorem dX7_tracks_150 : decode cX7_tracks 150 = .ok (.i2l, 1) := by decide +kernel
theorem dX7_tracks_151 : decode cX7_tracks 151 = .ok (.lastore, 1) := by decide +kernel
theorem dX7_tracks_152 : decode cX7_tracks 152 = .ok (.aload_n 0, 1) := by decide +kernel
theorem dX7_tracks_153 : decode cX7_tracks 153 = .ok (.getfield 45, 3) := by decide +kernel
theorem dX7_tracks_156 : decode cX7_tracks 156 = .ok (.aload_n 0, 1) := by decide +kernel
theorem dX7_tracks_157 : decode cX7_tracks 157 = .ok (.getfield 85, 3) := by decide +kernel
theorem dX7_tracks_160 : decode cX7_tracks 160 = .ok (.lconst 0, 1) := by decide +kernel
theorem dX7_tracks_161 : decode cX7_tracks 161 = .ok (.lastore, 1) := by decide +kernel
theorem dX7_tracks_162 : decode cX7_tracks 162 = .ok (.aload_n 0, 1) := by decide +kernel
theorem dX7_tracks_163 : decode cX7_tracks 163 = .ok (.dup, 1) := by decide +kernel
theorem dX7_tracks_164 : decode cX7_tracks 164 = .ok (.getfield 85, 3) := by decide +kernel
theorem dX7_tracks_167 : decode cX7_tracks 167 = .ok (.iconst 1, 1) := by decide +kernel
theorem dX7_tracks_168 : decode cX7_tracks 168 = .ok (.iadd, 1) := by decide +kernel
theorem dX7_tracks_169 : decode cX7_tracks 169 = .ok (.putfield 85, 3) := by decide +kernel
theorem dX7_tracks_172 : decode cX7_tracks 172 = .ok (.goto 37, 3) := by decide +kernel
theorem dX7_tracks_175 : decode cX7_tracks 175 = .ok (.aload_n 0, 1) := by decide +kernel
theorem dX7_tracks_176 : decode cX7_tracks 176 = .ok (.getfield 39, 3) := by decide +kernel
theorem dX7_tracks_179 : decode cX7_tracks 179 = .ok (.iload 4, 2) := by decide +kernel
theorem dX7_tracks_181 : decode cX7_tracks 181 = .ok (.iload_n 1, 1) := by decide +kernel
theorem dX7_tracks_182 : decode cX7_tracks 182 = .ok (.iastore, 1) := by decide +kernel
theorem dX7_tracks_183 : decode cX7_tracks 183 = .ok (.aload_n 0, 1) := by decide +kernel
theorem dX7_tracks_184 : decode cX7_tracks 184 = .ok (.getfield 45, 3) := by decide +kernel
theorem dX7_tracks_187 : decode cX7_tracks 187 = .ok (.iload 4, 2) := by decide +kernel
theorem dX7_tracks_189 : decode cX7_tracks 189 = .ok (.aload_n 0, 1) := by decide +kernel
theorem dX7_tracks_190 : decode cX7_tracks 190 = .ok (.getfield 42, 3) := by decide +kernel
theorem dX7_tracks_193 : decode cX7_tracks 193 = .ok (.iload 4, 2) := by decide +kernel
theorem dX7_tracks_195 : decode cX7_tracks 195 = .ok (.laload, 1) := by decide +kernel
theorem dX7_tracks_196 : decode cX7_tracks 196 = .ok (.lastore, 1) := by decide +kernel
theorem dX7_tracks_197 : decode cX7_tracks 197 = .ok (.aload_n 0, 1) := by decide +kernel
theorem dX7_tracks_198 : decode cX7_tracks 198 = .ok (.getfield 42, 3) := by decide +kernel
theorem dX7_tracks_201 : decode cX7_tracks 201 = .ok (.iload 4, 2) := by decide +kernel
theorem dX7_tracks_203 : decode cX7_tracks 203 = .ok (.dup2, 1) := by decide +kernel
theorem dX7_tracks_204 : decode cX7_tracks 204 = .ok (.laload, 1) := by decide +kernel
theorem dX7_tracks_205 : decode cX7_tracks 205 = .ok (.iload_n 2, 1) := by decide +kernel
theorem dX7_tracks_206 : decode cX7_tracks 206 = .ok (.i2l, 1) := by decide +kernel
theorem dX7_tracks_207 : decode cX7_tracks 207 = .ok (.ladd, 1) := by decide +kernel
theorem dX7_tracks_208 : decode cX7_tracks 208 = .ok (.lastore, 1) := by decide +kernel
theorem dX7_tracks_209 : decode cX7_tracks 209 = .ok (.return_, 1) := by decide +kernel
theorem dX7_request_0 : decode cX7_request 0 = .ok (.aload_n 0, 1) := by decide +kernel
theorem dX7_request_1 : decode cX7_request 1 = .ok (.iload_n 1, 1) := by decide +kernel
theorem dX7_request_2 : decode cX7_request 2 = .ok (.invokestatic 170, 3) := by decide +kernel
theorem dX7_request_5 : decode cX7_request 5 = .ok (.ifCond .ne 15, 3) := by decide +kernel
theorem dX7_request_8 : decode cX7_request 8 = .ok (.iload_n 2, 1) := by decide +kernel
theorem dX7_request_9 : decode cX7_request 9 = .ok (.i2l, 1) := by decide +kernel
theorem dX7_request_10 : decode cX7_request 10 = .ok (.lconst 1, 1) := by decide +kernel
theorem dX7_request_11 : decode cX7_request 11 = .ok (.ldc2_w 176, 3) := by decide +kernel
theorem dX7_request_14 : decode cX7_request 14 = .ok (.invokestatic 93, 3) := by decide +kernel
theorem dX7_request_17 : decode cX7_request 17 = .ok (.ifCond .ne 7, 3) := by decide +kernel
theorem dX7_request_20 : decode cX7_request 20 = .ok (.iconst 1, 1) := by decide +kernel
theorem dX7_request_21 : decode cX7_request 21 = .ok (.goto 4, 3) := by decide +kernel
theorem dX7_request_24 : decode cX7_request 24 = .ok (.iconst 0, 1) := by decide +kernel
theorem dX7_request_25 : decode cX7_request 25 = .ok (.iconst 0, 1) := by decide +kernel
theorem dX7_request_26 : decode cX7_request 26 = .ok (.invokevirtual 124, 3) := by decide +kernel
theorem dX7_request_29 : decode cX7_request 29 = .ok (.ifCond .eq 5, 3) := by decide +kernel
theorem dX7_request_32 : decode cX7_request 32 = .ok (.iconst 0, 1) := by decide +kernel
theorem dX7_request_33 : decode cX7_request 33 = .ok (.ireturn, 1) := by decide +kernel
theorem dX7_request_34 : decode cX7_request 34 = .ok (.aload_n 0, 1) := by decide +kernel
theorem dX7_request_35 : decode cX7_request 35 = .ok (.iload_n 1, 1) := by decide +kernel
theorem dX7_request_36 : decode cX7_request 36 = .ok (.invokevirtual 173, 3) := by decide +kernel
theorem dX7_request_39 : decode cX7_request 39 = .ok (.istore_n 3, 1) := by decide +kernel
theorem dX7_request_40 : decode cX7_request 40 = .ok (.iload_n 3, 1) := by decide +kernel
theorem dX7_request_41 : decode cX7_request 41 = .ok (.iconst (-1), 1) := by decide +kernel
theorem dX7_request_42 : decode cX7_request 42 = .ok (.if_icmp .eq 14, 3) := by decide +kernel
theorem dX7_request_45 : decode cX7_request 45 = .ok (.aload_n 0, 1) := by decide +kernel
theorem dX7_request_46 : decode cX7_request 46 = .ok (.getfield 23, 3) := by decide +kernel
theorem dX7_request_49 : decode cX7_request 49 = .ok (.iload_n 3, 1) := by decide +kernel
theorem dX7_request_50 : decode cX7_request 50 = .ok (.dup2, 1) := by decide +kernel
theorem dX7_request_51 : decode cX7_request 51 = .ok (.laload, 1) := by decide +kernel
theorem dX7_request_52 : decode cX7_request 52 = .ok (.iload_n 2, 1) := by decide +kernel
theorem dX7_request_53 : decode cX7_request 53 = .ok (.i2l, 1) := by decide +kernel
theorem dX7_request_54 : decode cX7_request 54 = .ok (.ladd, 1) := by decide +kernel
theorem dX7_request_55 : decode cX7_request 55 = .ok (.lastore, 1) := by decide +kernel
theorem dX7_request_56 : decode cX7_request 56 = .ok (.aload_n 0, 1) := by decide +kernel
theorem dX7_request_57 : decode cX7_request 57 = .ok (.iload_n 1, 1) := by decide +kernel
theorem dX7_request_58 : decode cX7_request 58 = .ok (.iload_n 2, 1) := by decide +kernel
theorem dX7_request_59 : decode cX7_request 59 = .ok (.invokevirtual 178, 3) := by decide +kernel
theorem dX7_request_62 : decode cX7_request 62 = .ok (.iload_n 3, 1) := by decide +kernel
theorem dX7_request_63 : decode cX7_request 63 = .ok (.ireturn, 1) := by decide +kernel
theorem k_X7_request_170 : aKS mX7_request mX7_noKey 170 1 := ⟨cb_X7_noKey, rfl, ml_X7_170, st_X7_noKey, ⟨Nat.le_of_ble_eq_true rfl, Nat.le_of_ble_eq_true rfl⟩⟩
theorem k_X7_request_93 : aKS mX7_request mX7_in 93 3 := ⟨cb_X7_in, rfl, ml_X7_93, st_X7_in, ⟨Nat.le_of_ble_eq_true rfl, Nat.le_of_ble_eq_true rfl⟩⟩
theorem k_X7_request_124 : aKV mX7_request mX7_isRefused 124 2 7 := ⟨cb_X7_isRefused, rfl, ml_X7_124, iv_X7_isRefused, sl_X7_isRefused, ⟨_, _, rfl⟩, ⟨Nat.le_of_ble_eq_true rfl, Nat.le_of_ble_eq_true rfl⟩⟩
theorem k_X7_request_173 : aKV mX7_request mX7_at 173 1 7 := ⟨cb_X7_at, rfl, ml_X7_173, iv_X7_at, sl_X7_at, ⟨_, _, rfl⟩, ⟨Nat.le_of_ble_eq_true rfl, Nat.le_of_ble_eq_true rfl⟩⟩
theorem k_X7_request_178 : aKV mX7_request mX7_tracks 178 2 7 := ⟨cb_X7_tracks, rfl, ml_X7_178, iv_X7_tracks, sl_X7_tracks, ⟨_, _, rfl⟩, ⟨Nat.le_of_ble_eq_true rfl, Nat.le_of_ble_eq_true rfl⟩⟩
/-! ===== PreferenceTableModel: changes ===== -/
def trS (k : kT) (key : Int32) (j : Nat) (σ : Int32 × Nat) : Int32 × Nat := (if k.1.1 j = key then nI j else σ.1, if decide (k.1.2.1 j < k.1.2.1 σ.2) || (decide (k.1.2.1 j = k.1.2.1 σ.2) && decide (¬ k.1.1 σ.2 ≤ k.1.1 j)) then j else σ.2)
def trF (k : kT) (key : Int32) : Int32 × Nat := aLp (trS k key) k.2 0 (-1, 0)
def mTk (key n : Int32) (k : kT) : kT := if (trF k key).1 = -1 then (if k.2 < 8 then ((upd k.1.1 k.2 key, vp_updL k.1.2.1 k.2 n.toInt64, vp_updL k.1.2.2 k.2 0), k.2 + 1) else ((upd k.1.1 (trF k key).2 key, vp_updL k.1.2.1 (trF k key).2 (k.1.2.1 (trF k key).2 + n.toInt64), vp_updL k.1.2.2 (trF k key).2 (k.1.2.1 (trF k key).2)), k.2)) else ((k.1.1, vp_updL k.1.2.1 (trF k key).1.toNatClampNeg (k.1.2.1 (trF k key).1.toNatClampNeg + n.toInt64), k.1.2.2), k.2)
def trO (σ : Int32 × Nat) : Prop := (σ.1 = -1 ∨ ∃ i, i < 8 ∧ σ.1 = nI i) ∧ σ.2 < 8
theorem trS_ok {k : kT} {key : Int32} {j : Nat} {σ : Int32 × Nat} (hj : j < 8) (h : trO σ) : trO (trS k key j σ) := by
  unfold trS
  refine ⟨?_, ?_⟩
  · dsimp only
    split
    · exact Or.inr ⟨j, hj, rfl⟩
    · exact h.1
  · dsimp only
    split
    · exact hj
    · exact h.2
/-- n places from b on are v's -/
def fWr {α : Type} (b n : Nat) (v f : Nat → α) : Nat → α := fun k => if b ≤ k ∧ k < b + n then v (k - b) else f k
theorem fWr_0 {α : Type} (b : Nat) (v f : Nat → α) : fWr b 0 v f = f := by
  funext k; unfold fWr; rw [if_neg (by omega)]
theorem fWr_s {b j : Nat} {v f : Nat → Int32} : upd (fWr b j v f) (b + j) (v j) = fWr b (j + 1) v f := by
  funext k
  unfold upd fWr
  by_cases h : k = b + j
  · subst h
    rw [if_pos rfl, if_pos (by omega), Nat.add_sub_cancel_left]
  · rw [if_neg h]
    by_cases h2 : b ≤ k ∧ k < b + j
    · rw [if_pos h2, if_pos (by omega)]
    · rw [if_neg h2, if_neg (by omega)]
theorem fWr_sL {b j : Nat} {v f : Nat → Int64} : vp_updL (fWr b j v f) (b + j) (v j) = fWr b (j + 1) v f := by
  funext k
  unfold vp_updL fWr
  by_cases h : k = b + j
  · subst h
    rw [if_pos rfl, if_pos (by omega), Nat.add_sub_cancel_left]
  · rw [if_neg h]
    by_cases h2 : b ≤ k ∧ k < b + j
    · rw [if_pos h2, if_pos (by omega)]
    · rw [if_neg h2, if_neg (by omega)]
theorem fFl_ge {α : Type} {j i : Nat} {v f : Nat → α} (h : j ≤ i) : fFl j v f i = f i := by
  unfold fFl; rw [if_neg (by omega)]
theorem ix_add (c : Nat) (j : Nat) : nI c + nI j = nI (c + j) := nI_add c j
theorem ix_row (c z j : Nat) : nI c * nI z + nI j = nI (c * z + j) := by rw [pk_mul, nI_add]
section MO5
variable {l : Launch} {X : aX} {f : Int32} {v : sT} {u : uT} {k : kT} {q : qT}
theorem c_X7_tracks (hm : k.2 ≤ 8) (key n : Int32) : aWr l X mX7_tracks is19 [.ref 0, .int key, .int n] (aMo f v u k q) none (aMo f v u (mTk key n k) q) := by
  refine aMt.of (by decide) rfl (Nat.le_of_ble_eq_true rfl) ?_
  generalize hr : trF k key = r
  refine a_iconst (-1) dX7_tracks_0 (by decide) ?_
  refine a_istore_n dX7_tracks_1 (by decide) rfl ?_
  refine a_iconst 0 dX7_tracks_2 (by decide) ?_
  refine a_istore dX7_tracks_3 (by decide) rfl ?_
  refine a_iconst 0 dX7_tracks_5 (by decide) ?_
  refine a_istore dX7_tracks_6 (by decide) rfl ?_
  have lp : ∀ (m j : Nat) (σ : Int32 × Nat), j + m = k.2 → trO σ → aLp (trS k key) m j σ = r → aJ l X mX7_tracks (aEd X mX7_tracks is19 (fun o h' => o = .inl none ∧ h' = aMo f v u (mTk key n k) q)) 0 0 8 [.ref 0, .int key, .int n, .int σ.1, .int (nI σ.2), .int (nI j)] [] (aMo f v u k q) := by
    intro m
    induction m with
    | zero =>
      intro j σ hj hok hq
      obtain rfl : j = k.2 := by omega
      have hσ : σ = r := hq
      subst hσ
      have h8 := hok.2
      have hil : vp_in (nI σ.2) 8 := in8 hok.2
      refine a_iload dX7_tracks_8 rfl ?_
      refine a_aload_n dX7_tracks_10 rfl ?_
      refine a_get fl_X7_85 dX7_tracks_11 rfl rfl ?_
      refine a_icmp_ge 103 dX7_tracks_14 (by decide) (fun _ => ?_) (fun z => absurd (nI_le (Nat.le_refl _) (by omega)) z)
      refine a_iload_n dX7_tracks_103 rfl ?_
      refine a_iconst (-1) dX7_tracks_104 (by decide) ?_
      refine a_icmp_eq 122 dX7_tracks_105 (by decide) (fun c105 => ?_) (fun c105 => ?_)
      · rcases Nat.lt_or_ge k.2 8 with q8 | q8
        · have hi : vp_in (nI k.2) 8 := in8 q8
          refine a_aload_n dX7_tracks_122 rfl ?_
          refine a_get fl_X7_85 dX7_tracks_123 rfl rfl ?_
          refine a_bipush 8 dX7_tracks_126 (by decide) ?_
          refine a_icmp_ge 175 dX7_tracks_128 (by decide) (fun z => absurd z (ge8_f q8)) (fun _ => ?_)
          refine a_aload_n dX7_tracks_131 rfl ?_
          refine a_get fl_X7_39 dX7_tracks_132 rfl rfl ?_
          refine a_aload_n dX7_tracks_135 rfl ?_
          refine a_get fl_X7_85 dX7_tracks_136 rfl rfl ?_
          refine a_iload_n dX7_tracks_139 rfl ?_
          refine a_iast dX7_tracks_140 rfl (by assumption) ?_
          refine a_aload_n dX7_tracks_141 rfl ?_
          refine a_get fl_X7_42 dX7_tracks_142 rfl rfl ?_
          refine a_aload_n dX7_tracks_145 rfl ?_
          refine a_get fl_X7_85 dX7_tracks_146 rfl rfl ?_
          refine a_iload_n dX7_tracks_149 rfl ?_
          refine a_i2l dX7_tracks_150 ?_
          refine a_last dX7_tracks_151 rfl (by assumption) ?_
          refine a_aload_n dX7_tracks_152 rfl ?_
          refine a_get fl_X7_45 dX7_tracks_153 rfl rfl ?_
          refine a_aload_n dX7_tracks_156 rfl ?_
          refine a_get fl_X7_85 dX7_tracks_157 rfl rfl ?_
          refine a_lconst 0 dX7_tracks_160 (by decide) ?_
          refine a_last dX7_tracks_161 rfl (by assumption) ?_
          refine a_aload_n dX7_tracks_162 rfl ?_
          refine a_dup dX7_tracks_163 rfl ?_
          refine a_get fl_X7_85 dX7_tracks_164 rfl rfl ?_
          refine a_iconst 1 dX7_tracks_167 (by decide) ?_
          refine a_iadd dX7_tracks_168 ?_
          rw [nI_1]
          refine a_put fp_X7_85 dX7_tracks_169 rfl (Nat.le_of_ble_eq_true rfl) (fun _ => ⟨rfl, rfl⟩) ?_
          refine a_goto 209 dX7_tracks_172 (by decide) ?_
          refine a_vret rfl dX7_tracks_209 (by decide) (by decide) ?_
          refine ⟨rfl, ?_⟩
          rw [cl8 q8]
          unfold mTk
          rw [hr, if_pos c105, if_pos q8]
          rfl
        · have hk8 : k.2 = 8 := by omega
          refine a_aload_n dX7_tracks_122 rfl ?_
          refine a_get fl_X7_85 dX7_tracks_123 rfl rfl ?_
          refine a_bipush 8 dX7_tracks_126 (by decide) ?_
          refine a_icmp_ge 175 dX7_tracks_128 (by decide) (fun _ => ?_) (fun z => absurd (by rw [hk8]; decide) z)
          refine a_aload_n dX7_tracks_175 rfl ?_
          refine a_get fl_X7_39 dX7_tracks_176 rfl rfl ?_
          refine a_iload dX7_tracks_179 rfl ?_
          refine a_iload_n dX7_tracks_181 rfl ?_
          refine a_iast dX7_tracks_182 rfl (by assumption) ?_
          refine a_aload_n dX7_tracks_183 rfl ?_
          refine a_get fl_X7_45 dX7_tracks_184 rfl rfl ?_
          refine a_iload dX7_tracks_187 rfl ?_
          refine a_aload_n dX7_tracks_189 rfl ?_
          refine a_get fl_X7_42 dX7_tracks_190 rfl rfl ?_
          refine a_iload dX7_tracks_193 rfl ?_
          refine a_lald dX7_tracks_195 rfl (by assumption) ?_
          refine a_last dX7_tracks_196 rfl (by assumption) ?_
          refine a_aload_n dX7_tracks_197 rfl ?_
          refine a_get fl_X7_42 dX7_tracks_198 rfl rfl ?_
          refine a_iload dX7_tracks_201 rfl ?_
          refine a_dup2 dX7_tracks_203 rfl rfl ?_
          refine a_lald dX7_tracks_204 rfl (by assumption) ?_
          refine a_iload_n dX7_tracks_205 rfl ?_
          refine a_i2l dX7_tracks_206 ?_
          refine a_ladd dX7_tracks_207 ?_
          refine a_last dX7_tracks_208 rfl (by assumption) ?_
          refine a_vret rfl dX7_tracks_209 (by decide) (by decide) ?_
          refine ⟨rfl, ?_⟩
          rw [cl8 h8]
          unfold mTk
          rw [hr, if_pos c105, if_neg (by omega)]
          rfl
      · obtain ⟨i, hi8, hie⟩ : ∃ i, i < 8 ∧ σ.1 = nI i := by
          rcases hok.1 with z | z
          · exact absurd z c105
          · exact z
        have hi : vp_in σ.1 8 := by rw [hie]; exact in8 hi8
        refine a_aload_n dX7_tracks_108 rfl ?_
        refine a_get fl_X7_42 dX7_tracks_109 rfl rfl ?_
        refine a_iload_n dX7_tracks_112 rfl ?_
        refine a_dup2 dX7_tracks_113 rfl rfl ?_
        refine a_lald dX7_tracks_114 rfl (by assumption) ?_
        refine a_iload_n dX7_tracks_115 rfl ?_
        refine a_i2l dX7_tracks_116 ?_
        refine a_ladd dX7_tracks_117 ?_
        refine a_last dX7_tracks_118 rfl (by assumption) ?_
        refine a_goto 209 dX7_tracks_119 (by decide) ?_
        refine a_vret rfl dX7_tracks_209 (by decide) (by decide) ?_
        refine ⟨rfl, ?_⟩
        unfold mTk
        rw [hr, if_neg c105]
        rfl
    | succ m ih =>
      intro j σ hj hok hq
      have hi : vp_in (nI j) 8 := in8 (by omega)
      have h8 := hok.2
      have hi2 : vp_in (nI σ.2) 8 := in8 hok.2
      have nx : ∀ (a : Int32) (b : Nat), trS k key j σ = (a, b) → aJ l X mX7_tracks (aEd X mX7_tracks is19 (fun o h' => o = .inl none ∧ h' = aMo f v u (mTk key n k) q)) 0 0 95 [.ref 0, .int key, .int n, .int a, .int (nI σ.2), .int (nI j)] [.int (nI b)] (aMo f v u k q) := by
        intro a b hab
        refine a_istore dX7_tracks_95 (by decide) rfl ?_
        refine a_iinc (nI (j + 1)) dX7_tracks_97 rfl (nI_1 _) (by decide) rfl ?_
        refine a_goto 8 dX7_tracks_100 (by decide) ?_
        have hok' := trS_ok (k := k) (key := key) (show j < 8 by omega) hok
        rw [hab] at hok'
        exact ih (j + 1) (a, b) (by omega) hok' (by rw [← hq, ← hab]; rfl)
      have cmp : ∀ (a : Int32), (if k.1.1 j = key then nI j else σ.1) = a → aJ l X mX7_tracks (aEd X mX7_tracks is19 (fun o h' => o = .inl none ∧ h' = aMo f v u (mTk key n k) q)) 0 0 34 [.ref 0, .int key, .int n, .int σ.1, .int (nI σ.2), .int (nI j)] [.int a] (aMo f v u k q) := by
        intro a ha
        refine a_istore_n dX7_tracks_34 (by decide) rfl ?_
        refine a_aload_n dX7_tracks_35 rfl ?_
        refine a_get fl_X7_42 dX7_tracks_36 rfl rfl ?_
        refine a_iload dX7_tracks_39 rfl ?_
        refine a_lald dX7_tracks_41 rfl (by assumption) ?_
        refine a_aload_n dX7_tracks_42 rfl ?_
        refine a_get fl_X7_42 dX7_tracks_43 rfl rfl ?_
        refine a_iload dX7_tracks_46 rfl ?_
        refine a_lald dX7_tracks_48 rfl (by assumption) ?_
        refine a_lcmp dX7_tracks_49 ?_
        refine a_if_lt 88 dX7_tracks_50 (by decide) (fun c50 => ?_) (fun c50 => ?_)
        · rw [cl8 (show j < 8 by omega), cl8 h8, lg_cmp_lt] at c50
          refine a_iload dX7_tracks_88 rfl ?_
          refine a_goto 95 dX7_tracks_90 (by decide) ?_
          exact nx a j (by unfold trS; rw [ha]; simp [c50])
        · rw [cl8 (show j < 8 by omega), cl8 h8, lg_cmp_lt] at c50
          refine a_aload_n dX7_tracks_53 rfl ?_
          refine a_get fl_X7_42 dX7_tracks_54 rfl rfl ?_
          refine a_iload dX7_tracks_57 rfl ?_
          refine a_lald dX7_tracks_59 rfl (by assumption) ?_
          refine a_aload_n dX7_tracks_60 rfl ?_
          refine a_get fl_X7_42 dX7_tracks_61 rfl rfl ?_
          refine a_iload dX7_tracks_64 rfl ?_
          refine a_lald dX7_tracks_66 rfl (by assumption) ?_
          refine a_lcmp dX7_tracks_67 ?_
          refine a_if_ne 93 dX7_tracks_68 (by decide) (fun c68 => ?_) (fun c68 => ?_)
          · rw [cl8 (show j < 8 by omega), cl8 h8, lg_cmp_eq] at c68
            refine a_iload dX7_tracks_93 rfl ?_
            exact nx a σ.2 (by unfold trS; rw [ha]; simp [c50, c68])
          · rw [cl8 (show j < 8 by omega), cl8 h8, lg_cmp_eq] at c68
            refine a_aload_n dX7_tracks_71 rfl ?_
            refine a_get fl_X7_39 dX7_tracks_72 rfl rfl ?_
            refine a_iload dX7_tracks_75 rfl ?_
            refine a_iald dX7_tracks_77 rfl (by assumption) ?_
            refine a_aload_n dX7_tracks_78 rfl ?_
            refine a_get fl_X7_39 dX7_tracks_79 rfl rfl ?_
            refine a_iload dX7_tracks_82 rfl ?_
            refine a_iald dX7_tracks_84 rfl (by assumption) ?_
            refine a_icmp_ge 93 dX7_tracks_85 (by decide) (fun c85 => ?_) (fun c85 => ?_)
            · rw [cl8 (show j < 8 by omega), cl8 h8] at c85
              refine a_iload dX7_tracks_93 rfl ?_
              exact nx a σ.2 (by unfold trS; rw [ha]; simp [c50, c85])
            · rw [cl8 (show j < 8 by omega), cl8 h8] at c85
              refine a_iload dX7_tracks_88 rfl ?_
              refine a_goto 95 dX7_tracks_90 (by decide) ?_
              exact nx a j (by unfold trS; rw [ha]; simp [c68, c85])
      refine a_iload dX7_tracks_8 rfl ?_
      refine a_aload_n dX7_tracks_10 rfl ?_
      refine a_get fl_X7_85 dX7_tracks_11 rfl rfl ?_
      refine a_icmp_ge 103 dX7_tracks_14 (by decide) (fun z => absurd z (nI_ge (by omega) (by omega))) (fun _ => ?_)
      refine a_aload_n dX7_tracks_17 rfl ?_
      refine a_get fl_X7_39 dX7_tracks_18 rfl rfl ?_
      refine a_iload dX7_tracks_21 rfl ?_
      refine a_iald dX7_tracks_23 rfl (by assumption) ?_
      refine a_iload_n dX7_tracks_24 rfl ?_
      refine a_icmp_ne 33 dX7_tracks_25 (by decide) (fun c25 => ?_) (fun c25 => ?_)
      · rw [cl8 (show j < 8 by omega)] at c25
        refine a_iload_n dX7_tracks_33 rfl ?_
        exact cmp σ.1 (if_neg c25)
      · rw [cl8 (show j < 8 by omega)] at c25
        refine a_iload dX7_tracks_28 rfl ?_
        refine a_goto 34 dX7_tracks_30 (by decide) ?_
        exact cmp (nI j) (if_pos c25)
  exact lp k.2 0 (-1, 0) (by omega) ⟨Or.inl rfl, by decide⟩ hr
def vLd (v : sT) (s n : Int32) : sT := if s = -1 then v else (v.1, v.2.1, v.2.2.1, vp_updL v.2.2.2.1 s.toNatClampNeg (v.2.2.2.1 s.toNatClampNeg + n.toInt64), v.2.2.2.2)
theorem c_X7_request_bad (key n : Int32) (hg : (gKy key && gRq n) = false) : aWr l X mX7_request is19 [.ref 0, .int key, .int n] (aMo f v u k q) (some (.int 0)) (aMo 1 v u k q) := by
  refine aMt.of (by decide) rfl (Nat.le_of_ble_eq_true rfl) ?_
  have hk := c_X7_noKey (l := l) (X := X) key
  by_cases h1 : gKy key = true
  · rw [h1] at hk hg
    have h2 : gRq n = false := by simpa using hg
    refine a_aload_n dX7_request_0 rfl ?_
    refine a_iload_n dX7_request_1 rfl ?_
    refine a_SiR [] k_X7_request_170 (hk) dX7_request_2 rfl rfl rfl rfl rfl (Nat.le_of_ble_eq_true rfl) ⟨Nat.le_of_ble_eq_true rfl, Nat.le_of_ble_eq_true rfl⟩ ⟨rfl, rfl⟩ ?_
    refine a_if_ne 20 dX7_request_5 (by decide) (fun z => absurd (by decide) z) (fun _ => ?_)
    refine a_iload_n dX7_request_8 rfl ?_
    refine a_i2l dX7_request_9 ?_
    refine a_lconst 1 dX7_request_10 (by decide) ?_
    refine a_ldc2 dX7_request_11 cn_X7_176 ?_
    refine a_SiR [] k_X7_request_93 (c_X7_in n.toInt64 1 1000000) dX7_request_14 rfl rfl rfl rfl rfl (Nat.le_of_ble_eq_true rfl) ⟨Nat.le_of_ble_eq_true rfl, Nat.le_of_ble_eq_true rfl⟩ ⟨rfl, rfl⟩ ?_
    rw [show mIn n.toInt64 1 1000000 = gRq n from mIn_i n (a := 1) (b := 1000000) (by decide) (by decide), h2]
    refine a_if_ne 24 dX7_request_17 (by decide) (fun z => absurd (by decide) z) (fun _ => ?_)
    refine a_iconst 1 dX7_request_20 (by decide) ?_
    refine a_goto 25 dX7_request_21 (by decide) ?_
    refine a_iconst 0 dX7_request_25 (by decide) ?_
    refine a_ViW is19 (aMo 1 v u k q) k_X7_request_124 (c_X7_isRefused (f := f) (v := v) (u := u) (k := k) (q := q) true false) dX7_request_26 rfl rfl rfl rfl rfl rfl (Nat.le_of_ble_eq_true rfl) ⟨Nat.le_of_ble_eq_true rfl, Nat.le_of_ble_eq_true rfl⟩ ⟨rfl, rfl⟩ (Nat.le_of_ble_eq_true rfl) rfl ?_
    refine a_if_eq 34 dX7_request_29 (by decide) (fun z => absurd z (by decide)) (fun _ => ?_)
    refine a_iconst 0 dX7_request_32 (by decide) ?_
    refine a_iret rfl dX7_request_33 (by decide) (by decide) ?_
    exact ⟨rfl, rfl⟩
  · rw [Bool.not_eq_true] at h1
    rw [h1] at hk
    refine a_aload_n dX7_request_0 rfl ?_
    refine a_iload_n dX7_request_1 rfl ?_
    refine a_SiR [] k_X7_request_170 (hk) dX7_request_2 rfl rfl rfl rfl rfl (Nat.le_of_ble_eq_true rfl) ⟨Nat.le_of_ble_eq_true rfl, Nat.le_of_ble_eq_true rfl⟩ ⟨rfl, rfl⟩ ?_
    refine a_if_ne 20 dX7_request_5 (by decide) (fun _ => ?_) (fun z => absurd z (by decide))
    refine a_iconst 1 dX7_request_20 (by decide) ?_
    refine a_goto 25 dX7_request_21 (by decide) ?_
    refine a_iconst 0 dX7_request_25 (by decide) ?_
    refine a_ViW is19 (aMo 1 v u k q) k_X7_request_124 (c_X7_isRefused (f := f) (v := v) (u := u) (k := k) (q := q) true false) dX7_request_26 rfl rfl rfl rfl rfl rfl (Nat.le_of_ble_eq_true rfl) ⟨Nat.le_of_ble_eq_true rfl, Nat.le_of_ble_eq_true rfl⟩ ⟨rfl, rfl⟩ (Nat.le_of_ble_eq_true rfl) rfl ?_
    refine a_if_eq 34 dX7_request_29 (by decide) (fun z => absurd z (by decide)) (fun _ => ?_)
    refine a_iconst 0 dX7_request_32 (by decide) ?_
    refine a_iret rfl dX7_request_33 (by decide) (by decide) ?_
    exact ⟨rfl, rfl⟩
theorem c_X7_request_ok (h5 : 5 ≤ u.1) (hM : u.1 ≤ 61) (hp : vPo v) (hk8 : k.2 ≤ 8) (key : Nat) (n : Int32) (hkk : key ≤ 99999) (hg : (gKy (nI key) && gRq n) = true) (hs : mAt v u key = -1 ∨ ∃ i, i < 10 ∧ mAt v u key = nI i) : aWr l X mX7_request is19 [.ref 0, .int (nI key), .int n] (aMo f v u k q) (some (.int (mAt v u key))) (aMo 0 (vLd v (mAt v u key) n) u (mTk (nI key) n k) q) := by
  refine aMt.of (by decide) rfl (Nat.le_of_ble_eq_true rfl) ?_
  rw [Bool.and_eq_true] at hg
  have hk := c_X7_noKey (l := l) (X := X) (nI key)
  rw [hg.1] at hk
  have hat := c_X7_at (l := l) (X := X) (f := 0) (v := v) (u := u) (k := k) (q := q) h5 hM hp key hkk
  generalize mAt v u key = s at hs hat ⊢
  refine a_aload_n dX7_request_0 rfl ?_
  refine a_iload_n dX7_request_1 rfl ?_
  refine a_SiR [] k_X7_request_170 (hk) dX7_request_2 rfl rfl rfl rfl rfl (Nat.le_of_ble_eq_true rfl) ⟨Nat.le_of_ble_eq_true rfl, Nat.le_of_ble_eq_true rfl⟩ ⟨rfl, rfl⟩ ?_
  refine a_if_ne 20 dX7_request_5 (by decide) (fun z => absurd (by decide) z) (fun _ => ?_)
  refine a_iload_n dX7_request_8 rfl ?_
  refine a_i2l dX7_request_9 ?_
  refine a_lconst 1 dX7_request_10 (by decide) ?_
  refine a_ldc2 dX7_request_11 cn_X7_176 ?_
  refine a_SiR [] k_X7_request_93 (c_X7_in n.toInt64 1 1000000) dX7_request_14 rfl rfl rfl rfl rfl (Nat.le_of_ble_eq_true rfl) ⟨Nat.le_of_ble_eq_true rfl, Nat.le_of_ble_eq_true rfl⟩ ⟨rfl, rfl⟩ ?_
  rw [show mIn n.toInt64 1 1000000 = gRq n from mIn_i n (a := 1) (b := 1000000) (by decide) (by decide), hg.2]
  refine a_if_ne 24 dX7_request_17 (by decide) (fun _ => ?_) (fun z => absurd z (by decide))
  refine a_iconst 0 dX7_request_24 (by decide) ?_
  refine a_iconst 0 dX7_request_25 (by decide) ?_
  refine a_ViW is19 (aMo 0 v u k q) k_X7_request_124 (c_X7_isRefused (f := f) (v := v) (u := u) (k := k) (q := q) false false) dX7_request_26 rfl rfl rfl rfl rfl rfl (Nat.le_of_ble_eq_true rfl) ⟨Nat.le_of_ble_eq_true rfl, Nat.le_of_ble_eq_true rfl⟩ ⟨rfl, rfl⟩ (Nat.le_of_ble_eq_true rfl) rfl ?_
  refine a_if_eq 34 dX7_request_29 (by decide) (fun _ => ?_) (fun z => absurd (by decide) z)
  refine a_aload_n dX7_request_34 rfl ?_
  refine a_iload_n dX7_request_35 rfl ?_
  refine a_ViR is19 k_X7_request_173 (hat) dX7_request_36 rfl rfl rfl rfl rfl rfl (Nat.le_of_ble_eq_true rfl) ⟨Nat.le_of_ble_eq_true rfl, Nat.le_of_ble_eq_true rfl⟩ ⟨rfl, rfl⟩ ?_
  refine a_istore_n dX7_request_39 (by decide) rfl ?_
  refine a_iload_n dX7_request_40 rfl ?_
  refine a_iconst (-1) dX7_request_41 (by decide) ?_
  refine a_icmp_eq 56 dX7_request_42 (by decide) (fun c42 => ?_) (fun c42 => ?_)
  · refine a_aload_n dX7_request_56 rfl ?_
    refine a_iload_n dX7_request_57 rfl ?_
    refine a_iload_n dX7_request_58 rfl ?_
    refine a_VvW is19 (aMo 0 v u (mTk (nI key) n k) q) k_X7_request_178 (c_X7_tracks (f := 0) (v := v) (u := u) (k := k) (q := q) hk8 (nI key) n) dX7_request_59 rfl rfl rfl rfl rfl rfl (Nat.le_of_ble_eq_true rfl) ⟨Nat.le_of_ble_eq_true rfl, Nat.le_of_ble_eq_true rfl⟩ ⟨rfl, rfl⟩ (Nat.le_of_ble_eq_true rfl) rfl ?_
    refine a_iload_n dX7_request_62 rfl ?_
    refine a_iret rfl dX7_request_63 (by decide) (by decide) ?_
    exact ⟨rfl, by unfold vLd; rw [if_pos c42]⟩
  · obtain ⟨i, hi, hie⟩ : ∃ i, i < 10 ∧ s = nI i := by
      rcases hs with z | z
      · exact absurd z c42
      · exact z
    have hv : vp_in s 10 := by rw [hie]; exact in10 hi
    have e : vLd v s n = (v.1, v.2.1, v.2.2.1, vp_updL v.2.2.2.1 s.toNatClampNeg (v.2.2.2.1 s.toNatClampNeg + n.toInt64), v.2.2.2.2) := by unfold vLd; rw [if_neg c42]
    rw [e]
    refine a_aload_n dX7_request_45 rfl ?_
    refine a_get fl_X7_23 dX7_request_46 rfl rfl ?_
    refine a_iload_n dX7_request_49 rfl ?_
    refine a_dup2 dX7_request_50 rfl rfl ?_
    refine a_lald dX7_request_51 rfl (by assumption) ?_
    refine a_iload_n dX7_request_52 rfl ?_
    refine a_i2l dX7_request_53 ?_
    refine a_ladd dX7_request_54 ?_
    refine a_last dX7_request_55 rfl (by assumption) ?_
    refine a_aload_n dX7_request_56 rfl ?_
    refine a_iload_n dX7_request_57 rfl ?_
    refine a_iload_n dX7_request_58 rfl ?_
    refine a_VvW is19 (aMo 0 (v.1, v.2.1, v.2.2.1, vp_updL v.2.2.2.1 s.toNatClampNeg (v.2.2.2.1 s.toNatClampNeg + n.toInt64), v.2.2.2.2) u (mTk (nI key) n k) q) k_X7_request_178 (c_X7_tracks (f := 0) (v := (v.1, v.2.1, v.2.2.1, vp_updL v.2.2.2.1 s.toNatClampNeg (v.2.2.2.1 s.toNatClampNeg + n.toInt64), v.2.2.2.2)) (u := u) (k := k) (q := q) hk8 (nI key) n) dX7_request_59 rfl rfl rfl rfl rfl rfl (Nat.le_of_ble_eq_true rfl) ⟨Nat.le_of_ble_eq_true rfl, Nat.le_of_ble_eq_true rfl⟩ ⟨rfl, rfl⟩ (Nat.le_of_ble_eq_true rfl) rfl ?_
    refine a_iload_n dX7_request_62 rfl ?_
    refine a_iret rfl dX7_request_63 (by decide) (by decide) ?_
    exact ⟨rfl, rfl⟩

/-- what is kept but for its number -/
abbrev rT : Type := (Nat → Int32) × (Nat → Int32) × (Nat → Int32) × (Nat → Int64) × (Nat → Int32) × (Nat → Int32) × (Nat → Int32)
def qPu (z : Nat) (v : sT) (r : rT) : rT := (fWr (10 * z) 10 v.1 r.1, fWr (10 * z) 10 v.2.1 r.2.1, fWr (10 * z) 10 v.2.2.1 r.2.2.1, fWr (10 * z) 10 v.2.2.2.1 r.2.2.2.1, upd r.2.2.2.2.1 z (nI v.2.2.2.2.2.2), fWr (6 * z) 6 v.2.2.2.2.1 r.2.2.2.2.2.1, fWr (6 * z) 6 v.2.2.2.2.2.1 r.2.2.2.2.2.2)
def qSh (r : rT) : rT := (fFl 30 (fun t => r.1 (10 + t)) r.1, fFl 30 (fun t => r.2.1 (10 + t)) r.2.1, fFl 30 (fun t => r.2.2.1 (10 + t)) r.2.2.1, fFl 30 (fun t => r.2.2.2.1 (10 + t)) r.2.2.2.1, fFl 3 (fun t => r.2.2.2.2.1 (t + 1)) r.2.2.2.2.1, fFl 18 (fun t => r.2.2.2.2.2.1 (6 + t)) r.2.2.2.2.2.1, fFl 18 (fun t => r.2.2.2.2.2.2 (6 + t)) r.2.2.2.2.2.2)
def qKp (v : sT) (q : qT) : qT := if q.1 < 4 then (q.1 + 1, qPu q.1 v q.2) else (4, qPu 3 v (qSh q.2))
theorem c_X7_keeps_tail (z : Nat) (hz : z < 4) (r : rT) {L0 : Value} : aJ l X mX7_keeps (aEd X mX7_keeps is19 (fun o h' => o = .inl none ∧ h' = aMo f v u k (z + 1, qPu z v r))) 0 0 163 [.ref 0, L0] [] (aMo f v u k (z, r)) := by
  have iz : vp_in (nI z) 4 := vp_in_nI hz (by decide)
  have cz : (nI z).toNatClampNeg = z := nI_clamp (by omega)
  have lp2 : ∀ (n j : Nat), j + n = 6 → aJ l X mX7_keeps (aEd X mX7_keeps is19 (fun o h' => o = .inl none ∧ h' = aMo f v u k (z + 1, qPu z v r))) 0 0 259 [.ref 0, .int (nI j)] [] (aMo f v u k (z, fWr (10 * z) 10 v.1 r.1, fWr (10 * z) 10 v.2.1 r.2.1, fWr (10 * z) 10 v.2.2.1 r.2.2.1, fWr (10 * z) 10 v.2.2.2.1 r.2.2.2.1, r.2.2.2.2.1, fWr (6 * z) j v.2.2.2.2.1 r.2.2.2.2.2.1, fWr (6 * z) j v.2.2.2.2.2.1 r.2.2.2.2.2.2)) := by
    intro n
    induction n with
    | zero =>
      intro j hj
      obtain rfl : j = 6 := by omega
      refine a_iload_n dX7_keeps_259 rfl ?_
      refine a_bipush 6 dX7_keeps_260 (by decide) ?_
      refine a_icmp_ge 311 dX7_keeps_262 (by decide) (fun _ => ?_) (fun z => absurd (by decide) z)
      refine a_aload_n dX7_keeps_311 rfl ?_
      refine a_get fl_X7_60 dX7_keeps_312 rfl rfl ?_
      refine a_aload_n dX7_keeps_315 rfl ?_
      refine a_get fl_X7_88 dX7_keeps_316 rfl rfl ?_
      refine a_aload_n dX7_keeps_319 rfl ?_
      refine a_get fl_X7_82 dX7_keeps_320 rfl rfl ?_
      refine a_iast dX7_keeps_323 rfl (by assumption) ?_
      refine a_aload_n dX7_keeps_324 rfl ?_
      refine a_dup dX7_keeps_325 rfl ?_
      refine a_get fl_X7_88 dX7_keeps_326 rfl rfl ?_
      refine a_iconst 1 dX7_keeps_329 (by decide) ?_
      refine a_iadd dX7_keeps_330 ?_
      rw [nI_1]
      refine a_put fp_X7_88 dX7_keeps_331 rfl (Nat.le_of_ble_eq_true rfl) (fun _ => ⟨rfl, rfl⟩) ?_
      refine a_vret rfl dX7_keeps_334 (by decide) (by decide) ?_
      refine ⟨rfl, ?_⟩
      rw [cz]
      rfl
    | succ n ih =>
      intro j hj
      have hi : vp_in (nI j) 6 := in6 (by omega)
      have e : 6 * nI z + nI j = nI (6 * z + j) := ix_row 6 z j
      have hi2 : vp_in (6 * nI z + nI j) 24 := by rw [e]; exact vp_in_nI (by omega) (by decide)
      refine a_iload_n dX7_keeps_259 rfl ?_
      refine a_bipush 6 dX7_keeps_260 (by decide) ?_
      refine a_icmp_ge 311 dX7_keeps_262 (by decide) (fun z => absurd z (ge6_f (by omega))) (fun _ => ?_)
      refine a_aload_n dX7_keeps_265 rfl ?_
      refine a_get fl_X7_63 dX7_keeps_266 rfl rfl ?_
      refine a_bipush 6 dX7_keeps_269 (by decide) ?_
      refine a_aload_n dX7_keeps_271 rfl ?_
      refine a_get fl_X7_88 dX7_keeps_272 rfl rfl ?_
      refine a_imul dX7_keeps_275 ?_
      refine a_iload_n dX7_keeps_276 rfl ?_
      refine a_iadd dX7_keeps_277 ?_
      refine a_aload_n dX7_keeps_278 rfl ?_
      refine a_get fl_X7_33 dX7_keeps_279 rfl rfl ?_
      refine a_iload_n dX7_keeps_282 rfl ?_
      refine a_iald dX7_keeps_283 rfl (by assumption) ?_
      refine a_iast dX7_keeps_284 rfl (by assumption) ?_
      refine a_aload_n dX7_keeps_285 rfl ?_
      refine a_get fl_X7_66 dX7_keeps_286 rfl rfl ?_
      refine a_bipush 6 dX7_keeps_289 (by decide) ?_
      refine a_aload_n dX7_keeps_291 rfl ?_
      refine a_get fl_X7_88 dX7_keeps_292 rfl rfl ?_
      refine a_imul dX7_keeps_295 ?_
      refine a_iload_n dX7_keeps_296 rfl ?_
      refine a_iadd dX7_keeps_297 ?_
      refine a_aload_n dX7_keeps_298 rfl ?_
      refine a_get fl_X7_36 dX7_keeps_299 rfl rfl ?_
      refine a_iload_n dX7_keeps_302 rfl ?_
      refine a_iald dX7_keeps_303 rfl (by assumption) ?_
      refine a_iast dX7_keeps_304 rfl (by assumption) ?_
      refine a_iinc (nI (j + 1)) dX7_keeps_305 rfl (nI_1 _) (by decide) rfl ?_
      refine a_goto 259 dX7_keeps_308 (by decide) ?_
      refine a_to rfl rfl rfl ?_ (ih (j + 1) (by omega))
      rw [e, nI_clamp (show 6 * z + j < 2 ^ 31 by omega), cl6 (show j < 6 by omega)]
      dsimp only
      rw [fWr_s, fWr_s]
      rfl
  have lp1 : ∀ (n j : Nat), j + n = 10 → aJ l X mX7_keeps (aEd X mX7_keeps is19 (fun o h' => o = .inl none ∧ h' = aMo f v u k (z + 1, qPu z v r))) 0 0 165 [.ref 0, .int (nI j)] [] (aMo f v u k (z, (fWr (10 * z) j v.1 r.1, fWr (10 * z) j v.2.1 r.2.1, fWr (10 * z) j v.2.2.1 r.2.2.1, fWr (10 * z) j v.2.2.2.1 r.2.2.2.1, r.2.2.2.2))) := by
    intro n
    induction n with
    | zero =>
      intro j hj
      obtain rfl : j = 10 := by omega
      refine a_iload_n dX7_keeps_165 rfl ?_
      refine a_bipush 10 dX7_keeps_166 (by decide) ?_
      refine a_icmp_ge 257 dX7_keeps_168 (by decide) (fun _ => ?_) (fun z => absurd ge10_t z)
      refine a_iconst 0 dX7_keeps_257 (by decide) ?_
      refine a_istore_n dX7_keeps_258 (by decide) rfl ?_
      have := lp2 6 0 rfl
      rw [fWr_0, fWr_0] at this
      exact this
    | succ n ih =>
      intro j hj
      have hi : vp_in (nI j) 10 := in10 (by omega)
      have e : 10 * nI z + nI j = nI (10 * z + j) := ix_row 10 z j
      have hi2 : vp_in (10 * nI z + nI j) 40 := by rw [e]; exact vp_in_nI (by omega) (by decide)
      refine a_iload_n dX7_keeps_165 rfl ?_
      refine a_bipush 10 dX7_keeps_166 (by decide) ?_
      refine a_icmp_ge 257 dX7_keeps_168 (by decide) (fun z => absurd z (ge10_f (by omega))) (fun _ => ?_)
      refine a_aload_n dX7_keeps_171 rfl ?_
      refine a_get fl_X7_48 dX7_keeps_172 rfl rfl ?_
      refine a_bipush 10 dX7_keeps_175 (by decide) ?_
      refine a_aload_n dX7_keeps_177 rfl ?_
      refine a_get fl_X7_88 dX7_keeps_178 rfl rfl ?_
      refine a_imul dX7_keeps_181 ?_
      refine a_iload_n dX7_keeps_182 rfl ?_
      refine a_iadd dX7_keeps_183 ?_
      refine a_aload_n dX7_keeps_184 rfl ?_
      refine a_get fl_X7_13 dX7_keeps_185 rfl rfl ?_
      refine a_iload_n dX7_keeps_188 rfl ?_
      refine a_iald dX7_keeps_189 rfl (by assumption) ?_
      refine a_iast dX7_keeps_190 rfl (by assumption) ?_
      refine a_aload_n dX7_keeps_191 rfl ?_
      refine a_get fl_X7_51 dX7_keeps_192 rfl rfl ?_
      refine a_bipush 10 dX7_keeps_195 (by decide) ?_
      refine a_aload_n dX7_keeps_197 rfl ?_
      refine a_get fl_X7_88 dX7_keeps_198 rfl rfl ?_
      refine a_imul dX7_keeps_201 ?_
      refine a_iload_n dX7_keeps_202 rfl ?_
      refine a_iadd dX7_keeps_203 ?_
      refine a_aload_n dX7_keeps_204 rfl ?_
      refine a_get fl_X7_17 dX7_keeps_205 rfl rfl ?_
      refine a_iload_n dX7_keeps_208 rfl ?_
      refine a_iald dX7_keeps_209 rfl (by assumption) ?_
      refine a_iast dX7_keeps_210 rfl (by assumption) ?_
      refine a_aload_n dX7_keeps_211 rfl ?_
      refine a_get fl_X7_54 dX7_keeps_212 rfl rfl ?_
      refine a_bipush 10 dX7_keeps_215 (by decide) ?_
      refine a_aload_n dX7_keeps_217 rfl ?_
      refine a_get fl_X7_88 dX7_keeps_218 rfl rfl ?_
      refine a_imul dX7_keeps_221 ?_
      refine a_iload_n dX7_keeps_222 rfl ?_
      refine a_iadd dX7_keeps_223 ?_
      refine a_aload_n dX7_keeps_224 rfl ?_
      refine a_get fl_X7_20 dX7_keeps_225 rfl rfl ?_
      refine a_iload_n dX7_keeps_228 rfl ?_
      refine a_iald dX7_keeps_229 rfl (by assumption) ?_
      refine a_iast dX7_keeps_230 rfl (by assumption) ?_
      refine a_aload_n dX7_keeps_231 rfl ?_
      refine a_get fl_X7_57 dX7_keeps_232 rfl rfl ?_
      refine a_bipush 10 dX7_keeps_235 (by decide) ?_
      refine a_aload_n dX7_keeps_237 rfl ?_
      refine a_get fl_X7_88 dX7_keeps_238 rfl rfl ?_
      refine a_imul dX7_keeps_241 ?_
      refine a_iload_n dX7_keeps_242 rfl ?_
      refine a_iadd dX7_keeps_243 ?_
      refine a_aload_n dX7_keeps_244 rfl ?_
      refine a_get fl_X7_23 dX7_keeps_245 rfl rfl ?_
      refine a_iload_n dX7_keeps_248 rfl ?_
      refine a_lald dX7_keeps_249 rfl (by assumption) ?_
      refine a_last dX7_keeps_250 rfl (by assumption) ?_
      refine a_iinc (nI (j + 1)) dX7_keeps_251 rfl (nI_1 _) (by decide) rfl ?_
      refine a_goto 165 dX7_keeps_254 (by decide) ?_
      refine a_to rfl rfl rfl ?_ (ih (j + 1) (by omega))
      rw [e, nI_clamp (show 10 * z + j < 2 ^ 31 by omega), cl10 (show j < 10 by omega)]
      dsimp only
      rw [fWr_s, fWr_s, fWr_s, fWr_sL]
      rfl
  refine a_iconst 0 dX7_keeps_163 (by decide) ?_
  refine a_istore_n dX7_keeps_164 (by decide) rfl ?_
  have := lp1 10 0 rfl
  rw [fWr_0, fWr_0, fWr_0, fWr_0] at this
  exact this
theorem c_X7_keeps_4 (r : rT) : aWr l X mX7_keeps is19 [.ref 0] (aMo f v u k (4, r)) none (aMo f v u k (4, qPu 3 v (qSh r))) := by
  refine aMt.of (by decide) rfl (Nat.le_of_ble_eq_true rfl) ?_
  refine a_aload_n dX7_keeps_0 rfl ?_
  refine a_get fl_X7_88 dX7_keeps_1 rfl rfl ?_
  refine a_iconst 4 dX7_keeps_4 (by decide) ?_
  refine a_icmp_ne 163 dX7_keeps_5 (by decide) (fun z => absurd rfl z) (fun _ => ?_)
  have lp3 : ∀ (n j : Nat), j + n = 3 → aJ l X mX7_keeps (aEd X mX7_keeps is19 (fun o h' => o = .inl none ∧ h' = aMo f v u k (4, qPu 3 v (qSh r)))) 0 0 128 [.ref 0, .int (nI j)] [] (aMo f v u k (4, (qSh r).1, (qSh r).2.1, (qSh r).2.2.1, (qSh r).2.2.2.1, fFl j (fun t => r.2.2.2.2.1 (t + 1)) r.2.2.2.2.1, (qSh r).2.2.2.2.2.1, (qSh r).2.2.2.2.2.2)) := by
    intro n
    induction n with
    | zero =>
      intro j hj
      obtain rfl : j = 3 := by omega
      refine a_iload_n dX7_keeps_128 rfl ?_
      refine a_iconst 3 dX7_keeps_129 (by decide) ?_
      refine a_icmp_ge 153 dX7_keeps_130 (by decide) (fun _ => ?_) (fun z => absurd (by decide) z)
      refine a_aload_n dX7_keeps_153 rfl ?_
      refine a_dup dX7_keeps_154 rfl ?_
      refine a_get fl_X7_88 dX7_keeps_155 rfl rfl ?_
      refine a_iconst 1 dX7_keeps_158 (by decide) ?_
      refine a_isub dX7_keeps_159 ?_
      rw [show nI 4 - 1 = nI 3 from by decide]
      refine a_put fp_X7_88 dX7_keeps_160 rfl (Nat.le_of_ble_eq_true rfl) (fun _ => ⟨rfl, rfl⟩) ?_
      exact c_X7_keeps_tail 3 (by decide) (qSh r)
    | succ n ih =>
      intro j hj
      have hi : vp_in (nI j) 4 := vp_in_nI (by omega) (by decide)
      have e : nI j + 1 = nI (j + 1) := nI_1 j
      have hi2 : vp_in (nI j + 1) 4 := by rw [e]; exact vp_in_nI (by omega) (by decide)
      refine a_iload_n dX7_keeps_128 rfl ?_
      refine a_iconst 3 dX7_keeps_129 (by decide) ?_
      refine a_icmp_ge 153 dX7_keeps_130 (by decide) (fun z => absurd z (nI_ge (b := 3) (by omega) (by decide))) (fun _ => ?_)
      refine a_aload_n dX7_keeps_133 rfl ?_
      refine a_get fl_X7_60 dX7_keeps_134 rfl rfl ?_
      refine a_iload_n dX7_keeps_137 rfl ?_
      refine a_aload_n dX7_keeps_138 rfl ?_
      refine a_get fl_X7_60 dX7_keeps_139 rfl rfl ?_
      refine a_iload_n dX7_keeps_142 rfl ?_
      refine a_iconst 1 dX7_keeps_143 (by decide) ?_
      refine a_iadd dX7_keeps_144 ?_
      refine a_iald dX7_keeps_145 rfl (by assumption) ?_
      refine a_iast dX7_keeps_146 rfl (by assumption) ?_
      refine a_iinc (nI (j + 1)) dX7_keeps_147 rfl (nI_1 _) (by decide) rfl ?_
      refine a_goto 128 dX7_keeps_150 (by decide) ?_
      refine a_to rfl rfl rfl ?_ (ih (j + 1) (by omega))
      rw [e, nI_clamp (show j + 1 < 2 ^ 31 by omega), nI_clamp (show j < 2 ^ 31 by omega)]
      dsimp only
      rw [fFl_ge (show j ≤ j + 1 by omega), fFl_s (v := fun t => r.2.2.2.2.1 (t + 1))]
      rfl
  have lp2 : ∀ (n j : Nat), j + n = 18 → aJ l X mX7_keeps (aEd X mX7_keeps is19 (fun o h' => o = .inl none ∧ h' = aMo f v u k (4, qPu 3 v (qSh r)))) 0 0 84 [.ref 0, .int (nI j)] [] (aMo f v u k (4, (qSh r).1, (qSh r).2.1, (qSh r).2.2.1, (qSh r).2.2.2.1, r.2.2.2.2.1, fFl j (fun t => r.2.2.2.2.2.1 (6 + t)) r.2.2.2.2.2.1, fFl j (fun t => r.2.2.2.2.2.2 (6 + t)) r.2.2.2.2.2.2)) := by
    intro n
    induction n with
    | zero =>
      intro j hj
      obtain rfl : j = 18 := by omega
      refine a_iload_n dX7_keeps_84 rfl ?_
      refine a_bipush 18 dX7_keeps_85 (by decide) ?_
      refine a_icmp_ge 126 dX7_keeps_87 (by decide) (fun _ => ?_) (fun z => absurd (by decide) z)
      refine a_iconst 0 dX7_keeps_126 (by decide) ?_
      refine a_istore_n dX7_keeps_127 (by decide) rfl ?_
      have := lp3 3 0 rfl
      rw [fFl_0] at this
      exact this
    | succ n ih =>
      intro j hj
      have hi : vp_in (nI j) 24 := vp_in_nI (by omega) (by decide)
      have e : 6 + nI j = nI (6 + j) := ix_add 6 j
      have hi2 : vp_in (6 + nI j) 24 := by rw [e]; exact vp_in_nI (by omega) (by decide)
      refine a_iload_n dX7_keeps_84 rfl ?_
      refine a_bipush 18 dX7_keeps_85 (by decide) ?_
      refine a_icmp_ge 126 dX7_keeps_87 (by decide) (fun z => absurd z (nI_ge (b := 18) (by omega) (by decide))) (fun _ => ?_)
      refine a_aload_n dX7_keeps_90 rfl ?_
      refine a_get fl_X7_63 dX7_keeps_91 rfl rfl ?_
      refine a_iload_n dX7_keeps_94 rfl ?_
      refine a_aload_n dX7_keeps_95 rfl ?_
      refine a_get fl_X7_63 dX7_keeps_96 rfl rfl ?_
      refine a_bipush 6 dX7_keeps_99 (by decide) ?_
      refine a_iload_n dX7_keeps_101 rfl ?_
      refine a_iadd dX7_keeps_102 ?_
      refine a_iald dX7_keeps_103 rfl (by assumption) ?_
      refine a_iast dX7_keeps_104 rfl (by assumption) ?_
      refine a_aload_n dX7_keeps_105 rfl ?_
      refine a_get fl_X7_66 dX7_keeps_106 rfl rfl ?_
      refine a_iload_n dX7_keeps_109 rfl ?_
      refine a_aload_n dX7_keeps_110 rfl ?_
      refine a_get fl_X7_66 dX7_keeps_111 rfl rfl ?_
      refine a_bipush 6 dX7_keeps_114 (by decide) ?_
      refine a_iload_n dX7_keeps_116 rfl ?_
      refine a_iadd dX7_keeps_117 ?_
      refine a_iald dX7_keeps_118 rfl (by assumption) ?_
      refine a_iast dX7_keeps_119 rfl (by assumption) ?_
      refine a_iinc (nI (j + 1)) dX7_keeps_120 rfl (nI_1 _) (by decide) rfl ?_
      refine a_goto 84 dX7_keeps_123 (by decide) ?_
      refine a_to rfl rfl rfl ?_ (ih (j + 1) (by omega))
      rw [e, nI_clamp (show 6 + j < 2 ^ 31 by omega), nI_clamp (show j < 2 ^ 31 by omega)]
      dsimp only
      rw [fFl_ge (show j ≤ 6 + j by omega), fFl_ge (show j ≤ 6 + j by omega), fFl_s (v := fun t => r.2.2.2.2.2.1 (6 + t)), fFl_s (v := fun t => r.2.2.2.2.2.2 (6 + t))]
      rfl
  have lp1 : ∀ (n j : Nat), j + n = 30 → aJ l X mX7_keeps (aEd X mX7_keeps is19 (fun o h' => o = .inl none ∧ h' = aMo f v u k (4, qPu 3 v (qSh r)))) 0 0 10 [.ref 0, .int (nI j)] [] (aMo f v u k (4, fFl j (fun t => r.1 (10 + t)) r.1, fFl j (fun t => r.2.1 (10 + t)) r.2.1, fFl j (fun t => r.2.2.1 (10 + t)) r.2.2.1, fFl j (fun t => r.2.2.2.1 (10 + t)) r.2.2.2.1, r.2.2.2.2)) := by
    intro n
    induction n with
    | zero =>
      intro j hj
      obtain rfl : j = 30 := by omega
      refine a_iload_n dX7_keeps_10 rfl ?_
      refine a_bipush 30 dX7_keeps_11 (by decide) ?_
      refine a_icmp_ge 82 dX7_keeps_13 (by decide) (fun _ => ?_) (fun z => absurd (by decide) z)
      refine a_iconst 0 dX7_keeps_82 (by decide) ?_
      refine a_istore_n dX7_keeps_83 (by decide) rfl ?_
      have := lp2 18 0 rfl
      rw [fFl_0, fFl_0] at this
      exact this
    | succ n ih =>
      intro j hj
      have hi : vp_in (nI j) 40 := vp_in_nI (by omega) (by decide)
      have e : 10 + nI j = nI (10 + j) := ix_add 10 j
      have hi2 : vp_in (10 + nI j) 40 := by rw [e]; exact vp_in_nI (by omega) (by decide)
      refine a_iload_n dX7_keeps_10 rfl ?_
      refine a_bipush 30 dX7_keeps_11 (by decide) ?_
      refine a_icmp_ge 82 dX7_keeps_13 (by decide) (fun z => absurd z (nI_ge (b := 30) (by omega) (by decide))) (fun _ => ?_)
      refine a_aload_n dX7_keeps_16 rfl ?_
      refine a_get fl_X7_48 dX7_keeps_17 rfl rfl ?_
      refine a_iload_n dX7_keeps_20 rfl ?_
      refine a_aload_n dX7_keeps_21 rfl ?_
      refine a_get fl_X7_48 dX7_keeps_22 rfl rfl ?_
      refine a_bipush 10 dX7_keeps_25 (by decide) ?_
      refine a_iload_n dX7_keeps_27 rfl ?_
      refine a_iadd dX7_keeps_28 ?_
      refine a_iald dX7_keeps_29 rfl (by assumption) ?_
      refine a_iast dX7_keeps_30 rfl (by assumption) ?_
      refine a_aload_n dX7_keeps_31 rfl ?_
      refine a_get fl_X7_51 dX7_keeps_32 rfl rfl ?_
      refine a_iload_n dX7_keeps_35 rfl ?_
      refine a_aload_n dX7_keeps_36 rfl ?_
      refine a_get fl_X7_51 dX7_keeps_37 rfl rfl ?_
      refine a_bipush 10 dX7_keeps_40 (by decide) ?_
      refine a_iload_n dX7_keeps_42 rfl ?_
      refine a_iadd dX7_keeps_43 ?_
      refine a_iald dX7_keeps_44 rfl (by assumption) ?_
      refine a_iast dX7_keeps_45 rfl (by assumption) ?_
      refine a_aload_n dX7_keeps_46 rfl ?_
      refine a_get fl_X7_54 dX7_keeps_47 rfl rfl ?_
      refine a_iload_n dX7_keeps_50 rfl ?_
      refine a_aload_n dX7_keeps_51 rfl ?_
      refine a_get fl_X7_54 dX7_keeps_52 rfl rfl ?_
      refine a_bipush 10 dX7_keeps_55 (by decide) ?_
      refine a_iload_n dX7_keeps_57 rfl ?_
      refine a_iadd dX7_keeps_58 ?_
      refine a_iald dX7_keeps_59 rfl (by assumption) ?_
      refine a_iast dX7_keeps_60 rfl (by assumption) ?_
      refine a_aload_n dX7_keeps_61 rfl ?_
      refine a_get fl_X7_57 dX7_keeps_62 rfl rfl ?_
      refine a_iload_n dX7_keeps_65 rfl ?_
      refine a_aload_n dX7_keeps_66 rfl ?_
      refine a_get fl_X7_57 dX7_keeps_67 rfl rfl ?_
      refine a_bipush 10 dX7_keeps_70 (by decide) ?_
      refine a_iload_n dX7_keeps_72 rfl ?_
      refine a_iadd dX7_keeps_73 ?_
      refine a_lald dX7_keeps_74 rfl (by assumption) ?_
      refine a_last dX7_keeps_75 rfl (by assumption) ?_
      refine a_iinc (nI (j + 1)) dX7_keeps_76 rfl (nI_1 _) (by decide) rfl ?_
      refine a_goto 10 dX7_keeps_79 (by decide) ?_
      refine a_to rfl rfl rfl ?_ (ih (j + 1) (by omega))
      rw [e, nI_clamp (show 10 + j < 2 ^ 31 by omega), nI_clamp (show j < 2 ^ 31 by omega)]
      dsimp only
      rw [fFl_ge (show j ≤ 10 + j by omega), fFl_ge (show j ≤ 10 + j by omega), fFl_ge (show j ≤ 10 + j by omega), fFl_ge (show j ≤ 10 + j by omega), fFl_s (v := fun t => r.1 (10 + t)), fFl_s (v := fun t => r.2.1 (10 + t)), fFl_s (v := fun t => r.2.2.1 (10 + t)), fFl_sL (v := fun t => r.2.2.2.1 (10 + t))]
      rfl
  refine a_iconst 0 dX7_keeps_8 (by decide) ?_
  refine a_istore_n dX7_keeps_9 (by decide) rfl ?_
  have := lp1 30 0 rfl
  rw [fFl_0, fFl_0, fFl_0, fFl_0] at this
  exact this
theorem c_X7_keeps (hq : q.1 ≤ 4) : aWr l X mX7_keeps is19 [.ref 0] (aMo f v u k q) none (aMo f v u k (qKp v q)) := by
  rcases Nat.lt_or_ge q.1 4 with h | h
  · have e : qKp v q = (q.1 + 1, qPu q.1 v q.2) := by unfold qKp; rw [if_pos h]
    rw [e]
    refine aMt.of (by decide) rfl (Nat.le_of_ble_eq_true rfl) ?_
    refine a_aload_n dX7_keeps_0 rfl ?_
    refine a_get fl_X7_88 dX7_keeps_1 rfl rfl ?_
    refine a_iconst 4 dX7_keeps_4 (by decide) ?_
    refine a_icmp_ne 163 dX7_keeps_5 (by decide) (fun _ => ?_) (fun z => absurd z (fun z => absurd ((nI_eq (a := q.1) (b := 4) (by omega) (by decide)).mp z) (by omega)))
    exact c_X7_keeps_tail q.1 h q.2
  · have e : qKp v q = (4, qPu 3 v (qSh q.2)) := by unfold qKp; rw [if_neg (by omega)]
    rw [e]
    have e4 : q = (4, q.2) := by obtain ⟨z, r⟩ := q; dsimp only at *; obtain rfl : z = 4 := by omega
                                 rfl
    have := c_X7_keeps_4 (l := l) (X := X) (f := f) (v := v) (u := u) (k := k) q.2
    rw [← e4] at this
    exact this
end MO5
