theorem dd_Md_openChain_72 : decode (mm_Md_openChain).2.1 72 = .ok (.istore 4, 2) := by decide +kernel
theorem dd_Md_openChain_74 : decode (mm_Md_openChain).2.1 74 = .ok (.iload 4, 2) := by decide +kernel
theorem dd_Md_openChain_76 : decode (mm_Md_openChain).2.1 76 = .ok (.iconst 1, 1) := by decide +kernel
theorem dd_Md_openChain_77 : decode (mm_Md_openChain).2.1 77 = .ok (.iadd, 1) := by decide +kernel
theorem dd_Md_openChain_78 : decode (mm_Md_openChain).2.1 78 = .ok (.aload_n 0, 1) := by decide +kernel
theorem dd_Md_openChain_79 : decode (mm_Md_openChain).2.1 79 = .ok (.getfield 124, 3) := by decide +kernel
theorem dd_Md_openChain_82 : decode (mm_Md_openChain).2.1 82 = .ok (.if_icmp .ge 28, 3) := by decide +kernel
theorem dd_Md_openChain_85 : decode (mm_Md_openChain).2.1 85 = .ok (.aload_n 0, 1) := by decide +kernel
theorem dd_Md_openChain_86 : decode (mm_Md_openChain).2.1 86 = .ok (.getfield 31, 3) := by decide +kernel
theorem dd_Md_openChain_89 : decode (mm_Md_openChain).2.1 89 = .ok (.iload 4, 2) := by decide +kernel
theorem dd_Md_openChain_91 : decode (mm_Md_openChain).2.1 91 = .ok (.iconst 1, 1) := by decide +kernel
theorem dd_Md_openChain_92 : decode (mm_Md_openChain).2.1 92 = .ok (.iadd, 1) := by decide +kernel
theorem dd_Md_openChain_93 : decode (mm_Md_openChain).2.1 93 = .ok (.iaload, 1) := by decide +kernel
theorem dd_Md_openChain_94 : decode (mm_Md_openChain).2.1 94 = .ok (.bipush 60, 2) := by decide +kernel
theorem dd_Md_openChain_96 : decode (mm_Md_openChain).2.1 96 = .ok (.if_icmp .le 14, 3) := by decide +kernel
theorem dd_Md_openChain_99 : decode (mm_Md_openChain).2.1 99 = .ok (.aload_n 0, 1) := by decide +kernel
theorem dd_Md_openChain_100 : decode (mm_Md_openChain).2.1 100 = .ok (.bipush (-4), 2) := by decide +kernel
theorem dd_Md_openChain_102 : decode (mm_Md_openChain).2.1 102 = .ok (.iload 4, 2) := by decide +kernel
theorem dd_Md_openChain_104 : decode (mm_Md_openChain).2.1 104 = .ok (.iconst 1, 1) := by decide +kernel
theorem dd_Md_openChain_105 : decode (mm_Md_openChain).2.1 105 = .ok (.iadd, 1) := by decide +kernel
theorem dd_Md_openChain_106 : decode (mm_Md_openChain).2.1 106 = .ok (.invokevirtual 130, 3) := by decide +kernel
theorem dd_Md_openChain_109 : decode (mm_Md_openChain).2.1 109 = .ok (.ireturn, 1) := by decide +kernel
theorem dd_Md_openChain_110 : decode (mm_Md_openChain).2.1 110 = .ok (.iload 4, 2) := by decide +kernel
theorem dd_Md_openChain_112 : decode (mm_Md_openChain).2.1 112 = .ok (.iconst 4, 1) := by decide +kernel
theorem dd_Md_openChain_113 : decode (mm_Md_openChain).2.1 113 = .ok (.iadd, 1) := by decide +kernel
theorem dd_Md_openChain_114 : decode (mm_Md_openChain).2.1 114 = .ok (.aload_n 0, 1) := by decide +kernel
theorem dd_Md_openChain_115 : decode (mm_Md_openChain).2.1 115 = .ok (.getfield 124, 3) := by decide +kernel
theorem dd_Md_openChain_118 : decode (mm_Md_openChain).2.1 118 = .ok (.if_icmp .lt 14, 3) := by decide +kernel
theorem dd_Md_openChain_121 : decode (mm_Md_openChain).2.1 121 = .ok (.aload_n 0, 1) := by decide +kernel
theorem dd_Md_openChain_122 : decode (mm_Md_openChain).2.1 122 = .ok (.bipush (-3), 2) := by decide +kernel
theorem dd_Md_openChain_124 : decode (mm_Md_openChain).2.1 124 = .ok (.aload_n 0, 1) := by decide +kernel
theorem dd_Md_openChain_125 : decode (mm_Md_openChain).2.1 125 = .ok (.getfield 124, 3) := by decide +kernel
theorem dd_Md_openChain_128 : decode (mm_Md_openChain).2.1 128 = .ok (.invokevirtual 130, 3) := by decide +kernel
theorem dd_Md_openChain_131 : decode (mm_Md_openChain).2.1 131 = .ok (.ireturn, 1) := by decide +kernel
theorem dd_Md_openChain_132 : decode (mm_Md_openChain).2.1 132 = .ok (.iconst 0, 1) := by decide +kernel
theorem dd_Md_openChain_133 : decode (mm_Md_openChain).2.1 133 = .ok (.istore 5, 2) := by decide +kernel
theorem dd_Md_openChain_135 : decode (mm_Md_openChain).2.1 135 = .ok (.iload_n 1, 1) := by decide +kernel
theorem dd_Md_openChain_136 : decode (mm_Md_openChain).2.1 136 = .ok (.istore 6, 2) := by decide +kernel
theorem dd_Md_openChain_138 : decode (mm_Md_openChain).2.1 138 = .ok (.iload 6, 2) := by decide +kernel
theorem dd_Md_openChain_140 : decode (mm_Md_openChain).2.1 140 = .ok (.iload 4, 2) := by decide +kernel
theorem dd_Md_openChain_142 : decode (mm_Md_openChain).2.1 142 = .ok (.iconst 4, 1) := by decide +kernel
theorem dd_Md_openChain_143 : decode (mm_Md_openChain).2.1 143 = .ok (.iadd, 1) := by decide +kernel
theorem dd_Md_openChain_144 : decode (mm_Md_openChain).2.1 144 = .ok (.if_icmp .ge 21, 3) := by decide +kernel
theorem dd_Md_openChain_147 : decode (mm_Md_openChain).2.1 147 = .ok (.iload 5, 2) := by decide +kernel
theorem dd_Md_openChain_149 : decode (mm_Md_openChain).2.1 149 = .ok (.aload_n 0, 1) := by decide +kernel
theorem dd_Md_openChain_150 : decode (mm_Md_openChain).2.1 150 = .ok (.getfield 31, 3) := by decide +kernel
theorem dd_Md_openChain_153 : decode (mm_Md_openChain).2.1 153 = .ok (.iload 6, 2) := by decide +kernel
theorem dd_Md_openChain_155 : decode (mm_Md_openChain).2.1 155 = .ok (.iaload, 1) := by decide +kernel
theorem dd_Md_openChain_156 : decode (mm_Md_openChain).2.1 156 = .ok (.iadd, 1) := by decide +kernel
theorem dd_Md_openChain_157 : decode (mm_Md_openChain).2.1 157 = .ok (.istore 5, 2) := by decide +kernel
theorem dd_Md_openChain_159 : decode (mm_Md_openChain).2.1 159 = .ok (.iinc 6 1, 3) := by decide +kernel
theorem dd_Md_openChain_162 : decode (mm_Md_openChain).2.1 162 = .ok (.goto (-24), 3) := by decide +kernel
theorem dd_Md_openChain_165 : decode (mm_Md_openChain).2.1 165 = .ok (.iload 5, 2) := by decide +kernel
theorem dd_Md_openChain_167 : decode (mm_Md_openChain).2.1 167 = .ok (.sipush 255, 3) := by decide +kernel
theorem dd_Md_openChain_170 : decode (mm_Md_openChain).2.1 170 = .ok (.iand, 1) := by decide +kernel
theorem dd_Md_openChain_171 : decode (mm_Md_openChain).2.1 171 = .ok (.aload_n 0, 1) := by decide +kernel
theorem dd_Md_openChain_172 : decode (mm_Md_openChain).2.1 172 = .ok (.getfield 31, 3) := by decide +kernel
theorem dd_Md_openChain_175 : decode (mm_Md_openChain).2.1 175 = .ok (.iload 4, 2) := by decide +kernel
theorem dd_Md_openChain_177 : decode (mm_Md_openChain).2.1 177 = .ok (.iconst 4, 1) := by decide +kernel
theorem dd_Md_openChain_178 : decode (mm_Md_openChain).2.1 178 = .ok (.iadd, 1) := by decide +kernel
theorem dd_Md_openChain_179 : decode (mm_Md_openChain).2.1 179 = .ok (.iaload, 1) := by decide +kernel
theorem dd_Md_openChain_180 : decode (mm_Md_openChain).2.1 180 = .ok (.if_icmp .eq 14, 3) := by decide +kernel
theorem dd_Md_openChain_183 : decode (mm_Md_openChain).2.1 183 = .ok (.aload_n 0, 1) := by decide +kernel
theorem dd_Md_openChain_184 : decode (mm_Md_openChain).2.1 184 = .ok (.bipush (-4), 2) := by decide +kernel
theorem dd_Md_openChain_186 : decode (mm_Md_openChain).2.1 186 = .ok (.iload 4, 2) := by decide +kernel
theorem dd_Md_openChain_188 : decode (mm_Md_openChain).2.1 188 = .ok (.iconst 4, 1) := by decide +kernel
theorem dd_Md_openChain_189 : decode (mm_Md_openChain).2.1 189 = .ok (.iadd, 1) := by decide +kernel
theorem dd_Md_openChain_190 : decode (mm_Md_openChain).2.1 190 = .ok (.invokevirtual 130, 3) := by decide +kernel
theorem dd_Md_openChain_193 : decode (mm_Md_openChain).2.1 193 = .ok (.ireturn, 1) := by decide +kernel
theorem dd_Md_openChain_194 : decode (mm_Md_openChain).2.1 194 = .ok (.aload_n 0, 1) := by decide +kernel
theorem dd_Md_openChain_195 : decode (mm_Md_openChain).2.1 195 = .ok (.getfield 127, 3) := by decide +kernel
theorem dd_Md_openChain_198 : decode (mm_Md_openChain).2.1 198 = .ok (.bipush 6, 2) := by decide +kernel
theorem dd_Md_openChain_200 : decode (mm_Md_openChain).2.1 200 = .ok (.if_icmp .ne 11, 3) := by decide +kernel
theorem dd_Md_openChain_203 : decode (mm_Md_openChain).2.1 203 = .ok (.aload_n 0, 1) := by decide +kernel
theorem dd_Md_openChain_204 : decode (mm_Md_openChain).2.1 204 = .ok (.bipush (-2), 2) := by decide +kernel
theorem dd_Md_openChain_206 : decode (mm_Md_openChain).2.1 206 = .ok (.iload_n 2, 1) := by decide +kernel
theorem dd_Md_openChain_207 : decode (mm_Md_openChain).2.1 207 = .ok (.invokevirtual 130, 3) := by decide +kernel
theorem dd_Md_openChain_210 : decode (mm_Md_openChain).2.1 210 = .ok (.ireturn, 1) := by decide +kernel
theorem dd_Md_openChain_211 : decode (mm_Md_openChain).2.1 211 = .ok (.iload 4, 2) := by decide +kernel
theorem dd_Md_openChain_213 : decode (mm_Md_openChain).2.1 213 = .ok (.iconst 5, 1) := by decide +kernel
theorem dd_Md_openChain_214 : decode (mm_Md_openChain).2.1 214 = .ok (.iadd, 1) := by decide +kernel
theorem dd_Md_openChain_215 : decode (mm_Md_openChain).2.1 215 = .ok (.aload_n 0, 1) := by decide +kernel
theorem dd_Md_openChain_216 : decode (mm_Md_openChain).2.1 216 = .ok (.getfield 31, 3) := by decide +kernel
theorem dd_Md_openChain_219 : decode (mm_Md_openChain).2.1 219 = .ok (.iload 4, 2) := by decide +kernel
theorem dd_Md_openChain_221 : decode (mm_Md_openChain).2.1 221 = .ok (.iaload, 1) := by decide +kernel
theorem dd_Md_openChain_222 : decode (mm_Md_openChain).2.1 222 = .ok (.iadd, 1) := by decide +kernel
theorem dd_Md_openChain_223 : decode (mm_Md_openChain).2.1 223 = .ok (.istore 6, 2) := by decide +kernel
theorem dd_Md_openChain_225 : decode (mm_Md_openChain).2.1 225 = .ok (.iload 6, 2) := by decide +kernel
theorem dd_Md_openChain_227 : decode (mm_Md_openChain).2.1 227 = .ok (.iconst 3, 1) := by decide +kernel
theorem dd_Md_openChain_228 : decode (mm_Md_openChain).2.1 228 = .ok (.iadd, 1) := by decide +kernel
theorem dd_Md_openChain_229 : decode (mm_Md_openChain).2.1 229 = .ok (.iconst 4, 1) := by decide +kernel
theorem dd_Md_openChain_230 : decode (mm_Md_openChain).2.1 230 = .ok (.idiv, 1) := by decide +kernel
theorem dd_Md_openChain_231 : decode (mm_Md_openChain).2.1 231 = .ok (.iconst 4, 1) := by decide +kernel
theorem dd_Md_openChain_232 : decode (mm_Md_openChain).2.1 232 = .ok (.imul, 1) := by decide +kernel
theorem dd_Md_openChain_233 : decode (mm_Md_openChain).2.1 233 = .ok (.istore_n 1, 1) := by decide +kernel
theorem dd_Md_openChain_234 : decode (mm_Md_openChain).2.1 234 = .ok (.iload_n 1, 1) := by decide +kernel
theorem dd_Md_openChain_235 : decode (mm_Md_openChain).2.1 235 = .ok (.aload_n 0, 1) := by decide +kernel
theorem dd_Md_openChain_236 : decode (mm_Md_openChain).2.1 236 = .ok (.getfield 124, 3) := by decide +kernel
theorem dd_Md_openChain_239 : decode (mm_Md_openChain).2.1 239 = .ok (.if_icmp .le 14, 3) := by decide +kernel
theorem dd_Md_openChain_242 : decode (mm_Md_openChain).2.1 242 = .ok (.aload_n 0, 1) := by decide +kernel
theorem dd_Md_openChain_243 : decode (mm_Md_openChain).2.1 243 = .ok (.bipush (-3), 2) := by decide +kernel
theorem dd_Md_openChain_245 : decode (mm_Md_openChain).2.1 245 = .ok (.aload_n 0, 1) := by decide +kernel
theorem dd_Md_openChain_246 : decode (mm_Md_openChain).2.1 246 = .ok (.getfield 124, 3) := by decide +kernel
theorem dd_Md_openChain_249 : decode (mm_Md_openChain).2.1 249 = .ok (.invokevirtual 130, 3) := by decide +kernel
theorem dd_Md_openChain_252 : decode (mm_Md_openChain).2.1 252 = .ok (.ireturn, 1) := by decide +kernel
theorem dd_Md_openChain_253 : decode (mm_Md_openChain).2.1 253 = .ok (.iload 6, 2) := by decide +kernel
theorem dd_Md_openChain_255 : decode (mm_Md_openChain).2.1 255 = .ok (.istore 7, 2) := by decide +kernel
theorem dd_Md_openChain_257 : decode (mm_Md_openChain).2.1 257 = .ok (.iload 7, 2) := by decide +kernel
theorem dd_Md_openChain_259 : decode (mm_Md_openChain).2.1 259 = .ok (.iload_n 1, 1) := by decide +kernel
theorem dd_Md_openChain_260 : decode (mm_Md_openChain).2.1 260 = .ok (.if_icmp .ge 28, 3) := by decide +kernel
theorem dd_Md_openChain_263 : decode (mm_Md_openChain).2.1 263 = .ok (.aload_n 0, 1) := by decide +kernel
theorem dd_Md_openChain_264 : decode (mm_Md_openChain).2.1 264 = .ok (.getfield 31, 3) := by decide +kernel
theorem dd_Md_openChain_267 : decode (mm_Md_openChain).2.1 267 = .ok (.iload 7, 2) := by decide +kernel
theorem dd_Md_openChain_269 : decode (mm_Md_openChain).2.1 269 = .ok (.iaload, 1) := by decide +kernel
theorem dd_Md_openChain_270 : decode (mm_Md_openChain).2.1 270 = .ok (.ifCond .eq 12, 3) := by decide +kernel
theorem dd_Md_openChain_273 : decode (mm_Md_openChain).2.1 273 = .ok (.aload_n 0, 1) := by decide +kernel
theorem dd_Md_openChain_274 : decode (mm_Md_openChain).2.1 274 = .ok (.bipush (-4), 2) := by decide +kernel
theorem dd_Md_openChain_276 : decode (mm_Md_openChain).2.1 276 = .ok (.iload 7, 2) := by decide +kernel
theorem dd_Md_openChain_278 : decode (mm_Md_openChain).2.1 278 = .ok (.invokevirtual 130, 3) := by decide +kernel
theorem dd_Md_openChain_281 : decode (mm_Md_openChain).2.1 281 = .ok (.ireturn, 1) := by decide +kernel
theorem dd_Md_openChain_282 : decode (mm_Md_openChain).2.1 282 = .ok (.iinc 7 1, 3) := by decide +kernel
theorem dd_Md_openChain_285 : decode (mm_Md_openChain).2.1 285 = .ok (.goto (-28), 3) := by decide +kernel
theorem dd_Md_openChain_288 : decode (mm_Md_openChain).2.1 288 = .ok (.aload_n 0, 1) := by decide +kernel
theorem dd_Md_openChain_289 : decode (mm_Md_openChain).2.1 289 = .ok (.iload 4, 2) := by decide +kernel
theorem dd_Md_openChain_291 : decode (mm_Md_openChain).2.1 291 = .ok (.iconst 5, 1) := by decide +kernel
theorem dd_Md_openChain_292 : decode (mm_Md_openChain).2.1 292 = .ok (.iadd, 1) := by decide +kernel
theorem dd_Md_openChain_293 : decode (mm_Md_openChain).2.1 293 = .ok (.aload_n 0, 1) := by decide +kernel
theorem dd_Md_openChain_294 : decode (mm_Md_openChain).2.1 294 = .ok (.getfield 31, 3) := by decide +kernel
theorem dd_Md_openChain_297 : decode (mm_Md_openChain).2.1 297 = .ok (.iload 4, 2) := by decide +kernel
theorem dd_Md_openChain_299 : decode (mm_Md_openChain).2.1 299 = .ok (.iaload, 1) := by decide +kernel
theorem dd_Md_openChain_300 : decode (mm_Md_openChain).2.1 300 = .ok (.aload_n 0, 1) := by decide +kernel
theorem dd_Md_openChain_301 : decode (mm_Md_openChain).2.1 301 = .ok (.getfield 31, 3) := by decide +kernel
theorem dd_Md_openChain_304 : decode (mm_Md_openChain).2.1 304 = .ok (.iload 4, 2) := by decide +kernel
theorem dd_Md_openChain_306 : decode (mm_Md_openChain).2.1 306 = .ok (.iconst 1, 1) := by decide +kernel
theorem dd_Md_openChain_307 : decode (mm_Md_openChain).2.1 307 = .ok (.iadd, 1) := by decide +kernel
theorem dd_Md_openChain_308 : decode (mm_Md_openChain).2.1 308 = .ok (.iaload, 1) := by decide +kernel
theorem dd_Md_openChain_309 : decode (mm_Md_openChain).2.1 309 = .ok (.aload_n 0, 1) := by decide +kernel
theorem dd_Md_openChain_310 : decode (mm_Md_openChain).2.1 310 = .ok (.iload 4, 2) := by decide +kernel
theorem dd_Md_openChain_312 : decode (mm_Md_openChain).2.1 312 = .ok (.iconst 2, 1) := by decide +kernel
theorem dd_Md_openChain_313 : decode (mm_Md_openChain).2.1 313 = .ok (.iadd, 1) := by decide +kernel
theorem dd_Md_openChain_314 : decode (mm_Md_openChain).2.1 314 = .ok (.invokevirtual 136, 3) := by decide +kernel
theorem dd_Md_openChain_317 : decode (mm_Md_openChain).2.1 317 = .ok (.invokevirtual 139, 3) := by decide +kernel
theorem dd_Md_openChain_320 : decode (mm_Md_openChain).2.1 320 = .ok (.goto (-318), 3) := by decide +kernel
theorem dd_Md_openChain_323 : decode (mm_Md_openChain).2.1 323 = .ok (.iload_n 1, 1) := by decide +kernel
theorem dd_Md_openChain_324 : decode (mm_Md_openChain).2.1 324 = .ok (.aload_n 0, 1) := by decide +kernel
theorem dd_Md_openChain_325 : decode (mm_Md_openChain).2.1 325 = .ok (.getfield 124, 3) := by decide +kernel
theorem dd_Md_openChain_328 : decode (mm_Md_openChain).2.1 328 = .ok (.if_icmp .ge 7, 3) := by decide +kernel
theorem dd_Md_openChain_331 : decode (mm_Md_openChain).2.1 331 = .ok (.iconst 0, 1) := by decide +kernel
theorem dd_Md_openChain_332 : decode (mm_Md_openChain).2.1 332 = .ok (.goto 13, 3) := by decide +kernel
theorem dd_Md_openChain_335 : decode (mm_Md_openChain).2.1 335 = .ok (.aload_n 0, 1) := by decide +kernel
theorem dd_Md_openChain_336 : decode (mm_Md_openChain).2.1 336 = .ok (.bipush (-3), 2) := by decide +kernel
theorem dd_Md_openChain_338 : decode (mm_Md_openChain).2.1 338 = .ok (.aload_n 0, 1) := by decide +kernel
theorem dd_Md_openChain_339 : decode (mm_Md_openChain).2.1 339 = .ok (.getfield 124, 3) := by decide +kernel
theorem dd_Md_openChain_342 : decode (mm_Md_openChain).2.1 342 = .ok (.invokevirtual 130, 3) := by decide +kernel
theorem dd_Md_openChain_345 : decode (mm_Md_openChain).2.1 345 = .ok (.ireturn, 1) := by decide +kernel
theorem dd_Md_place_0 : decode (mm_Md_place).2.1 0 = .ok (.aload_n 0, 1) := by decide +kernel
theorem dd_Md_place_1 : decode (mm_Md_place).2.1 1 = .ok (.getfield 40, 3) := by decide +kernel
theorem dd_Md_place_4 : decode (mm_Md_place).2.1 4 = .ok (.ireturn, 1) := by decide +kernel
theorem dd_Md_take_0 : decode (mm_Md_take).2.1 0 = .ok (.iload_n 1, 1) := by decide +kernel
theorem dd_Md_take_1 : decode (mm_Md_take).2.1 1 = .ok (.iconst 0, 1) := by decide +kernel
theorem dd_Md_take_2 : decode (mm_Md_take).2.1 2 = .ok (.aload_n 0, 1) := by decide +kernel
theorem dd_Md_take_3 : decode (mm_Md_take).2.1 3 = .ok (.getfield 127, 3) := by decide +kernel
theorem dd_Md_take_6 : decode (mm_Md_take).2.1 6 = .ok (.iconst 1, 1) := by decide +kernel
theorem dd_Md_take_7 : decode (mm_Md_take).2.1 7 = .ok (.isub, 1) := by decide +kernel
theorem dd_Md_take_8 : decode (mm_Md_take).2.1 8 = .ok (.invokestatic 50, 3) := by decide +kernel
theorem dd_Md_take_11 : decode (mm_Md_take).2.1 11 = .ok (.ifCond .ne 5, 3) := by decide +kernel
theorem dd_Md_take_14 : decode (mm_Md_take).2.1 14 = .ok (.iconst (-1), 1) := by decide +kernel
theorem dd_Md_take_15 : decode (mm_Md_take).2.1 15 = .ok (.ireturn, 1) := by decide +kernel
theorem dd_Md_take_16 : decode (mm_Md_take).2.1 16 = .ok (.aload_n 0, 1) := by decide +kernel
theorem dd_Md_take_17 : decode (mm_Md_take).2.1 17 = .ok (.iload_n 1, 1) := by decide +kernel
theorem dd_Md_take_18 : decode (mm_Md_take).2.1 18 = .ok (.invokevirtual 166, 3) := by decide +kernel
theorem dd_Md_take_21 : decode (mm_Md_take).2.1 21 = .ok (.ifCond .ne 6, 3) := by decide +kernel
theorem dd_Md_take_24 : decode (mm_Md_take).2.1 24 = .ok (.bipush (-6), 2) := by decide +kernel
theorem dd_Md_take_26 : decode (mm_Md_take).2.1 26 = .ok (.ireturn, 1) := by decide +kernel
theorem dd_Md_take_27 : decode (mm_Md_take).2.1 27 = .ok (.iconst 0, 1) := by decide +kernel
theorem dd_Md_take_28 : decode (mm_Md_take).2.1 28 = .ok (.istore_n 2, 1) := by decide +kernel
theorem dd_Md_take_29 : decode (mm_Md_take).2.1 29 = .ok (.iload_n 2, 1) := by decide +kernel
theorem dd_Md_take_30 : decode (mm_Md_take).2.1 30 = .ok (.iload_n 1, 1) := by decide +kernel
theorem dd_Md_take_31 : decode (mm_Md_take).2.1 31 = .ok (.if_icmp .ge 21, 3) := by decide +kernel
theorem dd_Md_take_34 : decode (mm_Md_take).2.1 34 = .ok (.aload_n 0, 1) := by decide +kernel
theorem dd_Md_take_35 : decode (mm_Md_take).2.1 35 = .ok (.iload_n 1, 1) := by decide +kernel
theorem dd_Md_take_36 : decode (mm_Md_take).2.1 36 = .ok (.iload_n 2, 1) := by decide +kernel
theorem dd_Md_take_37 : decode (mm_Md_take).2.1 37 = .ok (.invokevirtual 169, 3) := by decide +kernel
theorem dd_Md_take_40 : decode (mm_Md_take).2.1 40 = .ok (.ifCond .eq 6, 3) := by decide +kernel
theorem dd_Md_take_43 : decode (mm_Md_take).2.1 43 = .ok (.bipush (-8), 2) := by decide +kernel
theorem dd_Md_take_45 : decode (mm_Md_take).2.1 45 = .ok (.ireturn, 1) := by decide +kernel
theorem dd_Md_take_46 : decode (mm_Md_take).2.1 46 = .ok (.iinc 2 1, 3) := by decide +kernel
theorem dd_Md_take_49 : decode (mm_Md_take).2.1 49 = .ok (.goto (-20), 3) := by decide +kernel
theorem dd_Md_take_52 : decode (mm_Md_take).2.1 52 = .ok (.aload_n 0, 1) := by decide +kernel
theorem dd_Md_take_53 : decode (mm_Md_take).2.1 53 = .ok (.iload_n 1, 1) := by decide +kernel
theorem dd_Md_take_54 : decode (mm_Md_take).2.1 54 = .ok (.invokevirtual 172, 3) := by decide +kernel
theorem dd_Md_take_57 : decode (mm_Md_take).2.1 57 = .ok (.ifCond .ne 6, 3) := by decide +kernel
theorem dd_Md_take_60 : decode (mm_Md_take).2.1 60 = .ok (.bipush (-5), 2) := by decide +kernel
theorem dd_Md_take_62 : decode (mm_Md_take).2.1 62 = .ok (.ireturn, 1) := by decide +kernel
theorem dd_Md_take_63 : decode (mm_Md_take).2.1 63 = .ok (.ldc 92, 2) := by decide +kernel
theorem dd_Md_take_65 : decode (mm_Md_take).2.1 65 = .ok (.istore_n 2, 1) := by decide +kernel
theorem dd_Md_take_66 : decode (mm_Md_take).2.1 66 = .ok (.iconst 0, 1) := by decide +kernel
theorem dd_Md_take_67 : decode (mm_Md_take).2.1 67 = .ok (.istore_n 3, 1) := by decide +kernel
theorem dd_Md_take_68 : decode (mm_Md_take).2.1 68 = .ok (.iload_n 3, 1) := by decide +kernel
theorem dd_Md_take_69 : decode (mm_Md_take).2.1 69 = .ok (.aload_n 0, 1) := by decide +kernel
theorem dd_Md_take_70 : decode (mm_Md_take).2.1 70 = .ok (.getfield 67, 3) := by decide +kernel
theorem dd_Md_take_73 : decode (mm_Md_take).2.1 73 = .ok (.if_icmp .ge 20, 3) := by decide +kernel
theorem dd_Md_take_76 : decode (mm_Md_take).2.1 76 = .ok (.iload_n 2, 1) := by decide +kernel
theorem dd_Md_take_77 : decode (mm_Md_take).2.1 77 = .ok (.aload_n 0, 1) := by decide +kernel
theorem dd_Md_take_78 : decode (mm_Md_take).2.1 78 = .ok (.getfield 47, 3) := by decide +kernel
theorem dd_Md_take_81 : decode (mm_Md_take).2.1 81 = .ok (.iload_n 3, 1) := by decide +kernel
theorem dd_Md_take_82 : decode (mm_Md_take).2.1 82 = .ok (.iaload, 1) := by decide +kernel
theorem dd_Md_take_83 : decode (mm_Md_take).2.1 83 = .ok (.invokestatic 93, 3) := by decide +kernel
theorem dd_Md_take_86 : decode (mm_Md_take).2.1 86 = .ok (.istore_n 2, 1) := by decide +kernel
theorem dd_Md_take_87 : decode (mm_Md_take).2.1 87 = .ok (.iinc 3 1, 3) := by decide +kernel
theorem dd_Md_take_90 : decode (mm_Md_take).2.1 90 = .ok (.goto (-22), 3) := by decide +kernel
theorem dd_Md_take_93 : decode (mm_Md_take).2.1 93 = .ok (.iload_n 2, 1) := by decide +kernel
theorem dd_Md_take_94 : decode (mm_Md_take).2.1 94 = .ok (.aload_n 0, 1) := by decide +kernel
theorem dd_Md_take_95 : decode (mm_Md_take).2.1 95 = .ok (.iload_n 1, 1) := by decide +kernel
theorem dd_Md_take_96 : decode (mm_Md_take).2.1 96 = .ok (.iconst 5, 1) := by decide +kernel
theorem dd_Md_take_97 : decode (mm_Md_take).2.1 97 = .ok (.invokevirtual 153, 3) := by decide +kernel
theorem dd_Md_take_100 : decode (mm_Md_take).2.1 100 = .ok (.if_icmp .eq 6, 3) := by decide +kernel
theorem dd_Md_take_103 : decode (mm_Md_take).2.1 103 = .ok (.bipush (-7), 2) := by decide +kernel
theorem dd_Md_take_105 : decode (mm_Md_take).2.1 105 = .ok (.ireturn, 1) := by decide +kernel
theorem dd_Md_take_106 : decode (mm_Md_take).2.1 106 = .ok (.aload_n 0, 1) := by decide +kernel
theorem dd_Md_take_107 : decode (mm_Md_take).2.1 107 = .ok (.aload_n 0, 1) := by decide +kernel
theorem dd_Md_take_108 : decode (mm_Md_take).2.1 108 = .ok (.getfield 67, 3) := by decide +kernel
theorem dd_Md_take_111 : decode (mm_Md_take).2.1 111 = .ok (.putfield 175, 3) := by decide +kernel
theorem dd_Md_take_114 : decode (mm_Md_take).2.1 114 = .ok (.iconst 0, 1) := by decide +kernel
theorem dd_Md_take_115 : decode (mm_Md_take).2.1 115 = .ok (.istore_n 3, 1) := by decide +kernel
theorem dd_Md_take_116 : decode (mm_Md_take).2.1 116 = .ok (.iload_n 3, 1) := by decide +kernel
theorem dd_Md_take_117 : decode (mm_Md_take).2.1 117 = .ok (.aload_n 0, 1) := by decide +kernel
theorem dd_Md_take_118 : decode (mm_Md_take).2.1 118 = .ok (.getfield 67, 3) := by decide +kernel
theorem dd_Md_take_121 : decode (mm_Md_take).2.1 121 = .ok (.if_icmp .ge 21, 3) := by decide +kernel
theorem dd_Md_take_124 : decode (mm_Md_take).2.1 124 = .ok (.aload_n 0, 1) := by decide +kernel
theorem dd_Md_take_125 : decode (mm_Md_take).2.1 125 = .ok (.getfield 44, 3) := by decide +kernel
theorem dd_Md_take_128 : decode (mm_Md_take).2.1 128 = .ok (.iload_n 3, 1) := by decide +kernel
theorem dd_Md_take_129 : decode (mm_Md_take).2.1 129 = .ok (.aload_n 0, 1) := by decide +kernel
theorem dd_Md_take_130 : decode (mm_Md_take).2.1 130 = .ok (.getfield 47, 3) := by decide +kernel
theorem dd_Md_take_133 : decode (mm_Md_take).2.1 133 = .ok (.iload_n 3, 1) := by decide +kernel
theorem dd_Md_take_134 : decode (mm_Md_take).2.1 134 = .ok (.iaload, 1) := by decide +kernel
theorem dd_Md_take_135 : decode (mm_Md_take).2.1 135 = .ok (.iastore, 1) := by decide +kernel
theorem dd_Md_take_136 : decode (mm_Md_take).2.1 136 = .ok (.iinc 3 1, 3) := by decide +kernel
theorem dd_Md_take_139 : decode (mm_Md_take).2.1 139 = .ok (.goto (-23), 3) := by decide +kernel
theorem dd_Md_take_142 : decode (mm_Md_take).2.1 142 = .ok (.aload_n 0, 1) := by decide +kernel
theorem dd_Md_take_143 : decode (mm_Md_take).2.1 143 = .ok (.getfield 175, 3) := by decide +kernel
theorem dd_Md_take_146 : decode (mm_Md_take).2.1 146 = .ok (.ireturn, 1) := by decide +kernel
theorem dd_Md_safe_0 : decode (mm_Md_safe).2.1 0 = .ok (.iconst 0, 1) := by decide +kernel
theorem dd_Md_safe_1 : decode (mm_Md_safe).2.1 1 = .ok (.istore_n 2, 1) := by decide +kernel
theorem dd_Md_safe_2 : decode (mm_Md_safe).2.1 2 = .ok (.iconst 0, 1) := by decide +kernel
theorem dd_Md_safe_3 : decode (mm_Md_safe).2.1 3 = .ok (.istore_n 3, 1) := by decide +kernel
theorem dd_Md_safe_4 : decode (mm_Md_safe).2.1 4 = .ok (.iconst 0, 1) := by decide +kernel
theorem dd_Md_safe_5 : decode (mm_Md_safe).2.1 5 = .ok (.istore 4, 2) := by decide +kernel
theorem dd_Md_safe_7 : decode (mm_Md_safe).2.1 7 = .ok (.iload 4, 2) := by decide +kernel
theorem dd_Md_safe_9 : decode (mm_Md_safe).2.1 9 = .ok (.aload_n 0, 1) := by decide +kernel
theorem dd_Md_safe_10 : decode (mm_Md_safe).2.1 10 = .ok (.iload_n 1, 1) := by decide +kernel
theorem dd_Md_safe_11 : decode (mm_Md_safe).2.1 11 = .ok (.iconst 1, 1) := by decide +kernel
theorem dd_Md_safe_12 : decode (mm_Md_safe).2.1 12 = .ok (.invokevirtual 153, 3) := by decide +kernel
theorem dd_Md_safe_15 : decode (mm_Md_safe).2.1 15 = .ok (.if_icmp .gt 82, 3) := by decide +kernel
theorem dd_Md_safe_18 : decode (mm_Md_safe).2.1 18 = .ok (.aload_n 0, 1) := by decide +kernel
theorem dd_Md_safe_19 : decode (mm_Md_safe).2.1 19 = .ok (.iload_n 1, 1) := by decide +kernel
theorem dd_Md_safe_20 : decode (mm_Md_safe).2.1 20 = .ok (.iload 4, 2) := by decide +kernel
theorem dd_Md_safe_22 : decode (mm_Md_safe).2.1 22 = .ok (.invokevirtual 156, 3) := by decide +kernel
theorem dd_Md_safe_25 : decode (mm_Md_safe).2.1 25 = .ok (.istore 5, 2) := by decide +kernel
theorem dd_Md_safe_27 : decode (mm_Md_safe).2.1 27 = .ok (.iload 5, 2) := by decide +kernel
theorem dd_Md_safe_29 : decode (mm_Md_safe).2.1 29 = .ok (.bipush 47, 2) := by decide +kernel
theorem dd_Md_safe_31 : decode (mm_Md_safe).2.1 31 = .ok (.if_icmp .ne 19, 3) := by decide +kernel
theorem dd_Md_safe_34 : decode (mm_Md_safe).2.1 34 = .ok (.iload_n 2, 1) := by decide +kernel
theorem dd_Md_safe_35 : decode (mm_Md_safe).2.1 35 = .ok (.ifCond .eq 13, 3) := by decide +kernel
theorem dd_Md_safe_38 : decode (mm_Md_safe).2.1 38 = .ok (.iload_n 2, 1) := by decide +kernel
theorem dd_Md_safe_39 : decode (mm_Md_safe).2.1 39 = .ok (.iconst 2, 1) := by decide +kernel
theorem dd_Md_safe_40 : decode (mm_Md_safe).2.1 40 = .ok (.if_icmp .ne 10, 3) := by decide +kernel
theorem dd_Md_safe_43 : decode (mm_Md_safe).2.1 43 = .ok (.iload_n 3, 1) := by decide +kernel
theorem dd_Md_safe_44 : decode (mm_Md_safe).2.1 44 = .ok (.iconst 2, 1) := by decide +kernel
theorem dd_Md_safe_45 : decode (mm_Md_safe).2.1 45 = .ok (.if_icmp .ne 5, 3) := by decide +kernel
theorem dd_Md_safe_48 : decode (mm_Md_safe).2.1 48 = .ok (.iconst 0, 1) := by decide +kernel
theorem dd_Md_safe_49 : decode (mm_Md_safe).2.1 49 = .ok (.ireturn, 1) := by decide +kernel
theorem dd_Md_safe_50 : decode (mm_Md_safe).2.1 50 = .ok (.iload 5, 2) := by decide +kernel
theorem dd_Md_safe_52 : decode (mm_Md_safe).2.1 52 = .ok (.bipush 47, 2) := by decide +kernel
theorem dd_Md_safe_54 : decode (mm_Md_safe).2.1 54 = .ok (.if_icmp .ne 7, 3) := by decide +kernel
theorem dd_Md_safe_57 : decode (mm_Md_safe).2.1 57 = .ok (.iconst 0, 1) := by decide +kernel
theorem dd_Md_safe_58 : decode (mm_Md_safe).2.1 58 = .ok (.goto 17, 3) := by decide +kernel
theorem dd_Md_safe_61 : decode (mm_Md_safe).2.1 61 = .ok (.iload 5, 2) := by decide +kernel
theorem dd_Md_safe_63 : decode (mm_Md_safe).2.1 63 = .ok (.bipush 46, 2) := by decide +kernel
theorem dd_Md_safe_65 : decode (mm_Md_safe).2.1 65 = .ok (.if_icmp .ne 9, 3) := by decide +kernel
theorem dd_Md_safe_68 : decode (mm_Md_safe).2.1 68 = .ok (.iload_n 3, 1) := by decide +kernel
theorem dd_Md_safe_69 : decode (mm_Md_safe).2.1 69 = .ok (.iconst 1, 1) := by decide +kernel
theorem dd_Md_safe_70 : decode (mm_Md_safe).2.1 70 = .ok (.iadd, 1) := by decide +kernel
theorem dd_Md_safe_71 : decode (mm_Md_safe).2.1 71 = .ok (.goto 4, 3) := by decide +kernel
theorem dd_Md_safe_74 : decode (mm_Md_safe).2.1 74 = .ok (.iload_n 3, 1) := by decide +kernel
theorem dd_Md_safe_75 : decode (mm_Md_safe).2.1 75 = .ok (.istore_n 3, 1) := by decide +kernel
theorem dd_Md_safe_76 : decode (mm_Md_safe).2.1 76 = .ok (.iload 5, 2) := by decide +kernel
theorem dd_Md_safe_78 : decode (mm_Md_safe).2.1 78 = .ok (.bipush 47, 2) := by decide +kernel
theorem dd_Md_safe_80 : decode (mm_Md_safe).2.1 80 = .ok (.if_icmp .ne 7, 3) := by decide +kernel
theorem dd_Md_safe_83 : decode (mm_Md_safe).2.1 83 = .ok (.iconst 0, 1) := by decide +kernel
theorem dd_Md_safe_84 : decode (mm_Md_safe).2.1 84 = .ok (.goto 6, 3) := by decide +kernel
theorem dd_Md_safe_87 : decode (mm_Md_safe).2.1 87 = .ok (.iload_n 2, 1) := by decide +kernel
theorem dd_Md_safe_88 : decode (mm_Md_safe).2.1 88 = .ok (.iconst 1, 1) := by decide +kernel
theorem dd_Md_safe_89 : decode (mm_Md_safe).2.1 89 = .ok (.iadd, 1) := by decide +kernel
theorem dd_Md_safe_90 : decode (mm_Md_safe).2.1 90 = .ok (.istore_n 2, 1) := by decide +kernel
theorem dd_Md_safe_91 : decode (mm_Md_safe).2.1 91 = .ok (.iinc 4 1, 3) := by decide +kernel
theorem dd_Md_safe_94 : decode (mm_Md_safe).2.1 94 = .ok (.goto (-87), 3) := by decide +kernel
theorem dd_Md_safe_97 : decode (mm_Md_safe).2.1 97 = .ok (.iconst 1, 1) := by decide +kernel
theorem dd_Md_safe_98 : decode (mm_Md_safe).2.1 98 = .ok (.ireturn, 1) := by decide +kernel
theorem dd_Md_of_0 : decode (mm_Md_of).2.1 0 = .ok (.aload_n 0, 1) := by decide +kernel
theorem dd_Md_of_1 : decode (mm_Md_of).2.1 1 = .ok (.getfield 37, 3) := by decide +kernel
theorem dd_Md_of_4 : decode (mm_Md_of).2.1 4 = .ok (.bipush 14, 2) := by decide +kernel
theorem dd_Md_of_6 : decode (mm_Md_of).2.1 6 = .ok (.iload_n 1, 1) := by decide +kernel
theorem dd_Md_of_7 : decode (mm_Md_of).2.1 7 = .ok (.imul, 1) := by decide +kernel
theorem dd_Md_of_8 : decode (mm_Md_of).2.1 8 = .ok (.iload_n 2, 1) := by decide +kernel
theorem dd_Md_of_9 : decode (mm_Md_of).2.1 9 = .ok (.iadd, 1) := by decide +kernel
theorem dd_Md_of_10 : decode (mm_Md_of).2.1 10 = .ok (.iaload, 1) := by decide +kernel
theorem dd_Md_of_11 : decode (mm_Md_of).2.1 11 = .ok (.ireturn, 1) := by decide +kernel
theorem dd_Md_nameAt_0 : decode (mm_Md_nameAt).2.1 0 = .ok (.iload_n 2, 1) := by decide +kernel
theorem dd_Md_nameAt_1 : decode (mm_Md_nameAt).2.1 1 = .ok (.aload_n 0, 1) := by decide +kernel
theorem dd_Md_nameAt_2 : decode (mm_Md_nameAt).2.1 2 = .ok (.iload_n 1, 1) := by decide +kernel
theorem dd_Md_nameAt_3 : decode (mm_Md_nameAt).2.1 3 = .ok (.iconst 1, 1) := by decide +kernel
theorem dd_Md_nameAt_4 : decode (mm_Md_nameAt).2.1 4 = .ok (.invokevirtual 153, 3) := by decide +kernel
theorem dd_Md_nameAt_7 : decode (mm_Md_nameAt).2.1 7 = .ok (.if_icmp .ge 15, 3) := by decide +kernel
theorem dd_Md_nameAt_10 : decode (mm_Md_nameAt).2.1 10 = .ok (.aload_n 0, 1) := by decide +kernel
theorem dd_Md_nameAt_11 : decode (mm_Md_nameAt).2.1 11 = .ok (.iload_n 1, 1) := by decide +kernel
theorem dd_Md_nameAt_12 : decode (mm_Md_nameAt).2.1 12 = .ok (.bipush 6, 2) := by decide +kernel
theorem dd_Md_nameAt_14 : decode (mm_Md_nameAt).2.1 14 = .ok (.iload_n 2, 1) := by decide +kernel
theorem dd_Md_nameAt_15 : decode (mm_Md_nameAt).2.1 15 = .ok (.iadd, 1) := by decide +kernel
theorem dd_Md_nameAt_16 : decode (mm_Md_nameAt).2.1 16 = .ok (.invokevirtual 153, 3) := by decide +kernel
theorem dd_Md_nameAt_19 : decode (mm_Md_nameAt).2.1 19 = .ok (.goto 5, 3) := by decide +kernel
theorem dd_Md_nameAt_22 : decode (mm_Md_nameAt).2.1 22 = .ok (.bipush 47, 2) := by decide +kernel
theorem dd_Md_nameAt_24 : decode (mm_Md_nameAt).2.1 24 = .ok (.ireturn, 1) := by decide +kernel
theorem dd_Md_sameName_0 : decode (mm_Md_sameName).2.1 0 = .ok (.aload_n 0, 1) := by decide +kernel
theorem dd_Md_sameName_1 : decode (mm_Md_sameName).2.1 1 = .ok (.iload_n 1, 1) := by decide +kernel
theorem dd_Md_sameName_2 : decode (mm_Md_sameName).2.1 2 = .ok (.iconst 1, 1) := by decide +kernel
theorem dd_Md_sameName_3 : decode (mm_Md_sameName).2.1 3 = .ok (.invokevirtual 153, 3) := by decide +kernel
theorem dd_Md_sameName_6 : decode (mm_Md_sameName).2.1 6 = .ok (.aload_n 0, 1) := by decide +kernel
theorem dd_Md_sameName_7 : decode (mm_Md_sameName).2.1 7 = .ok (.iload_n 2, 1) := by decide +kernel
theorem dd_Md_sameName_8 : decode (mm_Md_sameName).2.1 8 = .ok (.iconst 1, 1) := by decide +kernel
theorem dd_Md_sameName_9 : decode (mm_Md_sameName).2.1 9 = .ok (.invokevirtual 153, 3) := by decide +kernel
theorem dd_Md_sameName_12 : decode (mm_Md_sameName).2.1 12 = .ok (.if_icmp .eq 5, 3) := by decide +kernel
theorem dd_Md_sameName_15 : decode (mm_Md_sameName).2.1 15 = .ok (.iconst 0, 1) := by decide +kernel
theorem dd_Md_sameName_16 : decode (mm_Md_sameName).2.1 16 = .ok (.ireturn, 1) := by decide +kernel
theorem dd_Md_sameName_17 : decode (mm_Md_sameName).2.1 17 = .ok (.iconst 0, 1) := by decide +kernel
theorem dd_Md_sameName_18 : decode (mm_Md_sameName).2.1 18 = .ok (.istore_n 3, 1) := by decide +kernel
theorem dd_Md_sameName_19 : decode (mm_Md_sameName).2.1 19 = .ok (.iload_n 3, 1) := by decide +kernel
theorem dd_Md_sameName_20 : decode (mm_Md_sameName).2.1 20 = .ok (.aload_n 0, 1) := by decide +kernel
theorem dd_Md_sameName_21 : decode (mm_Md_sameName).2.1 21 = .ok (.iload_n 1, 1) := by decide +kernel
theorem dd_Md_sameName_22 : decode (mm_Md_sameName).2.1 22 = .ok (.iconst 1, 1) := by decide +kernel
theorem dd_Md_sameName_23 : decode (mm_Md_sameName).2.1 23 = .ok (.invokevirtual 153, 3) := by decide +kernel
theorem dd_Md_sameName_26 : decode (mm_Md_sameName).2.1 26 = .ok (.if_icmp .ge 26, 3) := by decide +kernel
theorem dd_Md_sameName_29 : decode (mm_Md_sameName).2.1 29 = .ok (.aload_n 0, 1) := by decide +kernel
theorem dd_Md_sameName_30 : decode (mm_Md_sameName).2.1 30 = .ok (.iload_n 1, 1) := by decide +kernel
theorem dd_Md_sameName_31 : decode (mm_Md_sameName).2.1 31 = .ok (.iload_n 3, 1) := by decide +kernel
theorem dd_Md_sameName_32 : decode (mm_Md_sameName).2.1 32 = .ok (.invokevirtual 156, 3) := by decide +kernel
theorem dd_Md_sameName_35 : decode (mm_Md_sameName).2.1 35 = .ok (.aload_n 0, 1) := by decide +kernel
theorem dd_Md_sameName_36 : decode (mm_Md_sameName).2.1 36 = .ok (.iload_n 2, 1) := by decide +kernel
theorem dd_Md_sameName_37 : decode (mm_Md_sameName).2.1 37 = .ok (.iload_n 3, 1) := by decide +kernel
theorem dd_Md_sameName_38 : decode (mm_Md_sameName).2.1 38 = .ok (.invokevirtual 156, 3) := by decide +kernel
theorem dd_Md_sameName_41 : decode (mm_Md_sameName).2.1 41 = .ok (.if_icmp .eq 5, 3) := by decide +kernel
theorem dd_Md_sameName_44 : decode (mm_Md_sameName).2.1 44 = .ok (.iconst 0, 1) := by decide +kernel
theorem dd_Md_sameName_45 : decode (mm_Md_sameName).2.1 45 = .ok (.ireturn, 1) := by decide +kernel
theorem dd_Md_sameName_46 : decode (mm_Md_sameName).2.1 46 = .ok (.iinc 3 1, 3) := by decide +kernel
theorem dd_Md_sameName_49 : decode (mm_Md_sameName).2.1 49 = .ok (.goto (-30), 3) := by decide +kernel
theorem dd_Md_sameName_52 : decode (mm_Md_sameName).2.1 52 = .ok (.iconst 1, 1) := by decide +kernel
theorem dd_Md_sameName_53 : decode (mm_Md_sameName).2.1 53 = .ok (.ireturn, 1) := by decide +kernel
theorem dd_Md_unsqueeze_0 : decode (mm_Md_unsqueeze).2.1 0 = .ok (.aload_n 0, 1) := by decide +kernel
theorem dd_Md_unsqueeze_1 : decode (mm_Md_unsqueeze).2.1 1 = .ok (.iconst 0, 1) := by decide +kernel
theorem dd_Md_unsqueeze_2 : decode (mm_Md_unsqueeze).2.1 2 = .ok (.putfield 67, 3) := by decide +kernel
theorem dd_Md_unsqueeze_5 : decode (mm_Md_unsqueeze).2.1 5 = .ok (.aload_n 0, 1) := by decide +kernel
theorem dd_Md_unsqueeze_6 : decode (mm_Md_unsqueeze).2.1 6 = .ok (.iload_n 1, 1) := by decide +kernel
theorem dd_Md_unsqueeze_7 : decode (mm_Md_unsqueeze).2.1 7 = .ok (.iconst 2, 1) := by decide +kernel
theorem dd_Md_unsqueeze_8 : decode (mm_Md_unsqueeze).2.1 8 = .ok (.invokevirtual 153, 3) := by decide +kernel
theorem dd_Md_unsqueeze_11 : decode (mm_Md_unsqueeze).2.1 11 = .ok (.istore_n 2, 1) := by decide +kernel
theorem dd_Md_unsqueeze_12 : decode (mm_Md_unsqueeze).2.1 12 = .ok (.iload_n 2, 1) := by decide +kernel
theorem dd_Md_unsqueeze_13 : decode (mm_Md_unsqueeze).2.1 13 = .ok (.aload_n 0, 1) := by decide +kernel
theorem dd_Md_unsqueeze_14 : decode (mm_Md_unsqueeze).2.1 14 = .ok (.iload_n 1, 1) := by decide +kernel
theorem dd_Md_unsqueeze_15 : decode (mm_Md_unsqueeze).2.1 15 = .ok (.iconst 3, 1) := by decide +kernel
theorem dd_Md_unsqueeze_16 : decode (mm_Md_unsqueeze).2.1 16 = .ok (.invokevirtual 153, 3) := by decide +kernel
theorem dd_Md_unsqueeze_19 : decode (mm_Md_unsqueeze).2.1 19 = .ok (.iadd, 1) := by decide +kernel
theorem dd_Md_unsqueeze_20 : decode (mm_Md_unsqueeze).2.1 20 = .ok (.istore_n 3, 1) := by decide +kernel
theorem dd_Md_unsqueeze_21 : decode (mm_Md_unsqueeze).2.1 21 = .ok (.iload_n 2, 1) := by decide +kernel
theorem dd_Md_unsqueeze_22 : decode (mm_Md_unsqueeze).2.1 22 = .ok (.iload_n 3, 1) := by decide +kernel
theorem dd_Md_unsqueeze_23 : decode (mm_Md_unsqueeze).2.1 23 = .ok (.if_icmp .ge 27, 3) := by decide +kernel
theorem dd_Md_unsqueeze_26 : decode (mm_Md_unsqueeze).2.1 26 = .ok (.aload_n 0, 1) := by decide +kernel
theorem dd_Md_unsqueeze_27 : decode (mm_Md_unsqueeze).2.1 27 = .ok (.iload_n 1, 1) := by decide +kernel
theorem dd_Md_unsqueeze_28 : decode (mm_Md_unsqueeze).2.1 28 = .ok (.iload_n 2, 1) := by decide +kernel
theorem dd_Md_unsqueeze_29 : decode (mm_Md_unsqueeze).2.1 29 = .ok (.iload_n 3, 1) := by decide +kernel
theorem dd_Md_unsqueeze_30 : decode (mm_Md_unsqueeze).2.1 30 = .ok (.invokevirtual 163, 3) := by decide +kernel
theorem dd_Md_unsqueeze_33 : decode (mm_Md_unsqueeze).2.1 33 = .ok (.istore 4, 2) := by decide +kernel
theorem dd_Md_unsqueeze_35 : decode (mm_Md_unsqueeze).2.1 35 = .ok (.iload 4, 2) := by decide +kernel
theorem dd_Md_unsqueeze_37 : decode (mm_Md_unsqueeze).2.1 37 = .ok (.ifCond .ne 5, 3) := by decide +kernel
theorem dd_Md_unsqueeze_40 : decode (mm_Md_unsqueeze).2.1 40 = .ok (.iconst 0, 1) := by decide +kernel
theorem dd_Md_unsqueeze_41 : decode (mm_Md_unsqueeze).2.1 41 = .ok (.ireturn, 1) := by decide +kernel
theorem dd_Md_unsqueeze_42 : decode (mm_Md_unsqueeze).2.1 42 = .ok (.iload_n 2, 1) := by decide +kernel
theorem dd_Md_unsqueeze_43 : decode (mm_Md_unsqueeze).2.1 43 = .ok (.iload 4, 2) := by decide +kernel
theorem dd_Md_unsqueeze_45 : decode (mm_Md_unsqueeze).2.1 45 = .ok (.iadd, 1) := by decide +kernel
theorem dd_Md_unsqueeze_46 : decode (mm_Md_unsqueeze).2.1 46 = .ok (.istore_n 2, 1) := by decide +kernel
theorem dd_Md_unsqueeze_47 : decode (mm_Md_unsqueeze).2.1 47 = .ok (.goto (-26), 3) := by decide +kernel
theorem dd_Md_unsqueeze_50 : decode (mm_Md_unsqueeze).2.1 50 = .ok (.aload_n 0, 1) := by decide +kernel
theorem dd_Md_unsqueeze_51 : decode (mm_Md_unsqueeze).2.1 51 = .ok (.getfield 67, 3) := by decide +kernel
theorem dd_Md_unsqueeze_54 : decode (mm_Md_unsqueeze).2.1 54 = .ok (.aload_n 0, 1) := by decide +kernel
theorem dd_Md_unsqueeze_55 : decode (mm_Md_unsqueeze).2.1 55 = .ok (.iload_n 1, 1) := by decide +kernel
theorem dd_Md_unsqueeze_56 : decode (mm_Md_unsqueeze).2.1 56 = .ok (.iconst 4, 1) := by decide +kernel
theorem dd_Md_unsqueeze_57 : decode (mm_Md_unsqueeze).2.1 57 = .ok (.invokevirtual 153, 3) := by decide +kernel
theorem dd_Md_unsqueeze_60 : decode (mm_Md_unsqueeze).2.1 60 = .ok (.if_icmp .ne 7, 3) := by decide +kernel
theorem dd_Md_unsqueeze_63 : decode (mm_Md_unsqueeze).2.1 63 = .ok (.iconst 1, 1) := by decide +kernel
theorem dd_Md_unsqueeze_64 : decode (mm_Md_unsqueeze).2.1 64 = .ok (.goto 4, 3) := by decide +kernel
theorem dd_Md_unsqueeze_67 : decode (mm_Md_unsqueeze).2.1 67 = .ok (.iconst 0, 1) := by decide +kernel
theorem dd_Md_unsqueeze_68 : decode (mm_Md_unsqueeze).2.1 68 = .ok (.ireturn, 1) := by decide +kernel
theorem dd_Md_piece_0 : decode (mm_Md_piece).2.1 0 = .ok (.aload_n 0, 1) := by decide +kernel
theorem dd_Md_piece_1 : decode (mm_Md_piece).2.1 1 = .ok (.getfield 31, 3) := by decide +kernel
theorem dd_Md_piece_4 : decode (mm_Md_piece).2.1 4 = .ok (.iload_n 2, 1) := by decide +kernel
theorem dd_Md_piece_5 : decode (mm_Md_piece).2.1 5 = .ok (.iaload, 1) := by decide +kernel
theorem dd_Md_piece_6 : decode (mm_Md_piece).2.1 6 = .ok (.istore 4, 2) := by decide +kernel
theorem dd_Md_piece_8 : decode (mm_Md_piece).2.1 8 = .ok (.aload_n 0, 1) := by decide +kernel
theorem dd_Md_piece_9 : decode (mm_Md_piece).2.1 9 = .ok (.iload_n 1, 1) := by decide +kernel
theorem dd_Md_piece_10 : decode (mm_Md_piece).2.1 10 = .ok (.iconst 0, 1) := by decide +kernel
theorem dd_Md_piece_11 : decode (mm_Md_piece).2.1 11 = .ok (.invokevirtual 153, 3) := by decide +kernel
theorem dd_Md_piece_14 : decode (mm_Md_piece).2.1 14 = .ok (.istore 5, 2) := by decide +kernel
theorem dd_Md_piece_16 : decode (mm_Md_piece).2.1 16 = .ok (.iload 5, 2) := by decide +kernel
theorem dd_Md_piece_18 : decode (mm_Md_piece).2.1 18 = .ok (.ifCond .eq 17, 3) := by decide +kernel
theorem dd_Md_piece_21 : decode (mm_Md_piece).2.1 21 = .ok (.iload 5, 2) := by decide +kernel
theorem dd_Md_piece_23 : decode (mm_Md_piece).2.1 23 = .ok (.iconst 1, 1) := by decide +kernel
theorem dd_Md_piece_24 : decode (mm_Md_piece).2.1 24 = .ok (.if_icmp .ne 27, 3) := by decide +kernel
theorem dd_Md_piece_27 : decode (mm_Md_piece).2.1 27 = .ok (.iload 4, 2) := by decide +kernel
theorem dd_Md_piece_29 : decode (mm_Md_piece).2.1 29 = .ok (.sipush 246, 3) := by decide +kernel
theorem dd_Md_piece_32 : decode (mm_Md_piece).2.1 32 = .ok (.if_icmp .ge 19, 3) := by decide +kernel
theorem dd_Md_piece_35 : decode (mm_Md_piece).2.1 35 = .ok (.aload_n 0, 1) := by decide +kernel
theorem dd_Md_piece_36 : decode (mm_Md_piece).2.1 36 = .ok (.iload_n 1, 1) := by decide +kernel
theorem dd_Md_piece_37 : decode (mm_Md_piece).2.1 37 = .ok (.iload 4, 2) := by decide +kernel
theorem dd_Md_piece_39 : decode (mm_Md_piece).2.1 39 = .ok (.invokevirtual 159, 3) := by decide +kernel
theorem dd_Md_piece_42 : decode (mm_Md_piece).2.1 42 = .ok (.ifCond .eq 7, 3) := by decide +kernel
theorem dd_Md_piece_45 : decode (mm_Md_piece).2.1 45 = .ok (.iconst 1, 1) := by decide +kernel
theorem dd_Md_piece_46 : decode (mm_Md_piece).2.1 46 = .ok (.goto 4, 3) := by decide +kernel
theorem dd_Md_piece_49 : decode (mm_Md_piece).2.1 49 = .ok (.iconst 0, 1) := by decide +kernel
theorem dd_Md_piece_50 : decode (mm_Md_piece).2.1 50 = .ok (.ireturn, 1) := by decide +kernel
theorem dd_Md_piece_51 : decode (mm_Md_piece).2.1 51 = .ok (.iload_n 2, 1) := by decide +kernel
theorem dd_Md_piece_52 : decode (mm_Md_piece).2.1 52 = .ok (.iconst 1, 1) := by decide +kernel
theorem dd_Md_piece_53 : decode (mm_Md_piece).2.1 53 = .ok (.iadd, 1) := by decide +kernel
theorem dd_Md_piece_54 : decode (mm_Md_piece).2.1 54 = .ok (.iload_n 3, 1) := by decide +kernel
theorem dd_Md_piece_55 : decode (mm_Md_piece).2.1 55 = .ok (.if_icmp .lt 5, 3) := by decide +kernel
theorem dd_Md_piece_58 : decode (mm_Md_piece).2.1 58 = .ok (.iconst 0, 1) := by decide +kernel
theorem dd_Md_piece_59 : decode (mm_Md_piece).2.1 59 = .ok (.ireturn, 1) := by decide +kernel
theorem dd_Md_piece_60 : decode (mm_Md_piece).2.1 60 = .ok (.aload_n 0, 1) := by decide +kernel
theorem dd_Md_piece_61 : decode (mm_Md_piece).2.1 61 = .ok (.getfield 31, 3) := by decide +kernel
theorem dd_Md_piece_64 : decode (mm_Md_piece).2.1 64 = .ok (.iload_n 2, 1) := by decide +kernel
theorem dd_Md_piece_65 : decode (mm_Md_piece).2.1 65 = .ok (.iconst 1, 1) := by decide +kernel
theorem dd_Md_piece_66 : decode (mm_Md_piece).2.1 66 = .ok (.iadd, 1) := by decide +kernel
theorem dd_Md_piece_67 : decode (mm_Md_piece).2.1 67 = .ok (.iaload, 1) := by decide +kernel
theorem dd_Md_piece_68 : decode (mm_Md_piece).2.1 68 = .ok (.istore 6, 2) := by decide +kernel
theorem dd_Md_piece_70 : decode (mm_Md_piece).2.1 70 = .ok (.iload 5, 2) := by decide +kernel
theorem dd_Md_piece_72 : decode (mm_Md_piece).2.1 72 = .ok (.iconst 1, 1) := by decide +kernel
theorem dd_Md_piece_73 : decode (mm_Md_piece).2.1 73 = .ok (.if_icmp .ne 47, 3) := by decide +kernel
theorem dd_Md_piece_76 : decode (mm_Md_piece).2.1 76 = .ok (.sipush 246, 3) := by decide +kernel
theorem dd_Md_piece_79 : decode (mm_Md_piece).2.1 79 = .ok (.istore 7, 2) := by decide +kernel
theorem dd_Md_piece_81 : decode (mm_Md_piece).2.1 81 = .ok (.iload 7, 2) := by decide +kernel
theorem dd_Md_piece_83 : decode (mm_Md_piece).2.1 83 = .ok (.iload 4, 2) := by decide +kernel
theorem dd_Md_piece_85 : decode (mm_Md_piece).2.1 85 = .ok (.if_icmp .ge 21, 3) := by decide +kernel
theorem dd_Md_piece_88 : decode (mm_Md_piece).2.1 88 = .ok (.aload_n 0, 1) := by decide +kernel
theorem dd_Md_piece_89 : decode (mm_Md_piece).2.1 89 = .ok (.iload_n 1, 1) := by decide +kernel
theorem dd_Md_piece_90 : decode (mm_Md_piece).2.1 90 = .ok (.iload 6, 2) := by decide +kernel
theorem dd_Md_piece_92 : decode (mm_Md_piece).2.1 92 = .ok (.invokevirtual 159, 3) := by decide +kernel
theorem dd_Md_piece_95 : decode (mm_Md_piece).2.1 95 = .ok (.ifCond .ne 5, 3) := by decide +kernel
theorem dd_Md_piece_98 : decode (mm_Md_piece).2.1 98 = .ok (.iconst 0, 1) := by decide +kernel
theorem dd_Md_piece_99 : decode (mm_Md_piece).2.1 99 = .ok (.ireturn, 1) := by decide +kernel
theorem dd_Md_piece_100 : decode (mm_Md_piece).2.1 100 = .ok (.iinc 7 1, 3) := by decide +kernel
theorem dd_Md_piece_103 : decode (mm_Md_piece).2.1 103 = .ok (.goto (-22), 3) := by decide +kernel
theorem dd_Md_piece_106 : decode (mm_Md_piece).2.1 106 = .ok (.iload 4, 2) := by decide +kernel
theorem dd_Md_piece_108 : decode (mm_Md_piece).2.1 108 = .ok (.sipush 246, 3) := by decide +kernel
theorem dd_Md_piece_111 : decode (mm_Md_piece).2.1 111 = .ok (.if_icmp .ne 7, 3) := by decide +kernel
theorem dd_Md_piece_114 : decode (mm_Md_piece).2.1 114 = .ok (.iconst 0, 1) := by decide +kernel
theorem dd_Md_piece_115 : decode (mm_Md_piece).2.1 115 = .ok (.goto 4, 3) := by decide +kernel
theorem dd_Md_piece_118 : decode (mm_Md_piece).2.1 118 = .ok (.iconst 2, 1) := by decide +kernel
theorem dd_Md_piece_119 : decode (mm_Md_piece).2.1 119 = .ok (.ireturn, 1) := by decide +kernel
theorem dd_Md_piece_120 : decode (mm_Md_piece).2.1 120 = .ok (.iload 4, 2) := by decide +kernel
theorem dd_Md_piece_122 : decode (mm_Md_piece).2.1 122 = .ok (.bipush 32, 2) := by decide +kernel
theorem dd_Md_piece_124 : decode (mm_Md_piece).2.1 124 = .ok (.if_icmp .ge 57, 3) := by decide +kernel
theorem dd_Md_piece_127 : decode (mm_Md_piece).2.1 127 = .ok (.iload_n 2, 1) := by decide +kernel
theorem dd_Md_piece_128 : decode (mm_Md_piece).2.1 128 = .ok (.iconst 1, 1) := by decide +kernel
theorem dd_Md_piece_129 : decode (mm_Md_piece).2.1 129 = .ok (.iadd, 1) := by decide +kernel
theorem dd_Md_piece_130 : decode (mm_Md_piece).2.1 130 = .ok (.iload 4, 2) := by decide +kernel
theorem dd_Md_piece_132 : decode (mm_Md_piece).2.1 132 = .ok (.iadd, 1) := by decide +kernel
theorem dd_Md_piece_133 : decode (mm_Md_piece).2.1 133 = .ok (.iload_n 3, 1) := by decide +kernel
theorem dd_Md_piece_134 : decode (mm_Md_piece).2.1 134 = .ok (.if_icmp .lt 5, 3) := by decide +kernel
theorem dd_Md_piece_137 : decode (mm_Md_piece).2.1 137 = .ok (.iconst 0, 1) := by decide +kernel
theorem dd_Md_piece_138 : decode (mm_Md_piece).2.1 138 = .ok (.ireturn, 1) := by decide +kernel
theorem dd_Md_piece_139 : decode (mm_Md_piece).2.1 139 = .ok (.iconst 0, 1) := by decide +kernel
theorem dd_Md_piece_140 : decode (mm_Md_piece).2.1 140 = .ok (.istore 7, 2) := by decide +kernel
theorem dd_Md_piece_142 : decode (mm_Md_piece).2.1 142 = .ok (.iload 7, 2) := by decide +kernel
theorem dd_Md_piece_144 : decode (mm_Md_piece).2.1 144 = .ok (.iload 4, 2) := by decide +kernel
theorem dd_Md_piece_146 : decode (mm_Md_piece).2.1 146 = .ok (.if_icmp .gt 30, 3) := by decide +kernel
theorem dd_Md_piece_149 : decode (mm_Md_piece).2.1 149 = .ok (.aload_n 0, 1) := by decide +kernel
theorem dd_Md_piece_150 : decode (mm_Md_piece).2.1 150 = .ok (.iload_n 1, 1) := by decide +kernel
theorem dd_Md_piece_151 : decode (mm_Md_piece).2.1 151 = .ok (.aload_n 0, 1) := by decide +kernel
theorem dd_Md_piece_152 : decode (mm_Md_piece).2.1 152 = .ok (.getfield 31, 3) := by decide +kernel
theorem dd_Md_piece_155 : decode (mm_Md_piece).2.1 155 = .ok (.iload_n 2, 1) := by decide +kernel
theorem dd_Md_piece_156 : decode (mm_Md_piece).2.1 156 = .ok (.iconst 1, 1) := by decide +kernel
theorem dd_Md_piece_157 : decode (mm_Md_piece).2.1 157 = .ok (.iadd, 1) := by decide +kernel
theorem dd_Md_piece_158 : decode (mm_Md_piece).2.1 158 = .ok (.iload 7, 2) := by decide +kernel
theorem dd_Md_piece_160 : decode (mm_Md_piece).2.1 160 = .ok (.iadd, 1) := by decide +kernel
theorem dd_Md_piece_161 : decode (mm_Md_piece).2.1 161 = .ok (.iaload, 1) := by decide +kernel
theorem dd_Md_piece_162 : decode (mm_Md_piece).2.1 162 = .ok (.invokevirtual 159, 3) := by decide +kernel
theorem dd_Md_piece_165 : decode (mm_Md_piece).2.1 165 = .ok (.ifCond .ne 5, 3) := by decide +kernel
theorem dd_Md_piece_168 : decode (mm_Md_piece).2.1 168 = .ok (.iconst 0, 1) := by decide +kernel
theorem dd_Md_piece_169 : decode (mm_Md_piece).2.1 169 = .ok (.ireturn, 1) := by decide +kernel
theorem dd_Md_piece_170 : decode (mm_Md_piece).2.1 170 = .ok (.iinc 7 1, 3) := by decide +kernel
theorem dd_Md_piece_173 : decode (mm_Md_piece).2.1 173 = .ok (.goto (-31), 3) := by decide +kernel
theorem dd_Md_piece_176 : decode (mm_Md_piece).2.1 176 = .ok (.iload 4, 2) := by decide +kernel
theorem dd_Md_piece_178 : decode (mm_Md_piece).2.1 178 = .ok (.iconst 2, 1) := by decide +kernel
theorem dd_Md_piece_179 : decode (mm_Md_piece).2.1 179 = .ok (.iadd, 1) := by decide +kernel
theorem dd_Md_piece_180 : decode (mm_Md_piece).2.1 180 = .ok (.ireturn, 1) := by decide +kernel
theorem dd_Md_piece_181 : decode (mm_Md_piece).2.1 181 = .ok (.iload 4, 2) := by decide +kernel
theorem dd_Md_piece_183 : decode (mm_Md_piece).2.1 183 = .ok (.bipush 63, 2) := by decide +kernel
theorem dd_Md_piece_185 : decode (mm_Md_piece).2.1 185 = .ok (.if_icmp .gt 19, 3) := by decide +kernel
theorem dd_Md_piece_188 : decode (mm_Md_piece).2.1 188 = .ok (.iload 6, 2) := by decide +kernel
theorem dd_Md_piece_190 : decode (mm_Md_piece).2.1 190 = .ok (.bipush 31, 2) := by decide +kernel
theorem dd_Md_piece_192 : decode (mm_Md_piece).2.1 192 = .ok (.if_icmp .gt 12, 3) := by decide +kernel
theorem dd_Md_piece_195 : decode (mm_Md_piece).2.1 195 = .ok (.iload 6, 2) := by decide +kernel
theorem dd_Md_piece_197 : decode (mm_Md_piece).2.1 197 = .ok (.aload_n 0, 1) := by decide +kernel
theorem dd_Md_piece_198 : decode (mm_Md_piece).2.1 198 = .ok (.getfield 67, 3) := by decide +kernel
theorem dd_Md_piece_201 : decode (mm_Md_piece).2.1 201 = .ok (.if_icmp .lt 5, 3) := by decide +kernel
theorem dd_Md_piece_204 : decode (mm_Md_piece).2.1 204 = .ok (.iconst 0, 1) := by decide +kernel
theorem dd_Md_piece_205 : decode (mm_Md_piece).2.1 205 = .ok (.ireturn, 1) := by decide +kernel
theorem dd_Md_piece_206 : decode (mm_Md_piece).2.1 206 = .ok (.bipush 32, 2) := by decide +kernel
theorem dd_Md_piece_208 : decode (mm_Md_piece).2.1 208 = .ok (.istore 7, 2) := by decide +kernel
theorem dd_Md_piece_210 : decode (mm_Md_piece).2.1 210 = .ok (.iload 7, 2) := by decide +kernel
theorem dd_Md_piece_212 : decode (mm_Md_piece).2.1 212 = .ok (.iload 4, 2) := by decide +kernel
theorem dd_Md_piece_214 : decode (mm_Md_piece).2.1 214 = .ok (.iconst 3, 1) := by decide +kernel
theorem dd_Md_piece_215 : decode (mm_Md_piece).2.1 215 = .ok (.iadd, 1) := by decide +kernel
theorem dd_Md_piece_216 : decode (mm_Md_piece).2.1 216 = .ok (.if_icmp .ge 33, 3) := by decide +kernel
theorem dd_Md_piece_219 : decode (mm_Md_piece).2.1 219 = .ok (.aload_n 0, 1) := by decide +kernel
theorem dd_Md_piece_220 : decode (mm_Md_piece).2.1 220 = .ok (.iload_n 1, 1) := by decide +kernel
theorem dd_Md_piece_221 : decode (mm_Md_piece).2.1 221 = .ok (.aload_n 0, 1) := by decide +kernel
theorem dd_Md_piece_222 : decode (mm_Md_piece).2.1 222 = .ok (.getfield 47, 3) := by decide +kernel
theorem dd_Md_piece_225 : decode (mm_Md_piece).2.1 225 = .ok (.aload_n 0, 1) := by decide +kernel
theorem dd_Md_piece_226 : decode (mm_Md_piece).2.1 226 = .ok (.getfield 67, 3) := by decide +kernel
theorem dd_Md_piece_229 : decode (mm_Md_piece).2.1 229 = .ok (.iconst 1, 1) := by decide +kernel
theorem dd_Md_piece_230 : decode (mm_Md_piece).2.1 230 = .ok (.isub, 1) := by decide +kernel
theorem dd_Md_piece_231 : decode (mm_Md_piece).2.1 231 = .ok (.iload 6, 2) := by decide +kernel
theorem dd_Md_piece_233 : decode (mm_Md_piece).2.1 233 = .ok (.isub, 1) := by decide +kernel
theorem dd_Md_piece_234 : decode (mm_Md_piece).2.1 234 = .ok (.iaload, 1) := by decide +kernel
theorem dd_Md_piece_235 : decode (mm_Md_piece).2.1 235 = .ok (.invokevirtual 159, 3) := by decide +kernel
theorem dd_Md_piece_238 : decode (mm_Md_piece).2.1 238 = .ok (.ifCond .ne 5, 3) := by decide +kernel
theorem dd_Md_piece_241 : decode (mm_Md_piece).2.1 241 = .ok (.iconst 0, 1) := by decide +kernel
theorem dd_Md_piece_242 : decode (mm_Md_piece).2.1 242 = .ok (.ireturn, 1) := by decide +kernel
theorem dd_Md_piece_243 : decode (mm_Md_piece).2.1 243 = .ok (.iinc 7 1, 3) := by decide +kernel
theorem dd_Md_piece_246 : decode (mm_Md_piece).2.1 246 = .ok (.goto (-36), 3) := by decide +kernel
theorem dd_Md_piece_249 : decode (mm_Md_piece).2.1 249 = .ok (.iconst 2, 1) := by decide +kernel
theorem dd_Md_piece_250 : decode (mm_Md_piece).2.1 250 = .ok (.ireturn, 1) := by decide +kernel
theorem dd_Md_make_0 : decode (mm_Md_make).2.1 0 = .ok (.aload_n 0, 1) := by decide +kernel
theorem dd_Md_make_1 : decode (mm_Md_make).2.1 1 = .ok (.getfield 67, 3) := by decide +kernel
theorem dd_Md_make_4 : decode (mm_Md_make).2.1 4 = .ok (.aload_n 0, 1) := by decide +kernel
theorem dd_Md_make_5 : decode (mm_Md_make).2.1 5 = .ok (.iload_n 1, 1) := by decide +kernel
theorem dd_Md_make_6 : decode (mm_Md_make).2.1 6 = .ok (.iconst 4, 1) := by decide +kernel
theorem dd_Md_make_7 : decode (mm_Md_make).2.1 7 = .ok (.invokevirtual 153, 3) := by decide +kernel
theorem dd_Md_make_10 : decode (mm_Md_make).2.1 10 = .ok (.if_icmp .ne 5, 3) := by decide +kernel
theorem dd_Md_make_13 : decode (mm_Md_make).2.1 13 = .ok (.iconst 0, 1) := by decide +kernel
theorem dd_Md_make_14 : decode (mm_Md_make).2.1 14 = .ok (.ireturn, 1) := by decide +kernel
theorem dd_Md_make_15 : decode (mm_Md_make).2.1 15 = .ok (.aload_n 0, 1) := by decide +kernel
theorem dd_Md_make_16 : decode (mm_Md_make).2.1 16 = .ok (.iload_n 2, 1) := by decide +kernel
theorem dd_Md_make_17 : decode (mm_Md_make).2.1 17 = .ok (.invokevirtual 74, 3) := by decide +kernel
theorem dd_Md_make_20 : decode (mm_Md_make).2.1 20 = .ok (.iconst 1, 1) := by decide +kernel
theorem dd_Md_make_21 : decode (mm_Md_make).2.1 21 = .ok (.ireturn, 1) := by decide +kernel
theorem dd_Md_taken_0 : decode (mm_Md_taken).2.1 0 = .ok (.iload_n 1, 1) := by decide +kernel
theorem dd_Md_taken_1 : decode (mm_Md_taken).2.1 1 = .ok (.iconst 0, 1) := by decide +kernel
theorem dd_Md_taken_2 : decode (mm_Md_taken).2.1 2 = .ok (.aload_n 0, 1) := by decide +kernel
theorem dd_Md_taken_3 : decode (mm_Md_taken).2.1 3 = .ok (.getfield 175, 3) := by decide +kernel
theorem dd_Md_taken_6 : decode (mm_Md_taken).2.1 6 = .ok (.iconst 1, 1) := by decide +kernel
theorem dd_Md_taken_7 : decode (mm_Md_taken).2.1 7 = .ok (.isub, 1) := by decide +kernel
theorem dd_Md_taken_8 : decode (mm_Md_taken).2.1 8 = .ok (.invokestatic 50, 3) := by decide +kernel
theorem dd_Md_taken_11 : decode (mm_Md_taken).2.1 11 = .ok (.ifCond .eq 12, 3) := by decide +kernel
theorem dd_Md_taken_14 : decode (mm_Md_taken).2.1 14 = .ok (.aload_n 0, 1) := by decide +kernel
theorem dd_Md_taken_15 : decode (mm_Md_taken).2.1 15 = .ok (.getfield 44, 3) := by decide +kernel
theorem dd_Md_taken_18 : decode (mm_Md_taken).2.1 18 = .ok (.iload_n 1, 1) := by decide +kernel
theorem dd_Md_taken_19 : decode (mm_Md_taken).2.1 19 = .ok (.iaload, 1) := by decide +kernel
theorem dd_Md_taken_20 : decode (mm_Md_taken).2.1 20 = .ok (.goto 4, 3) := by decide +kernel
theorem dd_Md_taken_23 : decode (mm_Md_taken).2.1 23 = .ok (.iconst (-1), 1) := by decide +kernel
theorem dd_Md_taken_24 : decode (mm_Md_taken).2.1 24 = .ok (.ireturn, 1) := by decide +kernel
theorem dd_Md_file_0 : decode (mm_Md_file).2.1 0 = .ok (.iload_n 1, 1) := by decide +kernel
theorem dd_Md_file_1 : decode (mm_Md_file).2.1 1 = .ok (.iconst 0, 1) := by decide +kernel
theorem dd_Md_file_2 : decode (mm_Md_file).2.1 2 = .ok (.aload_n 0, 1) := by decide +kernel
theorem dd_Md_file_3 : decode (mm_Md_file).2.1 3 = .ok (.getfield 127, 3) := by decide +kernel
theorem dd_Md_file_6 : decode (mm_Md_file).2.1 6 = .ok (.iconst 1, 1) := by decide +kernel
theorem dd_Md_file_7 : decode (mm_Md_file).2.1 7 = .ok (.isub, 1) := by decide +kernel
theorem dd_Md_file_8 : decode (mm_Md_file).2.1 8 = .ok (.invokestatic 50, 3) := by decide +kernel
theorem dd_Md_file_11 : decode (mm_Md_file).2.1 11 = .ok (.ifCond .ne 5, 3) := by decide +kernel
theorem dd_Md_file_14 : decode (mm_Md_file).2.1 14 = .ok (.iconst (-1), 1) := by decide +kernel
theorem dd_Md_file_15 : decode (mm_Md_file).2.1 15 = .ok (.ireturn, 1) := by decide +kernel
theorem dd_Md_file_16 : decode (mm_Md_file).2.1 16 = .ok (.iload_n 2, 1) := by decide +kernel
theorem dd_Md_file_17 : decode (mm_Md_file).2.1 17 = .ok (.iconst 0, 1) := by decide +kernel
theorem dd_Md_file_18 : decode (mm_Md_file).2.1 18 = .ok (.iconst 5, 1) := by decide +kernel
theorem dd_Md_file_19 : decode (mm_Md_file).2.1 19 = .ok (.invokestatic 50, 3) := by decide +kernel
theorem dd_Md_file_22 : decode (mm_Md_file).2.1 22 = .ok (.ifCond .eq 10, 3) := by decide +kernel
theorem dd_Md_file_25 : decode (mm_Md_file).2.1 25 = .ok (.aload_n 0, 1) := by decide +kernel
theorem dd_Md_file_26 : decode (mm_Md_file).2.1 26 = .ok (.iload_n 1, 1) := by decide +kernel
theorem dd_Md_file_27 : decode (mm_Md_file).2.1 27 = .ok (.iload_n 2, 1) := by decide +kernel
theorem dd_Md_file_28 : decode (mm_Md_file).2.1 28 = .ok (.invokevirtual 153, 3) := by decide +kernel
theorem dd_Md_file_31 : decode (mm_Md_file).2.1 31 = .ok (.ireturn, 1) := by decide +kernel
theorem dd_Md_file_32 : decode (mm_Md_file).2.1 32 = .ok (.iload_n 2, 1) := by decide +kernel
theorem dd_Md_file_33 : decode (mm_Md_file).2.1 33 = .ok (.bipush 16, 2) := by decide +kernel
theorem dd_Md_file_35 : decode (mm_Md_file).2.1 35 = .ok (.if_icmp .lt 28, 3) := by decide +kernel
theorem dd_Md_file_38 : decode (mm_Md_file).2.1 38 = .ok (.iload_n 2, 1) := by decide +kernel
theorem dd_Md_file_39 : decode (mm_Md_file).2.1 39 = .ok (.bipush 16, 2) := by decide +kernel
theorem dd_Md_file_41 : decode (mm_Md_file).2.1 41 = .ok (.isub, 1) := by decide +kernel
theorem dd_Md_file_42 : decode (mm_Md_file).2.1 42 = .ok (.aload_n 0, 1) := by decide +kernel
theorem dd_Md_file_43 : decode (mm_Md_file).2.1 43 = .ok (.iload_n 1, 1) := by decide +kernel
theorem dd_Md_file_44 : decode (mm_Md_file).2.1 44 = .ok (.iconst 1, 1) := by decide +kernel
theorem dd_Md_file_45 : decode (mm_Md_file).2.1 45 = .ok (.invokevirtual 153, 3) := by decide +kernel
theorem dd_Md_file_48 : decode (mm_Md_file).2.1 48 = .ok (.if_icmp .ge 15, 3) := by decide +kernel
theorem dd_Md_file_51 : decode (mm_Md_file).2.1 51 = .ok (.aload_n 0, 1) := by decide +kernel
theorem dd_Md_file_52 : decode (mm_Md_file).2.1 52 = .ok (.iload_n 1, 1) := by decide +kernel
theorem dd_Md_file_53 : decode (mm_Md_file).2.1 53 = .ok (.iload_n 2, 1) := by decide +kernel
theorem dd_Md_file_54 : decode (mm_Md_file).2.1 54 = .ok (.bipush 10, 2) := by decide +kernel
theorem dd_Md_file_56 : decode (mm_Md_file).2.1 56 = .ok (.isub, 1) := by decide +kernel
theorem dd_Md_file_57 : decode (mm_Md_file).2.1 57 = .ok (.invokevirtual 153, 3) := by decide +kernel
theorem dd_Md_file_60 : decode (mm_Md_file).2.1 60 = .ok (.goto 4, 3) := by decide +kernel
theorem dd_Md_file_63 : decode (mm_Md_file).2.1 63 = .ok (.iconst (-1), 1) := by decide +kernel
theorem dd_Md_file_64 : decode (mm_Md_file).2.1 64 = .ok (.ireturn, 1) := by decide +kernel
theorem dd_Md_count_0 : decode (mm_Md_count).2.1 0 = .ok (.iload_n 1, 1) := by decide +kernel
theorem dd_Md_count_1 : decode (mm_Md_count).2.1 1 = .ok (.tableswitch 69 0 5 #[39, 44, 49, 54, 59, 64], 39) := by decide +kernel
theorem dd_Md_count_40 : decode (mm_Md_count).2.1 40 = .ok (.aload_n 0, 1) := by decide +kernel
theorem dd_Md_count_41 : decode (mm_Md_count).2.1 41 = .ok (.getfield 64, 3) := by decide +kernel
theorem dd_Md_count_44 : decode (mm_Md_count).2.1 44 = .ok (.ireturn, 1) := by decide +kernel
theorem dd_Md_count_45 : decode (mm_Md_count).2.1 45 = .ok (.aload_n 0, 1) := by decide +kernel
theorem dd_Md_count_46 : decode (mm_Md_count).2.1 46 = .ok (.getfield 124, 3) := by decide +kernel
theorem dd_Md_count_49 : decode (mm_Md_count).2.1 49 = .ok (.ireturn, 1) := by decide +kernel
theorem dd_Md_count_50 : decode (mm_Md_count).2.1 50 = .ok (.aload_n 0, 1) := by decide +kernel
theorem dd_Md_count_51 : decode (mm_Md_count).2.1 51 = .ok (.getfield 127, 3) := by decide +kernel
theorem dd_Md_count_54 : decode (mm_Md_count).2.1 54 = .ok (.ireturn, 1) := by decide +kernel
theorem dd_Md_count_55 : decode (mm_Md_count).2.1 55 = .ok (.aload_n 0, 1) := by decide +kernel
theorem dd_Md_count_56 : decode (mm_Md_count).2.1 56 = .ok (.getfield 58, 3) := by decide +kernel
theorem dd_Md_count_59 : decode (mm_Md_count).2.1 59 = .ok (.ireturn, 1) := by decide +kernel
theorem dd_Md_count_60 : decode (mm_Md_count).2.1 60 = .ok (.aload_n 0, 1) := by decide +kernel
theorem dd_Md_count_61 : decode (mm_Md_count).2.1 61 = .ok (.getfield 61, 3) := by decide +kernel
theorem dd_Md_count_64 : decode (mm_Md_count).2.1 64 = .ok (.ireturn, 1) := by decide +kernel
theorem dd_Md_count_65 : decode (mm_Md_count).2.1 65 = .ok (.aload_n 0, 1) := by decide +kernel
theorem dd_Md_count_66 : decode (mm_Md_count).2.1 66 = .ok (.getfield 175, 3) := by decide +kernel
theorem dd_Md_count_69 : decode (mm_Md_count).2.1 69 = .ok (.ireturn, 1) := by decide +kernel
theorem dd_Md_count_70 : decode (mm_Md_count).2.1 70 = .ok (.iconst (-1), 1) := by decide +kernel
theorem dd_Md_count_71 : decode (mm_Md_count).2.1 71 = .ok (.ireturn, 1) := by decide +kernel
theorem dd_Lw_law_0 : decode (mm_Lw_law).2.1 0 = .ok (.new 7, 3) := by decide +kernel
theorem dd_Lw_law_3 : decode (mm_Lw_law).2.1 3 = .ok (.dup, 1) := by decide +kernel
theorem dd_Lw_law_4 : decode (mm_Lw_law).2.1 4 = .ok (.invokespecial 9, 3) := by decide +kernel
theorem dd_Lw_law_7 : decode (mm_Lw_law).2.1 7 = .ok (.astore_n 1, 1) := by decide +kernel
theorem dd_Lw_law_8 : decode (mm_Lw_law).2.1 8 = .ok (.new 10, 3) := by decide +kernel
theorem dd_Lw_law_11 : decode (mm_Lw_law).2.1 11 = .ok (.dup, 1) := by decide +kernel
theorem dd_Lw_law_12 : decode (mm_Lw_law).2.1 12 = .ok (.invokespecial 12, 3) := by decide +kernel
theorem dd_Lw_law_15 : decode (mm_Lw_law).2.1 15 = .ok (.astore_n 2, 1) := by decide +kernel
theorem dd_Lw_law_16 : decode (mm_Lw_law).2.1 16 = .ok (.iconst 0, 1) := by decide +kernel
theorem dd_Lw_law_17 : decode (mm_Lw_law).2.1 17 = .ok (.istore_n 3, 1) := by decide +kernel
theorem dd_Lw_law_18 : decode (mm_Lw_law).2.1 18 = .ok (.iload_n 3, 1) := by decide +kernel
theorem dd_Lw_law_19 : decode (mm_Lw_law).2.1 19 = .ok (.aload_n 0, 1) := by decide +kernel
theorem dd_Lw_law_20 : decode (mm_Lw_law).2.1 20 = .ok (.arraylength, 1) := by decide +kernel
theorem dd_Lw_law_21 : decode (mm_Lw_law).2.1 21 = .ok (.iconst 3, 1) := by decide +kernel
theorem dd_Lw_law_22 : decode (mm_Lw_law).2.1 22 = .ok (.isub, 1) := by decide +kernel
theorem dd_Lw_law_23 : decode (mm_Lw_law).2.1 23 = .ok (.if_icmp .gt 392, 3) := by decide +kernel
theorem dd_Lw_law_26 : decode (mm_Lw_law).2.1 26 = .ok (.aload_n 0, 1) := by decide +kernel
theorem dd_Lw_law_27 : decode (mm_Lw_law).2.1 27 = .ok (.iload_n 3, 1) := by decide +kernel
theorem dd_Lw_law_28 : decode (mm_Lw_law).2.1 28 = .ok (.iaload, 1) := by decide +kernel
theorem dd_Lw_law_29 : decode (mm_Lw_law).2.1 29 = .ok (.bipush 15, 2) := by decide +kernel
theorem dd_Lw_law_31 : decode (mm_Lw_law).2.1 31 = .ok (.iand, 1) := by decide +kernel
theorem dd_Lw_law_32 : decode (mm_Lw_law).2.1 32 = .ok (.tableswitch 377 0 12 #[68, 91, 124, 147, 170, 203, 226, 249, 262, 275, 298, 321, 354], 68) := by decide +kernel
theorem dd_Lw_law_100 : decode (mm_Lw_law).2.1 100 = .ok (.aload_n 1, 1) := by decide +kernel
theorem dd_Lw_law_101 : decode (mm_Lw_law).2.1 101 = .ok (.aload_n 0, 1) := by decide +kernel
theorem dd_Lw_law_102 : decode (mm_Lw_law).2.1 102 = .ok (.iload_n 3, 1) := by decide +kernel
theorem dd_Lw_law_103 : decode (mm_Lw_law).2.1 103 = .ok (.iconst 1, 1) := by decide +kernel
theorem dd_Lw_law_104 : decode (mm_Lw_law).2.1 104 = .ok (.iadd, 1) := by decide +kernel
theorem dd_Lw_law_105 : decode (mm_Lw_law).2.1 105 = .ok (.iaload, 1) := by decide +kernel
theorem dd_Lw_law_106 : decode (mm_Lw_law).2.1 106 = .ok (.invokevirtual 13, 3) := by decide +kernel
theorem dd_Lw_law_109 : decode (mm_Lw_law).2.1 109 = .ok (.aload_n 2, 1) := by decide +kernel
theorem dd_Lw_law_110 : decode (mm_Lw_law).2.1 110 = .ok (.aload_n 0, 1) := by decide +kernel
theorem dd_Lw_law_111 : decode (mm_Lw_law).2.1 111 = .ok (.iload_n 3, 1) := by decide +kernel
theorem dd_Lw_law_112 : decode (mm_Lw_law).2.1 112 = .ok (.iconst 1, 1) := by decide +kernel
theorem dd_Lw_law_113 : decode (mm_Lw_law).2.1 113 = .ok (.iadd, 1) := by decide +kernel
theorem dd_Lw_law_114 : decode (mm_Lw_law).2.1 114 = .ok (.iaload, 1) := by decide +kernel
theorem dd_Lw_law_115 : decode (mm_Lw_law).2.1 115 = .ok (.invokevirtual 17, 3) := by decide +kernel
theorem dd_Lw_law_118 : decode (mm_Lw_law).2.1 118 = .ok (.if_icmp .eq 291, 3) := by decide +kernel
theorem dd_Lw_law_121 : decode (mm_Lw_law).2.1 121 = .ok (.iconst 0, 1) := by decide +kernel
theorem dd_Lw_law_122 : decode (mm_Lw_law).2.1 122 = .ok (.ireturn, 1) := by decide +kernel
theorem dd_Lw_law_123 : decode (mm_Lw_law).2.1 123 = .ok (.aload_n 1, 1) := by decide +kernel
theorem dd_Lw_law_124 : decode (mm_Lw_law).2.1 124 = .ok (.aload_n 0, 1) := by decide +kernel
theorem dd_Lw_law_125 : decode (mm_Lw_law).2.1 125 = .ok (.iload_n 3, 1) := by decide +kernel
theorem dd_Lw_law_126 : decode (mm_Lw_law).2.1 126 = .ok (.iconst 1, 1) := by decide +kernel
theorem dd_Lw_law_127 : decode (mm_Lw_law).2.1 127 = .ok (.iadd, 1) := by decide +kernel
theorem dd_Lw_law_128 : decode (mm_Lw_law).2.1 128 = .ok (.iaload, 1) := by decide +kernel
theorem dd_Lw_law_129 : decode (mm_Lw_law).2.1 129 = .ok (.aload_n 0, 1) := by decide +kernel
theorem dd_Lw_law_130 : decode (mm_Lw_law).2.1 130 = .ok (.iload_n 3, 1) := by decide +kernel
theorem dd_Lw_law_131 : decode (mm_Lw_law).2.1 131 = .ok (.iconst 2, 1) := by decide +kernel
theorem dd_Lw_law_132 : decode (mm_Lw_law).2.1 132 = .ok (.iadd, 1) := by decide +kernel
theorem dd_Lw_law_133 : decode (mm_Lw_law).2.1 133 = .ok (.iaload, 1) := by decide +kernel
theorem dd_Lw_law_134 : decode (mm_Lw_law).2.1 134 = .ok (.invokevirtual 18, 3) := by decide +kernel
theorem dd_Lw_law_137 : decode (mm_Lw_law).2.1 137 = .ok (.aload_n 2, 1) := by decide +kernel
theorem dd_Lw_law_138 : decode (mm_Lw_law).2.1 138 = .ok (.aload_n 0, 1) := by decide +kernel
theorem dd_Lw_law_139 : decode (mm_Lw_law).2.1 139 = .ok (.iload_n 3, 1) := by decide +kernel
theorem dd_Lw_law_140 : decode (mm_Lw_law).2.1 140 = .ok (.iconst 1, 1) := by decide +kernel
theorem dd_Lw_law_141 : decode (mm_Lw_law).2.1 141 = .ok (.iadd, 1) := by decide +kernel
theorem dd_Lw_law_142 : decode (mm_Lw_law).2.1 142 = .ok (.iaload, 1) := by decide +kernel
theorem dd_Lw_law_143 : decode (mm_Lw_law).2.1 143 = .ok (.aload_n 0, 1) := by decide +kernel
theorem dd_Lw_law_144 : decode (mm_Lw_law).2.1 144 = .ok (.iload_n 3, 1) := by decide +kernel
theorem dd_Lw_law_145 : decode (mm_Lw_law).2.1 145 = .ok (.iconst 2, 1) := by decide +kernel
theorem dd_Lw_law_146 : decode (mm_Lw_law).2.1 146 = .ok (.iadd, 1) := by decide +kernel
theorem dd_Lw_law_147 : decode (mm_Lw_law).2.1 147 = .ok (.iaload, 1) := by decide +kernel
theorem dd_Lw_law_148 : decode (mm_Lw_law).2.1 148 = .ok (.invokevirtual 22, 3) := by decide +kernel
theorem dd_Lw_law_151 : decode (mm_Lw_law).2.1 151 = .ok (.if_icmp .eq 258, 3) := by decide +kernel
theorem dd_Lw_law_154 : decode (mm_Lw_law).2.1 154 = .ok (.iconst 0, 1) := by decide +kernel
theorem dd_Lw_law_155 : decode (mm_Lw_law).2.1 155 = .ok (.ireturn, 1) := by decide +kernel
theorem dd_Lw_law_156 : decode (mm_Lw_law).2.1 156 = .ok (.aload_n 1, 1) := by decide +kernel
theorem dd_Lw_law_157 : decode (mm_Lw_law).2.1 157 = .ok (.aload_n 0, 1) := by decide +kernel
