theorem d_W_cell_0 : decode b_W_cell 0 = .ok (.iload_n 1, 1) := by decide +kernel
theorem d_W_cell_1 : decode b_W_cell 1 = .ok (.aload_n 0, 1) := by decide +kernel
theorem d_W_cell_2 : decode b_W_cell 2 = .ok (.arraylength, 1) := by decide +kernel
theorem d_W_cell_3 : decode b_W_cell 3 = .ok (.if_icmp .ge 9, 3) := by decide +kernel
theorem d_W_cell_6 : decode b_W_cell 6 = .ok (.aload_n 0, 1) := by decide +kernel
theorem d_W_cell_7 : decode b_W_cell 7 = .ok (.iload_n 1, 1) := by decide +kernel
theorem d_W_cell_8 : decode b_W_cell 8 = .ok (.iaload, 1) := by decide +kernel
theorem d_W_cell_9 : decode b_W_cell 9 = .ok (.goto 4, 3) := by decide +kernel
theorem d_W_cell_12 : decode b_W_cell 12 = .ok (.iconst 0, 1) := by decide +kernel
theorem d_W_cell_13 : decode b_W_cell 13 = .ok (.ireturn, 1) := by decide +kernel
theorem d_W_law_0 : decode b_W_law 0 = .ok (.new 7, 3) := by decide +kernel
theorem d_W_law_3 : decode b_W_law 3 = .ok (.dup, 1) := by decide +kernel
theorem d_W_law_4 : decode b_W_law 4 = .ok (.aload_n 0, 1) := by decide +kernel
theorem d_W_law_5 : decode b_W_law 5 = .ok (.iconst 0, 1) := by decide +kernel
theorem d_W_law_6 : decode b_W_law 6 = .ok (.invokestatic 9, 3) := by decide +kernel
theorem d_W_law_9 : decode b_W_law 9 = .ok (.aload_n 0, 1) := by decide +kernel
theorem d_W_law_10 : decode b_W_law 10 = .ok (.iconst 1, 1) := by decide +kernel
theorem d_W_law_11 : decode b_W_law 11 = .ok (.invokestatic 9, 3) := by decide +kernel
theorem d_W_law_14 : decode b_W_law 14 = .ok (.invokespecial 15, 3) := by decide +kernel
theorem d_W_law_17 : decode b_W_law 17 = .ok (.astore_n 1, 1) := by decide +kernel
theorem d_W_law_18 : decode b_W_law 18 = .ok (.new 18, 3) := by decide +kernel
theorem d_W_law_21 : decode b_W_law 21 = .ok (.dup, 1) := by decide +kernel
theorem d_W_law_22 : decode b_W_law 22 = .ok (.aload_n 0, 1) := by decide +kernel
theorem d_W_law_23 : decode b_W_law 23 = .ok (.iconst 0, 1) := by decide +kernel
theorem d_W_law_24 : decode b_W_law 24 = .ok (.invokestatic 9, 3) := by decide +kernel
theorem d_W_law_27 : decode b_W_law 27 = .ok (.aload_n 0, 1) := by decide +kernel
theorem d_W_law_28 : decode b_W_law 28 = .ok (.iconst 1, 1) := by decide +kernel
theorem d_W_law_29 : decode b_W_law 29 = .ok (.invokestatic 9, 3) := by decide +kernel
theorem d_W_law_32 : decode b_W_law 32 = .ok (.invokespecial 20, 3) := by decide +kernel
theorem d_W_law_35 : decode b_W_law 35 = .ok (.astore_n 2, 1) := by decide +kernel
theorem d_W_law_36 : decode b_W_law 36 = .ok (.iconst 2, 1) := by decide +kernel
theorem d_W_law_37 : decode b_W_law 37 = .ok (.istore_n 3, 1) := by decide +kernel
theorem d_W_law_38 : decode b_W_law 38 = .ok (.iload_n 3, 1) := by decide +kernel
theorem d_W_law_39 : decode b_W_law 39 = .ok (.aload_n 0, 1) := by decide +kernel
theorem d_W_law_40 : decode b_W_law 40 = .ok (.arraylength, 1) := by decide +kernel
theorem d_W_law_41 : decode b_W_law 41 = .ok (.iconst 3, 1) := by decide +kernel
theorem d_W_law_42 : decode b_W_law 42 = .ok (.isub, 1) := by decide +kernel
theorem d_W_law_43 : decode b_W_law 43 = .ok (.if_icmp .gt 404, 3) := by decide +kernel
theorem d_W_law_46 : decode b_W_law 46 = .ok (.aload_n 0, 1) := by decide +kernel
theorem d_W_law_47 : decode b_W_law 47 = .ok (.iload_n 3, 1) := by decide +kernel
theorem d_W_law_48 : decode b_W_law 48 = .ok (.iaload, 1) := by decide +kernel
theorem d_W_law_49 : decode b_W_law 49 = .ok (.bipush 15, 2) := by decide +kernel
theorem d_W_law_51 : decode b_W_law 51 = .ok (.iand, 1) := by decide +kernel
theorem d_W_law_52 : decode b_W_law 52 = .ok (.tableswitch 389 0 10 #[60, 93, 116, 139, 162, 185, 234, 267, 300, 333, 366], 60) := by decide +kernel
theorem d_W_law_112 : decode b_W_law 112 = .ok (.aload_n 1, 1) := by decide +kernel
theorem d_W_law_113 : decode b_W_law 113 = .ok (.aload_n 0, 1) := by decide +kernel
theorem d_W_law_114 : decode b_W_law 114 = .ok (.iload_n 3, 1) := by decide +kernel
theorem d_W_law_115 : decode b_W_law 115 = .ok (.iconst 1, 1) := by decide +kernel
theorem d_W_law_116 : decode b_W_law 116 = .ok (.iadd, 1) := by decide +kernel
theorem d_W_law_117 : decode b_W_law 117 = .ok (.iaload, 1) := by decide +kernel
theorem d_W_law_118 : decode b_W_law 118 = .ok (.aload_n 0, 1) := by decide +kernel
theorem d_W_law_119 : decode b_W_law 119 = .ok (.iload_n 3, 1) := by decide +kernel
theorem d_W_law_120 : decode b_W_law 120 = .ok (.iconst 2, 1) := by decide +kernel
theorem d_W_law_121 : decode b_W_law 121 = .ok (.iadd, 1) := by decide +kernel
theorem d_W_law_122 : decode b_W_law 122 = .ok (.iaload, 1) := by decide +kernel
theorem d_W_law_123 : decode b_W_law 123 = .ok (.invokevirtual 21, 3) := by decide +kernel
theorem d_W_law_126 : decode b_W_law 126 = .ok (.aload_n 2, 1) := by decide +kernel
theorem d_W_law_127 : decode b_W_law 127 = .ok (.aload_n 0, 1) := by decide +kernel
theorem d_W_law_128 : decode b_W_law 128 = .ok (.iload_n 3, 1) := by decide +kernel
theorem d_W_law_129 : decode b_W_law 129 = .ok (.iconst 1, 1) := by decide +kernel
theorem d_W_law_130 : decode b_W_law 130 = .ok (.iadd, 1) := by decide +kernel
theorem d_W_law_131 : decode b_W_law 131 = .ok (.iaload, 1) := by decide +kernel
theorem d_W_law_132 : decode b_W_law 132 = .ok (.aload_n 0, 1) := by decide +kernel
theorem d_W_law_133 : decode b_W_law 133 = .ok (.iload_n 3, 1) := by decide +kernel
theorem d_W_law_134 : decode b_W_law 134 = .ok (.iconst 2, 1) := by decide +kernel
theorem d_W_law_135 : decode b_W_law 135 = .ok (.iadd, 1) := by decide +kernel
theorem d_W_law_136 : decode b_W_law 136 = .ok (.iaload, 1) := by decide +kernel
theorem d_W_law_137 : decode b_W_law 137 = .ok (.invokevirtual 25, 3) := by decide +kernel
theorem d_W_law_140 : decode b_W_law 140 = .ok (.if_icmp .eq 301, 3) := by decide +kernel
theorem d_W_law_143 : decode b_W_law 143 = .ok (.iconst 0, 1) := by decide +kernel
theorem d_W_law_144 : decode b_W_law 144 = .ok (.ireturn, 1) := by decide +kernel
theorem d_W_law_145 : decode b_W_law 145 = .ok (.aload_n 1, 1) := by decide +kernel
theorem d_W_law_146 : decode b_W_law 146 = .ok (.aload_n 0, 1) := by decide +kernel
theorem d_W_law_147 : decode b_W_law 147 = .ok (.iload_n 3, 1) := by decide +kernel
theorem d_W_law_148 : decode b_W_law 148 = .ok (.iconst 1, 1) := by decide +kernel
theorem d_W_law_149 : decode b_W_law 149 = .ok (.iadd, 1) := by decide +kernel
theorem d_W_law_150 : decode b_W_law 150 = .ok (.iaload, 1) := by decide +kernel
theorem d_W_law_151 : decode b_W_law 151 = .ok (.invokevirtual 26, 3) := by decide +kernel
theorem d_W_law_154 : decode b_W_law 154 = .ok (.aload_n 2, 1) := by decide +kernel
theorem d_W_law_155 : decode b_W_law 155 = .ok (.aload_n 0, 1) := by decide +kernel
theorem d_W_law_156 : decode b_W_law 156 = .ok (.iload_n 3, 1) := by decide +kernel
theorem d_W_law_157 : decode b_W_law 157 = .ok (.iconst 1, 1) := by decide +kernel
theorem d_W_law_158 : decode b_W_law 158 = .ok (.iadd, 1) := by decide +kernel
theorem d_W_law_159 : decode b_W_law 159 = .ok (.iaload, 1) := by decide +kernel
theorem d_W_law_160 : decode b_W_law 160 = .ok (.invokevirtual 30, 3) := by decide +kernel
theorem d_W_law_163 : decode b_W_law 163 = .ok (.if_icmp .eq 278, 3) := by decide +kernel
theorem d_W_law_166 : decode b_W_law 166 = .ok (.iconst 0, 1) := by decide +kernel
theorem d_W_law_167 : decode b_W_law 167 = .ok (.ireturn, 1) := by decide +kernel
theorem d_W_law_168 : decode b_W_law 168 = .ok (.aload_n 1, 1) := by decide +kernel
theorem d_W_law_169 : decode b_W_law 169 = .ok (.aload_n 0, 1) := by decide +kernel
theorem d_W_law_170 : decode b_W_law 170 = .ok (.iload_n 3, 1) := by decide +kernel
theorem d_W_law_171 : decode b_W_law 171 = .ok (.iconst 1, 1) := by decide +kernel
theorem d_W_law_172 : decode b_W_law 172 = .ok (.iadd, 1) := by decide +kernel
theorem d_W_law_173 : decode b_W_law 173 = .ok (.iaload, 1) := by decide +kernel
theorem d_W_law_174 : decode b_W_law 174 = .ok (.invokevirtual 31, 3) := by decide +kernel
theorem d_W_law_177 : decode b_W_law 177 = .ok (.aload_n 2, 1) := by decide +kernel
theorem d_W_law_178 : decode b_W_law 178 = .ok (.aload_n 0, 1) := by decide +kernel
theorem d_W_law_179 : decode b_W_law 179 = .ok (.iload_n 3, 1) := by decide +kernel
theorem d_W_law_180 : decode b_W_law 180 = .ok (.iconst 1, 1) := by decide +kernel
theorem d_W_law_181 : decode b_W_law 181 = .ok (.iadd, 1) := by decide +kernel
theorem d_W_law_182 : decode b_W_law 182 = .ok (.iaload, 1) := by decide +kernel
theorem d_W_law_183 : decode b_W_law 183 = .ok (.invokevirtual 34, 3) := by decide +kernel
theorem d_W_law_186 : decode b_W_law 186 = .ok (.if_icmp .eq 255, 3) := by decide +kernel
theorem d_W_law_189 : decode b_W_law 189 = .ok (.iconst 0, 1) := by decide +kernel
theorem d_W_law_190 : decode b_W_law 190 = .ok (.ireturn, 1) := by decide +kernel
theorem d_W_law_191 : decode b_W_law 191 = .ok (.aload_n 1, 1) := by decide +kernel
theorem d_W_law_192 : decode b_W_law 192 = .ok (.aload_n 0, 1) := by decide +kernel
theorem d_W_law_193 : decode b_W_law 193 = .ok (.iload_n 3, 1) := by decide +kernel
theorem d_W_law_194 : decode b_W_law 194 = .ok (.iconst 1, 1) := by decide +kernel
theorem d_W_law_195 : decode b_W_law 195 = .ok (.iadd, 1) := by decide +kernel
theorem d_W_law_196 : decode b_W_law 196 = .ok (.iaload, 1) := by decide +kernel
theorem d_W_law_197 : decode b_W_law 197 = .ok (.invokevirtual 35, 3) := by decide +kernel
theorem d_W_law_200 : decode b_W_law 200 = .ok (.aload_n 2, 1) := by decide +kernel
theorem d_W_law_201 : decode b_W_law 201 = .ok (.aload_n 0, 1) := by decide +kernel
theorem d_W_law_202 : decode b_W_law 202 = .ok (.iload_n 3, 1) := by decide +kernel
theorem d_W_law_203 : decode b_W_law 203 = .ok (.iconst 1, 1) := by decide +kernel
theorem d_W_law_204 : decode b_W_law 204 = .ok (.iadd, 1) := by decide +kernel
theorem d_W_law_205 : decode b_W_law 205 = .ok (.iaload, 1) := by decide +kernel
theorem d_W_law_206 : decode b_W_law 206 = .ok (.invokevirtual 39, 3) := by decide +kernel
theorem d_W_law_209 : decode b_W_law 209 = .ok (.if_icmp .eq 232, 3) := by decide +kernel
theorem d_W_law_212 : decode b_W_law 212 = .ok (.iconst 0, 1) := by decide +kernel
theorem d_W_law_213 : decode b_W_law 213 = .ok (.ireturn, 1) := by decide +kernel
theorem d_W_law_214 : decode b_W_law 214 = .ok (.aload_n 1, 1) := by decide +kernel
theorem d_W_law_215 : decode b_W_law 215 = .ok (.aload_n 0, 1) := by decide +kernel
theorem d_W_law_216 : decode b_W_law 216 = .ok (.iload_n 3, 1) := by decide +kernel
theorem d_W_law_217 : decode b_W_law 217 = .ok (.iconst 1, 1) := by decide +kernel
theorem d_W_law_218 : decode b_W_law 218 = .ok (.iadd, 1) := by decide +kernel
theorem d_W_law_219 : decode b_W_law 219 = .ok (.iaload, 1) := by decide +kernel
theorem d_W_law_220 : decode b_W_law 220 = .ok (.invokevirtual 40, 3) := by decide +kernel
theorem d_W_law_223 : decode b_W_law 223 = .ok (.aload_n 2, 1) := by decide +kernel
theorem d_W_law_224 : decode b_W_law 224 = .ok (.aload_n 0, 1) := by decide +kernel
theorem d_W_law_225 : decode b_W_law 225 = .ok (.iload_n 3, 1) := by decide +kernel
theorem d_W_law_226 : decode b_W_law 226 = .ok (.iconst 1, 1) := by decide +kernel
theorem d_W_law_227 : decode b_W_law 227 = .ok (.iadd, 1) := by decide +kernel
theorem d_W_law_228 : decode b_W_law 228 = .ok (.iaload, 1) := by decide +kernel
theorem d_W_law_229 : decode b_W_law 229 = .ok (.invokevirtual 43, 3) := by decide +kernel
theorem d_W_law_232 : decode b_W_law 232 = .ok (.if_icmp .eq 209, 3) := by decide +kernel
theorem d_W_law_235 : decode b_W_law 235 = .ok (.iconst 0, 1) := by decide +kernel
theorem d_W_law_236 : decode b_W_law 236 = .ok (.ireturn, 1) := by decide +kernel
theorem d_W_law_237 : decode b_W_law 237 = .ok (.aload_n 1, 1) := by decide +kernel
theorem d_W_law_238 : decode b_W_law 238 = .ok (.aload_n 0, 1) := by decide +kernel
theorem d_W_law_239 : decode b_W_law 239 = .ok (.iload_n 3, 1) := by decide +kernel
theorem d_W_law_240 : decode b_W_law 240 = .ok (.iconst 1, 1) := by decide +kernel
theorem d_W_law_241 : decode b_W_law 241 = .ok (.iadd, 1) := by decide +kernel
theorem d_W_law_242 : decode b_W_law 242 = .ok (.iaload, 1) := by decide +kernel
theorem d_W_law_243 : decode b_W_law 243 = .ok (.aload_n 0, 1) := by decide +kernel
theorem d_W_law_244 : decode b_W_law 244 = .ok (.iload_n 3, 1) := by decide +kernel
theorem d_W_law_245 : decode b_W_law 245 = .ok (.iconst 2, 1) := by decide +kernel
theorem d_W_law_246 : decode b_W_law 246 = .ok (.iadd, 1) := by decide +kernel
theorem d_W_law_247 : decode b_W_law 247 = .ok (.iaload, 1) := by decide +kernel
theorem d_W_law_248 : decode b_W_law 248 = .ok (.ifCond .eq 7, 3) := by decide +kernel
theorem d_W_law_251 : decode b_W_law 251 = .ok (.iconst 1, 1) := by decide +kernel
theorem d_W_law_252 : decode b_W_law 252 = .ok (.goto 4, 3) := by decide +kernel
theorem d_W_law_255 : decode b_W_law 255 = .ok (.iconst 0, 1) := by decide +kernel
theorem d_W_law_256 : decode b_W_law 256 = .ok (.invokevirtual 44, 3) := by decide +kernel
theorem d_W_law_259 : decode b_W_law 259 = .ok (.aload_n 2, 1) := by decide +kernel
theorem d_W_law_260 : decode b_W_law 260 = .ok (.aload_n 0, 1) := by decide +kernel
theorem d_W_law_261 : decode b_W_law 261 = .ok (.iload_n 3, 1) := by decide +kernel
theorem d_W_law_262 : decode b_W_law 262 = .ok (.iconst 1, 1) := by decide +kernel
theorem d_W_law_263 : decode b_W_law 263 = .ok (.iadd, 1) := by decide +kernel
theorem d_W_law_264 : decode b_W_law 264 = .ok (.iaload, 1) := by decide +kernel
theorem d_W_law_265 : decode b_W_law 265 = .ok (.aload_n 0, 1) := by decide +kernel
theorem d_W_law_266 : decode b_W_law 266 = .ok (.iload_n 3, 1) := by decide +kernel
theorem d_W_law_267 : decode b_W_law 267 = .ok (.iconst 2, 1) := by decide +kernel
theorem d_W_law_268 : decode b_W_law 268 = .ok (.iadd, 1) := by decide +kernel
theorem d_W_law_269 : decode b_W_law 269 = .ok (.iaload, 1) := by decide +kernel
theorem d_W_law_270 : decode b_W_law 270 = .ok (.ifCond .eq 7, 3) := by decide +kernel
theorem d_W_law_273 : decode b_W_law 273 = .ok (.iconst 1, 1) := by decide +kernel
theorem d_W_law_274 : decode b_W_law 274 = .ok (.goto 4, 3) := by decide +kernel
theorem d_W_law_277 : decode b_W_law 277 = .ok (.iconst 0, 1) := by decide +kernel
theorem d_W_law_278 : decode b_W_law 278 = .ok (.invokevirtual 48, 3) := by decide +kernel
theorem d_W_law_281 : decode b_W_law 281 = .ok (.if_icmp .eq 160, 3) := by decide +kernel
theorem d_W_law_284 : decode b_W_law 284 = .ok (.iconst 0, 1) := by decide +kernel
theorem d_W_law_285 : decode b_W_law 285 = .ok (.ireturn, 1) := by decide +kernel
theorem d_W_law_286 : decode b_W_law 286 = .ok (.aload_n 1, 1) := by decide +kernel
theorem d_W_law_287 : decode b_W_law 287 = .ok (.aload_n 0, 1) := by decide +kernel
theorem d_W_law_288 : decode b_W_law 288 = .ok (.iload_n 3, 1) := by decide +kernel
theorem d_W_law_289 : decode b_W_law 289 = .ok (.iconst 1, 1) := by decide +kernel
theorem d_W_law_290 : decode b_W_law 290 = .ok (.iadd, 1) := by decide +kernel
theorem d_W_law_291 : decode b_W_law 291 = .ok (.iaload, 1) := by decide +kernel
theorem d_W_law_292 : decode b_W_law 292 = .ok (.aload_n 0, 1) := by decide +kernel
theorem d_W_law_293 : decode b_W_law 293 = .ok (.iload_n 3, 1) := by decide +kernel
theorem d_W_law_294 : decode b_W_law 294 = .ok (.iconst 2, 1) := by decide +kernel
theorem d_W_law_295 : decode b_W_law 295 = .ok (.iadd, 1) := by decide +kernel
theorem d_W_law_296 : decode b_W_law 296 = .ok (.iaload, 1) := by decide +kernel
theorem d_W_law_297 : decode b_W_law 297 = .ok (.invokevirtual 49, 3) := by decide +kernel
theorem d_W_law_300 : decode b_W_law 300 = .ok (.aload_n 2, 1) := by decide +kernel
theorem d_W_law_301 : decode b_W_law 301 = .ok (.aload_n 0, 1) := by decide +kernel
theorem d_W_law_302 : decode b_W_law 302 = .ok (.iload_n 3, 1) := by decide +kernel
theorem d_W_law_303 : decode b_W_law 303 = .ok (.iconst 1, 1) := by decide +kernel
theorem d_W_law_304 : decode b_W_law 304 = .ok (.iadd, 1) := by decide +kernel
theorem d_W_law_305 : decode b_W_law 305 = .ok (.iaload, 1) := by decide +kernel
theorem d_W_law_306 : decode b_W_law 306 = .ok (.aload_n 0, 1) := by decide +kernel
theorem d_W_law_307 : decode b_W_law 307 = .ok (.iload_n 3, 1) := by decide +kernel
theorem d_W_law_308 : decode b_W_law 308 = .ok (.iconst 2, 1) := by decide +kernel
theorem d_W_law_309 : decode b_W_law 309 = .ok (.iadd, 1) := by decide +kernel
theorem d_W_law_310 : decode b_W_law 310 = .ok (.iaload, 1) := by decide +kernel
theorem d_W_law_311 : decode b_W_law 311 = .ok (.invokevirtual 53, 3) := by decide +kernel
theorem d_W_law_314 : decode b_W_law 314 = .ok (.if_icmp .eq 127, 3) := by decide +kernel
theorem d_W_law_317 : decode b_W_law 317 = .ok (.iconst 0, 1) := by decide +kernel
theorem d_W_law_318 : decode b_W_law 318 = .ok (.ireturn, 1) := by decide +kernel
theorem d_W_law_319 : decode b_W_law 319 = .ok (.aload_n 1, 1) := by decide +kernel
theorem d_W_law_320 : decode b_W_law 320 = .ok (.aload_n 0, 1) := by decide +kernel
theorem d_W_law_321 : decode b_W_law 321 = .ok (.iload_n 3, 1) := by decide +kernel
theorem d_W_law_322 : decode b_W_law 322 = .ok (.iconst 1, 1) := by decide +kernel
theorem d_W_law_323 : decode b_W_law 323 = .ok (.iadd, 1) := by decide +kernel
theorem d_W_law_324 : decode b_W_law 324 = .ok (.iaload, 1) := by decide +kernel
theorem d_W_law_325 : decode b_W_law 325 = .ok (.aload_n 0, 1) := by decide +kernel
theorem d_W_law_326 : decode b_W_law 326 = .ok (.iload_n 3, 1) := by decide +kernel
theorem d_W_law_327 : decode b_W_law 327 = .ok (.iconst 2, 1) := by decide +kernel
theorem d_W_law_328 : decode b_W_law 328 = .ok (.iadd, 1) := by decide +kernel
theorem d_W_law_329 : decode b_W_law 329 = .ok (.iaload, 1) := by decide +kernel
theorem d_W_law_330 : decode b_W_law 330 = .ok (.invokevirtual 54, 3) := by decide +kernel
theorem d_W_law_333 : decode b_W_law 333 = .ok (.aload_n 2, 1) := by decide +kernel
theorem d_W_law_334 : decode b_W_law 334 = .ok (.aload_n 0, 1) := by decide +kernel
theorem d_W_law_335 : decode b_W_law 335 = .ok (.iload_n 3, 1) := by decide +kernel
theorem d_W_law_336 : decode b_W_law 336 = .ok (.iconst 1, 1) := by decide +kernel
theorem d_W_law_337 : decode b_W_law 337 = .ok (.iadd, 1) := by decide +kernel
theorem d_W_law_338 : decode b_W_law 338 = .ok (.iaload, 1) := by decide +kernel
theorem d_W_law_339 : decode b_W_law 339 = .ok (.aload_n 0, 1) := by decide +kernel
theorem d_W_law_340 : decode b_W_law 340 = .ok (.iload_n 3, 1) := by decide +kernel
theorem d_W_law_341 : decode b_W_law 341 = .ok (.iconst 2, 1) := by decide +kernel
theorem d_W_law_342 : decode b_W_law 342 = .ok (.iadd, 1) := by decide +kernel
theorem d_W_law_343 : decode b_W_law 343 = .ok (.iaload, 1) := by decide +kernel
theorem d_W_law_344 : decode b_W_law 344 = .ok (.invokevirtual 57, 3) := by decide +kernel
theorem d_W_law_347 : decode b_W_law 347 = .ok (.if_icmp .eq 94, 3) := by decide +kernel
theorem d_W_law_350 : decode b_W_law 350 = .ok (.iconst 0, 1) := by decide +kernel
theorem d_W_law_351 : decode b_W_law 351 = .ok (.ireturn, 1) := by decide +kernel
theorem d_W_law_352 : decode b_W_law 352 = .ok (.aload_n 1, 1) := by decide +kernel
theorem d_W_law_353 : decode b_W_law 353 = .ok (.aload_n 0, 1) := by decide +kernel
theorem d_W_law_354 : decode b_W_law 354 = .ok (.iload_n 3, 1) := by decide +kernel
theorem d_W_law_355 : decode b_W_law 355 = .ok (.iconst 1, 1) := by decide +kernel
theorem d_W_law_356 : decode b_W_law 356 = .ok (.iadd, 1) := by decide +kernel
theorem d_W_law_357 : decode b_W_law 357 = .ok (.iaload, 1) := by decide +kernel
theorem d_W_law_358 : decode b_W_law 358 = .ok (.aload_n 0, 1) := by decide +kernel
theorem d_W_law_359 : decode b_W_law 359 = .ok (.iload_n 3, 1) := by decide +kernel
theorem d_W_law_360 : decode b_W_law 360 = .ok (.iconst 2, 1) := by decide +kernel
theorem d_W_law_361 : decode b_W_law 361 = .ok (.iadd, 1) := by decide +kernel
theorem d_W_law_362 : decode b_W_law 362 = .ok (.iaload, 1) := by decide +kernel
theorem d_W_law_363 : decode b_W_law 363 = .ok (.invokevirtual 58, 3) := by decide +kernel
theorem d_W_law_366 : decode b_W_law 366 = .ok (.aload_n 2, 1) := by decide +kernel
theorem d_W_law_367 : decode b_W_law 367 = .ok (.aload_n 0, 1) := by decide +kernel
theorem d_W_law_368 : decode b_W_law 368 = .ok (.iload_n 3, 1) := by decide +kernel
theorem d_W_law_369 : decode b_W_law 369 = .ok (.iconst 1, 1) := by decide +kernel
theorem d_W_law_370 : decode b_W_law 370 = .ok (.iadd, 1) := by decide +kernel
theorem d_W_law_371 : decode b_W_law 371 = .ok (.iaload, 1) := by decide +kernel
theorem d_W_law_372 : decode b_W_law 372 = .ok (.aload_n 0, 1) := by decide +kernel
theorem d_W_law_373 : decode b_W_law 373 = .ok (.iload_n 3, 1) := by decide +kernel
theorem d_W_law_374 : decode b_W_law 374 = .ok (.iconst 2, 1) := by decide +kernel
theorem d_W_law_375 : decode b_W_law 375 = .ok (.iadd, 1) := by decide +kernel
theorem d_W_law_376 : decode b_W_law 376 = .ok (.iaload, 1) := by decide +kernel
theorem d_W_law_377 : decode b_W_law 377 = .ok (.invokevirtual 61, 3) := by decide +kernel
theorem d_W_law_380 : decode b_W_law 380 = .ok (.if_icmp .eq 61, 3) := by decide +kernel
theorem d_W_law_383 : decode b_W_law 383 = .ok (.iconst 0, 1) := by decide +kernel
theorem d_W_law_384 : decode b_W_law 384 = .ok (.ireturn, 1) := by decide +kernel
theorem d_W_law_385 : decode b_W_law 385 = .ok (.aload_n 1, 1) := by decide +kernel
theorem d_W_law_386 : decode b_W_law 386 = .ok (.aload_n 0, 1) := by decide +kernel
theorem d_W_law_387 : decode b_W_law 387 = .ok (.iload_n 3, 1) := by decide +kernel
theorem d_W_law_388 : decode b_W_law 388 = .ok (.iconst 1, 1) := by decide +kernel
theorem d_W_law_389 : decode b_W_law 389 = .ok (.iadd, 1) := by decide +kernel
theorem d_W_law_390 : decode b_W_law 390 = .ok (.iaload, 1) := by decide +kernel
theorem d_W_law_391 : decode b_W_law 391 = .ok (.aload_n 0, 1) := by decide +kernel
theorem d_W_law_392 : decode b_W_law 392 = .ok (.iload_n 3, 1) := by decide +kernel
theorem d_W_law_393 : decode b_W_law 393 = .ok (.iconst 2, 1) := by decide +kernel
theorem d_W_law_394 : decode b_W_law 394 = .ok (.iadd, 1) := by decide +kernel
theorem d_W_law_395 : decode b_W_law 395 = .ok (.iaload, 1) := by decide +kernel
theorem d_W_law_396 : decode b_W_law 396 = .ok (.invokevirtual 62, 3) := by decide +kernel
theorem d_W_law_399 : decode b_W_law 399 = .ok (.aload_n 2, 1) := by decide +kernel
theorem d_W_law_400 : decode b_W_law 400 = .ok (.aload_n 0, 1) := by decide +kernel
theorem d_W_law_401 : decode b_W_law 401 = .ok (.iload_n 3, 1) := by decide +kernel
theorem d_W_law_402 : decode b_W_law 402 = .ok (.iconst 1, 1) := by decide +kernel
theorem d_W_law_403 : decode b_W_law 403 = .ok (.iadd, 1) := by decide +kernel
theorem d_W_law_404 : decode b_W_law 404 = .ok (.iaload, 1) := by decide +kernel
theorem d_W_law_405 : decode b_W_law 405 = .ok (.aload_n 0, 1) := by decide +kernel
theorem d_W_law_406 : decode b_W_law 406 = .ok (.iload_n 3, 1) := by decide +kernel
theorem d_W_law_407 : decode b_W_law 407 = .ok (.iconst 2, 1) := by decide +kernel
theorem d_W_law_408 : decode b_W_law 408 = .ok (.iadd, 1) := by decide +kernel
theorem d_W_law_409 : decode b_W_law 409 = .ok (.iaload, 1) := by decide +kernel
theorem d_W_law_410 : decode b_W_law 410 = .ok (.invokevirtual 65, 3) := by decide +kernel
theorem d_W_law_413 : decode b_W_law 413 = .ok (.if_icmp .eq 28, 3) := by decide +kernel
theorem d_W_law_416 : decode b_W_law 416 = .ok (.iconst 0, 1) := by decide +kernel
theorem d_W_law_417 : decode b_W_law 417 = .ok (.ireturn, 1) := by decide +kernel
theorem d_W_law_418 : decode b_W_law 418 = .ok (.aload_n 1, 1) := by decide +kernel
theorem d_W_law_419 : decode b_W_law 419 = .ok (.aload_n 0, 1) := by decide +kernel
theorem d_W_law_420 : decode b_W_law 420 = .ok (.iload_n 3, 1) := by decide +kernel
theorem d_W_law_421 : decode b_W_law 421 = .ok (.iconst 1, 1) := by decide +kernel
theorem d_W_law_422 : decode b_W_law 422 = .ok (.iadd, 1) := by decide +kernel
theorem d_W_law_423 : decode b_W_law 423 = .ok (.iaload, 1) := by decide +kernel
theorem d_W_law_424 : decode b_W_law 424 = .ok (.invokevirtual 66, 3) := by decide +kernel
theorem d_W_law_427 : decode b_W_law 427 = .ok (.aload_n 2, 1) := by decide +kernel
theorem d_W_law_428 : decode b_W_law 428 = .ok (.aload_n 0, 1) := by decide +kernel
theorem d_W_law_429 : decode b_W_law 429 = .ok (.iload_n 3, 1) := by decide +kernel
theorem d_W_law_430 : decode b_W_law 430 = .ok (.iconst 1, 1) := by decide +kernel
theorem d_W_law_431 : decode b_W_law 431 = .ok (.iadd, 1) := by decide +kernel
theorem d_W_law_432 : decode b_W_law 432 = .ok (.iaload, 1) := by decide +kernel
theorem d_W_law_433 : decode b_W_law 433 = .ok (.invokevirtual 69, 3) := by decide +kernel
theorem d_W_law_436 : decode b_W_law 436 = .ok (.if_icmp .eq 5, 3) := by decide +kernel
theorem d_W_law_439 : decode b_W_law 439 = .ok (.iconst 0, 1) := by decide +kernel
theorem d_W_law_440 : decode b_W_law 440 = .ok (.ireturn, 1) := by decide +kernel
theorem d_W_law_441 : decode b_W_law 441 = .ok (.iinc 3 3, 3) := by decide +kernel
theorem d_W_law_444 : decode b_W_law 444 = .ok (.goto (-406), 3) := by decide +kernel
theorem d_W_law_447 : decode b_W_law 447 = .ok (.iconst 1, 1) := by decide +kernel
theorem d_W_law_448 : decode b_W_law 448 = .ok (.ireturn, 1) := by decide +kernel
