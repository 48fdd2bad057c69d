theorem d_L_law_0 : decode c_L_law 0 = .ok (.new 7, 3) := by decide +kernel
theorem d_L_law_3 : decode c_L_law 3 = .ok (.dup, 1) := by decide +kernel
theorem d_L_law_4 : decode c_L_law 4 = .ok (.invokespecial 9, 3) := by decide +kernel
theorem d_L_law_7 : decode c_L_law 7 = .ok (.astore_n 1, 1) := by decide +kernel
theorem d_L_law_8 : decode c_L_law 8 = .ok (.new 10, 3) := by decide +kernel
theorem d_L_law_11 : decode c_L_law 11 = .ok (.dup, 1) := by decide +kernel
theorem d_L_law_12 : decode c_L_law 12 = .ok (.invokespecial 12, 3) := by decide +kernel
theorem d_L_law_15 : decode c_L_law 15 = .ok (.astore_n 2, 1) := by decide +kernel
theorem d_L_law_16 : decode c_L_law 16 = .ok (.iconst 0, 1) := by decide +kernel
theorem d_L_law_17 : decode c_L_law 17 = .ok (.istore_n 3, 1) := by decide +kernel
theorem d_L_law_18 : decode c_L_law 18 = .ok (.iload_n 3, 1) := by decide +kernel
theorem d_L_law_19 : decode c_L_law 19 = .ok (.aload_n 0, 1) := by decide +kernel
theorem d_L_law_20 : decode c_L_law 20 = .ok (.arraylength, 1) := by decide +kernel
theorem d_L_law_21 : decode c_L_law 21 = .ok (.bipush 6, 2) := by decide +kernel
theorem d_L_law_23 : decode c_L_law 23 = .ok (.isub, 1) := by decide +kernel
theorem d_L_law_24 : decode c_L_law 24 = .ok (.if_icmp .gt 783, 3) := by decide +kernel
theorem d_L_law_27 : decode c_L_law 27 = .ok (.aload_n 0, 1) := by decide +kernel
theorem d_L_law_28 : decode c_L_law 28 = .ok (.iload_n 3, 1) := by decide +kernel
theorem d_L_law_29 : decode c_L_law 29 = .ok (.iaload, 1) := by decide +kernel
theorem d_L_law_30 : decode c_L_law 30 = .ok (.bipush 31, 2) := by decide +kernel
theorem d_L_law_32 : decode c_L_law 32 = .ok (.iand, 1) := by decide +kernel
theorem d_L_law_33 : decode c_L_law 33 = .ok (.tableswitch 768 0 16 #[83, 126, 159, 202, 265, 298, 331, 354, 397, 446, 495, 554, 587, 636, 659, 702, 745], 83) := by decide +kernel
theorem d_L_law_116 : decode c_L_law 116 = .ok (.aload_n 1, 1) := by decide +kernel
theorem d_L_law_117 : decode c_L_law 117 = .ok (.aload_n 0, 1) := by decide +kernel
theorem d_L_law_118 : decode c_L_law 118 = .ok (.iload_n 3, 1) := by decide +kernel
theorem d_L_law_119 : decode c_L_law 119 = .ok (.iconst 1, 1) := by decide +kernel
theorem d_L_law_120 : decode c_L_law 120 = .ok (.iadd, 1) := by decide +kernel
theorem d_L_law_121 : decode c_L_law 121 = .ok (.iaload, 1) := by decide +kernel
theorem d_L_law_122 : decode c_L_law 122 = .ok (.aload_n 0, 1) := by decide +kernel
theorem d_L_law_123 : decode c_L_law 123 = .ok (.iload_n 3, 1) := by decide +kernel
theorem d_L_law_124 : decode c_L_law 124 = .ok (.iconst 2, 1) := by decide +kernel
theorem d_L_law_125 : decode c_L_law 125 = .ok (.iadd, 1) := by decide +kernel
theorem d_L_law_126 : decode c_L_law 126 = .ok (.iaload, 1) := by decide +kernel
theorem d_L_law_127 : decode c_L_law 127 = .ok (.aload_n 0, 1) := by decide +kernel
theorem d_L_law_128 : decode c_L_law 128 = .ok (.iload_n 3, 1) := by decide +kernel
theorem d_L_law_129 : decode c_L_law 129 = .ok (.iconst 3, 1) := by decide +kernel
theorem d_L_law_130 : decode c_L_law 130 = .ok (.iadd, 1) := by decide +kernel
theorem d_L_law_131 : decode c_L_law 131 = .ok (.iaload, 1) := by decide +kernel
theorem d_L_law_132 : decode c_L_law 132 = .ok (.invokevirtual 13, 3) := by decide +kernel
theorem d_L_law_135 : decode c_L_law 135 = .ok (.aload_n 2, 1) := by decide +kernel
theorem d_L_law_136 : decode c_L_law 136 = .ok (.aload_n 0, 1) := by decide +kernel
theorem d_L_law_137 : decode c_L_law 137 = .ok (.iload_n 3, 1) := by decide +kernel
theorem d_L_law_138 : decode c_L_law 138 = .ok (.iconst 1, 1) := by decide +kernel
theorem d_L_law_139 : decode c_L_law 139 = .ok (.iadd, 1) := by decide +kernel
theorem d_L_law_140 : decode c_L_law 140 = .ok (.iaload, 1) := by decide +kernel
theorem d_L_law_141 : decode c_L_law 141 = .ok (.aload_n 0, 1) := by decide +kernel
theorem d_L_law_142 : decode c_L_law 142 = .ok (.iload_n 3, 1) := by decide +kernel
theorem d_L_law_143 : decode c_L_law 143 = .ok (.iconst 2, 1) := by decide +kernel
theorem d_L_law_144 : decode c_L_law 144 = .ok (.iadd, 1) := by decide +kernel
theorem d_L_law_145 : decode c_L_law 145 = .ok (.iaload, 1) := by decide +kernel
theorem d_L_law_146 : decode c_L_law 146 = .ok (.aload_n 0, 1) := by decide +kernel
theorem d_L_law_147 : decode c_L_law 147 = .ok (.iload_n 3, 1) := by decide +kernel
theorem d_L_law_148 : decode c_L_law 148 = .ok (.iconst 3, 1) := by decide +kernel
theorem d_L_law_149 : decode c_L_law 149 = .ok (.iadd, 1) := by decide +kernel
theorem d_L_law_150 : decode c_L_law 150 = .ok (.iaload, 1) := by decide +kernel
theorem d_L_law_151 : decode c_L_law 151 = .ok (.invokevirtual 17, 3) := by decide +kernel
theorem d_L_law_154 : decode c_L_law 154 = .ok (.if_icmp .eq 647, 3) := by decide +kernel
theorem d_L_law_157 : decode c_L_law 157 = .ok (.iconst 0, 1) := by decide +kernel
theorem d_L_law_158 : decode c_L_law 158 = .ok (.ireturn, 1) := by decide +kernel
theorem d_L_law_159 : decode c_L_law 159 = .ok (.aload_n 1, 1) := by decide +kernel
theorem d_L_law_160 : decode c_L_law 160 = .ok (.aload_n 0, 1) := by decide +kernel
theorem d_L_law_161 : decode c_L_law 161 = .ok (.iload_n 3, 1) := by decide +kernel
theorem d_L_law_162 : decode c_L_law 162 = .ok (.iconst 1, 1) := by decide +kernel
theorem d_L_law_163 : decode c_L_law 163 = .ok (.iadd, 1) := by decide +kernel
theorem d_L_law_164 : decode c_L_law 164 = .ok (.iaload, 1) := by decide +kernel
theorem d_L_law_165 : decode c_L_law 165 = .ok (.aload_n 0, 1) := by decide +kernel
theorem d_L_law_166 : decode c_L_law 166 = .ok (.iload_n 3, 1) := by decide +kernel
theorem d_L_law_167 : decode c_L_law 167 = .ok (.iconst 2, 1) := by decide +kernel
theorem d_L_law_168 : decode c_L_law 168 = .ok (.iadd, 1) := by decide +kernel
theorem d_L_law_169 : decode c_L_law 169 = .ok (.iaload, 1) := by decide +kernel
theorem d_L_law_170 : decode c_L_law 170 = .ok (.invokevirtual 18, 3) := by decide +kernel
theorem d_L_law_173 : decode c_L_law 173 = .ok (.aload_n 2, 1) := by decide +kernel
theorem d_L_law_174 : decode c_L_law 174 = .ok (.aload_n 0, 1) := by decide +kernel
theorem d_L_law_175 : decode c_L_law 175 = .ok (.iload_n 3, 1) := by decide +kernel
theorem d_L_law_176 : decode c_L_law 176 = .ok (.iconst 1, 1) := by decide +kernel
theorem d_L_law_177 : decode c_L_law 177 = .ok (.iadd, 1) := by decide +kernel
theorem d_L_law_178 : decode c_L_law 178 = .ok (.iaload, 1) := by decide +kernel
theorem d_L_law_179 : decode c_L_law 179 = .ok (.aload_n 0, 1) := by decide +kernel
theorem d_L_law_180 : decode c_L_law 180 = .ok (.iload_n 3, 1) := by decide +kernel
theorem d_L_law_181 : decode c_L_law 181 = .ok (.iconst 2, 1) := by decide +kernel
theorem d_L_law_182 : decode c_L_law 182 = .ok (.iadd, 1) := by decide +kernel
theorem d_L_law_183 : decode c_L_law 183 = .ok (.iaload, 1) := by decide +kernel
theorem d_L_law_184 : decode c_L_law 184 = .ok (.invokevirtual 22, 3) := by decide +kernel
theorem d_L_law_187 : decode c_L_law 187 = .ok (.if_icmp .eq 614, 3) := by decide +kernel
theorem d_L_law_190 : decode c_L_law 190 = .ok (.iconst 0, 1) := by decide +kernel
theorem d_L_law_191 : decode c_L_law 191 = .ok (.ireturn, 1) := by decide +kernel
theorem d_L_law_192 : decode c_L_law 192 = .ok (.aload_n 1, 1) := by decide +kernel
theorem d_L_law_193 : decode c_L_law 193 = .ok (.aload_n 0, 1) := by decide +kernel
theorem d_L_law_194 : decode c_L_law 194 = .ok (.iload_n 3, 1) := by decide +kernel
theorem d_L_law_195 : decode c_L_law 195 = .ok (.iconst 1, 1) := by decide +kernel
theorem d_L_law_196 : decode c_L_law 196 = .ok (.iadd, 1) := by decide +kernel
theorem d_L_law_197 : decode c_L_law 197 = .ok (.iaload, 1) := by decide +kernel
theorem d_L_law_198 : decode c_L_law 198 = .ok (.aload_n 0, 1) := by decide +kernel
theorem d_L_law_199 : decode c_L_law 199 = .ok (.iload_n 3, 1) := by decide +kernel
theorem d_L_law_200 : decode c_L_law 200 = .ok (.iconst 2, 1) := by decide +kernel
theorem d_L_law_201 : decode c_L_law 201 = .ok (.iadd, 1) := by decide +kernel
theorem d_L_law_202 : decode c_L_law 202 = .ok (.iaload, 1) := by decide +kernel
theorem d_L_law_203 : decode c_L_law 203 = .ok (.aload_n 0, 1) := by decide +kernel
theorem d_L_law_204 : decode c_L_law 204 = .ok (.iload_n 3, 1) := by decide +kernel
theorem d_L_law_205 : decode c_L_law 205 = .ok (.iconst 3, 1) := by decide +kernel
theorem d_L_law_206 : decode c_L_law 206 = .ok (.iadd, 1) := by decide +kernel
theorem d_L_law_207 : decode c_L_law 207 = .ok (.iaload, 1) := by decide +kernel
theorem d_L_law_208 : decode c_L_law 208 = .ok (.invokevirtual 23, 3) := by decide +kernel
theorem d_L_law_211 : decode c_L_law 211 = .ok (.aload_n 2, 1) := by decide +kernel
theorem d_L_law_212 : decode c_L_law 212 = .ok (.aload_n 0, 1) := by decide +kernel
theorem d_L_law_213 : decode c_L_law 213 = .ok (.iload_n 3, 1) := by decide +kernel
theorem d_L_law_214 : decode c_L_law 214 = .ok (.iconst 1, 1) := by decide +kernel
theorem d_L_law_215 : decode c_L_law 215 = .ok (.iadd, 1) := by decide +kernel
theorem d_L_law_216 : decode c_L_law 216 = .ok (.iaload, 1) := by decide +kernel
theorem d_L_law_217 : decode c_L_law 217 = .ok (.aload_n 0, 1) := by decide +kernel
theorem d_L_law_218 : decode c_L_law 218 = .ok (.iload_n 3, 1) := by decide +kernel
theorem d_L_law_219 : decode c_L_law 219 = .ok (.iconst 2, 1) := by decide +kernel
theorem d_L_law_220 : decode c_L_law 220 = .ok (.iadd, 1) := by decide +kernel
theorem d_L_law_221 : decode c_L_law 221 = .ok (.iaload, 1) := by decide +kernel
theorem d_L_law_222 : decode c_L_law 222 = .ok (.aload_n 0, 1) := by decide +kernel
theorem d_L_law_223 : decode c_L_law 223 = .ok (.iload_n 3, 1) := by decide +kernel
theorem d_L_law_224 : decode c_L_law 224 = .ok (.iconst 3, 1) := by decide +kernel
theorem d_L_law_225 : decode c_L_law 225 = .ok (.iadd, 1) := by decide +kernel
theorem d_L_law_226 : decode c_L_law 226 = .ok (.iaload, 1) := by decide +kernel
theorem d_L_law_227 : decode c_L_law 227 = .ok (.invokevirtual 27, 3) := by decide +kernel
theorem d_L_law_230 : decode c_L_law 230 = .ok (.if_icmp .eq 571, 3) := by decide +kernel
theorem d_L_law_233 : decode c_L_law 233 = .ok (.iconst 0, 1) := by decide +kernel
theorem d_L_law_234 : decode c_L_law 234 = .ok (.ireturn, 1) := by decide +kernel
theorem d_L_law_235 : decode c_L_law 235 = .ok (.aload_n 1, 1) := by decide +kernel
theorem d_L_law_236 : decode c_L_law 236 = .ok (.aload_n 0, 1) := by decide +kernel
theorem d_L_law_237 : decode c_L_law 237 = .ok (.iload_n 3, 1) := by decide +kernel
theorem d_L_law_238 : decode c_L_law 238 = .ok (.iconst 1, 1) := by decide +kernel
theorem d_L_law_239 : decode c_L_law 239 = .ok (.iadd, 1) := by decide +kernel
theorem d_L_law_240 : decode c_L_law 240 = .ok (.iaload, 1) := by decide +kernel
theorem d_L_law_241 : decode c_L_law 241 = .ok (.aload_n 0, 1) := by decide +kernel
theorem d_L_law_242 : decode c_L_law 242 = .ok (.iload_n 3, 1) := by decide +kernel
theorem d_L_law_243 : decode c_L_law 243 = .ok (.iconst 2, 1) := by decide +kernel
theorem d_L_law_244 : decode c_L_law 244 = .ok (.iadd, 1) := by decide +kernel
theorem d_L_law_245 : decode c_L_law 245 = .ok (.iaload, 1) := by decide +kernel
theorem d_L_law_246 : decode c_L_law 246 = .ok (.aload_n 0, 1) := by decide +kernel
theorem d_L_law_247 : decode c_L_law 247 = .ok (.iload_n 3, 1) := by decide +kernel
theorem d_L_law_248 : decode c_L_law 248 = .ok (.iconst 3, 1) := by decide +kernel
theorem d_L_law_249 : decode c_L_law 249 = .ok (.iadd, 1) := by decide +kernel
theorem d_L_law_250 : decode c_L_law 250 = .ok (.iaload, 1) := by decide +kernel
theorem d_L_law_251 : decode c_L_law 251 = .ok (.aload_n 0, 1) := by decide +kernel
theorem d_L_law_252 : decode c_L_law 252 = .ok (.iload_n 3, 1) := by decide +kernel
theorem d_L_law_253 : decode c_L_law 253 = .ok (.iconst 4, 1) := by decide +kernel
theorem d_L_law_254 : decode c_L_law 254 = .ok (.iadd, 1) := by decide +kernel
theorem d_L_law_255 : decode c_L_law 255 = .ok (.iaload, 1) := by decide +kernel
theorem d_L_law_256 : decode c_L_law 256 = .ok (.aload_n 0, 1) := by decide +kernel
theorem d_L_law_257 : decode c_L_law 257 = .ok (.iload_n 3, 1) := by decide +kernel
theorem d_L_law_258 : decode c_L_law 258 = .ok (.iconst 5, 1) := by decide +kernel
theorem d_L_law_259 : decode c_L_law 259 = .ok (.iadd, 1) := by decide +kernel
theorem d_L_law_260 : decode c_L_law 260 = .ok (.iaload, 1) := by decide +kernel
theorem d_L_law_261 : decode c_L_law 261 = .ok (.invokevirtual 28, 3) := by decide +kernel
theorem d_L_law_264 : decode c_L_law 264 = .ok (.aload_n 2, 1) := by decide +kernel
theorem d_L_law_265 : decode c_L_law 265 = .ok (.aload_n 0, 1) := by decide +kernel
theorem d_L_law_266 : decode c_L_law 266 = .ok (.iload_n 3, 1) := by decide +kernel
theorem d_L_law_267 : decode c_L_law 267 = .ok (.iconst 1, 1) := by decide +kernel
theorem d_L_law_268 : decode c_L_law 268 = .ok (.iadd, 1) := by decide +kernel
theorem d_L_law_269 : decode c_L_law 269 = .ok (.iaload, 1) := by decide +kernel
theorem d_L_law_270 : decode c_L_law 270 = .ok (.aload_n 0, 1) := by decide +kernel
theorem d_L_law_271 : decode c_L_law 271 = .ok (.iload_n 3, 1) := by decide +kernel
theorem d_L_law_272 : decode c_L_law 272 = .ok (.iconst 2, 1) := by decide +kernel
theorem d_L_law_273 : decode c_L_law 273 = .ok (.iadd, 1) := by decide +kernel
theorem d_L_law_274 : decode c_L_law 274 = .ok (.iaload, 1) := by decide +kernel
theorem d_L_law_275 : decode c_L_law 275 = .ok (.aload_n 0, 1) := by decide +kernel
theorem d_L_law_276 : decode c_L_law 276 = .ok (.iload_n 3, 1) := by decide +kernel
theorem d_L_law_277 : decode c_L_law 277 = .ok (.iconst 3, 1) := by decide +kernel
theorem d_L_law_278 : decode c_L_law 278 = .ok (.iadd, 1) := by decide +kernel
theorem d_L_law_279 : decode c_L_law 279 = .ok (.iaload, 1) := by decide +kernel
theorem d_L_law_280 : decode c_L_law 280 = .ok (.aload_n 0, 1) := by decide +kernel
theorem d_L_law_281 : decode c_L_law 281 = .ok (.iload_n 3, 1) := by decide +kernel
theorem d_L_law_282 : decode c_L_law 282 = .ok (.iconst 4, 1) := by decide +kernel
theorem d_L_law_283 : decode c_L_law 283 = .ok (.iadd, 1) := by decide +kernel
theorem d_L_law_284 : decode c_L_law 284 = .ok (.iaload, 1) := by decide +kernel
theorem d_L_law_285 : decode c_L_law 285 = .ok (.aload_n 0, 1) := by decide +kernel
theorem d_L_law_286 : decode c_L_law 286 = .ok (.iload_n 3, 1) := by decide +kernel
theorem d_L_law_287 : decode c_L_law 287 = .ok (.iconst 5, 1) := by decide +kernel
theorem d_L_law_288 : decode c_L_law 288 = .ok (.iadd, 1) := by decide +kernel
theorem d_L_law_289 : decode c_L_law 289 = .ok (.iaload, 1) := by decide +kernel
theorem d_L_law_290 : decode c_L_law 290 = .ok (.invokevirtual 32, 3) := by decide +kernel
theorem d_L_law_293 : decode c_L_law 293 = .ok (.if_icmp .eq 508, 3) := by decide +kernel
theorem d_L_law_296 : decode c_L_law 296 = .ok (.iconst 0, 1) := by decide +kernel
theorem d_L_law_297 : decode c_L_law 297 = .ok (.ireturn, 1) := by decide +kernel
theorem d_L_law_298 : decode c_L_law 298 = .ok (.aload_n 1, 1) := by decide +kernel
theorem d_L_law_299 : decode c_L_law 299 = .ok (.aload_n 0, 1) := by decide +kernel
theorem d_L_law_300 : decode c_L_law 300 = .ok (.iload_n 3, 1) := by decide +kernel
theorem d_L_law_301 : decode c_L_law 301 = .ok (.iconst 1, 1) := by decide +kernel
theorem d_L_law_302 : decode c_L_law 302 = .ok (.iadd, 1) := by decide +kernel
theorem d_L_law_303 : decode c_L_law 303 = .ok (.iaload, 1) := by decide +kernel
theorem d_L_law_304 : decode c_L_law 304 = .ok (.aload_n 0, 1) := by decide +kernel
theorem d_L_law_305 : decode c_L_law 305 = .ok (.iload_n 3, 1) := by decide +kernel
theorem d_L_law_306 : decode c_L_law 306 = .ok (.iconst 2, 1) := by decide +kernel
theorem d_L_law_307 : decode c_L_law 307 = .ok (.iadd, 1) := by decide +kernel
theorem d_L_law_308 : decode c_L_law 308 = .ok (.iaload, 1) := by decide +kernel
theorem d_L_law_309 : decode c_L_law 309 = .ok (.invokevirtual 33, 3) := by decide +kernel
theorem d_L_law_312 : decode c_L_law 312 = .ok (.aload_n 2, 1) := by decide +kernel
theorem d_L_law_313 : decode c_L_law 313 = .ok (.aload_n 0, 1) := by decide +kernel
theorem d_L_law_314 : decode c_L_law 314 = .ok (.iload_n 3, 1) := by decide +kernel
theorem d_L_law_315 : decode c_L_law 315 = .ok (.iconst 1, 1) := by decide +kernel
theorem d_L_law_316 : decode c_L_law 316 = .ok (.iadd, 1) := by decide +kernel
theorem d_L_law_317 : decode c_L_law 317 = .ok (.iaload, 1) := by decide +kernel
theorem d_L_law_318 : decode c_L_law 318 = .ok (.aload_n 0, 1) := by decide +kernel
theorem d_L_law_319 : decode c_L_law 319 = .ok (.iload_n 3, 1) := by decide +kernel
theorem d_L_law_320 : decode c_L_law 320 = .ok (.iconst 2, 1) := by decide +kernel
theorem d_L_law_321 : decode c_L_law 321 = .ok (.iadd, 1) := by decide +kernel
theorem d_L_law_322 : decode c_L_law 322 = .ok (.iaload, 1) := by decide +kernel
theorem d_L_law_323 : decode c_L_law 323 = .ok (.invokevirtual 36, 3) := by decide +kernel
theorem d_L_law_326 : decode c_L_law 326 = .ok (.if_icmp .eq 475, 3) := by decide +kernel
theorem d_L_law_329 : decode c_L_law 329 = .ok (.iconst 0, 1) := by decide +kernel
theorem d_L_law_330 : decode c_L_law 330 = .ok (.ireturn, 1) := by decide +kernel
theorem d_L_law_331 : decode c_L_law 331 = .ok (.aload_n 1, 1) := by decide +kernel
theorem d_L_law_332 : decode c_L_law 332 = .ok (.aload_n 0, 1) := by decide +kernel
theorem d_L_law_333 : decode c_L_law 333 = .ok (.iload_n 3, 1) := by decide +kernel
theorem d_L_law_334 : decode c_L_law 334 = .ok (.iconst 1, 1) := by decide +kernel
theorem d_L_law_335 : decode c_L_law 335 = .ok (.iadd, 1) := by decide +kernel
theorem d_L_law_336 : decode c_L_law 336 = .ok (.iaload, 1) := by decide +kernel
theorem d_L_law_337 : decode c_L_law 337 = .ok (.aload_n 0, 1) := by decide +kernel
theorem d_L_law_338 : decode c_L_law 338 = .ok (.iload_n 3, 1) := by decide +kernel
theorem d_L_law_339 : decode c_L_law 339 = .ok (.iconst 2, 1) := by decide +kernel
theorem d_L_law_340 : decode c_L_law 340 = .ok (.iadd, 1) := by decide +kernel
theorem d_L_law_341 : decode c_L_law 341 = .ok (.iaload, 1) := by decide +kernel
theorem d_L_law_342 : decode c_L_law 342 = .ok (.invokevirtual 37, 3) := by decide +kernel
theorem d_L_law_345 : decode c_L_law 345 = .ok (.aload_n 2, 1) := by decide +kernel
theorem d_L_law_346 : decode c_L_law 346 = .ok (.aload_n 0, 1) := by decide +kernel
theorem d_L_law_347 : decode c_L_law 347 = .ok (.iload_n 3, 1) := by decide +kernel
theorem d_L_law_348 : decode c_L_law 348 = .ok (.iconst 1, 1) := by decide +kernel
theorem d_L_law_349 : decode c_L_law 349 = .ok (.iadd, 1) := by decide +kernel
theorem d_L_law_350 : decode c_L_law 350 = .ok (.iaload, 1) := by decide +kernel
theorem d_L_law_351 : decode c_L_law 351 = .ok (.aload_n 0, 1) := by decide +kernel
theorem d_L_law_352 : decode c_L_law 352 = .ok (.iload_n 3, 1) := by decide +kernel
theorem d_L_law_353 : decode c_L_law 353 = .ok (.iconst 2, 1) := by decide +kernel
theorem d_L_law_354 : decode c_L_law 354 = .ok (.iadd, 1) := by decide +kernel
theorem d_L_law_355 : decode c_L_law 355 = .ok (.iaload, 1) := by decide +kernel
theorem d_L_law_356 : decode c_L_law 356 = .ok (.invokevirtual 40, 3) := by decide +kernel
theorem d_L_law_359 : decode c_L_law 359 = .ok (.if_icmp .eq 442, 3) := by decide +kernel
theorem d_L_law_362 : decode c_L_law 362 = .ok (.iconst 0, 1) := by decide +kernel
theorem d_L_law_363 : decode c_L_law 363 = .ok (.ireturn, 1) := by decide +kernel
theorem d_L_law_364 : decode c_L_law 364 = .ok (.aload_n 1, 1) := by decide +kernel
theorem d_L_law_365 : decode c_L_law 365 = .ok (.aload_n 0, 1) := by decide +kernel
theorem d_L_law_366 : decode c_L_law 366 = .ok (.iload_n 3, 1) := by decide +kernel
theorem d_L_law_367 : decode c_L_law 367 = .ok (.iconst 1, 1) := by decide +kernel
theorem d_L_law_368 : decode c_L_law 368 = .ok (.iadd, 1) := by decide +kernel
theorem d_L_law_369 : decode c_L_law 369 = .ok (.iaload, 1) := by decide +kernel
theorem d_L_law_370 : decode c_L_law 370 = .ok (.invokevirtual 41, 3) := by decide +kernel
theorem d_L_law_373 : decode c_L_law 373 = .ok (.aload_n 2, 1) := by decide +kernel
theorem d_L_law_374 : decode c_L_law 374 = .ok (.aload_n 0, 1) := by decide +kernel
theorem d_L_law_375 : decode c_L_law 375 = .ok (.iload_n 3, 1) := by decide +kernel
theorem d_L_law_376 : decode c_L_law 376 = .ok (.iconst 1, 1) := by decide +kernel
theorem d_L_law_377 : decode c_L_law 377 = .ok (.iadd, 1) := by decide +kernel
theorem d_L_law_378 : decode c_L_law 378 = .ok (.iaload, 1) := by decide +kernel
theorem d_L_law_379 : decode c_L_law 379 = .ok (.invokevirtual 45, 3) := by decide +kernel
theorem d_L_law_382 : decode c_L_law 382 = .ok (.if_icmp .eq 419, 3) := by decide +kernel
theorem d_L_law_385 : decode c_L_law 385 = .ok (.iconst 0, 1) := by decide +kernel
theorem d_L_law_386 : decode c_L_law 386 = .ok (.ireturn, 1) := by decide +kernel
theorem d_L_law_387 : decode c_L_law 387 = .ok (.aload_n 1, 1) := by decide +kernel
theorem d_L_law_388 : decode c_L_law 388 = .ok (.aload_n 0, 1) := by decide +kernel
theorem d_L_law_389 : decode c_L_law 389 = .ok (.iload_n 3, 1) := by decide +kernel
theorem d_L_law_390 : decode c_L_law 390 = .ok (.iconst 1, 1) := by decide +kernel
theorem d_L_law_391 : decode c_L_law 391 = .ok (.iadd, 1) := by decide +kernel
theorem d_L_law_392 : decode c_L_law 392 = .ok (.iaload, 1) := by decide +kernel
theorem d_L_law_393 : decode c_L_law 393 = .ok (.aload_n 0, 1) := by decide +kernel
theorem d_L_law_394 : decode c_L_law 394 = .ok (.iload_n 3, 1) := by decide +kernel
theorem d_L_law_395 : decode c_L_law 395 = .ok (.iconst 2, 1) := by decide +kernel
theorem d_L_law_396 : decode c_L_law 396 = .ok (.iadd, 1) := by decide +kernel
theorem d_L_law_397 : decode c_L_law 397 = .ok (.iaload, 1) := by decide +kernel
theorem d_L_law_398 : decode c_L_law 398 = .ok (.aload_n 0, 1) := by decide +kernel
theorem d_L_law_399 : decode c_L_law 399 = .ok (.iload_n 3, 1) := by decide +kernel
theorem d_L_law_400 : decode c_L_law 400 = .ok (.iconst 3, 1) := by decide +kernel
theorem d_L_law_401 : decode c_L_law 401 = .ok (.iadd, 1) := by decide +kernel
theorem d_L_law_402 : decode c_L_law 402 = .ok (.iaload, 1) := by decide +kernel
theorem d_L_law_403 : decode c_L_law 403 = .ok (.invokevirtual 46, 3) := by decide +kernel
theorem d_L_law_406 : decode c_L_law 406 = .ok (.aload_n 2, 1) := by decide +kernel
theorem d_L_law_407 : decode c_L_law 407 = .ok (.aload_n 0, 1) := by decide +kernel
theorem d_L_law_408 : decode c_L_law 408 = .ok (.iload_n 3, 1) := by decide +kernel
theorem d_L_law_409 : decode c_L_law 409 = .ok (.iconst 1, 1) := by decide +kernel
theorem d_L_law_410 : decode c_L_law 410 = .ok (.iadd, 1) := by decide +kernel
theorem d_L_law_411 : decode c_L_law 411 = .ok (.iaload, 1) := by decide +kernel
theorem d_L_law_412 : decode c_L_law 412 = .ok (.aload_n 0, 1) := by decide +kernel
theorem d_L_law_413 : decode c_L_law 413 = .ok (.iload_n 3, 1) := by decide +kernel
theorem d_L_law_414 : decode c_L_law 414 = .ok (.iconst 2, 1) := by decide +kernel
theorem d_L_law_415 : decode c_L_law 415 = .ok (.iadd, 1) := by decide +kernel
theorem d_L_law_416 : decode c_L_law 416 = .ok (.iaload, 1) := by decide +kernel
theorem d_L_law_417 : decode c_L_law 417 = .ok (.aload_n 0, 1) := by decide +kernel
theorem d_L_law_418 : decode c_L_law 418 = .ok (.iload_n 3, 1) := by decide +kernel
theorem d_L_law_419 : decode c_L_law 419 = .ok (.iconst 3, 1) := by decide +kernel
theorem d_L_law_420 : decode c_L_law 420 = .ok (.iadd, 1) := by decide +kernel
theorem d_L_law_421 : decode c_L_law 421 = .ok (.iaload, 1) := by decide +kernel
theorem d_L_law_422 : decode c_L_law 422 = .ok (.invokevirtual 49, 3) := by decide +kernel
theorem d_L_law_425 : decode c_L_law 425 = .ok (.if_icmp .eq 376, 3) := by decide +kernel
theorem d_L_law_428 : decode c_L_law 428 = .ok (.iconst 0, 1) := by decide +kernel
theorem d_L_law_429 : decode c_L_law 429 = .ok (.ireturn, 1) := by decide +kernel
theorem d_L_law_430 : decode c_L_law 430 = .ok (.aload_n 1, 1) := by decide +kernel
theorem d_L_law_431 : decode c_L_law 431 = .ok (.aload_n 0, 1) := by decide +kernel
theorem d_L_law_432 : decode c_L_law 432 = .ok (.iload_n 3, 1) := by decide +kernel
theorem d_L_law_433 : decode c_L_law 433 = .ok (.iconst 1, 1) := by decide +kernel
theorem d_L_law_434 : decode c_L_law 434 = .ok (.iadd, 1) := by decide +kernel
theorem d_L_law_435 : decode c_L_law 435 = .ok (.iaload, 1) := by decide +kernel
theorem d_L_law_436 : decode c_L_law 436 = .ok (.aload_n 0, 1) := by decide +kernel
theorem d_L_law_437 : decode c_L_law 437 = .ok (.iload_n 3, 1) := by decide +kernel
theorem d_L_law_438 : decode c_L_law 438 = .ok (.iconst 2, 1) := by decide +kernel
theorem d_L_law_439 : decode c_L_law 439 = .ok (.iadd, 1) := by decide +kernel
theorem d_L_law_440 : decode c_L_law 440 = .ok (.iaload, 1) := by decide +kernel
theorem d_L_law_441 : decode c_L_law 441 = .ok (.ifCond .eq 7, 3) := by decide +kernel
theorem d_L_law_444 : decode c_L_law 444 = .ok (.iconst 1, 1) := by decide +kernel
theorem d_L_law_445 : decode c_L_law 445 = .ok (.goto 4, 3) := by decide +kernel
theorem d_L_law_448 : decode c_L_law 448 = .ok (.iconst 0, 1) := by decide +kernel
theorem d_L_law_449 : decode c_L_law 449 = .ok (.invokevirtual 50, 3) := by decide +kernel
theorem d_L_law_452 : decode c_L_law 452 = .ok (.aload_n 2, 1) := by decide +kernel
theorem d_L_law_453 : decode c_L_law 453 = .ok (.aload_n 0, 1) := by decide +kernel
theorem d_L_law_454 : decode c_L_law 454 = .ok (.iload_n 3, 1) := by decide +kernel
theorem d_L_law_455 : decode c_L_law 455 = .ok (.iconst 1, 1) := by decide +kernel
theorem d_L_law_456 : decode c_L_law 456 = .ok (.iadd, 1) := by decide +kernel
theorem d_L_law_457 : decode c_L_law 457 = .ok (.iaload, 1) := by decide +kernel
theorem d_L_law_458 : decode c_L_law 458 = .ok (.aload_n 0, 1) := by decide +kernel
theorem d_L_law_459 : decode c_L_law 459 = .ok (.iload_n 3, 1) := by decide +kernel
theorem d_L_law_460 : decode c_L_law 460 = .ok (.iconst 2, 1) := by decide +kernel
theorem d_L_law_461 : decode c_L_law 461 = .ok (.iadd, 1) := by decide +kernel
theorem d_L_law_462 : decode c_L_law 462 = .ok (.iaload, 1) := by decide +kernel
theorem d_L_law_463 : decode c_L_law 463 = .ok (.ifCond .eq 7, 3) := by decide +kernel
theorem d_L_law_466 : decode c_L_law 466 = .ok (.iconst 1, 1) := by decide +kernel
theorem d_L_law_467 : decode c_L_law 467 = .ok (.goto 4, 3) := by decide +kernel
theorem d_L_law_470 : decode c_L_law 470 = .ok (.iconst 0, 1) := by decide +kernel
theorem d_L_law_471 : decode c_L_law 471 = .ok (.invokevirtual 54, 3) := by decide +kernel
theorem d_L_law_474 : decode c_L_law 474 = .ok (.if_icmp .eq 327, 3) := by decide +kernel
theorem d_L_law_477 : decode c_L_law 477 = .ok (.iconst 0, 1) := by decide +kernel
theorem d_L_law_478 : decode c_L_law 478 = .ok (.ireturn, 1) := by decide +kernel
theorem d_L_law_479 : decode c_L_law 479 = .ok (.aload_n 1, 1) := by decide +kernel
theorem d_L_law_480 : decode c_L_law 480 = .ok (.aload_n 0, 1) := by decide +kernel
theorem d_L_law_481 : decode c_L_law 481 = .ok (.iload_n 3, 1) := by decide +kernel
theorem d_L_law_482 : decode c_L_law 482 = .ok (.iconst 1, 1) := by decide +kernel
theorem d_L_law_483 : decode c_L_law 483 = .ok (.iadd, 1) := by decide +kernel
theorem d_L_law_484 : decode c_L_law 484 = .ok (.iaload, 1) := by decide +kernel
theorem d_L_law_485 : decode c_L_law 485 = .ok (.aload_n 0, 1) := by decide +kernel
theorem d_L_law_486 : decode c_L_law 486 = .ok (.iload_n 3, 1) := by decide +kernel
theorem d_L_law_487 : decode c_L_law 487 = .ok (.iconst 2, 1) := by decide +kernel
theorem d_L_law_488 : decode c_L_law 488 = .ok (.iadd, 1) := by decide +kernel
theorem d_L_law_489 : decode c_L_law 489 = .ok (.iaload, 1) := by decide +kernel
theorem d_L_law_490 : decode c_L_law 490 = .ok (.ifCond .eq 7, 3) := by decide +kernel
theorem d_L_law_493 : decode c_L_law 493 = .ok (.iconst 1, 1) := by decide +kernel
theorem d_L_law_494 : decode c_L_law 494 = .ok (.goto 4, 3) := by decide +kernel
theorem d_L_law_497 : decode c_L_law 497 = .ok (.iconst 0, 1) := by decide +kernel
theorem d_L_law_498 : decode c_L_law 498 = .ok (.invokevirtual 55, 3) := by decide +kernel
theorem d_L_law_501 : decode c_L_law 501 = .ok (.aload_n 2, 1) := by decide +kernel
theorem d_L_law_502 : decode c_L_law 502 = .ok (.aload_n 0, 1) := by decide +kernel
theorem d_L_law_503 : decode c_L_law 503 = .ok (.iload_n 3, 1) := by decide +kernel
theorem d_L_law_504 : decode c_L_law 504 = .ok (.iconst 1, 1) := by decide +kernel
theorem d_L_law_505 : decode c_L_law 505 = .ok (.iadd, 1) := by decide +kernel
theorem d_L_law_506 : decode c_L_law 506 = .ok (.iaload, 1) := by decide +kernel
theorem d_L_law_507 : decode c_L_law 507 = .ok (.aload_n 0, 1) := by decide +kernel
theorem d_L_law_508 : decode c_L_law 508 = .ok (.iload_n 3, 1) := by decide +kernel
theorem d_L_law_509 : decode c_L_law 509 = .ok (.iconst 2, 1) := by decide +kernel
theorem d_L_law_510 : decode c_L_law 510 = .ok (.iadd, 1) := by decide +kernel
theorem d_L_law_511 : decode c_L_law 511 = .ok (.iaload, 1) := by decide +kernel
theorem d_L_law_512 : decode c_L_law 512 = .ok (.ifCond .eq 7, 3) := by decide +kernel
theorem d_L_law_515 : decode c_L_law 515 = .ok (.iconst 1, 1) := by decide +kernel
theorem d_L_law_516 : decode c_L_law 516 = .ok (.goto 4, 3) := by decide +kernel
theorem d_L_law_519 : decode c_L_law 519 = .ok (.iconst 0, 1) := by decide +kernel
theorem d_L_law_520 : decode c_L_law 520 = .ok (.invokevirtual 58, 3) := by decide +kernel
theorem d_L_law_523 : decode c_L_law 523 = .ok (.if_icmp .eq 278, 3) := by decide +kernel
theorem d_L_law_526 : decode c_L_law 526 = .ok (.iconst 0, 1) := by decide +kernel
theorem d_L_law_527 : decode c_L_law 527 = .ok (.ireturn, 1) := by decide +kernel
theorem d_L_law_528 : decode c_L_law 528 = .ok (.aload_n 1, 1) := by decide +kernel
theorem d_L_law_529 : decode c_L_law 529 = .ok (.aload_n 0, 1) := by decide +kernel
theorem d_L_law_530 : decode c_L_law 530 = .ok (.iload_n 3, 1) := by decide +kernel
theorem d_L_law_531 : decode c_L_law 531 = .ok (.iconst 1, 1) := by decide +kernel
theorem d_L_law_532 : decode c_L_law 532 = .ok (.iadd, 1) := by decide +kernel
theorem d_L_law_533 : decode c_L_law 533 = .ok (.iaload, 1) := by decide +kernel
theorem d_L_law_534 : decode c_L_law 534 = .ok (.ifCond .eq 7, 3) := by decide +kernel
theorem d_L_law_537 : decode c_L_law 537 = .ok (.iconst 1, 1) := by decide +kernel
theorem d_L_law_538 : decode c_L_law 538 = .ok (.goto 4, 3) := by decide +kernel
theorem d_L_law_541 : decode c_L_law 541 = .ok (.iconst 0, 1) := by decide +kernel
theorem d_L_law_542 : decode c_L_law 542 = .ok (.aload_n 0, 1) := by decide +kernel
theorem d_L_law_543 : decode c_L_law 543 = .ok (.iload_n 3, 1) := by decide +kernel
theorem d_L_law_544 : decode c_L_law 544 = .ok (.iconst 2, 1) := by decide +kernel
theorem d_L_law_545 : decode c_L_law 545 = .ok (.iadd, 1) := by decide +kernel
theorem d_L_law_546 : decode c_L_law 546 = .ok (.iaload, 1) := by decide +kernel
theorem d_L_law_547 : decode c_L_law 547 = .ok (.aload_n 0, 1) := by decide +kernel
theorem d_L_law_548 : decode c_L_law 548 = .ok (.iload_n 3, 1) := by decide +kernel
theorem d_L_law_549 : decode c_L_law 549 = .ok (.iconst 3, 1) := by decide +kernel
theorem d_L_law_550 : decode c_L_law 550 = .ok (.iadd, 1) := by decide +kernel
theorem d_L_law_551 : decode c_L_law 551 = .ok (.iaload, 1) := by decide +kernel
theorem d_L_law_552 : decode c_L_law 552 = .ok (.invokevirtual 59, 3) := by decide +kernel
theorem d_L_law_555 : decode c_L_law 555 = .ok (.aload_n 2, 1) := by decide +kernel
theorem d_L_law_556 : decode c_L_law 556 = .ok (.aload_n 0, 1) := by decide +kernel
theorem d_L_law_557 : decode c_L_law 557 = .ok (.iload_n 3, 1) := by decide +kernel
theorem d_L_law_558 : decode c_L_law 558 = .ok (.iconst 1, 1) := by decide +kernel
theorem d_L_law_559 : decode c_L_law 559 = .ok (.iadd, 1) := by decide +kernel
theorem d_L_law_560 : decode c_L_law 560 = .ok (.iaload, 1) := by decide +kernel
theorem d_L_law_561 : decode c_L_law 561 = .ok (.ifCond .eq 7, 3) := by decide +kernel
theorem d_L_law_564 : decode c_L_law 564 = .ok (.iconst 1, 1) := by decide +kernel
theorem d_L_law_565 : decode c_L_law 565 = .ok (.goto 4, 3) := by decide +kernel
theorem d_L_law_568 : decode c_L_law 568 = .ok (.iconst 0, 1) := by decide +kernel
theorem d_L_law_569 : decode c_L_law 569 = .ok (.aload_n 0, 1) := by decide +kernel
theorem d_L_law_570 : decode c_L_law 570 = .ok (.iload_n 3, 1) := by decide +kernel
theorem d_L_law_571 : decode c_L_law 571 = .ok (.iconst 2, 1) := by decide +kernel
theorem d_L_law_572 : decode c_L_law 572 = .ok (.iadd, 1) := by decide +kernel
theorem d_L_law_573 : decode c_L_law 573 = .ok (.iaload, 1) := by decide +kernel
theorem d_L_law_574 : decode c_L_law 574 = .ok (.aload_n 0, 1) := by decide +kernel
theorem d_L_law_575 : decode c_L_law 575 = .ok (.iload_n 3, 1) := by decide +kernel
theorem d_L_law_576 : decode c_L_law 576 = .ok (.iconst 3, 1) := by decide +kernel
theorem d_L_law_577 : decode c_L_law 577 = .ok (.iadd, 1) := by decide +kernel
theorem d_L_law_578 : decode c_L_law 578 = .ok (.iaload, 1) := by decide +kernel
theorem d_L_law_579 : decode c_L_law 579 = .ok (.invokevirtual 63, 3) := by decide +kernel
theorem d_L_law_582 : decode c_L_law 582 = .ok (.if_icmp .eq 219, 3) := by decide +kernel
theorem d_L_law_585 : decode c_L_law 585 = .ok (.iconst 0, 1) := by decide +kernel
theorem d_L_law_586 : decode c_L_law 586 = .ok (.ireturn, 1) := by decide +kernel
theorem d_L_law_587 : decode c_L_law 587 = .ok (.aload_n 1, 1) := by decide +kernel
theorem d_L_law_588 : decode c_L_law 588 = .ok (.aload_n 0, 1) := by decide +kernel
theorem d_L_law_589 : decode c_L_law 589 = .ok (.iload_n 3, 1) := by decide +kernel
theorem d_L_law_590 : decode c_L_law 590 = .ok (.iconst 1, 1) := by decide +kernel
theorem d_L_law_591 : decode c_L_law 591 = .ok (.iadd, 1) := by decide +kernel
theorem d_L_law_592 : decode c_L_law 592 = .ok (.iaload, 1) := by decide +kernel
theorem d_L_law_593 : decode c_L_law 593 = .ok (.aload_n 0, 1) := by decide +kernel
theorem d_L_law_594 : decode c_L_law 594 = .ok (.iload_n 3, 1) := by decide +kernel
theorem d_L_law_595 : decode c_L_law 595 = .ok (.iconst 2, 1) := by decide +kernel
theorem d_L_law_596 : decode c_L_law 596 = .ok (.iadd, 1) := by decide +kernel
theorem d_L_law_597 : decode c_L_law 597 = .ok (.iaload, 1) := by decide +kernel
theorem d_L_law_598 : decode c_L_law 598 = .ok (.invokevirtual 64, 3) := by decide +kernel
theorem d_L_law_601 : decode c_L_law 601 = .ok (.aload_n 2, 1) := by decide +kernel
theorem d_L_law_602 : decode c_L_law 602 = .ok (.aload_n 0, 1) := by decide +kernel
theorem d_L_law_603 : decode c_L_law 603 = .ok (.iload_n 3, 1) := by decide +kernel
theorem d_L_law_604 : decode c_L_law 604 = .ok (.iconst 1, 1) := by decide +kernel
theorem d_L_law_605 : decode c_L_law 605 = .ok (.iadd, 1) := by decide +kernel
theorem d_L_law_606 : decode c_L_law 606 = .ok (.iaload, 1) := by decide +kernel
theorem d_L_law_607 : decode c_L_law 607 = .ok (.aload_n 0, 1) := by decide +kernel
theorem d_L_law_608 : decode c_L_law 608 = .ok (.iload_n 3, 1) := by decide +kernel
theorem d_L_law_609 : decode c_L_law 609 = .ok (.iconst 2, 1) := by decide +kernel
theorem d_L_law_610 : decode c_L_law 610 = .ok (.iadd, 1) := by decide +kernel
theorem d_L_law_611 : decode c_L_law 611 = .ok (.iaload, 1) := by decide +kernel
theorem d_L_law_612 : decode c_L_law 612 = .ok (.invokevirtual 68, 3) := by decide +kernel
theorem d_L_law_615 : decode c_L_law 615 = .ok (.if_icmp .eq 186, 3) := by decide +kernel
theorem d_L_law_618 : decode c_L_law 618 = .ok (.iconst 0, 1) := by decide +kernel
theorem d_L_law_619 : decode c_L_law 619 = .ok (.ireturn, 1) := by decide +kernel
theorem d_L_law_620 : decode c_L_law 620 = .ok (.aload_n 1, 1) := by decide +kernel
theorem d_L_law_621 : decode c_L_law 621 = .ok (.aload_n 0, 1) := by decide +kernel
theorem d_L_law_622 : decode c_L_law 622 = .ok (.iload_n 3, 1) := by decide +kernel
theorem d_L_law_623 : decode c_L_law 623 = .ok (.iconst 1, 1) := by decide +kernel
theorem d_L_law_624 : decode c_L_law 624 = .ok (.iadd, 1) := by decide +kernel
theorem d_L_law_625 : decode c_L_law 625 = .ok (.iaload, 1) := by decide +kernel
theorem d_L_law_626 : decode c_L_law 626 = .ok (.aload_n 0, 1) := by decide +kernel
theorem d_L_law_627 : decode c_L_law 627 = .ok (.iload_n 3, 1) := by decide +kernel
theorem d_L_law_628 : decode c_L_law 628 = .ok (.iconst 2, 1) := by decide +kernel
theorem d_L_law_629 : decode c_L_law 629 = .ok (.iadd, 1) := by decide +kernel
theorem d_L_law_630 : decode c_L_law 630 = .ok (.iaload, 1) := by decide +kernel
theorem d_L_law_631 : decode c_L_law 631 = .ok (.ifCond .eq 7, 3) := by decide +kernel
theorem d_L_law_634 : decode c_L_law 634 = .ok (.iconst 1, 1) := by decide +kernel
theorem d_L_law_635 : decode c_L_law 635 = .ok (.goto 4, 3) := by decide +kernel
theorem d_L_law_638 : decode c_L_law 638 = .ok (.iconst 0, 1) := by decide +kernel
theorem d_L_law_639 : decode c_L_law 639 = .ok (.invokevirtual 69, 3) := by decide +kernel
theorem d_L_law_642 : decode c_L_law 642 = .ok (.aload_n 2, 1) := by decide +kernel
theorem d_L_law_643 : decode c_L_law 643 = .ok (.aload_n 0, 1) := by decide +kernel
theorem d_L_law_644 : decode c_L_law 644 = .ok (.iload_n 3, 1) := by decide +kernel
theorem d_L_law_645 : decode c_L_law 645 = .ok (.iconst 1, 1) := by decide +kernel
theorem d_L_law_646 : decode c_L_law 646 = .ok (.iadd, 1) := by decide +kernel
theorem d_L_law_647 : decode c_L_law 647 = .ok (.iaload, 1) := by decide +kernel
theorem d_L_law_648 : decode c_L_law 648 = .ok (.aload_n 0, 1) := by decide +kernel
theorem d_L_law_649 : decode c_L_law 649 = .ok (.iload_n 3, 1) := by decide +kernel
theorem d_L_law_650 : decode c_L_law 650 = .ok (.iconst 2, 1) := by decide +kernel
theorem d_L_law_651 : decode c_L_law 651 = .ok (.iadd, 1) := by decide +kernel
theorem d_L_law_652 : decode c_L_law 652 = .ok (.iaload, 1) := by decide +kernel
theorem d_L_law_653 : decode c_L_law 653 = .ok (.ifCond .eq 7, 3) := by decide +kernel
theorem d_L_law_656 : decode c_L_law 656 = .ok (.iconst 1, 1) := by decide +kernel
theorem d_L_law_657 : decode c_L_law 657 = .ok (.goto 4, 3) := by decide +kernel
theorem d_L_law_660 : decode c_L_law 660 = .ok (.iconst 0, 1) := by decide +kernel
theorem d_L_law_661 : decode c_L_law 661 = .ok (.invokevirtual 72, 3) := by decide +kernel
theorem d_L_law_664 : decode c_L_law 664 = .ok (.if_icmp .eq 137, 3) := by decide +kernel
theorem d_L_law_667 : decode c_L_law 667 = .ok (.iconst 0, 1) := by decide +kernel
theorem d_L_law_668 : decode c_L_law 668 = .ok (.ireturn, 1) := by decide +kernel
theorem d_L_law_669 : decode c_L_law 669 = .ok (.aload_n 1, 1) := by decide +kernel
theorem d_L_law_670 : decode c_L_law 670 = .ok (.aload_n 0, 1) := by decide +kernel
theorem d_L_law_671 : decode c_L_law 671 = .ok (.iload_n 3, 1) := by decide +kernel
theorem d_L_law_672 : decode c_L_law 672 = .ok (.iconst 1, 1) := by decide +kernel
theorem d_L_law_673 : decode c_L_law 673 = .ok (.iadd, 1) := by decide +kernel
theorem d_L_law_674 : decode c_L_law 674 = .ok (.iaload, 1) := by decide +kernel
theorem d_L_law_675 : decode c_L_law 675 = .ok (.invokevirtual 73, 3) := by decide +kernel
theorem d_L_law_678 : decode c_L_law 678 = .ok (.aload_n 2, 1) := by decide +kernel
theorem d_L_law_679 : decode c_L_law 679 = .ok (.aload_n 0, 1) := by decide +kernel
theorem d_L_law_680 : decode c_L_law 680 = .ok (.iload_n 3, 1) := by decide +kernel
theorem d_L_law_681 : decode c_L_law 681 = .ok (.iconst 1, 1) := by decide +kernel
theorem d_L_law_682 : decode c_L_law 682 = .ok (.iadd, 1) := by decide +kernel
theorem d_L_law_683 : decode c_L_law 683 = .ok (.iaload, 1) := by decide +kernel
theorem d_L_law_684 : decode c_L_law 684 = .ok (.invokevirtual 76, 3) := by decide +kernel
theorem d_L_law_687 : decode c_L_law 687 = .ok (.if_icmp .eq 114, 3) := by decide +kernel
theorem d_L_law_690 : decode c_L_law 690 = .ok (.iconst 0, 1) := by decide +kernel
theorem d_L_law_691 : decode c_L_law 691 = .ok (.ireturn, 1) := by decide +kernel
theorem d_L_law_692 : decode c_L_law 692 = .ok (.aload_n 1, 1) := by decide +kernel
theorem d_L_law_693 : decode c_L_law 693 = .ok (.aload_n 0, 1) := by decide +kernel
theorem d_L_law_694 : decode c_L_law 694 = .ok (.iload_n 3, 1) := by decide +kernel
theorem d_L_law_695 : decode c_L_law 695 = .ok (.iconst 1, 1) := by decide +kernel
theorem d_L_law_696 : decode c_L_law 696 = .ok (.iadd, 1) := by decide +kernel
theorem d_L_law_697 : decode c_L_law 697 = .ok (.iaload, 1) := by decide +kernel
theorem d_L_law_698 : decode c_L_law 698 = .ok (.aload_n 0, 1) := by decide +kernel
theorem d_L_law_699 : decode c_L_law 699 = .ok (.iload_n 3, 1) := by decide +kernel
theorem d_L_law_700 : decode c_L_law 700 = .ok (.iconst 2, 1) := by decide +kernel
theorem d_L_law_701 : decode c_L_law 701 = .ok (.iadd, 1) := by decide +kernel
theorem d_L_law_702 : decode c_L_law 702 = .ok (.iaload, 1) := by decide +kernel
theorem d_L_law_703 : decode c_L_law 703 = .ok (.aload_n 0, 1) := by decide +kernel
theorem d_L_law_704 : decode c_L_law 704 = .ok (.iload_n 3, 1) := by decide +kernel
theorem d_L_law_705 : decode c_L_law 705 = .ok (.iconst 3, 1) := by decide +kernel
theorem d_L_law_706 : decode c_L_law 706 = .ok (.iadd, 1) := by decide +kernel
theorem d_L_law_707 : decode c_L_law 707 = .ok (.iaload, 1) := by decide +kernel
theorem d_L_law_708 : decode c_L_law 708 = .ok (.invokevirtual 77, 3) := by decide +kernel
theorem d_L_law_711 : decode c_L_law 711 = .ok (.aload_n 2, 1) := by decide +kernel
theorem d_L_law_712 : decode c_L_law 712 = .ok (.aload_n 0, 1) := by decide +kernel
theorem d_L_law_713 : decode c_L_law 713 = .ok (.iload_n 3, 1) := by decide +kernel
theorem d_L_law_714 : decode c_L_law 714 = .ok (.iconst 1, 1) := by decide +kernel
theorem d_L_law_715 : decode c_L_law 715 = .ok (.iadd, 1) := by decide +kernel
theorem d_L_law_716 : decode c_L_law 716 = .ok (.iaload, 1) := by decide +kernel
theorem d_L_law_717 : decode c_L_law 717 = .ok (.aload_n 0, 1) := by decide +kernel
theorem d_L_law_718 : decode c_L_law 718 = .ok (.iload_n 3, 1) := by decide +kernel
theorem d_L_law_719 : decode c_L_law 719 = .ok (.iconst 2, 1) := by decide +kernel
theorem d_L_law_720 : decode c_L_law 720 = .ok (.iadd, 1) := by decide +kernel
theorem d_L_law_721 : decode c_L_law 721 = .ok (.iaload, 1) := by decide +kernel
theorem d_L_law_722 : decode c_L_law 722 = .ok (.aload_n 0, 1) := by decide +kernel
theorem d_L_law_723 : decode c_L_law 723 = .ok (.iload_n 3, 1) := by decide +kernel
theorem d_L_law_724 : decode c_L_law 724 = .ok (.iconst 3, 1) := by decide +kernel
theorem d_L_law_725 : decode c_L_law 725 = .ok (.iadd, 1) := by decide +kernel
theorem d_L_law_726 : decode c_L_law 726 = .ok (.iaload, 1) := by decide +kernel
theorem d_L_law_727 : decode c_L_law 727 = .ok (.invokevirtual 80, 3) := by decide +kernel
theorem d_L_law_730 : decode c_L_law 730 = .ok (.if_icmp .eq 71, 3) := by decide +kernel
theorem d_L_law_733 : decode c_L_law 733 = .ok (.iconst 0, 1) := by decide +kernel
theorem d_L_law_734 : decode c_L_law 734 = .ok (.ireturn, 1) := by decide +kernel
theorem d_L_law_735 : decode c_L_law 735 = .ok (.aload_n 1, 1) := by decide +kernel
theorem d_L_law_736 : decode c_L_law 736 = .ok (.aload_n 0, 1) := by decide +kernel
theorem d_L_law_737 : decode c_L_law 737 = .ok (.iload_n 3, 1) := by decide +kernel
theorem d_L_law_738 : decode c_L_law 738 = .ok (.iconst 1, 1) := by decide +kernel
theorem d_L_law_739 : decode c_L_law 739 = .ok (.iadd, 1) := by decide +kernel
theorem d_L_law_740 : decode c_L_law 740 = .ok (.iaload, 1) := by decide +kernel
theorem d_L_law_741 : decode c_L_law 741 = .ok (.aload_n 0, 1) := by decide +kernel
theorem d_L_law_742 : decode c_L_law 742 = .ok (.iload_n 3, 1) := by decide +kernel
theorem d_L_law_743 : decode c_L_law 743 = .ok (.iconst 2, 1) := by decide +kernel
theorem d_L_law_744 : decode c_L_law 744 = .ok (.iadd, 1) := by decide +kernel
theorem d_L_law_745 : decode c_L_law 745 = .ok (.iaload, 1) := by decide +kernel
theorem d_L_law_746 : decode c_L_law 746 = .ok (.aload_n 0, 1) := by decide +kernel
theorem d_L_law_747 : decode c_L_law 747 = .ok (.iload_n 3, 1) := by decide +kernel
theorem d_L_law_748 : decode c_L_law 748 = .ok (.iconst 3, 1) := by decide +kernel
theorem d_L_law_749 : decode c_L_law 749 = .ok (.iadd, 1) := by decide +kernel
theorem d_L_law_750 : decode c_L_law 750 = .ok (.iaload, 1) := by decide +kernel
theorem d_L_law_751 : decode c_L_law 751 = .ok (.invokevirtual 81, 3) := by decide +kernel
theorem d_L_law_754 : decode c_L_law 754 = .ok (.aload_n 2, 1) := by decide +kernel
theorem d_L_law_755 : decode c_L_law 755 = .ok (.aload_n 0, 1) := by decide +kernel
theorem d_L_law_756 : decode c_L_law 756 = .ok (.iload_n 3, 1) := by decide +kernel
theorem d_L_law_757 : decode c_L_law 757 = .ok (.iconst 1, 1) := by decide +kernel
theorem d_L_law_758 : decode c_L_law 758 = .ok (.iadd, 1) := by decide +kernel
theorem d_L_law_759 : decode c_L_law 759 = .ok (.iaload, 1) := by decide +kernel
theorem d_L_law_760 : decode c_L_law 760 = .ok (.aload_n 0, 1) := by decide +kernel
theorem d_L_law_761 : decode c_L_law 761 = .ok (.iload_n 3, 1) := by decide +kernel
theorem d_L_law_762 : decode c_L_law 762 = .ok (.iconst 2, 1) := by decide +kernel
theorem d_L_law_763 : decode c_L_law 763 = .ok (.iadd, 1) := by decide +kernel
theorem d_L_law_764 : decode c_L_law 764 = .ok (.iaload, 1) := by decide +kernel
theorem d_L_law_765 : decode c_L_law 765 = .ok (.aload_n 0, 1) := by decide +kernel
theorem d_L_law_766 : decode c_L_law 766 = .ok (.iload_n 3, 1) := by decide +kernel
theorem d_L_law_767 : decode c_L_law 767 = .ok (.iconst 3, 1) := by decide +kernel
theorem d_L_law_768 : decode c_L_law 768 = .ok (.iadd, 1) := by decide +kernel
theorem d_L_law_769 : decode c_L_law 769 = .ok (.iaload, 1) := by decide +kernel
theorem d_L_law_770 : decode c_L_law 770 = .ok (.invokevirtual 84, 3) := by decide +kernel
theorem d_L_law_773 : decode c_L_law 773 = .ok (.if_icmp .eq 28, 3) := by decide +kernel
theorem d_L_law_776 : decode c_L_law 776 = .ok (.iconst 0, 1) := by decide +kernel
theorem d_L_law_777 : decode c_L_law 777 = .ok (.ireturn, 1) := by decide +kernel
theorem d_L_law_778 : decode c_L_law 778 = .ok (.aload_n 1, 1) := by decide +kernel
theorem d_L_law_779 : decode c_L_law 779 = .ok (.aload_n 0, 1) := by decide +kernel
theorem d_L_law_780 : decode c_L_law 780 = .ok (.iload_n 3, 1) := by decide +kernel
theorem d_L_law_781 : decode c_L_law 781 = .ok (.iconst 1, 1) := by decide +kernel
theorem d_L_law_782 : decode c_L_law 782 = .ok (.iadd, 1) := by decide +kernel
theorem d_L_law_783 : decode c_L_law 783 = .ok (.iaload, 1) := by decide +kernel
theorem d_L_law_784 : decode c_L_law 784 = .ok (.invokevirtual 85, 3) := by decide +kernel
theorem d_L_law_787 : decode c_L_law 787 = .ok (.aload_n 2, 1) := by decide +kernel
theorem d_L_law_788 : decode c_L_law 788 = .ok (.aload_n 0, 1) := by decide +kernel
theorem d_L_law_789 : decode c_L_law 789 = .ok (.iload_n 3, 1) := by decide +kernel
theorem d_L_law_790 : decode c_L_law 790 = .ok (.iconst 1, 1) := by decide +kernel
theorem d_L_law_791 : decode c_L_law 791 = .ok (.iadd, 1) := by decide +kernel
theorem d_L_law_792 : decode c_L_law 792 = .ok (.iaload, 1) := by decide +kernel
theorem d_L_law_793 : decode c_L_law 793 = .ok (.invokevirtual 88, 3) := by decide +kernel
theorem d_L_law_796 : decode c_L_law 796 = .ok (.if_icmp .eq 5, 3) := by decide +kernel
theorem d_L_law_799 : decode c_L_law 799 = .ok (.iconst 0, 1) := by decide +kernel
theorem d_L_law_800 : decode c_L_law 800 = .ok (.ireturn, 1) := by decide +kernel
theorem d_L_law_801 : decode c_L_law 801 = .ok (.iinc 3 6, 3) := by decide +kernel
theorem d_L_law_804 : decode c_L_law 804 = .ok (.goto (-786), 3) := by decide +kernel
theorem d_L_law_807 : decode c_L_law 807 = .ok (.iconst 1, 1) := by decide +kernel
theorem d_L_law_808 : decode c_L_law 808 = .ok (.ireturn, 1) := by decide +kernel
