theorem dX6_init_0 : decode cX6_init 0 = .ok (.aload_n 0, 1) := by decide +kernel
theorem dX6_init_1 : decode cX6_init 1 = .ok (.invokespecial 1, 3) := by decide +kernel
theorem dX6_init_4 : decode cX6_init 4 = .ok (.aload_n 0, 1) := by decide +kernel
theorem dX6_init_5 : decode cX6_init 5 = .ok (.bipush 12, 2) := by decide +kernel
theorem dX6_init_7 : decode cX6_init 7 = .ok (.newarray .char, 2) := by decide +kernel
theorem dX6_init_9 : decode cX6_init 9 = .ok (.putfield 7, 3) := by decide +kernel
theorem dX6_init_12 : decode cX6_init 12 = .ok (.aload_n 0, 1) := by decide +kernel
theorem dX6_init_13 : decode cX6_init 13 = .ok (.iconst 1, 1) := by decide +kernel
theorem dX6_init_14 : decode cX6_init 14 = .ok (.putfield 13, 3) := by decide +kernel
theorem dX6_init_17 : decode cX6_init 17 = .ok (.aload_n 0, 1) := by decide +kernel
theorem dX6_init_18 : decode cX6_init 18 = .ok (.bipush 100, 2) := by decide +kernel
theorem dX6_init_20 : decode cX6_init 20 = .ok (.newarray .int, 2) := by decide +kernel
theorem dX6_init_22 : decode cX6_init 22 = .ok (.putfield 17, 3) := by decide +kernel
theorem dX6_init_25 : decode cX6_init 25 = .ok (.aload_n 0, 1) := by decide +kernel
theorem dX6_init_26 : decode cX6_init 26 = .ok (.bipush 100, 2) := by decide +kernel
theorem dX6_init_28 : decode cX6_init 28 = .ok (.newarray .int, 2) := by decide +kernel
theorem dX6_init_30 : decode cX6_init 30 = .ok (.putfield 21, 3) := by decide +kernel
theorem dX6_init_33 : decode cX6_init 33 = .ok (.aload_n 0, 1) := by decide +kernel
theorem dX6_init_34 : decode cX6_init 34 = .ok (.bipush 100, 2) := by decide +kernel
theorem dX6_init_36 : decode cX6_init 36 = .ok (.newarray .long, 2) := by decide +kernel
theorem dX6_init_38 : decode cX6_init 38 = .ok (.putfield 24, 3) := by decide +kernel
theorem dX6_init_41 : decode cX6_init 41 = .ok (.aload_n 0, 1) := by decide +kernel
theorem dX6_init_42 : decode cX6_init 42 = .ok (.bipush 100, 2) := by decide +kernel
theorem dX6_init_44 : decode cX6_init 44 = .ok (.newarray .long, 2) := by decide +kernel
theorem dX6_init_46 : decode cX6_init 46 = .ok (.putfield 28, 3) := by decide +kernel
theorem dX6_init_49 : decode cX6_init 49 = .ok (.aload_n 0, 1) := by decide +kernel
theorem dX6_init_50 : decode cX6_init 50 = .ok (.sipush 1200, 3) := by decide +kernel
theorem dX6_init_53 : decode cX6_init 53 = .ok (.newarray .long, 2) := by decide +kernel
theorem dX6_init_55 : decode cX6_init 55 = .ok (.putfield 31, 3) := by decide +kernel
theorem dX6_init_58 : decode cX6_init 58 = .ok (.aload_n 0, 1) := by decide +kernel
theorem dX6_init_59 : decode cX6_init 59 = .ok (.sipush 1200, 3) := by decide +kernel
theorem dX6_init_62 : decode cX6_init 62 = .ok (.newarray .long, 2) := by decide +kernel
theorem dX6_init_64 : decode cX6_init 64 = .ok (.putfield 34, 3) := by decide +kernel
theorem dX6_init_67 : decode cX6_init 67 = .ok (.aload_n 0, 1) := by decide +kernel
theorem dX6_init_68 : decode cX6_init 68 = .ok (.iconst 1, 1) := by decide +kernel
theorem dX6_init_69 : decode cX6_init 69 = .ok (.putfield 37, 3) := by decide +kernel
theorem dX6_init_72 : decode cX6_init 72 = .ok (.aload_n 0, 1) := by decide +kernel
theorem dX6_init_73 : decode cX6_init 73 = .ok (.iconst 5, 1) := by decide +kernel
theorem dX6_init_74 : decode cX6_init 74 = .ok (.newarray .int, 2) := by decide +kernel
theorem dX6_init_76 : decode cX6_init 76 = .ok (.putfield 40, 3) := by decide +kernel
theorem dX6_init_79 : decode cX6_init 79 = .ok (.aload_n 0, 1) := by decide +kernel
theorem dX6_init_80 : decode cX6_init 80 = .ok (.bipush 10, 2) := by decide +kernel
theorem dX6_init_82 : decode cX6_init 82 = .ok (.newarray .int, 2) := by decide +kernel
theorem dX6_init_84 : decode cX6_init 84 = .ok (.dup, 1) := by decide +kernel
theorem dX6_init_85 : decode cX6_init 85 = .ok (.iconst 0, 1) := by decide +kernel
theorem dX6_init_86 : decode cX6_init 86 = .ok (.iconst (-1), 1) := by decide +kernel
theorem dX6_init_87 : decode cX6_init 87 = .ok (.iastore, 1) := by decide +kernel
theorem dX6_init_88 : decode cX6_init 88 = .ok (.dup, 1) := by decide +kernel
theorem dX6_init_89 : decode cX6_init 89 = .ok (.iconst 1, 1) := by decide +kernel
theorem dX6_init_90 : decode cX6_init 90 = .ok (.iconst (-1), 1) := by decide +kernel
theorem dX6_init_91 : decode cX6_init 91 = .ok (.iastore, 1) := by decide +kernel
theorem dX6_init_92 : decode cX6_init 92 = .ok (.dup, 1) := by decide +kernel
theorem dX6_init_93 : decode cX6_init 93 = .ok (.iconst 2, 1) := by decide +kernel
theorem dX6_init_94 : decode cX6_init 94 = .ok (.iconst (-1), 1) := by decide +kernel
theorem dX6_init_95 : decode cX6_init 95 = .ok (.iastore, 1) := by decide +kernel
theorem dX6_init_96 : decode cX6_init 96 = .ok (.dup, 1) := by decide +kernel
theorem dX6_init_97 : decode cX6_init 97 = .ok (.iconst 3, 1) := by decide +kernel
theorem dX6_init_98 : decode cX6_init 98 = .ok (.iconst (-1), 1) := by decide +kernel
theorem dX6_init_99 : decode cX6_init 99 = .ok (.iastore, 1) := by decide +kernel
theorem dX6_init_100 : decode cX6_init 100 = .ok (.dup, 1) := by decide +kernel
theorem dX6_init_101 : decode cX6_init 101 = .ok (.iconst 4, 1) := by decide +kernel
theorem dX6_init_102 : decode cX6_init 102 = .ok (.iconst (-1), 1) := by decide +kernel
theorem dX6_init_103 : decode cX6_init 103 = .ok (.iastore, 1) := by decide +kernel
theorem dX6_init_104 : decode cX6_init 104 = .ok (.dup, 1) := by decide +kernel
theorem dX6_init_105 : decode cX6_init 105 = .ok (.iconst 5, 1) := by decide +kernel
theorem dX6_init_106 : decode cX6_init 106 = .ok (.iconst (-1), 1) := by decide +kernel
theorem dX6_init_107 : decode cX6_init 107 = .ok (.iastore, 1) := by decide +kernel
theorem dX6_init_108 : decode cX6_init 108 = .ok (.dup, 1) := by decide +kernel
theorem dX6_init_109 : decode cX6_init 109 = .ok (.bipush 6, 2) := by decide +kernel
theorem dX6_init_111 : decode cX6_init 111 = .ok (.iconst (-1), 1) := by decide +kernel
theorem dX6_init_112 : decode cX6_init 112 = .ok (.iastore, 1) := by decide +kernel
theorem dX6_init_113 : decode cX6_init 113 = .ok (.dup, 1) := by decide +kernel
theorem dX6_init_114 : decode cX6_init 114 = .ok (.bipush 7, 2) := by decide +kernel
theorem dX6_init_116 : decode cX6_init 116 = .ok (.iconst (-1), 1) := by decide +kernel
theorem dX6_init_117 : decode cX6_init 117 = .ok (.iastore, 1) := by decide +kernel
theorem dX6_init_118 : decode cX6_init 118 = .ok (.dup, 1) := by decide +kernel
theorem dX6_init_119 : decode cX6_init 119 = .ok (.bipush 8, 2) := by decide +kernel
theorem dX6_init_121 : decode cX6_init 121 = .ok (.iconst (-1), 1) := by decide +kernel
theorem dX6_init_122 : decode cX6_init 122 = .ok (.iastore, 1) := by decide +kernel
theorem dX6_init_123 : decode cX6_init 123 = .ok (.dup, 1) := by decide +kernel
theorem dX6_init_124 : decode cX6_init 124 = .ok (.bipush 9, 2) := by decide +kernel
theorem dX6_init_126 : decode cX6_init 126 = .ok (.iconst (-1), 1) := by decide +kernel
theorem dX6_init_127 : decode cX6_init 127 = .ok (.iastore, 1) := by decide +kernel
theorem dX6_init_128 : decode cX6_init 128 = .ok (.putfield 43, 3) := by decide +kernel
theorem dX6_init_131 : decode cX6_init 131 = .ok (.aload_n 0, 1) := by decide +kernel
theorem dX6_init_132 : decode cX6_init 132 = .ok (.bipush 10, 2) := by decide +kernel
theorem dX6_init_134 : decode cX6_init 134 = .ok (.newarray .int, 2) := by decide +kernel
theorem dX6_init_136 : decode cX6_init 136 = .ok (.putfield 46, 3) := by decide +kernel
theorem dX6_init_139 : decode cX6_init 139 = .ok (.aload_n 0, 1) := by decide +kernel
theorem dX6_init_140 : decode cX6_init 140 = .ok (.bipush 10, 2) := by decide +kernel
theorem dX6_init_142 : decode cX6_init 142 = .ok (.newarray .int, 2) := by decide +kernel
theorem dX6_init_144 : decode cX6_init 144 = .ok (.putfield 49, 3) := by decide +kernel
theorem dX6_init_147 : decode cX6_init 147 = .ok (.aload_n 0, 1) := by decide +kernel
theorem dX6_init_148 : decode cX6_init 148 = .ok (.bipush 10, 2) := by decide +kernel
theorem dX6_init_150 : decode cX6_init 150 = .ok (.newarray .int, 2) := by decide +kernel
theorem dX6_init_152 : decode cX6_init 152 = .ok (.putfield 52, 3) := by decide +kernel
theorem dX6_init_155 : decode cX6_init 155 = .ok (.aload_n 0, 1) := by decide +kernel
theorem dX6_init_156 : decode cX6_init 156 = .ok (.iconst 1, 1) := by decide +kernel
theorem dX6_init_157 : decode cX6_init 157 = .ok (.putfield 55, 3) := by decide +kernel
theorem dX6_init_160 : decode cX6_init 160 = .ok (.aload_n 0, 1) := by decide +kernel
theorem dX6_init_161 : decode cX6_init 161 = .ok (.bipush 101, 2) := by decide +kernel
theorem dX6_init_163 : decode cX6_init 163 = .ok (.newarray .int, 2) := by decide +kernel
theorem dX6_init_165 : decode cX6_init 165 = .ok (.dup, 1) := by decide +kernel
theorem dX6_init_166 : decode cX6_init 166 = .ok (.iconst 0, 1) := by decide +kernel
theorem dX6_init_167 : decode cX6_init 167 = .ok (.sipush (-1000), 3) := by decide +kernel
theorem dX6_init_170 : decode cX6_init 170 = .ok (.iastore, 1) := by decide +kernel
theorem dX6_init_171 : decode cX6_init 171 = .ok (.dup, 1) := by decide +kernel
theorem dX6_init_172 : decode cX6_init 172 = .ok (.iconst 1, 1) := by decide +kernel
theorem dX6_init_173 : decode cX6_init 173 = .ok (.iconst 0, 1) := by decide +kernel
theorem dX6_init_174 : decode cX6_init 174 = .ok (.iastore, 1) := by decide +kernel
theorem dX6_init_175 : decode cX6_init 175 = .ok (.dup, 1) := by decide +kernel
theorem dX6_init_176 : decode cX6_init 176 = .ok (.iconst 2, 1) := by decide +kernel
theorem dX6_init_177 : decode cX6_init 177 = .ok (.iconst 0, 1) := by decide +kernel
theorem dX6_init_178 : decode cX6_init 178 = .ok (.iastore, 1) := by decide +kernel
theorem dX6_init_179 : decode cX6_init 179 = .ok (.dup, 1) := by decide +kernel
theorem dX6_init_180 : decode cX6_init 180 = .ok (.iconst 3, 1) := by decide +kernel
theorem dX6_init_181 : decode cX6_init 181 = .ok (.iconst 0, 1) := by decide +kernel
theorem dX6_init_182 : decode cX6_init 182 = .ok (.iastore, 1) := by decide +kernel
theorem dX6_init_183 : decode cX6_init 183 = .ok (.dup, 1) := by decide +kernel
theorem dX6_init_184 : decode cX6_init 184 = .ok (.iconst 4, 1) := by decide +kernel
theorem dX6_init_185 : decode cX6_init 185 = .ok (.iconst 0, 1) := by decide +kernel
theorem dX6_init_186 : decode cX6_init 186 = .ok (.iastore, 1) := by decide +kernel
theorem dX6_init_187 : decode cX6_init 187 = .ok (.dup, 1) := by decide +kernel
theorem dX6_init_188 : decode cX6_init 188 = .ok (.iconst 5, 1) := by decide +kernel
theorem dX6_init_189 : decode cX6_init 189 = .ok (.iconst 0, 1) := by decide +kernel
theorem dX6_init_190 : decode cX6_init 190 = .ok (.iastore, 1) := by decide +kernel
theorem dX6_init_191 : decode cX6_init 191 = .ok (.dup, 1) := by decide +kernel
theorem dX6_init_192 : decode cX6_init 192 = .ok (.bipush 6, 2) := by decide +kernel
theorem dX6_init_194 : decode cX6_init 194 = .ok (.iconst 0, 1) := by decide +kernel
theorem dX6_init_195 : decode cX6_init 195 = .ok (.iastore, 1) := by decide +kernel
theorem dX6_init_196 : decode cX6_init 196 = .ok (.dup, 1) := by decide +kernel
theorem dX6_init_197 : decode cX6_init 197 = .ok (.bipush 7, 2) := by decide +kernel
theorem dX6_init_199 : decode cX6_init 199 = .ok (.iconst 0, 1) := by decide +kernel
theorem dX6_init_200 : decode cX6_init 200 = .ok (.iastore, 1) := by decide +kernel
theorem dX6_init_201 : decode cX6_init 201 = .ok (.dup, 1) := by decide +kernel
theorem dX6_init_202 : decode cX6_init 202 = .ok (.bipush 8, 2) := by decide +kernel
theorem dX6_init_204 : decode cX6_init 204 = .ok (.iconst 0, 1) := by decide +kernel
theorem dX6_init_205 : decode cX6_init 205 = .ok (.iastore, 1) := by decide +kernel
theorem dX6_init_206 : decode cX6_init 206 = .ok (.dup, 1) := by decide +kernel
theorem dX6_init_207 : decode cX6_init 207 = .ok (.bipush 9, 2) := by decide +kernel
theorem dX6_init_209 : decode cX6_init 209 = .ok (.iconst 0, 1) := by decide +kernel
theorem dX6_init_210 : decode cX6_init 210 = .ok (.iastore, 1) := by decide +kernel
theorem dX6_init_211 : decode cX6_init 211 = .ok (.dup, 1) := by decide +kernel
theorem dX6_init_212 : decode cX6_init 212 = .ok (.bipush 10, 2) := by decide +kernel
theorem dX6_init_214 : decode cX6_init 214 = .ok (.iconst 0, 1) := by decide +kernel
theorem dX6_init_215 : decode cX6_init 215 = .ok (.iastore, 1) := by decide +kernel
theorem dX6_init_216 : decode cX6_init 216 = .ok (.dup, 1) := by decide +kernel
theorem dX6_init_217 : decode cX6_init 217 = .ok (.bipush 11, 2) := by decide +kernel
theorem dX6_init_219 : decode cX6_init 219 = .ok (.iconst 0, 1) := by decide +kernel
theorem dX6_init_220 : decode cX6_init 220 = .ok (.iastore, 1) := by decide +kernel
theorem dX6_init_221 : decode cX6_init 221 = .ok (.dup, 1) := by decide +kernel
theorem dX6_init_222 : decode cX6_init 222 = .ok (.bipush 12, 2) := by decide +kernel
theorem dX6_init_224 : decode cX6_init 224 = .ok (.iconst 0, 1) := by decide +kernel
theorem dX6_init_225 : decode cX6_init 225 = .ok (.iastore, 1) := by decide +kernel
theorem dX6_init_226 : decode cX6_init 226 = .ok (.dup, 1) := by decide +kernel
theorem dX6_init_227 : decode cX6_init 227 = .ok (.bipush 13, 2) := by decide +kernel
theorem dX6_init_229 : decode cX6_init 229 = .ok (.iconst 0, 1) := by decide +kernel
theorem dX6_init_230 : decode cX6_init 230 = .ok (.iastore, 1) := by decide +kernel
theorem dX6_init_231 : decode cX6_init 231 = .ok (.dup, 1) := by decide +kernel
theorem dX6_init_232 : decode cX6_init 232 = .ok (.bipush 14, 2) := by decide +kernel
theorem dX6_init_234 : decode cX6_init 234 = .ok (.iconst 0, 1) := by decide +kernel
theorem dX6_init_235 : decode cX6_init 235 = .ok (.iastore, 1) := by decide +kernel
theorem dX6_init_236 : decode cX6_init 236 = .ok (.dup, 1) := by decide +kernel
theorem dX6_init_237 : decode cX6_init 237 = .ok (.bipush 15, 2) := by decide +kernel
theorem dX6_init_239 : decode cX6_init 239 = .ok (.iconst 0, 1) := by decide +kernel
theorem dX6_init_240 : decode cX6_init 240 = .ok (.iastore, 1) := by decide +kernel
theorem dX6_init_241 : decode cX6_init 241 = .ok (.dup, 1) := by decide +kernel
theorem dX6_init_242 : decode cX6_init 242 = .ok (.bipush 16, 2) := by decide +kernel
theorem dX6_init_244 : decode cX6_init 244 = .ok (.iconst 0, 1) := by decide +kernel
theorem dX6_init_245 : decode cX6_init 245 = .ok (.iastore, 1) := by decide +kernel
theorem dX6_init_246 : decode cX6_init 246 = .ok (.dup, 1) := by decide +kernel
theorem dX6_init_247 : decode cX6_init 247 = .ok (.bipush 17, 2) := by decide +kernel
theorem dX6_init_249 : decode cX6_init 249 = .ok (.iconst 0, 1) := by decide +kernel
theorem dX6_init_250 : decode cX6_init 250 = .ok (.iastore, 1) := by decide +kernel
theorem dX6_init_251 : decode cX6_init 251 = .ok (.dup, 1) := by decide +kernel
theorem dX6_init_252 : decode cX6_init 252 = .ok (.bipush 18, 2) := by decide +kernel
theorem dX6_init_254 : decode cX6_init 254 = .ok (.iconst 0, 1) := by decide +kernel
theorem dX6_init_255 : decode cX6_init 255 = .ok (.iastore, 1) := by decide +kernel
theorem dX6_init_256 : decode cX6_init 256 = .ok (.dup, 1) := by decide +kernel
theorem dX6_init_257 : decode cX6_init 257 = .ok (.bipush 19, 2) := by decide +kernel
theorem dX6_init_259 : decode cX6_init 259 = .ok (.iconst 0, 1) := by decide +kernel
theorem dX6_init_260 : decode cX6_init 260 = .ok (.iastore, 1) := by decide +kernel
theorem dX6_init_261 : decode cX6_init 261 = .ok (.dup, 1) := by decide +kernel
theorem dX6_init_262 : decode cX6_init 262 = .ok (.bipush 20, 2) := by decide +kernel
theorem dX6_init_264 : decode cX6_init 264 = .ok (.iconst 0, 1) := by decide +kernel
theorem dX6_init_265 : decode cX6_init 265 = .ok (.iastore, 1) := by decide +kernel
theorem dX6_init_266 : decode cX6_init 266 = .ok (.dup, 1) := by decide +kernel
theorem dX6_init_267 : decode cX6_init 267 = .ok (.bipush 21, 2) := by decide +kernel
theorem dX6_init_269 : decode cX6_init 269 = .ok (.iconst 0, 1) := by decide +kernel
theorem dX6_init_270 : decode cX6_init 270 = .ok (.iastore, 1) := by decide +kernel
theorem dX6_init_271 : decode cX6_init 271 = .ok (.dup, 1) := by decide +kernel
theorem dX6_init_272 : decode cX6_init 272 = .ok (.bipush 22, 2) := by decide +kernel
theorem dX6_init_274 : decode cX6_init 274 = .ok (.iconst 0, 1) := by decide +kernel
theorem dX6_init_275 : decode cX6_init 275 = .ok (.iastore, 1) := by decide +kernel
theorem dX6_init_276 : decode cX6_init 276 = .ok (.dup, 1) := by decide +kernel
theorem dX6_init_277 : decode cX6_init 277 = .ok (.bipush 23, 2) := by decide +kernel
theorem dX6_init_279 : decode cX6_init 279 = .ok (.iconst 0, 1) := by decide +kernel
theorem dX6_init_280 : decode cX6_init 280 = .ok (.iastore, 1) := by decide +kernel
theorem dX6_init_281 : decode cX6_init 281 = .ok (.dup, 1) := by decide +kernel
theorem dX6_init_282 : decode cX6_init 282 = .ok (.bipush 24, 2) := by decide +kernel
theorem dX6_init_284 : decode cX6_init 284 = .ok (.iconst 0, 1) := by decide +kernel
theorem dX6_init_285 : decode cX6_init 285 = .ok (.iastore, 1) := by decide +kernel
theorem dX6_init_286 : decode cX6_init 286 = .ok (.dup, 1) := by decide +kernel
theorem dX6_init_287 : decode cX6_init 287 = .ok (.bipush 25, 2) := by decide +kernel
theorem dX6_init_289 : decode cX6_init 289 = .ok (.iconst 0, 1) := by decide +kernel
theorem dX6_init_290 : decode cX6_init 290 = .ok (.iastore, 1) := by decide +kernel
theorem dX6_init_291 : decode cX6_init 291 = .ok (.dup, 1) := by decide +kernel
theorem dX6_init_292 : decode cX6_init 292 = .ok (.bipush 26, 2) := by decide +kernel
theorem dX6_init_294 : decode cX6_init 294 = .ok (.iconst 0, 1) := by decide +kernel
theorem dX6_init_295 : decode cX6_init 295 = .ok (.iastore, 1) := by decide +kernel
theorem dX6_init_296 : decode cX6_init 296 = .ok (.dup, 1) := by decide +kernel
theorem dX6_init_297 : decode cX6_init 297 = .ok (.bipush 27, 2) := by decide +kernel
theorem dX6_init_299 : decode cX6_init 299 = .ok (.iconst 0, 1) := by decide +kernel
theorem dX6_init_300 : decode cX6_init 300 = .ok (.iastore, 1) := by decide +kernel
theorem dX6_init_301 : decode cX6_init 301 = .ok (.dup, 1) := by decide +kernel
theorem dX6_init_302 : decode cX6_init 302 = .ok (.bipush 28, 2) := by decide +kernel
theorem dX6_init_304 : decode cX6_init 304 = .ok (.iconst 0, 1) := by decide +kernel
theorem dX6_init_305 : decode cX6_init 305 = .ok (.iastore, 1) := by decide +kernel
theorem dX6_init_306 : decode cX6_init 306 = .ok (.dup, 1) := by decide +kernel
theorem dX6_init_307 : decode cX6_init 307 = .ok (.bipush 29, 2) := by decide +kernel
theorem dX6_init_309 : decode cX6_init 309 = .ok (.iconst 0, 1) := by decide +kernel
theorem dX6_init_310 : decode cX6_init 310 = .ok (.iastore, 1) := by decide +kernel
theorem dX6_init_311 : decode cX6_init 311 = .ok (.dup, 1) := by decide +kernel
theorem dX6_init_312 : decode cX6_init 312 = .ok (.bipush 30, 2) := by decide +kernel
theorem dX6_init_314 : decode cX6_init 314 = .ok (.iconst 0, 1) := by decide +kernel
theorem dX6_init_315 : decode cX6_init 315 = .ok (.iastore, 1) := by decide +kernel
theorem dX6_init_316 : decode cX6_init 316 = .ok (.dup, 1) := by decide +kernel
theorem dX6_init_317 : decode cX6_init 317 = .ok (.bipush 31, 2) := by decide +kernel
theorem dX6_init_319 : decode cX6_init 319 = .ok (.iconst 0, 1) := by decide +kernel
theorem dX6_init_320 : decode cX6_init 320 = .ok (.iastore, 1) := by decide +kernel
theorem dX6_init_321 : decode cX6_init 321 = .ok (.dup, 1) := by decide +kernel
theorem dX6_init_322 : decode cX6_init 322 = .ok (.bipush 32, 2) := by decide +kernel
theorem dX6_init_324 : decode cX6_init 324 = .ok (.iconst 0, 1) := by decide +kernel
theorem dX6_init_325 : decode cX6_init 325 = .ok (.iastore, 1) := by decide +kernel
theorem dX6_init_326 : decode cX6_init 326 = .ok (.dup, 1) := by decide +kernel
theorem dX6_init_327 : decode cX6_init 327 = .ok (.bipush 33, 2) := by decide +kernel
theorem dX6_init_329 : decode cX6_init 329 = .ok (.iconst 0, 1) := by decide +kernel
theorem dX6_init_330 : decode cX6_init 330 = .ok (.iastore, 1) := by decide +kernel
theorem dX6_init_331 : decode cX6_init 331 = .ok (.dup, 1) := by decide +kernel
theorem dX6_init_332 : decode cX6_init 332 = .ok (.bipush 34, 2) := by decide +kernel
theorem dX6_init_334 : decode cX6_init 334 = .ok (.iconst 0, 1) := by decide +kernel
theorem dX6_init_335 : decode cX6_init 335 = .ok (.iastore, 1) := by decide +kernel
theorem dX6_init_336 : decode cX6_init 336 = .ok (.dup, 1) := by decide +kernel
theorem dX6_init_337 : decode cX6_init 337 = .ok (.bipush 35, 2) := by decide +kernel
theorem dX6_init_339 : decode cX6_init 339 = .ok (.iconst 0, 1) := by decide +kernel
theorem dX6_init_340 : decode cX6_init 340 = .ok (.iastore, 1) := by decide +kernel
theorem dX6_init_341 : decode cX6_init 341 = .ok (.dup, 1) := by decide +kernel
theorem dX6_init_342 : decode cX6_init 342 = .ok (.bipush 36, 2) := by decide +kernel
theorem dX6_init_344 : decode cX6_init 344 = .ok (.iconst 0, 1) := by decide +kernel
theorem dX6_init_345 : decode cX6_init 345 = .ok (.iastore, 1) := by decide +kernel
theorem dX6_init_346 : decode cX6_init 346 = .ok (.dup, 1) := by decide +kernel
theorem dX6_init_347 : decode cX6_init 347 = .ok (.bipush 37, 2) := by decide +kernel
theorem dX6_init_349 : decode cX6_init 349 = .ok (.iconst 0, 1) := by decide +kernel
theorem dX6_init_350 : decode cX6_init 350 = .ok (.iastore, 1) := by decide +kernel
theorem dX6_init_351 : decode cX6_init 351 = .ok (.dup, 1) := by decide +kernel
theorem dX6_init_352 : decode cX6_init 352 = .ok (.bipush 38, 2) := by decide +kernel
theorem dX6_init_354 : decode cX6_init 354 = .ok (.iconst 0, 1) := by decide +kernel
theorem dX6_init_355 : decode cX6_init 355 = .ok (.iastore, 1) := by decide +kernel
theorem dX6_init_356 : decode cX6_init 356 = .ok (.dup, 1) := by decide +kernel
theorem dX6_init_357 : decode cX6_init 357 = .ok (.bipush 39, 2) := by decide +kernel
theorem dX6_init_359 : decode cX6_init 359 = .ok (.iconst 0, 1) := by decide +kernel
theorem dX6_init_360 : decode cX6_init 360 = .ok (.iastore, 1) := by decide +kernel
theorem dX6_init_361 : decode cX6_init 361 = .ok (.dup, 1) := by decide +kernel
theorem dX6_init_362 : decode cX6_init 362 = .ok (.bipush 40, 2) := by decide +kernel
theorem dX6_init_364 : decode cX6_init 364 = .ok (.iconst 0, 1) := by decide +kernel
theorem dX6_init_365 : decode cX6_init 365 = .ok (.iastore, 1) := by decide +kernel
theorem dX6_init_366 : decode cX6_init 366 = .ok (.dup, 1) := by decide +kernel
theorem dX6_init_367 : decode cX6_init 367 = .ok (.bipush 41, 2) := by decide +kernel
theorem dX6_init_369 : decode cX6_init 369 = .ok (.iconst 0, 1) := by decide +kernel
theorem dX6_init_370 : decode cX6_init 370 = .ok (.iastore, 1) := by decide +kernel
theorem dX6_init_371 : decode cX6_init 371 = .ok (.dup, 1) := by decide +kernel
theorem dX6_init_372 : decode cX6_init 372 = .ok (.bipush 42, 2) := by decide +kernel
theorem dX6_init_374 : decode cX6_init 374 = .ok (.iconst 0, 1) := by decide +kernel
theorem dX6_init_375 : decode cX6_init 375 = .ok (.iastore, 1) := by decide +kernel
theorem dX6_init_376 : decode cX6_init 376 = .ok (.dup, 1) := by decide +kernel
theorem dX6_init_377 : decode cX6_init 377 = .ok (.bipush 43, 2) := by decide +kernel
theorem dX6_init_379 : decode cX6_init 379 = .ok (.iconst 0, 1) := by decide +kernel
theorem dX6_init_380 : decode cX6_init 380 = .ok (.iastore, 1) := by decide +kernel
theorem dX6_init_381 : decode cX6_init 381 = .ok (.dup, 1) := by decide +kernel
theorem dX6_init_382 : decode cX6_init 382 = .ok (.bipush 44, 2) := by decide +kernel
theorem dX6_init_384 : decode cX6_init 384 = .ok (.iconst 0, 1) := by decide +kernel
theorem dX6_init_385 : decode cX6_init 385 = .ok (.iastore, 1) := by decide +kernel
theorem dX6_init_386 : decode cX6_init 386 = .ok (.dup, 1) := by decide +kernel
theorem dX6_init_387 : decode cX6_init 387 = .ok (.bipush 45, 2) := by decide +kernel
theorem dX6_init_389 : decode cX6_init 389 = .ok (.iconst 0, 1) := by decide +kernel
theorem dX6_init_390 : decode cX6_init 390 = .ok (.iastore, 1) := by decide +kernel
theorem dX6_init_391 : decode cX6_init 391 = .ok (.dup, 1) := by decide +kernel
theorem dX6_init_392 : decode cX6_init 392 = .ok (.bipush 46, 2) := by decide +kernel
theorem dX6_init_394 : decode cX6_init 394 = .ok (.iconst 0, 1) := by decide +kernel
theorem dX6_init_395 : decode cX6_init 395 = .ok (.iastore, 1) := by decide +kernel
theorem dX6_init_396 : decode cX6_init 396 = .ok (.dup, 1) := by decide +kernel
theorem dX6_init_397 : decode cX6_init 397 = .ok (.bipush 47, 2) := by decide +kernel
theorem dX6_init_399 : decode cX6_init 399 = .ok (.iconst 0, 1) := by decide +kernel
theorem dX6_init_400 : decode cX6_init 400 = .ok (.iastore, 1) := by decide +kernel
theorem dX6_init_401 : decode cX6_init 401 = .ok (.dup, 1) := by decide +kernel
theorem dX6_init_402 : decode cX6_init 402 = .ok (.bipush 48, 2) := by decide +kernel
theorem dX6_init_404 : decode cX6_init 404 = .ok (.iconst 0, 1) := by decide +kernel
theorem dX6_init_405 : decode cX6_init 405 = .ok (.iastore, 1) := by decide +kernel
theorem dX6_init_406 : decode cX6_init 406 = .ok (.dup, 1) := by decide +kernel
theorem dX6_init_407 : decode cX6_init 407 = .ok (.bipush 49, 2) := by decide +kernel
theorem dX6_init_409 : decode cX6_init 409 = .ok (.iconst 0, 1) := by decide +kernel
theorem dX6_init_410 : decode cX6_init 410 = .ok (.iastore, 1) := by decide +kernel
theorem dX6_init_411 : decode cX6_init 411 = .ok (.dup, 1) := by decide +kernel
theorem dX6_init_412 : decode cX6_init 412 = .ok (.bipush 50, 2) := by decide +kernel
theorem dX6_init_414 : decode cX6_init 414 = .ok (.iconst 0, 1) := by decide +kernel
theorem dX6_init_415 : decode cX6_init 415 = .ok (.iastore, 1) := by decide +kernel
theorem dX6_init_416 : decode cX6_init 416 = .ok (.dup, 1) := by decide +kernel
theorem dX6_init_417 : decode cX6_init 417 = .ok (.bipush 51, 2) := by decide +kernel
theorem dX6_init_419 : decode cX6_init 419 = .ok (.iconst 0, 1) := by decide +kernel
theorem dX6_init_420 : decode cX6_init 420 = .ok (.iastore, 1) := by decide +kernel
theorem dX6_init_421 : decode cX6_init 421 = .ok (.dup, 1) := by decide +kernel
theorem dX6_init_422 : decode cX6_init 422 = .ok (.bipush 52, 2) := by decide +kernel
theorem dX6_init_424 : decode cX6_init 424 = .ok (.iconst 0, 1) := by decide +kernel
theorem dX6_init_425 : decode cX6_init 425 = .ok (.iastore, 1) := by decide +kernel
theorem dX6_init_426 : decode cX6_init 426 = .ok (.dup, 1) := by decide +kernel
theorem dX6_init_427 : decode cX6_init 427 = .ok (.bipush 53, 2) := by decide +kernel
theorem dX6_init_429 : decode cX6_init 429 = .ok (.iconst 0, 1) := by decide +kernel
theorem dX6_init_430 : decode cX6_init 430 = .ok (.iastore, 1) := by decide +kernel
theorem dX6_init_431 : decode cX6_init 431 = .ok (.dup, 1) := by decide +kernel
theorem dX6_init_432 : decode cX6_init 432 = .ok (.bipush 54, 2) := by decide +kernel
theorem dX6_init_434 : decode cX6_init 434 = .ok (.iconst 0, 1) := by decide +kernel
theorem dX6_init_435 : decode cX6_init 435 = .ok (.iastore, 1) := by decide +kernel
theorem dX6_init_436 : decode cX6_init 436 = .ok (.dup, 1) := by decide +kernel
theorem dX6_init_437 : decode cX6_init 437 = .ok (.bipush 55, 2) := by decide +kernel
theorem dX6_init_439 : decode cX6_init 439 = .ok (.iconst 0, 1) := by decide +kernel
theorem dX6_init_440 : decode cX6_init 440 = .ok (.iastore, 1) := by decide +kernel
theorem dX6_init_441 : decode cX6_init 441 = .ok (.dup, 1) := by decide +kernel
theorem dX6_init_442 : decode cX6_init 442 = .ok (.bipush 56, 2) := by decide +kernel
theorem dX6_init_444 : decode cX6_init 444 = .ok (.iconst 0, 1) := by decide +kernel
theorem dX6_init_445 : decode cX6_init 445 = .ok (.iastore, 1) := by decide +kernel
theorem dX6_init_446 : decode cX6_init 446 = .ok (.dup, 1) := by decide +kernel
theorem dX6_init_447 : decode cX6_init 447 = .ok (.bipush 57, 2) := by decide +kernel
theorem dX6_init_449 : decode cX6_init 449 = .ok (.iconst 0, 1) := by decide +kernel
theorem dX6_init_450 : decode cX6_init 450 = .ok (.iastore, 1) := by decide +kernel
theorem dX6_init_451 : decode cX6_init 451 = .ok (.dup, 1) := by decide +kernel
theorem dX6_init_452 : decode cX6_init 452 = .ok (.bipush 58, 2) := by decide +kernel
theorem dX6_init_454 : decode cX6_init 454 = .ok (.iconst 0, 1) := by decide +kernel
theorem dX6_init_455 : decode cX6_init 455 = .ok (.iastore, 1) := by decide +kernel
theorem dX6_init_456 : decode cX6_init 456 = .ok (.dup, 1) := by decide +kernel
theorem dX6_init_457 : decode cX6_init 457 = .ok (.bipush 59, 2) := by decide +kernel
theorem dX6_init_459 : decode cX6_init 459 = .ok (.iconst 0, 1) := by decide +kernel
theorem dX6_init_460 : decode cX6_init 460 = .ok (.iastore, 1) := by decide +kernel
theorem dX6_init_461 : decode cX6_init 461 = .ok (.dup, 1) := by decide +kernel
theorem dX6_init_462 : decode cX6_init 462 = .ok (.bipush 60, 2) := by decide +kernel
theorem dX6_init_464 : decode cX6_init 464 = .ok (.iconst 0, 1) := by decide +kernel
theorem dX6_init_465 : decode cX6_init 465 = .ok (.iastore, 1) := by decide +kernel
theorem dX6_init_466 : decode cX6_init 466 = .ok (.dup, 1) := by decide +kernel
theorem dX6_init_467 : decode cX6_init 467 = .ok (.bipush 61, 2) := by decide +kernel
theorem dX6_init_469 : decode cX6_init 469 = .ok (.iconst 0, 1) := by decide +kernel
theorem dX6_init_470 : decode cX6_init 470 = .ok (.iastore, 1) := by decide +kernel
theorem dX6_init_471 : decode cX6_init 471 = .ok (.dup, 1) := by decide +kernel
theorem dX6_init_472 : decode cX6_init 472 = .ok (.bipush 62, 2) := by decide +kernel
theorem dX6_init_474 : decode cX6_init 474 = .ok (.iconst 0, 1) := by decide +kernel
theorem dX6_init_475 : decode cX6_init 475 = .ok (.iastore, 1) := by decide +kernel
theorem dX6_init_476 : decode cX6_init 476 = .ok (.dup, 1) := by decide +kernel
theorem dX6_init_477 : decode cX6_init 477 = .ok (.bipush 63, 2) := by decide +kernel
theorem dX6_init_479 : decode cX6_init 479 = .ok (.iconst 0, 1) := by decide +kernel
theorem dX6_init_480 : decode cX6_init 480 = .ok (.iastore, 1) := by decide +kernel
theorem dX6_init_481 : decode cX6_init 481 = .ok (.dup, 1) := by decide +kernel
theorem dX6_init_482 : decode cX6_init 482 = .ok (.bipush 64, 2) := by decide +kernel
theorem dX6_init_484 : decode cX6_init 484 = .ok (.iconst 0, 1) := by decide +kernel
theorem dX6_init_485 : decode cX6_init 485 = .ok (.iastore, 1) := by decide +kernel
theorem dX6_init_486 : decode cX6_init 486 = .ok (.dup, 1) := by decide +kernel
theorem dX6_init_487 : decode cX6_init 487 = .ok (.bipush 65, 2) := by decide +kernel
theorem dX6_init_489 : decode cX6_init 489 = .ok (.iconst 0, 1) := by decide +kernel
theorem dX6_init_490 : decode cX6_init 490 = .ok (.iastore, 1) := by decide +kernel
theorem dX6_init_491 : decode cX6_init 491 = .ok (.dup, 1) := by decide +kernel
theorem dX6_init_492 : decode cX6_init 492 = .ok (.bipush 66, 2) := by decide +kernel
theorem dX6_init_494 : decode cX6_init 494 = .ok (.iconst 0, 1) := by decide +kernel
theorem dX6_init_495 : decode cX6_init 495 = .ok (.iastore, 1) := by decide +kernel
theorem dX6_init_496 : decode cX6_init 496 = .ok (.dup, 1) := by decide +kernel
theorem dX6_init_497 : decode cX6_init 497 = .ok (.bipush 67, 2) := by decide +kernel
theorem dX6_init_499 : decode cX6_init 499 = .ok (.iconst 0, 1) := by decide +kernel
theorem dX6_init_500 : decode cX6_init 500 = .ok (.iastore, 1) := by decide +kernel
theorem dX6_init_501 : decode cX6_init 501 = .ok (.dup, 1) := by decide +kernel
theorem dX6_init_502 : decode cX6_init 502 = .ok (.bipush 68, 2) := by decide +kernel
theorem dX6_init_504 : decode cX6_init 504 = .ok (.iconst 0, 1) := by decide +kernel
theorem dX6_init_505 : decode cX6_init 505 = .ok (.iastore, 1) := by decide +kernel
theorem dX6_init_506 : decode cX6_init 506 = .ok (.dup, 1) := by decide +kernel
theorem dX6_init_507 : decode cX6_init 507 = .ok (.bipush 69, 2) := by decide +kernel
theorem dX6_init_509 : decode cX6_init 509 = .ok (.iconst 0, 1) := by decide +kernel
theorem dX6_init_510 : decode cX6_init 510 = .ok (.iastore, 1) := by decide +kernel
theorem dX6_init_511 : decode cX6_init 511 = .ok (.dup, 1) := by decide +kernel
theorem dX6_init_512 : decode cX6_init 512 = .ok (.bipush 70, 2) := by decide +kernel
theorem dX6_init_514 : decode cX6_init 514 = .ok (.iconst 0, 1) := by decide +kernel
theorem dX6_init_515 : decode cX6_init 515 = .ok (.iastore, 1) := by decide +kernel
theorem dX6_init_516 : decode cX6_init 516 = .ok (.dup, 1) := by decide +kernel
theorem dX6_init_517 : decode cX6_init 517 = .ok (.bipush 71, 2) := by decide +kernel
theorem dX6_init_519 : decode cX6_init 519 = .ok (.iconst 0, 1) := by decide +kernel
theorem dX6_init_520 : decode cX6_init 520 = .ok (.iastore, 1) := by decide +kernel
theorem dX6_init_521 : decode cX6_init 521 = .ok (.dup, 1) := by decide +kernel
theorem dX6_init_522 : decode cX6_init 522 = .ok (.bipush 72, 2) := by decide +kernel
theorem dX6_init_524 : decode cX6_init 524 = .ok (.iconst 0, 1) := by decide +kernel
theorem dX6_init_525 : decode cX6_init 525 = .ok (.iastore, 1) := by decide +kernel
theorem dX6_init_526 : decode cX6_init 526 = .ok (.dup, 1) := by decide +kernel
theorem dX6_init_527 : decode cX6_init 527 = .ok (.bipush 73, 2) := by decide +kernel
theorem dX6_init_529 : decode cX6_init 529 = .ok (.iconst 0, 1) := by decide +kernel
theorem dX6_init_530 : decode cX6_init 530 = .ok (.iastore, 1) := by decide +kernel
theorem dX6_init_531 : decode cX6_init 531 = .ok (.dup, 1) := by decide +kernel
theorem dX6_init_532 : decode cX6_init 532 = .ok (.bipush 74, 2) := by decide +kernel
theorem dX6_init_534 : decode cX6_init 534 = .ok (.iconst 0, 1) := by decide +kernel
theorem dX6_init_535 : decode cX6_init 535 = .ok (.iastore, 1) := by decide +kernel
theorem dX6_init_536 : decode cX6_init 536 = .ok (.dup, 1) := by decide +kernel
theorem dX6_init_537 : decode cX6_init 537 = .ok (.bipush 75, 2) := by decide +kernel
theorem dX6_init_539 : decode cX6_init 539 = .ok (.iconst 0, 1) := by decide +kernel
theorem dX6_init_540 : decode cX6_init 540 = .ok (.iastore, 1) := by decide +kernel
theorem dX6_init_541 : decode cX6_init 541 = .ok (.dup, 1) := by decide +kernel
theorem dX6_init_542 : decode cX6_init 542 = .ok (.bipush 76, 2) := by decide +kernel
theorem dX6_init_544 : decode cX6_init 544 = .ok (.iconst 0, 1) := by decide +kernel
theorem dX6_init_545 : decode cX6_init 545 = .ok (.iastore, 1) := by decide +kernel
theorem dX6_init_546 : decode cX6_init 546 = .ok (.dup, 1) := by decide +kernel
theorem dX6_init_547 : decode cX6_init 547 = .ok (.bipush 77, 2) := by decide +kernel
theorem dX6_init_549 : decode cX6_init 549 = .ok (.iconst 0, 1) := by decide +kernel
theorem dX6_init_550 : decode cX6_init 550 = .ok (.iastore, 1) := by decide +kernel
theorem dX6_init_551 : decode cX6_init 551 = .ok (.dup, 1) := by decide +kernel
theorem dX6_init_552 : decode cX6_init 552 = .ok (.bipush 78, 2) := by decide +kernel
theorem dX6_init_554 : decode cX6_init 554 = .ok (.iconst 0, 1) := by decide +kernel
theorem dX6_init_555 : decode cX6_init 555 = .ok (.iastore, 1) := by decide +kernel
theorem dX6_init_556 : decode cX6_init 556 = .ok (.dup, 1) := by decide +kernel
theorem dX6_init_557 : decode cX6_init 557 = .ok (.bipush 79, 2) := by decide +kernel
theorem dX6_init_559 : decode cX6_init 559 = .ok (.iconst 0, 1) := by decide +kernel
theorem dX6_init_560 : decode cX6_init 560 = .ok (.iastore, 1) := by decide +kernel
theorem dX6_init_561 : decode cX6_init 561 = .ok (.dup, 1) := by decide +kernel
theorem dX6_init_562 : decode cX6_init 562 = .ok (.bipush 80, 2) := by decide +kernel
theorem dX6_init_564 : decode cX6_init 564 = .ok (.iconst 0, 1) := by decide +kernel
theorem dX6_init_565 : decode cX6_init 565 = .ok (.iastore, 1) := by decide +kernel
theorem dX6_init_566 : decode cX6_init 566 = .ok (.dup, 1) := by decide +kernel
theorem dX6_init_567 : decode cX6_init 567 = .ok (.bipush 81, 2) := by decide +kernel
theorem dX6_init_569 : decode cX6_init 569 = .ok (.iconst 0, 1) := by decide +kernel
theorem dX6_init_570 : decode cX6_init 570 = .ok (.iastore, 1) := by decide +kernel
theorem dX6_init_571 : decode cX6_init 571 = .ok (.dup, 1) := by decide +kernel
theorem dX6_init_572 : decode cX6_init 572 = .ok (.bipush 82, 2) := by decide +kernel
theorem dX6_init_574 : decode cX6_init 574 = .ok (.iconst 0, 1) := by decide +kernel
theorem dX6_init_575 : decode cX6_init 575 = .ok (.iastore, 1) := by decide +kernel
theorem dX6_init_576 : decode cX6_init 576 = .ok (.dup, 1) := by decide +kernel
theorem dX6_init_577 : decode cX6_init 577 = .ok (.bipush 83, 2) := by decide +kernel
theorem dX6_init_579 : decode cX6_init 579 = .ok (.iconst 0, 1) := by decide +kernel
theorem dX6_init_580 : decode cX6_init 580 = .ok (.iastore, 1) := by decide +kernel
theorem dX6_init_581 : decode cX6_init 581 = .ok (.dup, 1) := by decide +kernel
theorem dX6_init_582 : decode cX6_init 582 = .ok (.bipush 84, 2) := by decide +kernel
theorem dX6_init_584 : decode cX6_init 584 = .ok (.iconst 0, 1) := by decide +kernel
theorem dX6_init_585 : decode cX6_init 585 = .ok (.iastore, 1) := by decide +kernel
theorem dX6_init_586 : decode cX6_init 586 = .ok (.dup, 1) := by decide +kernel
theorem dX6_init_587 : decode cX6_init 587 = .ok (.bipush 85, 2) := by decide +kernel
theorem dX6_init_589 : decode cX6_init 589 = .ok (.iconst 0, 1) := by decide +kernel
theorem dX6_init_590 : decode cX6_init 590 = .ok (.iastore, 1) := by decide +kernel
theorem dX6_init_591 : decode cX6_init 591 = .ok (.dup, 1) := by decide +kernel
theorem dX6_init_592 : decode cX6_init 592 = .ok (.bipush 86, 2) := by decide +kernel
theorem dX6_init_594 : decode cX6_init 594 = .ok (.iconst 0, 1) := by decide +kernel
theorem dX6_init_595 : decode cX6_init 595 = .ok (.iastore, 1) := by decide +kernel
theorem dX6_init_596 : decode cX6_init 596 = .ok (.dup, 1) := by decide +kernel
theorem dX6_init_597 : decode cX6_init 597 = .ok (.bipush 87, 2) := by decide +kernel
theorem dX6_init_599 : decode cX6_init 599 = .ok (.iconst 0, 1) := by decide +kernel
theorem dX6_init_600 : decode cX6_init 600 = .ok (.iastore, 1) := by decide +kernel
theorem dX6_init_601 : decode cX6_init 601 = .ok (.dup, 1) := by decide +kernel
theorem dX6_init_602 : decode cX6_init 602 = .ok (.bipush 88, 2) := by decide +kernel
theorem dX6_init_604 : decode cX6_init 604 = .ok (.iconst 0, 1) := by decide +kernel
theorem dX6_init_605 : decode cX6_init 605 = .ok (.iastore, 1) := by decide +kernel
theorem dX6_init_606 : decode cX6_init 606 = .ok (.dup, 1) := by decide +kernel
theorem dX6_init_607 : decode cX6_init 607 = .ok (.bipush 89, 2) := by decide +kernel
theorem dX6_init_609 : decode cX6_init 609 = .ok (.iconst 0, 1) := by decide +kernel
theorem dX6_init_610 : decode cX6_init 610 = .ok (.iastore, 1) := by decide +kernel
theorem dX6_init_611 : decode cX6_init 611 = .ok (.dup, 1) := by decide +kernel
theorem dX6_init_612 : decode cX6_init 612 = .ok (.bipush 90, 2) := by decide +kernel
theorem dX6_init_614 : decode cX6_init 614 = .ok (.iconst 0, 1) := by decide +kernel
theorem dX6_init_615 : decode cX6_init 615 = .ok (.iastore, 1) := by decide +kernel
theorem dX6_init_616 : decode cX6_init 616 = .ok (.dup, 1) := by decide +kernel
theorem dX6_init_617 : decode cX6_init 617 = .ok (.bipush 91, 2) := by decide +kernel
theorem dX6_init_619 : decode cX6_init 619 = .ok (.iconst 0, 1) := by decide +kernel
theorem dX6_init_620 : decode cX6_init 620 = .ok (.iastore, 1) := by decide +kernel
theorem dX6_init_621 : decode cX6_init 621 = .ok (.dup, 1) := by decide +kernel
theorem dX6_init_622 : decode cX6_init 622 = .ok (.bipush 92, 2) := by decide +kernel
theorem dX6_init_624 : decode cX6_init 624 = .ok (.iconst 0, 1) := by decide +kernel
theorem dX6_init_625 : decode cX6_init 625 = .ok (.iastore, 1) := by decide +kernel
theorem dX6_init_626 : decode cX6_init 626 = .ok (.dup, 1) := by decide +kernel
theorem dX6_init_627 : decode cX6_init 627 = .ok (.bipush 93, 2) := by decide +kernel
theorem dX6_init_629 : decode cX6_init 629 = .ok (.iconst 0, 1) := by decide +kernel
theorem dX6_init_630 : decode cX6_init 630 = .ok (.iastore, 1) := by decide +kernel
theorem dX6_init_631 : decode cX6_init 631 = .ok (.dup, 1) := by decide +kernel
theorem dX6_init_632 : decode cX6_init 632 = .ok (.bipush 94, 2) := by decide +kernel
theorem dX6_init_634 : decode cX6_init 634 = .ok (.iconst 0, 1) := by decide +kernel
theorem dX6_init_635 : decode cX6_init 635 = .ok (.iastore, 1) := by decide +kernel
theorem dX6_init_636 : decode cX6_init 636 = .ok (.dup, 1) := by decide +kernel
theorem dX6_init_637 : decode cX6_init 637 = .ok (.bipush 95, 2) := by decide +kernel
theorem dX6_init_639 : decode cX6_init 639 = .ok (.iconst 0, 1) := by decide +kernel
theorem dX6_init_640 : decode cX6_init 640 = .ok (.iastore, 1) := by decide +kernel
theorem dX6_init_641 : decode cX6_init 641 = .ok (.dup, 1) := by decide +kernel
theorem dX6_init_642 : decode cX6_init 642 = .ok (.bipush 96, 2) := by decide +kernel
theorem dX6_init_644 : decode cX6_init 644 = .ok (.iconst 0, 1) := by decide +kernel
theorem dX6_init_645 : decode cX6_init 645 = .ok (.iastore, 1) := by decide +kernel
theorem dX6_init_646 : decode cX6_init 646 = .ok (.dup, 1) := by decide +kernel
theorem dX6_init_647 : decode cX6_init 647 = .ok (.bipush 97, 2) := by decide +kernel
theorem dX6_init_649 : decode cX6_init 649 = .ok (.iconst 0, 1) := by decide +kernel
theorem dX6_init_650 : decode cX6_init 650 = .ok (.iastore, 1) := by decide +kernel
theorem dX6_init_651 : decode cX6_init 651 = .ok (.dup, 1) := by decide +kernel
theorem dX6_init_652 : decode cX6_init 652 = .ok (.bipush 98, 2) := by decide +kernel
theorem dX6_init_654 : decode cX6_init 654 = .ok (.iconst 0, 1) := by decide +kernel
theorem dX6_init_655 : decode cX6_init 655 = .ok (.iastore, 1) := by decide +kernel
theorem dX6_init_656 : decode cX6_init 656 = .ok (.dup, 1) := by decide +kernel
theorem dX6_init_657 : decode cX6_init 657 = .ok (.bipush 99, 2) := by decide +kernel
theorem dX6_init_659 : decode cX6_init 659 = .ok (.iconst 0, 1) := by decide +kernel
theorem dX6_init_660 : decode cX6_init 660 = .ok (.iastore, 1) := by decide +kernel
theorem dX6_init_661 : decode cX6_init 661 = .ok (.dup, 1) := by decide +kernel
theorem dX6_init_662 : decode cX6_init 662 = .ok (.bipush 100, 2) := by decide +kernel
theorem dX6_init_664 : decode cX6_init 664 = .ok (.iconst 0, 1) := by decide +kernel
theorem dX6_init_665 : decode cX6_init 665 = .ok (.iastore, 1) := by decide +kernel
theorem dX6_init_666 : decode cX6_init 666 = .ok (.putfield 58, 3) := by decide +kernel
theorem dX6_init_669 : decode cX6_init 669 = .ok (.aload_n 0, 1) := by decide +kernel
theorem dX6_init_670 : decode cX6_init 670 = .ok (.bipush 12, 2) := by decide +kernel
theorem dX6_init_672 : decode cX6_init 672 = .ok (.newarray .long, 2) := by decide +kernel
theorem dX6_init_674 : decode cX6_init 674 = .ok (.putfield 61, 3) := by decide +kernel
theorem dX6_init_677 : decode cX6_init 677 = .ok (.aload_n 0, 1) := by decide +kernel
theorem dX6_init_678 : decode cX6_init 678 = .ok (.bipush 12, 2) := by decide +kernel
theorem dX6_init_680 : decode cX6_init 680 = .ok (.newarray .long, 2) := by decide +kernel
theorem dX6_init_682 : decode cX6_init 682 = .ok (.putfield 64, 3) := by decide +kernel
theorem dX6_init_685 : decode cX6_init 685 = .ok (.aload_n 0, 1) := by decide +kernel
theorem dX6_init_686 : decode cX6_init 686 = .ok (.bipush 12, 2) := by decide +kernel
theorem dX6_init_688 : decode cX6_init 688 = .ok (.newarray .long, 2) := by decide +kernel
theorem dX6_init_690 : decode cX6_init 690 = .ok (.putfield 67, 3) := by decide +kernel
theorem dX6_init_693 : decode cX6_init 693 = .ok (.aload_n 0, 1) := by decide +kernel
theorem dX6_init_694 : decode cX6_init 694 = .ok (.bipush 12, 2) := by decide +kernel
theorem dX6_init_696 : decode cX6_init 696 = .ok (.newarray .long, 2) := by decide +kernel
theorem dX6_init_698 : decode cX6_init 698 = .ok (.putfield 70, 3) := by decide +kernel
theorem dX6_init_701 : decode cX6_init 701 = .ok (.aload_n 0, 1) := by decide +kernel
theorem dX6_init_702 : decode cX6_init 702 = .ok (.getfield 17, 3) := by decide +kernel
theorem dX6_init_705 : decode cX6_init 705 = .ok (.iconst 0, 1) := by decide +kernel
theorem dX6_init_706 : decode cX6_init 706 = .ok (.iconst (-1), 1) := by decide +kernel
theorem dX6_init_707 : decode cX6_init 707 = .ok (.iastore, 1) := by decide +kernel
theorem dX6_init_708 : decode cX6_init 708 = .ok (.aload_n 0, 1) := by decide +kernel
theorem dX6_init_709 : decode cX6_init 709 = .ok (.getfield 21, 3) := by decide +kernel
theorem dX6_init_712 : decode cX6_init 712 = .ok (.iconst 0, 1) := by decide +kernel
theorem dX6_init_713 : decode cX6_init 713 = .ok (.iconst (-1), 1) := by decide +kernel
theorem dX6_init_714 : decode cX6_init 714 = .ok (.iastore, 1) := by decide +kernel
theorem dX6_init_715 : decode cX6_init 715 = .ok (.aload_n 0, 1) := by decide +kernel
theorem dX6_init_716 : decode cX6_init 716 = .ok (.getfield 24, 3) := by decide +kernel
theorem dX6_init_719 : decode cX6_init 719 = .ok (.iconst 0, 1) := by decide +kernel
theorem dX6_init_720 : decode cX6_init 720 = .ok (.lconst 1, 1) := by decide +kernel
theorem dX6_init_721 : decode cX6_init 721 = .ok (.lastore, 1) := by decide +kernel
theorem dX6_init_722 : decode cX6_init 722 = .ok (.return_, 1) := by decide +kernel
theorem dX6_thrown_0 : decode cX6_thrown 0 = .ok (.aload_n 0, 1) := by decide +kernel
theorem dX6_thrown_1 : decode cX6_thrown 1 = .ok (.getfield 73, 3) := by decide +kernel
theorem dX6_thrown_4 : decode cX6_thrown 4 = .ok (.ireturn, 1) := by decide +kernel
theorem dX6_fails_0 : decode cX6_fails 0 = .ok (.aload_n 0, 1) := by decide +kernel
theorem dX6_fails_1 : decode cX6_fails 1 = .ok (.iload_n 1, 1) := by decide +kernel
theorem dX6_fails_2 : decode cX6_fails 2 = .ok (.putfield 73, 3) := by decide +kernel
theorem dX6_fails_5 : decode cX6_fails 5 = .ok (.iload_n 1, 1) := by decide +kernel
theorem dX6_fails_6 : decode cX6_fails 6 = .ok (.ifCond .le 7, 3) := by decide +kernel
theorem dX6_fails_9 : decode cX6_fails 9 = .ok (.iconst 1, 1) := by decide +kernel
theorem dX6_fails_10 : decode cX6_fails 10 = .ok (.goto 4, 3) := by decide +kernel
theorem dX6_fails_13 : decode cX6_fails 13 = .ok (.iconst 0, 1) := by decide +kernel
theorem dX6_fails_14 : decode cX6_fails 14 = .ok (.ireturn, 1) := by decide +kernel
theorem dX6_tells_0 : decode cX6_tells 0 = .ok (.aload_n 0, 1) := by decide +kernel
theorem dX6_tells_1 : decode cX6_tells 1 = .ok (.iconst 0, 1) := by decide +kernel
theorem dX6_tells_2 : decode cX6_tells 2 = .ok (.putfield 73, 3) := by decide +kernel
theorem dX6_tells_5 : decode cX6_tells 5 = .ok (.iload_n 1, 1) := by decide +kernel
theorem dX6_tells_6 : decode cX6_tells 6 = .ok (.ireturn, 1) := by decide +kernel
theorem dX6_in_0 : decode cX6_in 0 = .ok (.iload_n 0, 1) := by decide +kernel
theorem dX6_in_1 : decode cX6_in 1 = .ok (.iload_n 1, 1) := by decide +kernel
theorem dX6_in_2 : decode cX6_in 2 = .ok (.if_icmp .lt 12, 3) := by decide +kernel
theorem dX6_in_5 : decode cX6_in 5 = .ok (.iload_n 0, 1) := by decide +kernel
theorem dX6_in_6 : decode cX6_in 6 = .ok (.iload_n 2, 1) := by decide +kernel
theorem dX6_in_7 : decode cX6_in 7 = .ok (.if_icmp .gt 7, 3) := by decide +kernel
theorem dX6_in_10 : decode cX6_in 10 = .ok (.iconst 1, 1) := by decide +kernel
theorem dX6_in_11 : decode cX6_in 11 = .ok (.goto 4, 3) := by decide +kernel
theorem dX6_in_14 : decode cX6_in 14 = .ok (.iconst 0, 1) := by decide +kernel
theorem dX6_in_15 : decode cX6_in 15 = .ok (.ireturn, 1) := by decide +kernel
theorem dX6_isNoItem_0 : decode cX6_isNoItem 0 = .ok (.iload_n 1, 1) := by decide +kernel
theorem dX6_isNoItem_1 : decode cX6_isNoItem 1 = .ok (.iconst 0, 1) := by decide +kernel
theorem dX6_isNoItem_2 : decode cX6_isNoItem 2 = .ok (.aload_n 0, 1) := by decide +kernel
theorem dX6_isNoItem_3 : decode cX6_isNoItem 3 = .ok (.getfield 76, 3) := by decide +kernel
theorem dX6_isNoItem_6 : decode cX6_isNoItem 6 = .ok (.iconst 1, 1) := by decide +kernel
theorem dX6_isNoItem_7 : decode cX6_isNoItem 7 = .ok (.isub, 1) := by decide +kernel
theorem dX6_isNoItem_8 : decode cX6_isNoItem 8 = .ok (.invokestatic 79, 3) := by decide +kernel
theorem dX6_isNoItem_11 : decode cX6_isNoItem 11 = .ok (.ifCond .ne 7, 3) := by decide +kernel
theorem dX6_isNoItem_14 : decode cX6_isNoItem 14 = .ok (.iconst 1, 1) := by decide +kernel
theorem dX6_isNoItem_15 : decode cX6_isNoItem 15 = .ok (.goto 4, 3) := by decide +kernel
theorem dX6_isNoItem_18 : decode cX6_isNoItem 18 = .ok (.iconst 0, 1) := by decide +kernel
theorem dX6_isNoItem_19 : decode cX6_isNoItem 19 = .ok (.ireturn, 1) := by decide +kernel
theorem dX6_isNoCommit_0 : decode cX6_isNoCommit 0 = .ok (.iload_n 1, 1) := by decide +kernel
theorem dX6_isNoCommit_1 : decode cX6_isNoCommit 1 = .ok (.iconst 0, 1) := by decide +kernel
theorem dX6_isNoCommit_2 : decode cX6_isNoCommit 2 = .ok (.aload_n 0, 1) := by decide +kernel
theorem dX6_isNoCommit_3 : decode cX6_isNoCommit 3 = .ok (.getfield 13, 3) := by decide +kernel
theorem dX6_isNoCommit_6 : decode cX6_isNoCommit 6 = .ok (.iconst 1, 1) := by decide +kernel
theorem dX6_isNoCommit_7 : decode cX6_isNoCommit 7 = .ok (.isub, 1) := by decide +kernel
theorem dX6_isNoCommit_8 : decode cX6_isNoCommit 8 = .ok (.invokestatic 79, 3) := by decide +kernel
theorem dX6_isNoCommit_11 : decode cX6_isNoCommit 11 = .ok (.ifCond .ne 7, 3) := by decide +kernel
theorem dX6_isNoCommit_14 : decode cX6_isNoCommit 14 = .ok (.iconst 1, 1) := by decide +kernel
theorem dX6_isNoCommit_15 : decode cX6_isNoCommit 15 = .ok (.goto 4, 3) := by decide +kernel
theorem dX6_isNoCommit_18 : decode cX6_isNoCommit 18 = .ok (.iconst 0, 1) := by decide +kernel
theorem dX6_isNoCommit_19 : decode cX6_isNoCommit 19 = .ok (.ireturn, 1) := by decide +kernel
theorem dX6_isNoBranch_0 : decode cX6_isNoBranch 0 = .ok (.iload_n 1, 1) := by decide +kernel
theorem dX6_isNoBranch_1 : decode cX6_isNoBranch 1 = .ok (.iconst 0, 1) := by decide +kernel
theorem dX6_isNoBranch_2 : decode cX6_isNoBranch 2 = .ok (.aload_n 0, 1) := by decide +kernel
theorem dX6_isNoBranch_3 : decode cX6_isNoBranch 3 = .ok (.getfield 37, 3) := by decide +kernel
theorem dX6_isNoBranch_6 : decode cX6_isNoBranch 6 = .ok (.iconst 1, 1) := by decide +kernel
theorem dX6_isNoBranch_7 : decode cX6_isNoBranch 7 = .ok (.isub, 1) := by decide +kernel
theorem dX6_isNoBranch_8 : decode cX6_isNoBranch 8 = .ok (.invokestatic 79, 3) := by decide +kernel
theorem dX6_isNoBranch_11 : decode cX6_isNoBranch 11 = .ok (.ifCond .ne 7, 3) := by decide +kernel
theorem dX6_isNoBranch_14 : decode cX6_isNoBranch 14 = .ok (.iconst 1, 1) := by decide +kernel
theorem dX6_isNoBranch_15 : decode cX6_isNoBranch 15 = .ok (.goto 4, 3) := by decide +kernel
theorem dX6_isNoBranch_18 : decode cX6_isNoBranch 18 = .ok (.iconst 0, 1) := by decide +kernel
theorem dX6_isNoBranch_19 : decode cX6_isNoBranch 19 = .ok (.ireturn, 1) := by decide +kernel
theorem dX6_isNone_0 : decode cX6_isNone 0 = .ok (.aload_n 0, 1) := by decide +kernel
theorem dX6_isNone_1 : decode cX6_isNone 1 = .ok (.aload_n 0, 1) := by decide +kernel
theorem dX6_isNone_2 : decode cX6_isNone 2 = .ok (.iload_n 1, 1) := by decide +kernel
theorem dX6_isNone_3 : decode cX6_isNone 3 = .ok (.invokevirtual 83, 3) := by decide +kernel
theorem dX6_isNone_6 : decode cX6_isNone 6 = .ok (.ifCond .eq 7, 3) := by decide +kernel
theorem dX6_isNone_9 : decode cX6_isNone 9 = .ok (.iconst 1, 1) := by decide +kernel
theorem dX6_isNone_10 : decode cX6_isNone 10 = .ok (.goto 4, 3) := by decide +kernel
theorem dX6_isNone_13 : decode cX6_isNone 13 = .ok (.iconst 0, 1) := by decide +kernel
theorem dX6_isNone_14 : decode cX6_isNone 14 = .ok (.invokevirtual 87, 3) := by decide +kernel
theorem dX6_isNone_17 : decode cX6_isNone 17 = .ok (.ireturn, 1) := by decide +kernel
theorem dX6_has_0 : decode cX6_has 0 = .ok (.iload 4, 2) := by decide +kernel
theorem dX6_has_2 : decode cX6_has 2 = .ok (.bipush 50, 2) := by decide +kernel
theorem dX6_has_4 : decode cX6_has 4 = .ok (.if_icmp .ge 22, 3) := by decide +kernel
theorem dX6_has_7 : decode cX6_has 7 = .ok (.lload_n 0, 1) := by decide +kernel
theorem dX6_has_8 : decode cX6_has 8 = .ok (.iload 4, 2) := by decide +kernel
theorem dX6_has_10 : decode cX6_has 10 = .ok (.lshr, 1) := by decide +kernel
theorem dX6_has_11 : decode cX6_has 11 = .ok (.lconst 1, 1) := by decide +kernel
theorem dX6_has_12 : decode cX6_has 12 = .ok (.land, 1) := by decide +kernel
theorem dX6_has_13 : decode cX6_has 13 = .ok (.lconst 1, 1) := by decide +kernel
theorem dX6_has_14 : decode cX6_has 14 = .ok (.lcmp, 1) := by decide +kernel
theorem dX6_has_15 : decode cX6_has 15 = .ok (.ifCond .ne 7, 3) := by decide +kernel
theorem dX6_has_18 : decode cX6_has 18 = .ok (.iconst 1, 1) := by decide +kernel
theorem dX6_has_19 : decode cX6_has 19 = .ok (.goto 26, 3) := by decide +kernel
theorem dX6_has_22 : decode cX6_has 22 = .ok (.iconst 0, 1) := by decide +kernel
theorem dX6_has_23 : decode cX6_has 23 = .ok (.goto 22, 3) := by decide +kernel
theorem dX6_has_26 : decode cX6_has 26 = .ok (.lload_n 2, 1) := by decide +kernel
theorem dX6_has_27 : decode cX6_has 27 = .ok (.iload 4, 2) := by decide +kernel
theorem dX6_has_29 : decode cX6_has 29 = .ok (.bipush 50, 2) := by decide +kernel
theorem dX6_has_31 : decode cX6_has 31 = .ok (.isub, 1) := by decide +kernel
theorem dX6_has_32 : decode cX6_has 32 = .ok (.lshr, 1) := by decide +kernel
theorem dX6_has_33 : decode cX6_has 33 = .ok (.lconst 1, 1) := by decide +kernel
theorem dX6_has_34 : decode cX6_has 34 = .ok (.land, 1) := by decide +kernel
theorem dX6_has_35 : decode cX6_has 35 = .ok (.lconst 1, 1) := by decide +kernel
theorem dX6_has_36 : decode cX6_has 36 = .ok (.lcmp, 1) := by decide +kernel
theorem dX6_has_37 : decode cX6_has 37 = .ok (.ifCond .ne 7, 3) := by decide +kernel
theorem dX6_has_40 : decode cX6_has 40 = .ok (.iconst 1, 1) := by decide +kernel
theorem dX6_has_41 : decode cX6_has 41 = .ok (.goto 4, 3) := by decide +kernel
theorem dX6_has_44 : decode cX6_has 44 = .ok (.iconst 0, 1) := by decide +kernel
theorem dX6_has_45 : decode cX6_has 45 = .ok (.ireturn, 1) := by decide +kernel
theorem dX6_count_0 : decode cX6_count 0 = .ok (.iconst 0, 1) := by decide +kernel
theorem dX6_count_1 : decode cX6_count 1 = .ok (.istore 5, 2) := by decide +kernel
theorem dX6_count_3 : decode cX6_count 3 = .ok (.iconst 0, 1) := by decide +kernel
theorem dX6_count_4 : decode cX6_count 4 = .ok (.istore 6, 2) := by decide +kernel
theorem dX6_count_6 : decode cX6_count 6 = .ok (.iload 6, 2) := by decide +kernel
theorem dX6_count_8 : decode cX6_count 8 = .ok (.aload_n 0, 1) := by decide +kernel
theorem dX6_count_9 : decode cX6_count 9 = .ok (.getfield 55, 3) := by decide +kernel
theorem dX6_count_12 : decode cX6_count 12 = .ok (.if_icmp .ge 29, 3) := by decide +kernel
theorem dX6_count_15 : decode cX6_count 15 = .ok (.iload 5, 2) := by decide +kernel
theorem dX6_count_17 : decode cX6_count 17 = .ok (.lload_n 1, 1) := by decide +kernel
theorem dX6_count_18 : decode cX6_count 18 = .ok (.lload_n 3, 1) := by decide +kernel
theorem dX6_count_19 : decode cX6_count 19 = .ok (.iload 6, 2) := by decide +kernel
theorem dX6_count_21 : decode cX6_count 21 = .ok (.invokestatic 90, 3) := by decide +kernel
theorem dX6_count_24 : decode cX6_count 24 = .ok (.ifCond .eq 7, 3) := by decide +kernel
theorem dX6_count_27 : decode cX6_count 27 = .ok (.iconst 1, 1) := by decide +kernel
theorem dX6_count_28 : decode cX6_count 28 = .ok (.goto 4, 3) := by decide +kernel
theorem dX6_count_31 : decode cX6_count 31 = .ok (.iconst 0, 1) := by decide +kernel
theorem dX6_count_32 : decode cX6_count 32 = .ok (.iadd, 1) := by decide +kernel
theorem dX6_count_33 : decode cX6_count 33 = .ok (.istore 5, 2) := by decide +kernel
theorem dX6_count_35 : decode cX6_count 35 = .ok (.iinc 6 1, 3) := by decide +kernel
theorem dX6_count_38 : decode cX6_count 38 = .ok (.goto (-32), 3) := by decide +kernel
theorem dX6_count_41 : decode cX6_count 41 = .ok (.iload 5, 2) := by decide +kernel
theorem dX6_count_43 : decode cX6_count 43 = .ok (.ireturn, 1) := by decide +kernel
theorem dX6_sideOf_0 : decode cX6_sideOf 0 = .ok (.iconst 0, 1) := by decide +kernel
theorem dX6_sideOf_1 : decode cX6_sideOf 1 = .ok (.istore 6, 2) := by decide +kernel
theorem dX6_sideOf_3 : decode cX6_sideOf 3 = .ok (.iload 6, 2) := by decide +kernel
theorem dX6_sideOf_5 : decode cX6_sideOf 5 = .ok (.aload_n 0, 1) := by decide +kernel
theorem dX6_sideOf_6 : decode cX6_sideOf 6 = .ok (.getfield 55, 3) := by decide +kernel
theorem dX6_sideOf_9 : decode cX6_sideOf 9 = .ok (.if_icmp .ge 87, 3) := by decide +kernel
theorem dX6_sideOf_12 : decode cX6_sideOf 12 = .ok (.iconst 0, 1) := by decide +kernel
theorem dX6_sideOf_13 : decode cX6_sideOf 13 = .ok (.istore 7, 2) := by decide +kernel
theorem dX6_sideOf_15 : decode cX6_sideOf 15 = .ok (.iconst 0, 1) := by decide +kernel
theorem dX6_sideOf_16 : decode cX6_sideOf 16 = .ok (.istore 8, 2) := by decide +kernel
theorem dX6_sideOf_18 : decode cX6_sideOf 18 = .ok (.iload 8, 2) := by decide +kernel
theorem dX6_sideOf_20 : decode cX6_sideOf 20 = .ok (.aload_n 0, 1) := by decide +kernel
theorem dX6_sideOf_21 : decode cX6_sideOf 21 = .ok (.getfield 55, 3) := by decide +kernel
theorem dX6_sideOf_24 : decode cX6_sideOf 24 = .ok (.if_icmp .ge 46, 3) := by decide +kernel
theorem dX6_sideOf_27 : decode cX6_sideOf 27 = .ok (.iload 7, 2) := by decide +kernel
theorem dX6_sideOf_29 : decode cX6_sideOf 29 = .ok (.lload_n 1, 1) := by decide +kernel
theorem dX6_sideOf_30 : decode cX6_sideOf 30 = .ok (.lload_n 3, 1) := by decide +kernel
theorem dX6_sideOf_31 : decode cX6_sideOf 31 = .ok (.iload 8, 2) := by decide +kernel
theorem dX6_sideOf_33 : decode cX6_sideOf 33 = .ok (.invokestatic 90, 3) := by decide +kernel
theorem dX6_sideOf_36 : decode cX6_sideOf 36 = .ok (.ifCond .eq 24, 3) := by decide +kernel
theorem dX6_sideOf_39 : decode cX6_sideOf 39 = .ok (.aload_n 0, 1) := by decide +kernel
theorem dX6_sideOf_40 : decode cX6_sideOf 40 = .ok (.getfield 58, 3) := by decide +kernel
theorem dX6_sideOf_43 : decode cX6_sideOf 43 = .ok (.iload 8, 2) := by decide +kernel
theorem dX6_sideOf_45 : decode cX6_sideOf 45 = .ok (.iaload, 1) := by decide +kernel
theorem dX6_sideOf_46 : decode cX6_sideOf 46 = .ok (.aload_n 0, 1) := by decide +kernel
theorem dX6_sideOf_47 : decode cX6_sideOf 47 = .ok (.getfield 58, 3) := by decide +kernel
theorem dX6_sideOf_50 : decode cX6_sideOf 50 = .ok (.iload 6, 2) := by decide +kernel
theorem dX6_sideOf_52 : decode cX6_sideOf 52 = .ok (.iaload, 1) := by decide +kernel
theorem dX6_sideOf_53 : decode cX6_sideOf 53 = .ok (.if_icmp .ge 7, 3) := by decide +kernel
theorem dX6_sideOf_56 : decode cX6_sideOf 56 = .ok (.iconst 1, 1) := by decide +kernel
theorem dX6_sideOf_57 : decode cX6_sideOf 57 = .ok (.goto 4, 3) := by decide +kernel
theorem dX6_sideOf_60 : decode cX6_sideOf 60 = .ok (.iconst 0, 1) := by decide +kernel
theorem dX6_sideOf_61 : decode cX6_sideOf 61 = .ok (.iadd, 1) := by decide +kernel
theorem dX6_sideOf_62 : decode cX6_sideOf 62 = .ok (.istore 7, 2) := by decide +kernel
theorem dX6_sideOf_64 : decode cX6_sideOf 64 = .ok (.iinc 8 1, 3) := by decide +kernel
theorem dX6_sideOf_67 : decode cX6_sideOf 67 = .ok (.goto (-49), 3) := by decide +kernel
theorem dX6_sideOf_70 : decode cX6_sideOf 70 = .ok (.lload_n 1, 1) := by decide +kernel
theorem dX6_sideOf_71 : decode cX6_sideOf 71 = .ok (.lload_n 3, 1) := by decide +kernel
theorem dX6_sideOf_72 : decode cX6_sideOf 72 = .ok (.iload 6, 2) := by decide +kernel
theorem dX6_sideOf_74 : decode cX6_sideOf 74 = .ok (.invokestatic 90, 3) := by decide +kernel
theorem dX6_sideOf_77 : decode cX6_sideOf 77 = .ok (.ifCond .eq 13, 3) := by decide +kernel
theorem dX6_sideOf_80 : decode cX6_sideOf 80 = .ok (.iload 7, 2) := by decide +kernel
theorem dX6_sideOf_82 : decode cX6_sideOf 82 = .ok (.iload 5, 2) := by decide +kernel
theorem dX6_sideOf_84 : decode cX6_sideOf 84 = .ok (.if_icmp .ne 6, 3) := by decide +kernel
theorem dX6_sideOf_87 : decode cX6_sideOf 87 = .ok (.iload 6, 2) := by decide +kernel
theorem dX6_sideOf_89 : decode cX6_sideOf 89 = .ok (.ireturn, 1) := by decide +kernel
theorem dX6_sideOf_90 : decode cX6_sideOf 90 = .ok (.iinc 6 1, 3) := by decide +kernel
theorem dX6_sideOf_93 : decode cX6_sideOf 93 = .ok (.goto (-90), 3) := by decide +kernel
theorem dX6_sideOf_96 : decode cX6_sideOf 96 = .ok (.iconst (-1), 1) := by decide +kernel
theorem dX6_sideOf_97 : decode cX6_sideOf 97 = .ok (.ireturn, 1) := by decide +kernel
theorem dX6_at_0 : decode cX6_at 0 = .ok (.bipush 12, 2) := by decide +kernel
theorem dX6_at_2 : decode cX6_at 2 = .ok (.iload_n 0, 1) := by decide +kernel
theorem dX6_at_3 : decode cX6_at 3 = .ok (.imul, 1) := by decide +kernel
theorem dX6_at_4 : decode cX6_at 4 = .ok (.iload_n 1, 1) := by decide +kernel
theorem dX6_at_5 : decode cX6_at 5 = .ok (.iadd, 1) := by decide +kernel
theorem dX6_at_6 : decode cX6_at 6 = .ok (.ireturn, 1) := by decide +kernel
theorem dX6_isSame_0 : decode cX6_isSame 0 = .ok (.aload_n 0, 1) := by decide +kernel
theorem dX6_isSame_1 : decode cX6_isSame 1 = .ok (.getfield 31, 3) := by decide +kernel
theorem dX6_isSame_4 : decode cX6_isSame 4 = .ok (.iload_n 1, 1) := by decide +kernel
theorem dX6_isSame_5 : decode cX6_isSame 5 = .ok (.iload_n 3, 1) := by decide +kernel
theorem dX6_isSame_6 : decode cX6_isSame 6 = .ok (.invokestatic 94, 3) := by decide +kernel
theorem dX6_isSame_9 : decode cX6_isSame 9 = .ok (.laload, 1) := by decide +kernel
theorem dX6_isSame_10 : decode cX6_isSame 10 = .ok (.aload_n 0, 1) := by decide +kernel
theorem dX6_isSame_11 : decode cX6_isSame 11 = .ok (.getfield 31, 3) := by decide +kernel
theorem dX6_isSame_14 : decode cX6_isSame 14 = .ok (.iload_n 2, 1) := by decide +kernel
theorem dX6_isSame_15 : decode cX6_isSame 15 = .ok (.iload_n 3, 1) := by decide +kernel
theorem dX6_isSame_16 : decode cX6_isSame 16 = .ok (.invokestatic 94, 3) := by decide +kernel
theorem dX6_isSame_19 : decode cX6_isSame 19 = .ok (.laload, 1) := by decide +kernel
theorem dX6_isSame_20 : decode cX6_isSame 20 = .ok (.lcmp, 1) := by decide +kernel
theorem dX6_isSame_21 : decode cX6_isSame 21 = .ok (.ifCond .ne 31, 3) := by decide +kernel
theorem dX6_isSame_24 : decode cX6_isSame 24 = .ok (.aload_n 0, 1) := by decide +kernel
theorem dX6_isSame_25 : decode cX6_isSame 25 = .ok (.getfield 34, 3) := by decide +kernel
theorem dX6_isSame_28 : decode cX6_isSame 28 = .ok (.iload_n 1, 1) := by decide +kernel
theorem dX6_isSame_29 : decode cX6_isSame 29 = .ok (.iload_n 3, 1) := by decide +kernel
theorem dX6_isSame_30 : decode cX6_isSame 30 = .ok (.invokestatic 94, 3) := by decide +kernel
theorem dX6_isSame_33 : decode cX6_isSame 33 = .ok (.laload, 1) := by decide +kernel
theorem dX6_isSame_34 : decode cX6_isSame 34 = .ok (.aload_n 0, 1) := by decide +kernel
theorem dX6_isSame_35 : decode cX6_isSame 35 = .ok (.getfield 34, 3) := by decide +kernel
theorem dX6_isSame_38 : decode cX6_isSame 38 = .ok (.iload_n 2, 1) := by decide +kernel
theorem dX6_isSame_39 : decode cX6_isSame 39 = .ok (.iload_n 3, 1) := by decide +kernel
theorem dX6_isSame_40 : decode cX6_isSame 40 = .ok (.invokestatic 94, 3) := by decide +kernel
theorem dX6_isSame_43 : decode cX6_isSame 43 = .ok (.laload, 1) := by decide +kernel
theorem dX6_isSame_44 : decode cX6_isSame 44 = .ok (.lcmp, 1) := by decide +kernel
theorem dX6_isSame_45 : decode cX6_isSame 45 = .ok (.ifCond .ne 7, 3) := by decide +kernel
theorem dX6_isSame_48 : decode cX6_isSame 48 = .ok (.iconst 1, 1) := by decide +kernel
theorem dX6_isSame_49 : decode cX6_isSame 49 = .ok (.goto 4, 3) := by decide +kernel
theorem dX6_isSame_52 : decode cX6_isSame 52 = .ok (.iconst 0, 1) := by decide +kernel
theorem dX6_isSame_53 : decode cX6_isSame 53 = .ok (.ireturn, 1) := by decide +kernel
theorem dX6_sidesIn_0 : decode cX6_sidesIn 0 = .ok (.aload_n 0, 1) := by decide +kernel
theorem dX6_sidesIn_1 : decode cX6_sidesIn 1 = .ok (.aload_n 0, 1) := by decide +kernel
theorem dX6_sidesIn_2 : decode cX6_sidesIn 2 = .ok (.getfield 31, 3) := by decide +kernel
theorem dX6_sidesIn_5 : decode cX6_sidesIn 5 = .ok (.iload_n 1, 1) := by decide +kernel
theorem dX6_sidesIn_6 : decode cX6_sidesIn 6 = .ok (.iload_n 2, 1) := by decide +kernel
theorem dX6_sidesIn_7 : decode cX6_sidesIn 7 = .ok (.invokestatic 94, 3) := by decide +kernel
theorem dX6_sidesIn_10 : decode cX6_sidesIn 10 = .ok (.laload, 1) := by decide +kernel
theorem dX6_sidesIn_11 : decode cX6_sidesIn 11 = .ok (.aload_n 0, 1) := by decide +kernel
theorem dX6_sidesIn_12 : decode cX6_sidesIn 12 = .ok (.getfield 34, 3) := by decide +kernel
theorem dX6_sidesIn_15 : decode cX6_sidesIn 15 = .ok (.iload_n 1, 1) := by decide +kernel
theorem dX6_sidesIn_16 : decode cX6_sidesIn 16 = .ok (.iload_n 2, 1) := by decide +kernel
theorem dX6_sidesIn_17 : decode cX6_sidesIn 17 = .ok (.invokestatic 94, 3) := by decide +kernel
theorem dX6_sidesIn_20 : decode cX6_sidesIn 20 = .ok (.laload, 1) := by decide +kernel
theorem dX6_sidesIn_21 : decode cX6_sidesIn 21 = .ok (.invokevirtual 98, 3) := by decide +kernel
theorem dX6_sidesIn_24 : decode cX6_sidesIn 24 = .ok (.ireturn, 1) := by decide +kernel
theorem dX6_addItem_0 : decode cX6_addItem 0 = .ok (.aload_n 0, 1) := by decide +kernel
theorem dX6_addItem_1 : decode cX6_addItem 1 = .ok (.iload_n 1, 1) := by decide +kernel
theorem dX6_addItem_2 : decode cX6_addItem 2 = .ok (.bipush 116, 2) := by decide +kernel
theorem dX6_addItem_4 : decode cX6_addItem 4 = .ok (.if_icmp .eq 19, 3) := by decide +kernel
theorem dX6_addItem_7 : decode cX6_addItem 7 = .ok (.iload_n 1, 1) := by decide +kernel
theorem dX6_addItem_8 : decode cX6_addItem 8 = .ok (.bipush 99, 2) := by decide +kernel
theorem dX6_addItem_10 : decode cX6_addItem 10 = .ok (.if_icmp .eq 13, 3) := by decide +kernel
theorem dX6_addItem_13 : decode cX6_addItem 13 = .ok (.iload_n 1, 1) := by decide +kernel
theorem dX6_addItem_14 : decode cX6_addItem 14 = .ok (.bipush 115, 2) := by decide +kernel
theorem dX6_addItem_16 : decode cX6_addItem 16 = .ok (.if_icmp .eq 7, 3) := by decide +kernel
theorem dX6_addItem_19 : decode cX6_addItem 19 = .ok (.iconst 1, 1) := by decide +kernel
theorem dX6_addItem_20 : decode cX6_addItem 20 = .ok (.goto 17, 3) := by decide +kernel
theorem dX6_addItem_23 : decode cX6_addItem 23 = .ok (.aload_n 0, 1) := by decide +kernel
theorem dX6_addItem_24 : decode cX6_addItem 24 = .ok (.getfield 76, 3) := by decide +kernel
theorem dX6_addItem_27 : decode cX6_addItem 27 = .ok (.bipush 12, 2) := by decide +kernel
theorem dX6_addItem_29 : decode cX6_addItem 29 = .ok (.if_icmp .ne 7, 3) := by decide +kernel
theorem dX6_addItem_32 : decode cX6_addItem 32 = .ok (.iconst 2, 1) := by decide +kernel
theorem dX6_addItem_33 : decode cX6_addItem 33 = .ok (.goto 4, 3) := by decide +kernel
theorem dX6_addItem_36 : decode cX6_addItem 36 = .ok (.iconst 0, 1) := by decide +kernel
theorem dX6_addItem_37 : decode cX6_addItem 37 = .ok (.invokevirtual 87, 3) := by decide +kernel
theorem dX6_addItem_40 : decode cX6_addItem 40 = .ok (.ifCond .eq 5, 3) := by decide +kernel
theorem dX6_addItem_43 : decode cX6_addItem 43 = .ok (.iconst 0, 1) := by decide +kernel
theorem dX6_addItem_44 : decode cX6_addItem 44 = .ok (.ireturn, 1) := by decide +kernel
theorem dX6_addItem_45 : decode cX6_addItem 45 = .ok (.aload_n 0, 1) := by decide +kernel
theorem dX6_addItem_46 : decode cX6_addItem 46 = .ok (.getfield 7, 3) := by decide +kernel
theorem dX6_addItem_49 : decode cX6_addItem 49 = .ok (.aload_n 0, 1) := by decide +kernel
theorem dX6_addItem_50 : decode cX6_addItem 50 = .ok (.getfield 76, 3) := by decide +kernel
theorem dX6_addItem_53 : decode cX6_addItem 53 = .ok (.iload_n 1, 1) := by decide +kernel
theorem dX6_addItem_54 : decode cX6_addItem 54 = .ok (.castore, 1) := by decide +kernel
theorem dX6_addItem_55 : decode cX6_addItem 55 = .ok (.iconst 0, 1) := by decide +kernel
theorem dX6_addItem_56 : decode cX6_addItem 56 = .ok (.istore_n 2, 1) := by decide +kernel
theorem dX6_addItem_57 : decode cX6_addItem 57 = .ok (.iload_n 2, 1) := by decide +kernel
theorem dX6_addItem_58 : decode cX6_addItem 58 = .ok (.bipush 100, 2) := by decide +kernel
theorem dX6_addItem_60 : decode cX6_addItem 60 = .ok (.if_icmp .ge 23, 3) := by decide +kernel
theorem dX6_addItem_63 : decode cX6_addItem 63 = .ok (.aload_n 0, 1) := by decide +kernel
theorem dX6_addItem_64 : decode cX6_addItem 64 = .ok (.getfield 31, 3) := by decide +kernel
theorem dX6_addItem_67 : decode cX6_addItem 67 = .ok (.iload_n 2, 1) := by decide +kernel
theorem dX6_addItem_68 : decode cX6_addItem 68 = .ok (.aload_n 0, 1) := by decide +kernel
theorem dX6_addItem_69 : decode cX6_addItem 69 = .ok (.getfield 76, 3) := by decide +kernel
theorem dX6_addItem_72 : decode cX6_addItem 72 = .ok (.invokestatic 94, 3) := by decide +kernel
theorem dX6_addItem_75 : decode cX6_addItem 75 = .ok (.lconst 1, 1) := by decide +kernel
theorem dX6_addItem_76 : decode cX6_addItem 76 = .ok (.lastore, 1) := by decide +kernel
theorem dX6_addItem_77 : decode cX6_addItem 77 = .ok (.iinc 2 1, 3) := by decide +kernel
theorem dX6_addItem_80 : decode cX6_addItem 80 = .ok (.goto (-23), 3) := by decide +kernel
theorem dX6_addItem_83 : decode cX6_addItem 83 = .ok (.aload_n 0, 1) := by decide +kernel
theorem dX6_addItem_84 : decode cX6_addItem 84 = .ok (.dup, 1) := by decide +kernel
theorem dX6_addItem_85 : decode cX6_addItem 85 = .ok (.getfield 76, 3) := by decide +kernel
theorem dX6_addItem_88 : decode cX6_addItem 88 = .ok (.iconst 1, 1) := by decide +kernel
theorem dX6_addItem_89 : decode cX6_addItem 89 = .ok (.iadd, 1) := by decide +kernel
theorem dX6_addItem_90 : decode cX6_addItem 90 = .ok (.putfield 76, 3) := by decide +kernel
theorem dX6_addItem_93 : decode cX6_addItem 93 = .ok (.aload_n 0, 1) := by decide +kernel
theorem dX6_addItem_94 : decode cX6_addItem 94 = .ok (.getfield 76, 3) := by decide +kernel
theorem dX6_addItem_97 : decode cX6_addItem 97 = .ok (.iconst 1, 1) := by decide +kernel
theorem dX6_addItem_98 : decode cX6_addItem 98 = .ok (.isub, 1) := by decide +kernel
theorem dX6_addItem_99 : decode cX6_addItem 99 = .ok (.ireturn, 1) := by decide +kernel
theorem dX6_kindOf_0 : decode cX6_kindOf 0 = .ok (.aload_n 0, 1) := by decide +kernel
theorem dX6_kindOf_1 : decode cX6_kindOf 1 = .ok (.aload_n 0, 1) := by decide +kernel
theorem dX6_kindOf_2 : decode cX6_kindOf 2 = .ok (.iload_n 1, 1) := by decide +kernel
theorem dX6_kindOf_3 : decode cX6_kindOf 3 = .ok (.invokevirtual 102, 3) := by decide +kernel
theorem dX6_kindOf_6 : decode cX6_kindOf 6 = .ok (.ifCond .eq 7, 3) := by decide +kernel
theorem dX6_kindOf_9 : decode cX6_kindOf 9 = .ok (.iconst 1, 1) := by decide +kernel
theorem dX6_kindOf_10 : decode cX6_kindOf 10 = .ok (.goto 4, 3) := by decide +kernel
theorem dX6_kindOf_13 : decode cX6_kindOf 13 = .ok (.iconst 0, 1) := by decide +kernel
theorem dX6_kindOf_14 : decode cX6_kindOf 14 = .ok (.invokevirtual 87, 3) := by decide +kernel
theorem dX6_kindOf_17 : decode cX6_kindOf 17 = .ok (.ifCond .eq 8, 3) := by decide +kernel
theorem dX6_kindOf_20 : decode cX6_kindOf 20 = .ok (.bipush 32, 2) := by decide +kernel
theorem dX6_kindOf_22 : decode cX6_kindOf 22 = .ok (.goto 9, 3) := by decide +kernel
theorem dX6_kindOf_25 : decode cX6_kindOf 25 = .ok (.aload_n 0, 1) := by decide +kernel
theorem dX6_kindOf_26 : decode cX6_kindOf 26 = .ok (.getfield 7, 3) := by decide +kernel
theorem dX6_kindOf_29 : decode cX6_kindOf 29 = .ok (.iload_n 1, 1) := by decide +kernel
theorem dX6_kindOf_30 : decode cX6_kindOf 30 = .ok (.caload, 1) := by decide +kernel
theorem dX6_kindOf_31 : decode cX6_kindOf 31 = .ok (.ireturn, 1) := by decide +kernel
theorem dX6_addBranch_0 : decode cX6_addBranch 0 = .ok (.aload_n 0, 1) := by decide +kernel
theorem dX6_addBranch_1 : decode cX6_addBranch 1 = .ok (.iload_n 1, 1) := by decide +kernel
theorem dX6_addBranch_2 : decode cX6_addBranch 2 = .ok (.invokevirtual 105, 3) := by decide +kernel
theorem dX6_addBranch_5 : decode cX6_addBranch 5 = .ok (.ifCond .ne 23, 3) := by decide +kernel
theorem dX6_addBranch_8 : decode cX6_addBranch 8 = .ok (.aload_n 0, 1) := by decide +kernel
theorem dX6_addBranch_9 : decode cX6_addBranch 9 = .ok (.aload_n 0, 1) := by decide +kernel
theorem dX6_addBranch_10 : decode cX6_addBranch 10 = .ok (.getfield 37, 3) := by decide +kernel
theorem dX6_addBranch_13 : decode cX6_addBranch 13 = .ok (.iconst 5, 1) := by decide +kernel
theorem dX6_addBranch_14 : decode cX6_addBranch 14 = .ok (.if_icmp .ne 7, 3) := by decide +kernel
theorem dX6_addBranch_17 : decode cX6_addBranch 17 = .ok (.iconst 2, 1) := by decide +kernel
theorem dX6_addBranch_18 : decode cX6_addBranch 18 = .ok (.goto 4, 3) := by decide +kernel
theorem dX6_addBranch_21 : decode cX6_addBranch 21 = .ok (.iconst 0, 1) := by decide +kernel
theorem dX6_addBranch_22 : decode cX6_addBranch 22 = .ok (.invokevirtual 87, 3) := by decide +kernel
theorem dX6_addBranch_25 : decode cX6_addBranch 25 = .ok (.ifCond .eq 5, 3) := by decide +kernel
theorem dX6_addBranch_28 : decode cX6_addBranch 28 = .ok (.iconst 0, 1) := by decide +kernel
theorem dX6_addBranch_29 : decode cX6_addBranch 29 = .ok (.ireturn, 1) := by decide +kernel
theorem dX6_addBranch_30 : decode cX6_addBranch 30 = .ok (.aload_n 0, 1) := by decide +kernel
theorem dX6_addBranch_31 : decode cX6_addBranch 31 = .ok (.getfield 40, 3) := by decide +kernel
theorem dX6_addBranch_34 : decode cX6_addBranch 34 = .ok (.aload_n 0, 1) := by decide +kernel
theorem dX6_addBranch_35 : decode cX6_addBranch 35 = .ok (.getfield 37, 3) := by decide +kernel
theorem dX6_addBranch_38 : decode cX6_addBranch 38 = .ok (.iload_n 1, 1) := by decide +kernel
theorem dX6_addBranch_39 : decode cX6_addBranch 39 = .ok (.iastore, 1) := by decide +kernel
theorem dX6_addBranch_40 : decode cX6_addBranch 40 = .ok (.aload_n 0, 1) := by decide +kernel
theorem dX6_addBranch_41 : decode cX6_addBranch 41 = .ok (.dup, 1) := by decide +kernel
theorem dX6_addBranch_42 : decode cX6_addBranch 42 = .ok (.getfield 37, 3) := by decide +kernel
theorem dX6_addBranch_45 : decode cX6_addBranch 45 = .ok (.iconst 1, 1) := by decide +kernel
theorem dX6_addBranch_46 : decode cX6_addBranch 46 = .ok (.iadd, 1) := by decide +kernel
theorem dX6_addBranch_47 : decode cX6_addBranch 47 = .ok (.putfield 37, 3) := by decide +kernel
theorem dX6_addBranch_50 : decode cX6_addBranch 50 = .ok (.aload_n 0, 1) := by decide +kernel
theorem dX6_addBranch_51 : decode cX6_addBranch 51 = .ok (.getfield 37, 3) := by decide +kernel
theorem dX6_addBranch_54 : decode cX6_addBranch 54 = .ok (.iconst 1, 1) := by decide +kernel
theorem dX6_addBranch_55 : decode cX6_addBranch 55 = .ok (.isub, 1) := by decide +kernel
theorem dX6_addBranch_56 : decode cX6_addBranch 56 = .ok (.ireturn, 1) := by decide +kernel
theorem dX6_head_0 : decode cX6_head 0 = .ok (.aload_n 0, 1) := by decide +kernel
theorem dX6_head_1 : decode cX6_head 1 = .ok (.aload_n 0, 1) := by decide +kernel
theorem dX6_head_2 : decode cX6_head 2 = .ok (.iload_n 1, 1) := by decide +kernel
theorem dX6_head_3 : decode cX6_head 3 = .ok (.invokevirtual 108, 3) := by decide +kernel
theorem dX6_head_6 : decode cX6_head 6 = .ok (.ifCond .eq 7, 3) := by decide +kernel
theorem dX6_head_9 : decode cX6_head 9 = .ok (.iconst 1, 1) := by decide +kernel
theorem dX6_head_10 : decode cX6_head 10 = .ok (.goto 4, 3) := by decide +kernel
theorem dX6_head_13 : decode cX6_head 13 = .ok (.iconst 0, 1) := by decide +kernel
theorem dX6_head_14 : decode cX6_head 14 = .ok (.invokevirtual 87, 3) := by decide +kernel
theorem dX6_head_17 : decode cX6_head 17 = .ok (.ifCond .eq 7, 3) := by decide +kernel
theorem dX6_head_20 : decode cX6_head 20 = .ok (.iconst 0, 1) := by decide +kernel
theorem dX6_head_21 : decode cX6_head 21 = .ok (.goto 9, 3) := by decide +kernel
theorem dX6_head_24 : decode cX6_head 24 = .ok (.aload_n 0, 1) := by decide +kernel
theorem dX6_head_25 : decode cX6_head 25 = .ok (.getfield 40, 3) := by decide +kernel
theorem dX6_head_28 : decode cX6_head 28 = .ok (.iload_n 1, 1) := by decide +kernel
theorem dX6_head_29 : decode cX6_head 29 = .ok (.iaload, 1) := by decide +kernel
theorem dX6_head_30 : decode cX6_head 30 = .ok (.ireturn, 1) := by decide +kernel
theorem dX6_makes_0 : decode cX6_makes 0 = .ok (.aload_n 0, 1) := by decide +kernel
theorem dX6_makes_1 : decode cX6_makes 1 = .ok (.getfield 40, 3) := by decide +kernel
theorem dX6_makes_4 : decode cX6_makes 4 = .ok (.iload_n 1, 1) := by decide +kernel
theorem dX6_makes_5 : decode cX6_makes 5 = .ok (.iaload, 1) := by decide +kernel
theorem dX6_makes_6 : decode cX6_makes 6 = .ok (.istore_n 3, 1) := by decide +kernel
theorem dX6_makes_7 : decode cX6_makes 7 = .ok (.iconst 0, 1) := by decide +kernel
theorem dX6_makes_8 : decode cX6_makes 8 = .ok (.istore 4, 2) := by decide +kernel
theorem dX6_makes_10 : decode cX6_makes 10 = .ok (.iload 4, 2) := by decide +kernel
theorem dX6_makes_12 : decode cX6_makes 12 = .ok (.aload_n 0, 1) := by decide +kernel
theorem dX6_makes_13 : decode cX6_makes 13 = .ok (.getfield 76, 3) := by decide +kernel
theorem dX6_makes_16 : decode cX6_makes 16 = .ok (.if_icmp .ge 59, 3) := by decide +kernel
theorem dX6_makes_19 : decode cX6_makes 19 = .ok (.aload_n 0, 1) := by decide +kernel
theorem dX6_makes_20 : decode cX6_makes 20 = .ok (.getfield 31, 3) := by decide +kernel
theorem dX6_makes_23 : decode cX6_makes 23 = .ok (.aload_n 0, 1) := by decide +kernel
theorem dX6_makes_24 : decode cX6_makes 24 = .ok (.getfield 13, 3) := by decide +kernel
theorem dX6_makes_27 : decode cX6_makes 27 = .ok (.iload 4, 2) := by decide +kernel
theorem dX6_makes_29 : decode cX6_makes 29 = .ok (.invokestatic 94, 3) := by decide +kernel
theorem dX6_makes_32 : decode cX6_makes 32 = .ok (.aload_n 0, 1) := by decide +kernel
theorem dX6_makes_33 : decode cX6_makes 33 = .ok (.getfield 31, 3) := by decide +kernel
theorem dX6_makes_36 : decode cX6_makes 36 = .ok (.iload_n 3, 1) := by decide +kernel
theorem dX6_makes_37 : decode cX6_makes 37 = .ok (.iload 4, 2) := by decide +kernel
theorem dX6_makes_39 : decode cX6_makes 39 = .ok (.invokestatic 94, 3) := by decide +kernel
theorem dX6_makes_42 : decode cX6_makes 42 = .ok (.laload, 1) := by decide +kernel
theorem dX6_makes_43 : decode cX6_makes 43 = .ok (.lastore, 1) := by decide +kernel
theorem dX6_makes_44 : decode cX6_makes 44 = .ok (.aload_n 0, 1) := by decide +kernel
theorem dX6_makes_45 : decode cX6_makes 45 = .ok (.getfield 34, 3) := by decide +kernel
theorem dX6_makes_48 : decode cX6_makes 48 = .ok (.aload_n 0, 1) := by decide +kernel
theorem dX6_makes_49 : decode cX6_makes 49 = .ok (.getfield 13, 3) := by decide +kernel
theorem dX6_makes_52 : decode cX6_makes 52 = .ok (.iload 4, 2) := by decide +kernel
theorem dX6_makes_54 : decode cX6_makes 54 = .ok (.invokestatic 94, 3) := by decide +kernel
theorem dX6_makes_57 : decode cX6_makes 57 = .ok (.aload_n 0, 1) := by decide +kernel
theorem dX6_makes_58 : decode cX6_makes 58 = .ok (.getfield 34, 3) := by decide +kernel
theorem dX6_makes_61 : decode cX6_makes 61 = .ok (.iload_n 3, 1) := by decide +kernel
theorem dX6_makes_62 : decode cX6_makes 62 = .ok (.iload 4, 2) := by decide +kernel
theorem dX6_makes_64 : decode cX6_makes 64 = .ok (.invokestatic 94, 3) := by decide +kernel
theorem dX6_makes_67 : decode cX6_makes 67 = .ok (.laload, 1) := by decide +kernel
theorem dX6_makes_68 : decode cX6_makes 68 = .ok (.lastore, 1) := by decide +kernel
theorem dX6_makes_69 : decode cX6_makes 69 = .ok (.iinc 4 1, 3) := by decide +kernel
theorem dX6_makes_72 : decode cX6_makes 72 = .ok (.goto (-62), 3) := by decide +kernel
theorem dX6_makes_75 : decode cX6_makes 75 = .ok (.aload_n 0, 1) := by decide +kernel
theorem dX6_makes_76 : decode cX6_makes 76 = .ok (.getfield 17, 3) := by decide +kernel
theorem dX6_makes_79 : decode cX6_makes 79 = .ok (.aload_n 0, 1) := by decide +kernel
theorem dX6_makes_80 : decode cX6_makes 80 = .ok (.getfield 13, 3) := by decide +kernel
theorem dX6_makes_83 : decode cX6_makes 83 = .ok (.iload_n 3, 1) := by decide +kernel
theorem dX6_makes_84 : decode cX6_makes 84 = .ok (.iastore, 1) := by decide +kernel
theorem dX6_makes_85 : decode cX6_makes 85 = .ok (.aload_n 0, 1) := by decide +kernel
theorem dX6_makes_86 : decode cX6_makes 86 = .ok (.getfield 21, 3) := by decide +kernel
theorem dX6_makes_89 : decode cX6_makes 89 = .ok (.aload_n 0, 1) := by decide +kernel
theorem dX6_makes_90 : decode cX6_makes 90 = .ok (.getfield 13, 3) := by decide +kernel
theorem dX6_makes_93 : decode cX6_makes 93 = .ok (.iload_n 2, 1) := by decide +kernel
theorem dX6_makes_94 : decode cX6_makes 94 = .ok (.iastore, 1) := by decide +kernel
theorem dX6_makes_95 : decode cX6_makes 95 = .ok (.aload_n 0, 1) := by decide +kernel
theorem dX6_makes_96 : decode cX6_makes 96 = .ok (.getfield 24, 3) := by decide +kernel
theorem dX6_makes_99 : decode cX6_makes 99 = .ok (.aload_n 0, 1) := by decide +kernel
theorem dX6_makes_100 : decode cX6_makes 100 = .ok (.getfield 13, 3) := by decide +kernel
theorem dX6_makes_103 : decode cX6_makes 103 = .ok (.aload_n 0, 1) := by decide +kernel
theorem dX6_makes_104 : decode cX6_makes 104 = .ok (.getfield 24, 3) := by decide +kernel
theorem dX6_makes_107 : decode cX6_makes 107 = .ok (.iload_n 3, 1) := by decide +kernel
theorem dX6_makes_108 : decode cX6_makes 108 = .ok (.laload, 1) := by decide +kernel
theorem dX6_makes_109 : decode cX6_makes 109 = .ok (.iload_n 2, 1) := by decide +kernel
theorem dX6_makes_110 : decode cX6_makes 110 = .ok (.ifCond .ge 7, 3) := by decide +kernel
theorem dX6_makes_113 : decode cX6_makes 113 = .ok (.lconst 0, 1) := by decide +kernel
theorem dX6_makes_114 : decode cX6_makes 114 = .ok (.goto 9, 3) := by decide +kernel
theorem dX6_makes_117 : decode cX6_makes 117 = .ok (.aload_n 0, 1) := by decide +kernel
theorem dX6_makes_118 : decode cX6_makes 118 = .ok (.getfield 24, 3) := by decide +kernel
theorem dX6_makes_121 : decode cX6_makes 121 = .ok (.iload_n 2, 1) := by decide +kernel
theorem dX6_makes_122 : decode cX6_makes 122 = .ok (.laload, 1) := by decide +kernel
theorem dX6_makes_123 : decode cX6_makes 123 = .ok (.lor, 1) := by decide +kernel
theorem dX6_makes_124 : decode cX6_makes 124 = .ok (.lastore, 1) := by decide +kernel
theorem dX6_makes_125 : decode cX6_makes 125 = .ok (.aload_n 0, 1) := by decide +kernel
theorem dX6_makes_126 : decode cX6_makes 126 = .ok (.getfield 28, 3) := by decide +kernel
theorem dX6_makes_129 : decode cX6_makes 129 = .ok (.aload_n 0, 1) := by decide +kernel
theorem dX6_makes_130 : decode cX6_makes 130 = .ok (.getfield 13, 3) := by decide +kernel
theorem dX6_makes_133 : decode cX6_makes 133 = .ok (.aload_n 0, 1) := by decide +kernel
theorem dX6_makes_134 : decode cX6_makes 134 = .ok (.getfield 28, 3) := by decide +kernel
theorem dX6_makes_137 : decode cX6_makes 137 = .ok (.iload_n 3, 1) := by decide +kernel
theorem dX6_makes_138 : decode cX6_makes 138 = .ok (.laload, 1) := by decide +kernel
theorem dX6_makes_139 : decode cX6_makes 139 = .ok (.iload_n 2, 1) := by decide +kernel
theorem dX6_makes_140 : decode cX6_makes 140 = .ok (.ifCond .ge 7, 3) := by decide +kernel
theorem dX6_makes_143 : decode cX6_makes 143 = .ok (.lconst 0, 1) := by decide +kernel
theorem dX6_makes_144 : decode cX6_makes 144 = .ok (.goto 9, 3) := by decide +kernel
theorem dX6_makes_147 : decode cX6_makes 147 = .ok (.aload_n 0, 1) := by decide +kernel
theorem dX6_makes_148 : decode cX6_makes 148 = .ok (.getfield 28, 3) := by decide +kernel
theorem dX6_makes_151 : decode cX6_makes 151 = .ok (.iload_n 2, 1) := by decide +kernel
theorem dX6_makes_152 : decode cX6_makes 152 = .ok (.laload, 1) := by decide +kernel
theorem dX6_makes_153 : decode cX6_makes 153 = .ok (.lor, 1) := by decide +kernel
theorem dX6_makes_154 : decode cX6_makes 154 = .ok (.lastore, 1) := by decide +kernel
theorem dX6_makes_155 : decode cX6_makes 155 = .ok (.aload_n 0, 1) := by decide +kernel
theorem dX6_makes_156 : decode cX6_makes 156 = .ok (.getfield 13, 3) := by decide +kernel
theorem dX6_makes_159 : decode cX6_makes 159 = .ok (.bipush 50, 2) := by decide +kernel
theorem dX6_makes_161 : decode cX6_makes 161 = .ok (.if_icmp .ge 24, 3) := by decide +kernel
theorem dX6_makes_164 : decode cX6_makes 164 = .ok (.aload_n 0, 1) := by decide +kernel
theorem dX6_makes_165 : decode cX6_makes 165 = .ok (.getfield 24, 3) := by decide +kernel
theorem dX6_makes_168 : decode cX6_makes 168 = .ok (.aload_n 0, 1) := by decide +kernel
theorem dX6_makes_169 : decode cX6_makes 169 = .ok (.getfield 13, 3) := by decide +kernel
theorem dX6_makes_172 : decode cX6_makes 172 = .ok (.dup2, 1) := by decide +kernel
theorem dX6_makes_173 : decode cX6_makes 173 = .ok (.laload, 1) := by decide +kernel
theorem dX6_makes_174 : decode cX6_makes 174 = .ok (.lconst 1, 1) := by decide +kernel
theorem dX6_makes_175 : decode cX6_makes 175 = .ok (.aload_n 0, 1) := by decide +kernel
theorem dX6_makes_176 : decode cX6_makes 176 = .ok (.getfield 13, 3) := by decide +kernel
theorem dX6_makes_179 : decode cX6_makes 179 = .ok (.lshl, 1) := by decide +kernel
theorem dX6_makes_180 : decode cX6_makes 180 = .ok (.lor, 1) := by decide +kernel
theorem dX6_makes_181 : decode cX6_makes 181 = .ok (.lastore, 1) := by decide +kernel
theorem dX6_makes_182 : decode cX6_makes 182 = .ok (.goto 24, 3) := by decide +kernel
theorem dX6_makes_185 : decode cX6_makes 185 = .ok (.aload_n 0, 1) := by decide +kernel
theorem dX6_makes_186 : decode cX6_makes 186 = .ok (.getfield 28, 3) := by decide +kernel
theorem dX6_makes_189 : decode cX6_makes 189 = .ok (.aload_n 0, 1) := by decide +kernel
theorem dX6_makes_190 : decode cX6_makes 190 = .ok (.getfield 13, 3) := by decide +kernel
theorem dX6_makes_193 : decode cX6_makes 193 = .ok (.dup2, 1) := by decide +kernel
theorem dX6_makes_194 : decode cX6_makes 194 = .ok (.laload, 1) := by decide +kernel
theorem dX6_makes_195 : decode cX6_makes 195 = .ok (.lconst 1, 1) := by decide +kernel
theorem dX6_makes_196 : decode cX6_makes 196 = .ok (.aload_n 0, 1) := by decide +kernel
theorem dX6_makes_197 : decode cX6_makes 197 = .ok (.getfield 13, 3) := by decide +kernel
theorem dX6_makes_200 : decode cX6_makes 200 = .ok (.bipush 50, 2) := by decide +kernel
theorem dX6_makes_202 : decode cX6_makes 202 = .ok (.isub, 1) := by decide +kernel
theorem dX6_makes_203 : decode cX6_makes 203 = .ok (.lshl, 1) := by decide +kernel
theorem dX6_makes_204 : decode cX6_makes 204 = .ok (.lor, 1) := by decide +kernel
theorem dX6_makes_205 : decode cX6_makes 205 = .ok (.lastore, 1) := by decide +kernel
theorem dX6_makes_206 : decode cX6_makes 206 = .ok (.aload_n 0, 1) := by decide +kernel
theorem dX6_makes_207 : decode cX6_makes 207 = .ok (.getfield 40, 3) := by decide +kernel
theorem dX6_makes_210 : decode cX6_makes 210 = .ok (.iload_n 1, 1) := by decide +kernel
theorem dX6_makes_211 : decode cX6_makes 211 = .ok (.aload_n 0, 1) := by decide +kernel
theorem dX6_makes_212 : decode cX6_makes 212 = .ok (.getfield 13, 3) := by decide +kernel
theorem dX6_makes_215 : decode cX6_makes 215 = .ok (.iastore, 1) := by decide +kernel
theorem dX6_makes_216 : decode cX6_makes 216 = .ok (.aload_n 0, 1) := by decide +kernel
theorem dX6_makes_217 : decode cX6_makes 217 = .ok (.dup, 1) := by decide +kernel
theorem dX6_makes_218 : decode cX6_makes 218 = .ok (.getfield 13, 3) := by decide +kernel
theorem dX6_makes_221 : decode cX6_makes 221 = .ok (.iconst 1, 1) := by decide +kernel
theorem dX6_makes_222 : decode cX6_makes 222 = .ok (.iadd, 1) := by decide +kernel
theorem dX6_makes_223 : decode cX6_makes 223 = .ok (.putfield 13, 3) := by decide +kernel
theorem dX6_makes_226 : decode cX6_makes 226 = .ok (.aload_n 0, 1) := by decide +kernel
theorem dX6_makes_227 : decode cX6_makes 227 = .ok (.getfield 13, 3) := by decide +kernel
theorem dX6_makes_230 : decode cX6_makes 230 = .ok (.iconst 1, 1) := by decide +kernel
theorem dX6_makes_231 : decode cX6_makes 231 = .ok (.isub, 1) := by decide +kernel
theorem dX6_makes_232 : decode cX6_makes 232 = .ok (.ireturn, 1) := by decide +kernel
theorem dX6_numberOf_0 : decode cX6_numberOf 0 = .ok (.iconst 0, 1) := by decide +kernel
theorem dX6_numberOf_1 : decode cX6_numberOf 1 = .ok (.istore_n 2, 1) := by decide +kernel
theorem dX6_numberOf_2 : decode cX6_numberOf 2 = .ok (.iload_n 2, 1) := by decide +kernel
theorem dX6_numberOf_3 : decode cX6_numberOf 3 = .ok (.aload_n 0, 1) := by decide +kernel
theorem dX6_numberOf_4 : decode cX6_numberOf 4 = .ok (.getfield 55, 3) := by decide +kernel
theorem dX6_numberOf_7 : decode cX6_numberOf 7 = .ok (.if_icmp .ge 21, 3) := by decide +kernel
theorem dX6_numberOf_10 : decode cX6_numberOf 10 = .ok (.aload_n 0, 1) := by decide +kernel
theorem dX6_numberOf_11 : decode cX6_numberOf 11 = .ok (.getfield 58, 3) := by decide +kernel
theorem dX6_numberOf_14 : decode cX6_numberOf 14 = .ok (.iload_n 2, 1) := by decide +kernel
theorem dX6_numberOf_15 : decode cX6_numberOf 15 = .ok (.iaload, 1) := by decide +kernel
theorem dX6_numberOf_16 : decode cX6_numberOf 16 = .ok (.iload_n 1, 1) := by decide +kernel
theorem dX6_numberOf_17 : decode cX6_numberOf 17 = .ok (.if_icmp .ne 5, 3) := by decide +kernel
theorem dX6_numberOf_20 : decode cX6_numberOf 20 = .ok (.iload_n 2, 1) := by decide +kernel
theorem dX6_numberOf_21 : decode cX6_numberOf 21 = .ok (.ireturn, 1) := by decide +kernel
theorem dX6_numberOf_22 : decode cX6_numberOf 22 = .ok (.iinc 2 1, 3) := by decide +kernel
theorem dX6_numberOf_25 : decode cX6_numberOf 25 = .ok (.goto (-23), 3) := by decide +kernel
theorem dX6_numberOf_28 : decode cX6_numberOf 28 = .ok (.aload_n 0, 1) := by decide +kernel
theorem dX6_numberOf_29 : decode cX6_numberOf 29 = .ok (.getfield 58, 3) := by decide +kernel
theorem dX6_numberOf_32 : decode cX6_numberOf 32 = .ok (.aload_n 0, 1) := by decide +kernel
theorem dX6_numberOf_33 : decode cX6_numberOf 33 = .ok (.getfield 55, 3) := by decide +kernel
theorem dX6_numberOf_36 : decode cX6_numberOf 36 = .ok (.iload_n 1, 1) := by decide +kernel
theorem dX6_numberOf_37 : decode cX6_numberOf 37 = .ok (.iastore, 1) := by decide +kernel
theorem dX6_numberOf_38 : decode cX6_numberOf 38 = .ok (.aload_n 0, 1) := by decide +kernel
theorem dX6_numberOf_39 : decode cX6_numberOf 39 = .ok (.dup, 1) := by decide +kernel
theorem dX6_numberOf_40 : decode cX6_numberOf 40 = .ok (.getfield 55, 3) := by decide +kernel
theorem dX6_numberOf_43 : decode cX6_numberOf 43 = .ok (.iconst 1, 1) := by decide +kernel
theorem dX6_numberOf_44 : decode cX6_numberOf 44 = .ok (.iadd, 1) := by decide +kernel
theorem dX6_numberOf_45 : decode cX6_numberOf 45 = .ok (.putfield 55, 3) := by decide +kernel
theorem dX6_numberOf_48 : decode cX6_numberOf 48 = .ok (.aload_n 0, 1) := by decide +kernel
theorem dX6_numberOf_49 : decode cX6_numberOf 49 = .ok (.getfield 55, 3) := by decide +kernel
theorem dX6_numberOf_52 : decode cX6_numberOf 52 = .ok (.iconst 1, 1) := by decide +kernel
theorem dX6_numberOf_53 : decode cX6_numberOf 53 = .ok (.isub, 1) := by decide +kernel
theorem dX6_numberOf_54 : decode cX6_numberOf 54 = .ok (.ireturn, 1) := by decide +kernel
theorem dX6_changes_0 : decode cX6_changes 0 = .ok (.aload_n 0, 1) := by decide +kernel
theorem dX6_changes_1 : decode cX6_changes 1 = .ok (.iload_n 1, 1) := by decide +kernel
theorem dX6_changes_2 : decode cX6_changes 2 = .ok (.iconst (-1), 1) := by decide +kernel
theorem dX6_changes_3 : decode cX6_changes 3 = .ok (.invokevirtual 111, 3) := by decide +kernel
theorem dX6_changes_6 : decode cX6_changes 6 = .ok (.istore 4, 2) := by decide +kernel
theorem dX6_changes_8 : decode cX6_changes 8 = .ok (.aload_n 0, 1) := by decide +kernel
theorem dX6_changes_9 : decode cX6_changes 9 = .ok (.getfield 31, 3) := by decide +kernel
theorem dX6_changes_12 : decode cX6_changes 12 = .ok (.iload 4, 2) := by decide +kernel
theorem dX6_changes_14 : decode cX6_changes 14 = .ok (.iload_n 2, 1) := by decide +kernel
theorem dX6_changes_15 : decode cX6_changes 15 = .ok (.invokestatic 94, 3) := by decide +kernel
theorem dX6_changes_18 : decode cX6_changes 18 = .ok (.iload_n 3, 1) := by decide +kernel
theorem dX6_changes_19 : decode cX6_changes 19 = .ok (.bipush 50, 2) := by decide +kernel
theorem dX6_changes_21 : decode cX6_changes 21 = .ok (.if_icmp .ge 9, 3) := by decide +kernel
theorem dX6_changes_24 : decode cX6_changes 24 = .ok (.lconst 1, 1) := by decide +kernel
theorem dX6_changes_25 : decode cX6_changes 25 = .ok (.iload_n 3, 1) := by decide +kernel
theorem dX6_changes_26 : decode cX6_changes 26 = .ok (.lshl, 1) := by decide +kernel
theorem dX6_changes_27 : decode cX6_changes 27 = .ok (.goto 4, 3) := by decide +kernel
theorem dX6_changes_30 : decode cX6_changes 30 = .ok (.lconst 0, 1) := by decide +kernel
theorem dX6_changes_31 : decode cX6_changes 31 = .ok (.lastore, 1) := by decide +kernel
theorem dX6_changes_32 : decode cX6_changes 32 = .ok (.aload_n 0, 1) := by decide +kernel
theorem dX6_changes_33 : decode cX6_changes 33 = .ok (.getfield 34, 3) := by decide +kernel
theorem dX6_changes_36 : decode cX6_changes 36 = .ok (.iload 4, 2) := by decide +kernel
theorem dX6_changes_38 : decode cX6_changes 38 = .ok (.iload_n 2, 1) := by decide +kernel
theorem dX6_changes_39 : decode cX6_changes 39 = .ok (.invokestatic 94, 3) := by decide +kernel
theorem dX6_changes_42 : decode cX6_changes 42 = .ok (.iload_n 3, 1) := by decide +kernel
theorem dX6_changes_43 : decode cX6_changes 43 = .ok (.bipush 50, 2) := by decide +kernel
theorem dX6_changes_45 : decode cX6_changes 45 = .ok (.if_icmp .ge 7, 3) := by decide +kernel
theorem dX6_changes_48 : decode cX6_changes 48 = .ok (.lconst 0, 1) := by decide +kernel
theorem dX6_changes_49 : decode cX6_changes 49 = .ok (.goto 9, 3) := by decide +kernel
theorem dX6_changes_52 : decode cX6_changes 52 = .ok (.lconst 1, 1) := by decide +kernel
theorem dX6_changes_53 : decode cX6_changes 53 = .ok (.iload_n 3, 1) := by decide +kernel
theorem dX6_changes_54 : decode cX6_changes 54 = .ok (.bipush 50, 2) := by decide +kernel
theorem dX6_changes_56 : decode cX6_changes 56 = .ok (.isub, 1) := by decide +kernel
theorem dX6_changes_57 : decode cX6_changes 57 = .ok (.lshl, 1) := by decide +kernel
theorem dX6_changes_58 : decode cX6_changes 58 = .ok (.lastore, 1) := by decide +kernel
theorem dX6_changes_59 : decode cX6_changes 59 = .ok (.iload 4, 2) := by decide +kernel
theorem dX6_changes_61 : decode cX6_changes 61 = .ok (.ireturn, 1) := by decide +kernel
theorem dX6_full_0 : decode cX6_full 0 = .ok (.aload_n 0, 1) := by decide +kernel
theorem dX6_full_1 : decode cX6_full 1 = .ok (.getfield 13, 3) := by decide +kernel
theorem dX6_full_4 : decode cX6_full 4 = .ok (.bipush 100, 2) := by decide +kernel
theorem dX6_full_6 : decode cX6_full 6 = .ok (.if_icmp .ne 7, 3) := by decide +kernel
theorem dX6_full_9 : decode cX6_full 9 = .ok (.iconst 1, 1) := by decide +kernel
theorem dX6_full_10 : decode cX6_full 10 = .ok (.goto 4, 3) := by decide +kernel
theorem dX6_full_13 : decode cX6_full 13 = .ok (.iconst 0, 1) := by decide +kernel
theorem dX6_full_14 : decode cX6_full 14 = .ok (.ireturn, 1) := by decide +kernel
theorem dX6_isNowhere_0 : decode cX6_isNowhere 0 = .ok (.aload_n 0, 1) := by decide +kernel
theorem dX6_isNowhere_1 : decode cX6_isNowhere 1 = .ok (.aload_n 0, 1) := by decide +kernel
theorem dX6_isNowhere_2 : decode cX6_isNowhere 2 = .ok (.iload_n 1, 1) := by decide +kernel
theorem dX6_isNowhere_3 : decode cX6_isNowhere 3 = .ok (.invokevirtual 108, 3) := by decide +kernel
theorem dX6_isNowhere_6 : decode cX6_isNowhere 6 = .ok (.ifCond .ne 11, 3) := by decide +kernel
theorem dX6_isNowhere_9 : decode cX6_isNowhere 9 = .ok (.aload_n 0, 1) := by decide +kernel
theorem dX6_isNowhere_10 : decode cX6_isNowhere 10 = .ok (.iload_n 2, 1) := by decide +kernel
theorem dX6_isNowhere_11 : decode cX6_isNowhere 11 = .ok (.invokevirtual 102, 3) := by decide +kernel
theorem dX6_isNowhere_14 : decode cX6_isNowhere 14 = .ok (.ifCond .eq 7, 3) := by decide +kernel
theorem dX6_isNowhere_17 : decode cX6_isNowhere 17 = .ok (.iconst 1, 1) := by decide +kernel
theorem dX6_isNowhere_18 : decode cX6_isNowhere 18 = .ok (.goto 4, 3) := by decide +kernel
theorem dX6_isNowhere_21 : decode cX6_isNowhere 21 = .ok (.iconst 0, 1) := by decide +kernel
theorem dX6_isNowhere_22 : decode cX6_isNowhere 22 = .ok (.invokevirtual 87, 3) := by decide +kernel
theorem dX6_isNowhere_25 : decode cX6_isNowhere 25 = .ok (.ireturn, 1) := by decide +kernel
theorem dX6_set_0 : decode cX6_set 0 = .ok (.aload_n 0, 1) := by decide +kernel
theorem dX6_set_1 : decode cX6_set 1 = .ok (.iload_n 1, 1) := by decide +kernel
theorem dX6_set_2 : decode cX6_set 2 = .ok (.iload_n 2, 1) := by decide +kernel
theorem dX6_set_3 : decode cX6_set 3 = .ok (.invokevirtual 114, 3) := by decide +kernel
theorem dX6_set_6 : decode cX6_set 6 = .ok (.ifCond .ne 33, 3) := by decide +kernel
theorem dX6_set_9 : decode cX6_set 9 = .ok (.aload_n 0, 1) := by decide +kernel
theorem dX6_set_10 : decode cX6_set 10 = .ok (.iload_n 3, 1) := by decide +kernel
theorem dX6_set_11 : decode cX6_set 11 = .ok (.sipush (-999), 3) := by decide +kernel
theorem dX6_set_14 : decode cX6_set 14 = .ok (.sipush 999, 3) := by decide +kernel
theorem dX6_set_17 : decode cX6_set 17 = .ok (.invokestatic 79, 3) := by decide +kernel
theorem dX6_set_20 : decode cX6_set 20 = .ok (.ifCond .ne 7, 3) := by decide +kernel
theorem dX6_set_23 : decode cX6_set 23 = .ok (.iconst 2, 1) := by decide +kernel
theorem dX6_set_24 : decode cX6_set 24 = .ok (.goto 9, 3) := by decide +kernel
theorem dX6_set_27 : decode cX6_set 27 = .ok (.iconst 3, 1) := by decide +kernel
theorem dX6_set_28 : decode cX6_set 28 = .ok (.aload_n 0, 1) := by decide +kernel
theorem dX6_set_29 : decode cX6_set 29 = .ok (.invokevirtual 118, 3) := by decide +kernel
theorem dX6_set_32 : decode cX6_set 32 = .ok (.imul, 1) := by decide +kernel
theorem dX6_set_33 : decode cX6_set 33 = .ok (.invokevirtual 87, 3) := by decide +kernel
theorem dX6_set_36 : decode cX6_set 36 = .ok (.ifCond .eq 5, 3) := by decide +kernel
theorem dX6_set_39 : decode cX6_set 39 = .ok (.iconst 0, 1) := by decide +kernel
theorem dX6_set_40 : decode cX6_set 40 = .ok (.ireturn, 1) := by decide +kernel
theorem dX6_set_41 : decode cX6_set 41 = .ok (.aload_n 0, 1) := by decide +kernel
theorem dX6_set_42 : decode cX6_set 42 = .ok (.iload_n 1, 1) := by decide +kernel
theorem dX6_set_43 : decode cX6_set 43 = .ok (.iload_n 2, 1) := by decide +kernel
theorem dX6_set_44 : decode cX6_set 44 = .ok (.aload_n 0, 1) := by decide +kernel
theorem dX6_set_45 : decode cX6_set 45 = .ok (.iload_n 3, 1) := by decide +kernel
theorem dX6_set_46 : decode cX6_set 46 = .ok (.invokevirtual 122, 3) := by decide +kernel
theorem dX6_set_49 : decode cX6_set 49 = .ok (.invokevirtual 126, 3) := by decide +kernel
theorem dX6_set_52 : decode cX6_set 52 = .ok (.ireturn, 1) := by decide +kernel
theorem dX6_clear_0 : decode cX6_clear 0 = .ok (.aload_n 0, 1) := by decide +kernel
theorem dX6_clear_1 : decode cX6_clear 1 = .ok (.iload_n 1, 1) := by decide +kernel
theorem dX6_clear_2 : decode cX6_clear 2 = .ok (.iload_n 2, 1) := by decide +kernel
theorem dX6_clear_3 : decode cX6_clear 3 = .ok (.invokevirtual 114, 3) := by decide +kernel
theorem dX6_clear_6 : decode cX6_clear 6 = .ok (.ifCond .eq 5, 3) := by decide +kernel
theorem dX6_clear_9 : decode cX6_clear 9 = .ok (.iconst 0, 1) := by decide +kernel
theorem dX6_clear_10 : decode cX6_clear 10 = .ok (.ireturn, 1) := by decide +kernel
theorem dX6_clear_11 : decode cX6_clear 11 = .ok (.aload_n 0, 1) := by decide +kernel
theorem dX6_clear_12 : decode cX6_clear 12 = .ok (.getfield 40, 3) := by decide +kernel
theorem dX6_clear_15 : decode cX6_clear 15 = .ok (.iload_n 1, 1) := by decide +kernel
theorem dX6_clear_16 : decode cX6_clear 16 = .ok (.iaload, 1) := by decide +kernel
theorem dX6_clear_17 : decode cX6_clear 17 = .ok (.iload_n 2, 1) := by decide +kernel
theorem dX6_clear_18 : decode cX6_clear 18 = .ok (.invokestatic 94, 3) := by decide +kernel
theorem dX6_clear_21 : decode cX6_clear 21 = .ok (.istore_n 3, 1) := by decide +kernel
theorem dX6_clear_22 : decode cX6_clear 22 = .ok (.aload_n 0, 1) := by decide +kernel
theorem dX6_clear_23 : decode cX6_clear 23 = .ok (.aload_n 0, 1) := by decide +kernel
theorem dX6_clear_24 : decode cX6_clear 24 = .ok (.getfield 31, 3) := by decide +kernel
theorem dX6_clear_27 : decode cX6_clear 27 = .ok (.iload_n 3, 1) := by decide +kernel
theorem dX6_clear_28 : decode cX6_clear 28 = .ok (.laload, 1) := by decide +kernel
theorem dX6_clear_29 : decode cX6_clear 29 = .ok (.lconst 1, 1) := by decide +kernel
theorem dX6_clear_30 : decode cX6_clear 30 = .ok (.lcmp, 1) := by decide +kernel
theorem dX6_clear_31 : decode cX6_clear 31 = .ok (.ifCond .ne 18, 3) := by decide +kernel
theorem dX6_clear_34 : decode cX6_clear 34 = .ok (.aload_n 0, 1) := by decide +kernel
theorem dX6_clear_35 : decode cX6_clear 35 = .ok (.getfield 34, 3) := by decide +kernel
theorem dX6_clear_38 : decode cX6_clear 38 = .ok (.iload_n 3, 1) := by decide +kernel
theorem dX6_clear_39 : decode cX6_clear 39 = .ok (.laload, 1) := by decide +kernel
theorem dX6_clear_40 : decode cX6_clear 40 = .ok (.lconst 0, 1) := by decide +kernel
theorem dX6_clear_41 : decode cX6_clear 41 = .ok (.lcmp, 1) := by decide +kernel
theorem dX6_clear_42 : decode cX6_clear 42 = .ok (.ifCond .ne 7, 3) := by decide +kernel
theorem dX6_clear_45 : decode cX6_clear 45 = .ok (.iconst 2, 1) := by decide +kernel
theorem dX6_clear_46 : decode cX6_clear 46 = .ok (.goto 9, 3) := by decide +kernel
theorem dX6_clear_49 : decode cX6_clear 49 = .ok (.iconst 3, 1) := by decide +kernel
theorem dX6_clear_50 : decode cX6_clear 50 = .ok (.aload_n 0, 1) := by decide +kernel
theorem dX6_clear_51 : decode cX6_clear 51 = .ok (.invokevirtual 118, 3) := by decide +kernel
theorem dX6_clear_54 : decode cX6_clear 54 = .ok (.imul, 1) := by decide +kernel
theorem dX6_clear_55 : decode cX6_clear 55 = .ok (.invokevirtual 87, 3) := by decide +kernel
theorem dX6_clear_58 : decode cX6_clear 58 = .ok (.ifCond .eq 5, 3) := by decide +kernel
theorem dX6_clear_61 : decode cX6_clear 61 = .ok (.iconst 0, 1) := by decide +kernel
theorem dX6_clear_62 : decode cX6_clear 62 = .ok (.ireturn, 1) := by decide +kernel
theorem dX6_clear_63 : decode cX6_clear 63 = .ok (.aload_n 0, 1) := by decide +kernel
theorem dX6_clear_64 : decode cX6_clear 64 = .ok (.iload_n 1, 1) := by decide +kernel
theorem dX6_clear_65 : decode cX6_clear 65 = .ok (.iload_n 2, 1) := by decide +kernel
theorem dX6_clear_66 : decode cX6_clear 66 = .ok (.iconst 0, 1) := by decide +kernel
theorem dX6_clear_67 : decode cX6_clear 67 = .ok (.invokevirtual 126, 3) := by decide +kernel
theorem dX6_clear_70 : decode cX6_clear 70 = .ok (.ireturn, 1) := by decide +kernel
theorem dX6_settle_0 : decode cX6_settle 0 = .ok (.aload_n 0, 1) := by decide +kernel
theorem dX6_settle_1 : decode cX6_settle 1 = .ok (.iload_n 1, 1) := by decide +kernel
theorem dX6_settle_2 : decode cX6_settle 2 = .ok (.iload_n 2, 1) := by decide +kernel
theorem dX6_settle_3 : decode cX6_settle 3 = .ok (.invokevirtual 114, 3) := by decide +kernel
theorem dX6_settle_6 : decode cX6_settle 6 = .ok (.ifCond .eq 5, 3) := by decide +kernel
theorem dX6_settle_9 : decode cX6_settle 9 = .ok (.iconst 0, 1) := by decide +kernel
theorem dX6_settle_10 : decode cX6_settle 10 = .ok (.ireturn, 1) := by decide +kernel
theorem dX6_settle_11 : decode cX6_settle 11 = .ok (.aload_n 0, 1) := by decide +kernel
theorem dX6_settle_12 : decode cX6_settle 12 = .ok (.aload_n 0, 1) := by decide +kernel
theorem dX6_settle_13 : decode cX6_settle 13 = .ok (.getfield 40, 3) := by decide +kernel
theorem dX6_settle_16 : decode cX6_settle 16 = .ok (.iload_n 1, 1) := by decide +kernel
theorem dX6_settle_17 : decode cX6_settle 17 = .ok (.iaload, 1) := by decide +kernel
theorem dX6_settle_18 : decode cX6_settle 18 = .ok (.iload_n 2, 1) := by decide +kernel
theorem dX6_settle_19 : decode cX6_settle 19 = .ok (.invokevirtual 130, 3) := by decide +kernel
theorem dX6_settle_22 : decode cX6_settle 22 = .ok (.istore 4, 2) := by decide +kernel
theorem dX6_settle_24 : decode cX6_settle 24 = .ok (.aload_n 0, 1) := by decide +kernel
theorem dX6_settle_25 : decode cX6_settle 25 = .ok (.iload 4, 2) := by decide +kernel
theorem dX6_settle_27 : decode cX6_settle 27 = .ok (.iconst 1, 1) := by decide +kernel
theorem dX6_settle_28 : decode cX6_settle 28 = .ok (.if_icmp .ne 7, 3) := by decide +kernel
theorem dX6_settle_31 : decode cX6_settle 31 = .ok (.iconst 2, 1) := by decide +kernel
theorem dX6_settle_32 : decode cX6_settle 32 = .ok (.goto 25, 3) := by decide +kernel
theorem dX6_settle_35 : decode cX6_settle 35 = .ok (.iload_n 3, 1) := by decide +kernel
theorem dX6_settle_36 : decode cX6_settle 36 = .ok (.iconst 0, 1) := by decide +kernel
theorem dX6_settle_37 : decode cX6_settle 37 = .ok (.iload 4, 2) := by decide +kernel
theorem dX6_settle_39 : decode cX6_settle 39 = .ok (.iconst 1, 1) := by decide +kernel
theorem dX6_settle_40 : decode cX6_settle 40 = .ok (.isub, 1) := by decide +kernel
theorem dX6_settle_41 : decode cX6_settle 41 = .ok (.invokestatic 79, 3) := by decide +kernel
theorem dX6_settle_44 : decode cX6_settle 44 = .ok (.ifCond .ne 7, 3) := by decide +kernel
theorem dX6_settle_47 : decode cX6_settle 47 = .ok (.iconst 3, 1) := by decide +kernel
theorem dX6_settle_48 : decode cX6_settle 48 = .ok (.goto 9, 3) := by decide +kernel
theorem dX6_settle_51 : decode cX6_settle 51 = .ok (.iconst 4, 1) := by decide +kernel
theorem dX6_settle_52 : decode cX6_settle 52 = .ok (.aload_n 0, 1) := by decide +kernel
theorem dX6_settle_53 : decode cX6_settle 53 = .ok (.invokevirtual 118, 3) := by decide +kernel
theorem dX6_settle_56 : decode cX6_settle 56 = .ok (.imul, 1) := by decide +kernel
theorem dX6_settle_57 : decode cX6_settle 57 = .ok (.invokevirtual 87, 3) := by decide +kernel
theorem dX6_settle_60 : decode cX6_settle 60 = .ok (.ifCond .eq 5, 3) := by decide +kernel
theorem dX6_settle_63 : decode cX6_settle 63 = .ok (.iconst 0, 1) := by decide +kernel
theorem dX6_settle_64 : decode cX6_settle 64 = .ok (.ireturn, 1) := by decide +kernel
theorem dX6_settle_65 : decode cX6_settle 65 = .ok (.aload_n 0, 1) := by decide +kernel
theorem dX6_settle_66 : decode cX6_settle 66 = .ok (.getfield 40, 3) := by decide +kernel
theorem dX6_settle_69 : decode cX6_settle 69 = .ok (.iload_n 1, 1) := by decide +kernel
theorem dX6_settle_70 : decode cX6_settle 70 = .ok (.iaload, 1) := by decide +kernel
theorem dX6_settle_71 : decode cX6_settle 71 = .ok (.iload_n 2, 1) := by decide +kernel
theorem dX6_settle_72 : decode cX6_settle 72 = .ok (.invokestatic 94, 3) := by decide +kernel
theorem dX6_settle_75 : decode cX6_settle 75 = .ok (.istore 5, 2) := by decide +kernel
theorem dX6_settle_77 : decode cX6_settle 77 = .ok (.aload_n 0, 1) := by decide +kernel
theorem dX6_settle_78 : decode cX6_settle 78 = .ok (.iload_n 1, 1) := by decide +kernel
theorem dX6_settle_79 : decode cX6_settle 79 = .ok (.iload_n 2, 1) := by decide +kernel
theorem dX6_settle_80 : decode cX6_settle 80 = .ok (.aload_n 0, 1) := by decide +kernel
theorem dX6_settle_81 : decode cX6_settle 81 = .ok (.aload_n 0, 1) := by decide +kernel
theorem dX6_settle_82 : decode cX6_settle 82 = .ok (.getfield 31, 3) := by decide +kernel
theorem dX6_settle_85 : decode cX6_settle 85 = .ok (.iload 5, 2) := by decide +kernel
theorem dX6_settle_87 : decode cX6_settle 87 = .ok (.laload, 1) := by decide +kernel
theorem dX6_settle_88 : decode cX6_settle 88 = .ok (.aload_n 0, 1) := by decide +kernel
theorem dX6_settle_89 : decode cX6_settle 89 = .ok (.getfield 34, 3) := by decide +kernel
theorem dX6_settle_92 : decode cX6_settle 92 = .ok (.iload 5, 2) := by decide +kernel
theorem dX6_settle_94 : decode cX6_settle 94 = .ok (.laload, 1) := by decide +kernel
theorem dX6_settle_95 : decode cX6_settle 95 = .ok (.iload_n 3, 1) := by decide +kernel
theorem dX6_settle_96 : decode cX6_settle 96 = .ok (.invokevirtual 133, 3) := by decide +kernel
theorem dX6_settle_99 : decode cX6_settle 99 = .ok (.invokevirtual 126, 3) := by decide +kernel
theorem dX6_settle_102 : decode cX6_settle 102 = .ok (.ireturn, 1) := by decide +kernel
theorem dX6_tag_0 : decode cX6_tag 0 = .ok (.aload_n 0, 1) := by decide +kernel
theorem dX6_tag_1 : decode cX6_tag 1 = .ok (.iload_n 2, 1) := by decide +kernel
theorem dX6_tag_2 : decode cX6_tag 2 = .ok (.invokevirtual 105, 3) := by decide +kernel
theorem dX6_tag_5 : decode cX6_tag 5 = .ok (.ifCond .ne 25, 3) := by decide +kernel
theorem dX6_tag_8 : decode cX6_tag 8 = .ok (.aload_n 0, 1) := by decide +kernel
theorem dX6_tag_9 : decode cX6_tag 9 = .ok (.iload_n 1, 1) := by decide +kernel
theorem dX6_tag_10 : decode cX6_tag 10 = .ok (.iconst 0, 1) := by decide +kernel
theorem dX6_tag_11 : decode cX6_tag 11 = .ok (.bipush 9, 2) := by decide +kernel
theorem dX6_tag_13 : decode cX6_tag 13 = .ok (.invokestatic 79, 3) := by decide +kernel
theorem dX6_tag_16 : decode cX6_tag 16 = .ok (.ifCond .eq 7, 3) := by decide +kernel
theorem dX6_tag_19 : decode cX6_tag 19 = .ok (.iconst 0, 1) := by decide +kernel
theorem dX6_tag_20 : decode cX6_tag 20 = .ok (.goto 4, 3) := by decide +kernel
theorem dX6_tag_23 : decode cX6_tag 23 = .ok (.iconst 2, 1) := by decide +kernel
theorem dX6_tag_24 : decode cX6_tag 24 = .ok (.invokevirtual 87, 3) := by decide +kernel
theorem dX6_tag_27 : decode cX6_tag 27 = .ok (.ifCond .eq 5, 3) := by decide +kernel
theorem dX6_tag_30 : decode cX6_tag 30 = .ok (.iconst 0, 1) := by decide +kernel
theorem dX6_tag_31 : decode cX6_tag 31 = .ok (.ireturn, 1) := by decide +kernel
theorem dX6_tag_32 : decode cX6_tag 32 = .ok (.aload_n 0, 1) := by decide +kernel
theorem dX6_tag_33 : decode cX6_tag 33 = .ok (.getfield 43, 3) := by decide +kernel
theorem dX6_tag_36 : decode cX6_tag 36 = .ok (.iload_n 1, 1) := by decide +kernel
theorem dX6_tag_37 : decode cX6_tag 37 = .ok (.iaload, 1) := by decide +kernel
theorem dX6_tag_38 : decode cX6_tag 38 = .ok (.istore_n 3, 1) := by decide +kernel
theorem dX6_tag_39 : decode cX6_tag 39 = .ok (.aload_n 0, 1) := by decide +kernel
theorem dX6_tag_40 : decode cX6_tag 40 = .ok (.getfield 43, 3) := by decide +kernel
theorem dX6_tag_43 : decode cX6_tag 43 = .ok (.iload_n 1, 1) := by decide +kernel
theorem dX6_tag_44 : decode cX6_tag 44 = .ok (.iload_n 2, 1) := by decide +kernel
theorem dX6_tag_45 : decode cX6_tag 45 = .ok (.iastore, 1) := by decide +kernel
theorem dX6_tag_46 : decode cX6_tag 46 = .ok (.iload_n 3, 1) := by decide +kernel
theorem dX6_tag_47 : decode cX6_tag 47 = .ok (.ireturn, 1) := by decide +kernel
theorem dX6_tagged_0 : decode cX6_tagged 0 = .ok (.aload_n 0, 1) := by decide +kernel
theorem dX6_tagged_1 : decode cX6_tagged 1 = .ok (.iload_n 1, 1) := by decide +kernel
theorem dX6_tagged_2 : decode cX6_tagged 2 = .ok (.iconst 0, 1) := by decide +kernel
theorem dX6_tagged_3 : decode cX6_tagged 3 = .ok (.bipush 9, 2) := by decide +kernel
theorem dX6_tagged_5 : decode cX6_tagged 5 = .ok (.invokestatic 79, 3) := by decide +kernel
theorem dX6_tagged_8 : decode cX6_tagged 8 = .ok (.ifCond .ne 7, 3) := by decide +kernel
theorem dX6_tagged_11 : decode cX6_tagged 11 = .ok (.iconst 1, 1) := by decide +kernel
theorem dX6_tagged_12 : decode cX6_tagged 12 = .ok (.goto 17, 3) := by decide +kernel
theorem dX6_tagged_15 : decode cX6_tagged 15 = .ok (.aload_n 0, 1) := by decide +kernel
theorem dX6_tagged_16 : decode cX6_tagged 16 = .ok (.getfield 43, 3) := by decide +kernel
theorem dX6_tagged_19 : decode cX6_tagged 19 = .ok (.iload_n 1, 1) := by decide +kernel
theorem dX6_tagged_20 : decode cX6_tagged 20 = .ok (.iaload, 1) := by decide +kernel
theorem dX6_tagged_21 : decode cX6_tagged 21 = .ok (.ifCond .ge 7, 3) := by decide +kernel
theorem dX6_tagged_24 : decode cX6_tagged 24 = .ok (.iconst 2, 1) := by decide +kernel
theorem dX6_tagged_25 : decode cX6_tagged 25 = .ok (.goto 4, 3) := by decide +kernel
theorem dX6_tagged_28 : decode cX6_tagged 28 = .ok (.iconst 0, 1) := by decide +kernel
theorem dX6_tagged_29 : decode cX6_tagged 29 = .ok (.invokevirtual 87, 3) := by decide +kernel
theorem dX6_tagged_32 : decode cX6_tagged 32 = .ok (.ifCond .eq 7, 3) := by decide +kernel
theorem dX6_tagged_35 : decode cX6_tagged 35 = .ok (.iconst 0, 1) := by decide +kernel
theorem dX6_tagged_36 : decode cX6_tagged 36 = .ok (.goto 9, 3) := by decide +kernel
