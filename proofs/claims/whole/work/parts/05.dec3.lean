theorem dX11_init_0 : decode cX11_init 0 = .ok (.aload_n 0, 1) := by decide +kernel
theorem dX11_init_1 : decode cX11_init 1 = .ok (.invokespecial 1, 3) := by decide +kernel
theorem dX11_init_4 : decode cX11_init 4 = .ok (.aload_n 0, 1) := by decide +kernel
theorem dX11_init_5 : decode cX11_init 5 = .ok (.sipush 320, 3) := by decide +kernel
theorem dX11_init_8 : decode cX11_init 8 = .ok (.newarray .int, 2) := by decide +kernel
theorem dX11_init_10 : decode cX11_init 10 = .ok (.putfield 7, 3) := by decide +kernel
theorem dX11_init_13 : decode cX11_init 13 = .ok (.aload_n 0, 1) := by decide +kernel
theorem dX11_init_14 : decode cX11_init 14 = .ok (.bipush 13, 2) := by decide +kernel
theorem dX11_init_16 : decode cX11_init 16 = .ok (.newarray .int, 2) := by decide +kernel
theorem dX11_init_18 : decode cX11_init 18 = .ok (.dup, 1) := by decide +kernel
theorem dX11_init_19 : decode cX11_init 19 = .ok (.iconst 0, 1) := by decide +kernel
theorem dX11_init_20 : decode cX11_init 20 = .ok (.iconst 0, 1) := by decide +kernel
theorem dX11_init_21 : decode cX11_init 21 = .ok (.iastore, 1) := by decide +kernel
theorem dX11_init_22 : decode cX11_init 22 = .ok (.dup, 1) := by decide +kernel
theorem dX11_init_23 : decode cX11_init 23 = .ok (.iconst 1, 1) := by decide +kernel
theorem dX11_init_24 : decode cX11_init 24 = .ok (.bipush 6, 2) := by decide +kernel
theorem dX11_init_26 : decode cX11_init 26 = .ok (.iastore, 1) := by decide +kernel
theorem dX11_init_27 : decode cX11_init 27 = .ok (.dup, 1) := by decide +kernel
theorem dX11_init_28 : decode cX11_init 28 = .ok (.iconst 2, 1) := by decide +kernel
theorem dX11_init_29 : decode cX11_init 29 = .ok (.bipush 11, 2) := by decide +kernel
theorem dX11_init_31 : decode cX11_init 31 = .ok (.iastore, 1) := by decide +kernel
theorem dX11_init_32 : decode cX11_init 32 = .ok (.dup, 1) := by decide +kernel
theorem dX11_init_33 : decode cX11_init 33 = .ok (.iconst 3, 1) := by decide +kernel
theorem dX11_init_34 : decode cX11_init 34 = .ok (.bipush 16, 2) := by decide +kernel
theorem dX11_init_36 : decode cX11_init 36 = .ok (.iastore, 1) := by decide +kernel
theorem dX11_init_37 : decode cX11_init 37 = .ok (.dup, 1) := by decide +kernel
theorem dX11_init_38 : decode cX11_init 38 = .ok (.iconst 4, 1) := by decide +kernel
theorem dX11_init_39 : decode cX11_init 39 = .ok (.bipush 21, 2) := by decide +kernel
theorem dX11_init_41 : decode cX11_init 41 = .ok (.iastore, 1) := by decide +kernel
theorem dX11_init_42 : decode cX11_init 42 = .ok (.dup, 1) := by decide +kernel
theorem dX11_init_43 : decode cX11_init 43 = .ok (.iconst 5, 1) := by decide +kernel
theorem dX11_init_44 : decode cX11_init 44 = .ok (.bipush 25, 2) := by decide +kernel
theorem dX11_init_46 : decode cX11_init 46 = .ok (.iastore, 1) := by decide +kernel
theorem dX11_init_47 : decode cX11_init 47 = .ok (.dup, 1) := by decide +kernel
theorem dX11_init_48 : decode cX11_init 48 = .ok (.bipush 6, 2) := by decide +kernel
theorem dX11_init_50 : decode cX11_init 50 = .ok (.bipush 30, 2) := by decide +kernel
theorem dX11_init_52 : decode cX11_init 52 = .ok (.iastore, 1) := by decide +kernel
theorem dX11_init_53 : decode cX11_init 53 = .ok (.dup, 1) := by decide +kernel
theorem dX11_init_54 : decode cX11_init 54 = .ok (.bipush 7, 2) := by decide +kernel
theorem dX11_init_56 : decode cX11_init 56 = .ok (.bipush 37, 2) := by decide +kernel
theorem dX11_init_58 : decode cX11_init 58 = .ok (.iastore, 1) := by decide +kernel
theorem dX11_init_59 : decode cX11_init 59 = .ok (.dup, 1) := by decide +kernel
theorem dX11_init_60 : decode cX11_init 60 = .ok (.bipush 8, 2) := by decide +kernel
theorem dX11_init_62 : decode cX11_init 62 = .ok (.bipush 41, 2) := by decide +kernel
theorem dX11_init_64 : decode cX11_init 64 = .ok (.iastore, 1) := by decide +kernel
theorem dX11_init_65 : decode cX11_init 65 = .ok (.dup, 1) := by decide +kernel
theorem dX11_init_66 : decode cX11_init 66 = .ok (.bipush 9, 2) := by decide +kernel
theorem dX11_init_68 : decode cX11_init 68 = .ok (.bipush 45, 2) := by decide +kernel
theorem dX11_init_70 : decode cX11_init 70 = .ok (.iastore, 1) := by decide +kernel
theorem dX11_init_71 : decode cX11_init 71 = .ok (.dup, 1) := by decide +kernel
theorem dX11_init_72 : decode cX11_init 72 = .ok (.bipush 10, 2) := by decide +kernel
theorem dX11_init_74 : decode cX11_init 74 = .ok (.bipush 51, 2) := by decide +kernel
theorem dX11_init_76 : decode cX11_init 76 = .ok (.iastore, 1) := by decide +kernel
theorem dX11_init_77 : decode cX11_init 77 = .ok (.dup, 1) := by decide +kernel
theorem dX11_init_78 : decode cX11_init 78 = .ok (.bipush 11, 2) := by decide +kernel
theorem dX11_init_80 : decode cX11_init 80 = .ok (.bipush 56, 2) := by decide +kernel
theorem dX11_init_82 : decode cX11_init 82 = .ok (.iastore, 1) := by decide +kernel
theorem dX11_init_83 : decode cX11_init 83 = .ok (.dup, 1) := by decide +kernel
theorem dX11_init_84 : decode cX11_init 84 = .ok (.bipush 12, 2) := by decide +kernel
theorem dX11_init_86 : decode cX11_init 86 = .ok (.bipush 60, 2) := by decide +kernel
theorem dX11_init_88 : decode cX11_init 88 = .ok (.iastore, 1) := by decide +kernel
theorem dX11_init_89 : decode cX11_init 89 = .ok (.putfield 13, 3) := by decide +kernel
theorem dX11_init_92 : decode cX11_init 92 = .ok (.aload_n 0, 1) := by decide +kernel
theorem dX11_init_93 : decode cX11_init 93 = .ok (.bipush 60, 2) := by decide +kernel
theorem dX11_init_95 : decode cX11_init 95 = .ok (.newarray .int, 2) := by decide +kernel
theorem dX11_init_97 : decode cX11_init 97 = .ok (.dup, 1) := by decide +kernel
theorem dX11_init_98 : decode cX11_init 98 = .ok (.iconst 0, 1) := by decide +kernel
theorem dX11_init_99 : decode cX11_init 99 = .ok (.bipush 112, 2) := by decide +kernel
theorem dX11_init_101 : decode cX11_init 101 = .ok (.iastore, 1) := by decide +kernel
theorem dX11_init_102 : decode cX11_init 102 = .ok (.dup, 1) := by decide +kernel
theorem dX11_init_103 : decode cX11_init 103 = .ok (.iconst 1, 1) := by decide +kernel
theorem dX11_init_104 : decode cX11_init 104 = .ok (.bipush 97, 2) := by decide +kernel
theorem dX11_init_106 : decode cX11_init 106 = .ok (.iastore, 1) := by decide +kernel
theorem dX11_init_107 : decode cX11_init 107 = .ok (.dup, 1) := by decide +kernel
theorem dX11_init_108 : decode cX11_init 108 = .ok (.iconst 2, 1) := by decide +kernel
theorem dX11_init_109 : decode cX11_init 109 = .ok (.bipush 114, 2) := by decide +kernel
theorem dX11_init_111 : decode cX11_init 111 = .ok (.iastore, 1) := by decide +kernel
theorem dX11_init_112 : decode cX11_init 112 = .ok (.dup, 1) := by decide +kernel
theorem dX11_init_113 : decode cX11_init 113 = .ok (.iconst 3, 1) := by decide +kernel
theorem dX11_init_114 : decode cX11_init 114 = .ok (.bipush 105, 2) := by decide +kernel
theorem dX11_init_116 : decode cX11_init 116 = .ok (.iastore, 1) := by decide +kernel
theorem dX11_init_117 : decode cX11_init 117 = .ok (.dup, 1) := by decide +kernel
theorem dX11_init_118 : decode cX11_init 118 = .ok (.iconst 4, 1) := by decide +kernel
theorem dX11_init_119 : decode cX11_init 119 = .ok (.bipush 115, 2) := by decide +kernel
theorem dX11_init_121 : decode cX11_init 121 = .ok (.iastore, 1) := by decide +kernel
theorem dX11_init_122 : decode cX11_init 122 = .ok (.dup, 1) := by decide +kernel
theorem dX11_init_123 : decode cX11_init 123 = .ok (.iconst 5, 1) := by decide +kernel
theorem dX11_init_124 : decode cX11_init 124 = .ok (.bipush 104, 2) := by decide +kernel
theorem dX11_init_126 : decode cX11_init 126 = .ok (.iastore, 1) := by decide +kernel
theorem dX11_init_127 : decode cX11_init 127 = .ok (.dup, 1) := by decide +kernel
theorem dX11_init_128 : decode cX11_init 128 = .ok (.bipush 6, 2) := by decide +kernel
theorem dX11_init_130 : decode cX11_init 130 = .ok (.bipush 99, 2) := by decide +kernel
theorem dX11_init_132 : decode cX11_init 132 = .ok (.iastore, 1) := by decide +kernel
theorem dX11_init_133 : decode cX11_init 133 = .ok (.dup, 1) := by decide +kernel
theorem dX11_init_134 : decode cX11_init 134 = .ok (.bipush 7, 2) := by decide +kernel
theorem dX11_init_136 : decode cX11_init 136 = .ok (.bipush 108, 2) := by decide +kernel
theorem dX11_init_138 : decode cX11_init 138 = .ok (.iastore, 1) := by decide +kernel
theorem dX11_init_139 : decode cX11_init 139 = .ok (.dup, 1) := by decide +kernel
theorem dX11_init_140 : decode cX11_init 140 = .ok (.bipush 8, 2) := by decide +kernel
theorem dX11_init_142 : decode cX11_init 142 = .ok (.bipush 101, 2) := by decide +kernel
theorem dX11_init_144 : decode cX11_init 144 = .ok (.iastore, 1) := by decide +kernel
theorem dX11_init_145 : decode cX11_init 145 = .ok (.dup, 1) := by decide +kernel
theorem dX11_init_146 : decode cX11_init 146 = .ok (.bipush 9, 2) := by decide +kernel
theorem dX11_init_148 : decode cX11_init 148 = .ok (.bipush 114, 2) := by decide +kernel
theorem dX11_init_150 : decode cX11_init 150 = .ok (.iastore, 1) := by decide +kernel
theorem dX11_init_151 : decode cX11_init 151 = .ok (.dup, 1) := by decide +kernel
theorem dX11_init_152 : decode cX11_init 152 = .ok (.bipush 10, 2) := by decide +kernel
theorem dX11_init_154 : decode cX11_init 154 = .ok (.bipush 107, 2) := by decide +kernel
theorem dX11_init_156 : decode cX11_init 156 = .ok (.iastore, 1) := by decide +kernel
theorem dX11_init_157 : decode cX11_init 157 = .ok (.dup, 1) := by decide +kernel
theorem dX11_init_158 : decode cX11_init 158 = .ok (.bipush 11, 2) := by decide +kernel
theorem dX11_init_160 : decode cX11_init 160 = .ok (.bipush 116, 2) := by decide +kernel
theorem dX11_init_162 : decode cX11_init 162 = .ok (.iastore, 1) := by decide +kernel
theorem dX11_init_163 : decode cX11_init 163 = .ok (.dup, 1) := by decide +kernel
theorem dX11_init_164 : decode cX11_init 164 = .ok (.bipush 12, 2) := by decide +kernel
theorem dX11_init_166 : decode cX11_init 166 = .ok (.bipush 114, 2) := by decide +kernel
theorem dX11_init_168 : decode cX11_init 168 = .ok (.iastore, 1) := by decide +kernel
theorem dX11_init_169 : decode cX11_init 169 = .ok (.dup, 1) := by decide +kernel
theorem dX11_init_170 : decode cX11_init 170 = .ok (.bipush 13, 2) := by decide +kernel
theorem dX11_init_172 : decode cX11_init 172 = .ok (.bipush 105, 2) := by decide +kernel
theorem dX11_init_174 : decode cX11_init 174 = .ok (.iastore, 1) := by decide +kernel
theorem dX11_init_175 : decode cX11_init 175 = .ok (.dup, 1) := by decide +kernel
theorem dX11_init_176 : decode cX11_init 176 = .ok (.bipush 14, 2) := by decide +kernel
theorem dX11_init_178 : decode cX11_init 178 = .ok (.bipush 101, 2) := by decide +kernel
theorem dX11_init_180 : decode cX11_init 180 = .ok (.iastore, 1) := by decide +kernel
theorem dX11_init_181 : decode cX11_init 181 = .ok (.dup, 1) := by decide +kernel
theorem dX11_init_182 : decode cX11_init 182 = .ok (.bipush 15, 2) := by decide +kernel
theorem dX11_init_184 : decode cX11_init 184 = .ok (.bipush 100, 2) := by decide +kernel
theorem dX11_init_186 : decode cX11_init 186 = .ok (.iastore, 1) := by decide +kernel
theorem dX11_init_187 : decode cX11_init 187 = .ok (.dup, 1) := by decide +kernel
theorem dX11_init_188 : decode cX11_init 188 = .ok (.bipush 16, 2) := by decide +kernel
theorem dX11_init_190 : decode cX11_init 190 = .ok (.bipush 108, 2) := by decide +kernel
theorem dX11_init_192 : decode cX11_init 192 = .ok (.iastore, 1) := by decide +kernel
theorem dX11_init_193 : decode cX11_init 193 = .ok (.dup, 1) := by decide +kernel
theorem dX11_init_194 : decode cX11_init 194 = .ok (.bipush 17, 2) := by decide +kernel
theorem dX11_init_196 : decode cX11_init 196 = .ok (.bipush 101, 2) := by decide +kernel
theorem dX11_init_198 : decode cX11_init 198 = .ok (.iastore, 1) := by decide +kernel
theorem dX11_init_199 : decode cX11_init 199 = .ok (.dup, 1) := by decide +kernel
theorem dX11_init_200 : decode cX11_init 200 = .ok (.bipush 18, 2) := by decide +kernel
theorem dX11_init_202 : decode cX11_init 202 = .ok (.bipush 97, 2) := by decide +kernel
theorem dX11_init_204 : decode cX11_init 204 = .ok (.iastore, 1) := by decide +kernel
theorem dX11_init_205 : decode cX11_init 205 = .ok (.dup, 1) := by decide +kernel
theorem dX11_init_206 : decode cX11_init 206 = .ok (.bipush 19, 2) := by decide +kernel
theorem dX11_init_208 : decode cX11_init 208 = .ok (.bipush 114, 2) := by decide +kernel
theorem dX11_init_210 : decode cX11_init 210 = .ok (.iastore, 1) := by decide +kernel
theorem dX11_init_211 : decode cX11_init 211 = .ok (.dup, 1) := by decide +kernel
theorem dX11_init_212 : decode cX11_init 212 = .ok (.bipush 20, 2) := by decide +kernel
theorem dX11_init_214 : decode cX11_init 214 = .ok (.bipush 110, 2) := by decide +kernel
theorem dX11_init_216 : decode cX11_init 216 = .ok (.iastore, 1) := by decide +kernel
theorem dX11_init_217 : decode cX11_init 217 = .ok (.dup, 1) := by decide +kernel
theorem dX11_init_218 : decode cX11_init 218 = .ok (.bipush 21, 2) := by decide +kernel
theorem dX11_init_220 : decode cX11_init 220 = .ok (.bipush 97, 2) := by decide +kernel
theorem dX11_init_222 : decode cX11_init 222 = .ok (.iastore, 1) := by decide +kernel
theorem dX11_init_223 : decode cX11_init 223 = .ok (.dup, 1) := by decide +kernel
theorem dX11_init_224 : decode cX11_init 224 = .ok (.bipush 22, 2) := by decide +kernel
theorem dX11_init_226 : decode cX11_init 226 = .ok (.bipush 103, 2) := by decide +kernel
theorem dX11_init_228 : decode cX11_init 228 = .ok (.iastore, 1) := by decide +kernel
theorem dX11_init_229 : decode cX11_init 229 = .ok (.dup, 1) := by decide +kernel
theorem dX11_init_230 : decode cX11_init 230 = .ok (.bipush 23, 2) := by decide +kernel
theorem dX11_init_232 : decode cX11_init 232 = .ok (.bipush 101, 2) := by decide +kernel
theorem dX11_init_234 : decode cX11_init 234 = .ok (.iastore, 1) := by decide +kernel
theorem dX11_init_235 : decode cX11_init 235 = .ok (.dup, 1) := by decide +kernel
theorem dX11_init_236 : decode cX11_init 236 = .ok (.bipush 24, 2) := by decide +kernel
theorem dX11_init_238 : decode cX11_init 238 = .ok (.bipush 115, 2) := by decide +kernel
theorem dX11_init_240 : decode cX11_init 240 = .ok (.iastore, 1) := by decide +kernel
theorem dX11_init_241 : decode cX11_init 241 = .ok (.dup, 1) := by decide +kernel
theorem dX11_init_242 : decode cX11_init 242 = .ok (.bipush 25, 2) := by decide +kernel
theorem dX11_init_244 : decode cX11_init 244 = .ok (.bipush 110, 2) := by decide +kernel
theorem dX11_init_246 : decode cX11_init 246 = .ok (.iastore, 1) := by decide +kernel
theorem dX11_init_247 : decode cX11_init 247 = .ok (.dup, 1) := by decide +kernel
theorem dX11_init_248 : decode cX11_init 248 = .ok (.bipush 26, 2) := by decide +kernel
theorem dX11_init_250 : decode cX11_init 250 = .ok (.bipush 101, 2) := by decide +kernel
theorem dX11_init_252 : decode cX11_init 252 = .ok (.iastore, 1) := by decide +kernel
theorem dX11_init_253 : decode cX11_init 253 = .ok (.dup, 1) := by decide +kernel
theorem dX11_init_254 : decode cX11_init 254 = .ok (.bipush 27, 2) := by decide +kernel
theorem dX11_init_256 : decode cX11_init 256 = .ok (.bipush 118, 2) := by decide +kernel
theorem dX11_init_258 : decode cX11_init 258 = .ok (.iastore, 1) := by decide +kernel
theorem dX11_init_259 : decode cX11_init 259 = .ok (.dup, 1) := by decide +kernel
theorem dX11_init_260 : decode cX11_init 260 = .ok (.bipush 28, 2) := by decide +kernel
theorem dX11_init_262 : decode cX11_init 262 = .ok (.bipush 101, 2) := by decide +kernel
theorem dX11_init_264 : decode cX11_init 264 = .ok (.iastore, 1) := by decide +kernel
theorem dX11_init_265 : decode cX11_init 265 = .ok (.dup, 1) := by decide +kernel
theorem dX11_init_266 : decode cX11_init 266 = .ok (.bipush 29, 2) := by decide +kernel
theorem dX11_init_268 : decode cX11_init 268 = .ok (.bipush 114, 2) := by decide +kernel
theorem dX11_init_270 : decode cX11_init 270 = .ok (.iastore, 1) := by decide +kernel
theorem dX11_init_271 : decode cX11_init 271 = .ok (.dup, 1) := by decide +kernel
theorem dX11_init_272 : decode cX11_init 272 = .ok (.bipush 30, 2) := by decide +kernel
theorem dX11_init_274 : decode cX11_init 274 = .ok (.bipush 112, 2) := by decide +kernel
theorem dX11_init_276 : decode cX11_init 276 = .ok (.iastore, 1) := by decide +kernel
theorem dX11_init_277 : decode cX11_init 277 = .ok (.dup, 1) := by decide +kernel
theorem dX11_init_278 : decode cX11_init 278 = .ok (.bipush 31, 2) := by decide +kernel
theorem dX11_init_280 : decode cX11_init 280 = .ok (.bipush 105, 2) := by decide +kernel
theorem dX11_init_282 : decode cX11_init 282 = .ok (.iastore, 1) := by decide +kernel
theorem dX11_init_283 : decode cX11_init 283 = .ok (.dup, 1) := by decide +kernel
theorem dX11_init_284 : decode cX11_init 284 = .ok (.bipush 32, 2) := by decide +kernel
theorem dX11_init_286 : decode cX11_init 286 = .ok (.bipush 99, 2) := by decide +kernel
theorem dX11_init_288 : decode cX11_init 288 = .ok (.iastore, 1) := by decide +kernel
theorem dX11_init_289 : decode cX11_init 289 = .ok (.dup, 1) := by decide +kernel
theorem dX11_init_290 : decode cX11_init 290 = .ok (.bipush 33, 2) := by decide +kernel
theorem dX11_init_292 : decode cX11_init 292 = .ok (.bipush 116, 2) := by decide +kernel
theorem dX11_init_294 : decode cX11_init 294 = .ok (.iastore, 1) := by decide +kernel
theorem dX11_init_295 : decode cX11_init 295 = .ok (.dup, 1) := by decide +kernel
theorem dX11_init_296 : decode cX11_init 296 = .ok (.bipush 34, 2) := by decide +kernel
theorem dX11_init_298 : decode cX11_init 298 = .ok (.bipush 117, 2) := by decide +kernel
theorem dX11_init_300 : decode cX11_init 300 = .ok (.iastore, 1) := by decide +kernel
theorem dX11_init_301 : decode cX11_init 301 = .ok (.dup, 1) := by decide +kernel
theorem dX11_init_302 : decode cX11_init 302 = .ok (.bipush 35, 2) := by decide +kernel
theorem dX11_init_304 : decode cX11_init 304 = .ok (.bipush 114, 2) := by decide +kernel
theorem dX11_init_306 : decode cX11_init 306 = .ok (.iastore, 1) := by decide +kernel
theorem dX11_init_307 : decode cX11_init 307 = .ok (.dup, 1) := by decide +kernel
theorem dX11_init_308 : decode cX11_init 308 = .ok (.bipush 36, 2) := by decide +kernel
theorem dX11_init_310 : decode cX11_init 310 = .ok (.bipush 101, 2) := by decide +kernel
theorem dX11_init_312 : decode cX11_init 312 = .ok (.iastore, 1) := by decide +kernel
theorem dX11_init_313 : decode cX11_init 313 = .ok (.dup, 1) := by decide +kernel
theorem dX11_init_314 : decode cX11_init 314 = .ok (.bipush 37, 2) := by decide +kernel
theorem dX11_init_316 : decode cX11_init 316 = .ok (.bipush 116, 2) := by decide +kernel
theorem dX11_init_318 : decode cX11_init 318 = .ok (.iastore, 1) := by decide +kernel
theorem dX11_init_319 : decode cX11_init 319 = .ok (.dup, 1) := by decide +kernel
theorem dX11_init_320 : decode cX11_init 320 = .ok (.bipush 38, 2) := by decide +kernel
theorem dX11_init_322 : decode cX11_init 322 = .ok (.bipush 111, 2) := by decide +kernel
theorem dX11_init_324 : decode cX11_init 324 = .ok (.iastore, 1) := by decide +kernel
theorem dX11_init_325 : decode cX11_init 325 = .ok (.dup, 1) := by decide +kernel
theorem dX11_init_326 : decode cX11_init 326 = .ok (.bipush 39, 2) := by decide +kernel
theorem dX11_init_328 : decode cX11_init 328 = .ok (.bipush 119, 2) := by decide +kernel
theorem dX11_init_330 : decode cX11_init 330 = .ok (.iastore, 1) := by decide +kernel
theorem dX11_init_331 : decode cX11_init 331 = .ok (.dup, 1) := by decide +kernel
theorem dX11_init_332 : decode cX11_init 332 = .ok (.bipush 40, 2) := by decide +kernel
theorem dX11_init_334 : decode cX11_init 334 = .ok (.bipush 110, 2) := by decide +kernel
theorem dX11_init_336 : decode cX11_init 336 = .ok (.iastore, 1) := by decide +kernel
theorem dX11_init_337 : decode cX11_init 337 = .ok (.dup, 1) := by decide +kernel
theorem dX11_init_338 : decode cX11_init 338 = .ok (.bipush 41, 2) := by decide +kernel
theorem dX11_init_340 : decode cX11_init 340 = .ok (.bipush 109, 2) := by decide +kernel
theorem dX11_init_342 : decode cX11_init 342 = .ok (.iastore, 1) := by decide +kernel
theorem dX11_init_343 : decode cX11_init 343 = .ok (.dup, 1) := by decide +kernel
theorem dX11_init_344 : decode cX11_init 344 = .ok (.bipush 42, 2) := by decide +kernel
theorem dX11_init_346 : decode cX11_init 346 = .ok (.bipush 105, 2) := by decide +kernel
theorem dX11_init_348 : decode cX11_init 348 = .ok (.iastore, 1) := by decide +kernel
theorem dX11_init_349 : decode cX11_init 349 = .ok (.dup, 1) := by decide +kernel
theorem dX11_init_350 : decode cX11_init 350 = .ok (.bipush 43, 2) := by decide +kernel
theorem dX11_init_352 : decode cX11_init 352 = .ok (.bipush 108, 2) := by decide +kernel
theorem dX11_init_354 : decode cX11_init 354 = .ok (.iastore, 1) := by decide +kernel
theorem dX11_init_355 : decode cX11_init 355 = .ok (.dup, 1) := by decide +kernel
theorem dX11_init_356 : decode cX11_init 356 = .ok (.bipush 44, 2) := by decide +kernel
theorem dX11_init_358 : decode cX11_init 358 = .ok (.bipush 108, 2) := by decide +kernel
theorem dX11_init_360 : decode cX11_init 360 = .ok (.iastore, 1) := by decide +kernel
theorem dX11_init_361 : decode cX11_init 361 = .ok (.dup, 1) := by decide +kernel
theorem dX11_init_362 : decode cX11_init 362 = .ok (.bipush 45, 2) := by decide +kernel
theorem dX11_init_364 : decode cX11_init 364 = .ok (.bipush 115, 2) := by decide +kernel
theorem dX11_init_366 : decode cX11_init 366 = .ok (.iastore, 1) := by decide +kernel
theorem dX11_init_367 : decode cX11_init 367 = .ok (.dup, 1) := by decide +kernel
theorem dX11_init_368 : decode cX11_init 368 = .ok (.bipush 46, 2) := by decide +kernel
theorem dX11_init_370 : decode cX11_init 370 = .ok (.bipush 99, 2) := by decide +kernel
theorem dX11_init_372 : decode cX11_init 372 = .ok (.iastore, 1) := by decide +kernel
theorem dX11_init_373 : decode cX11_init 373 = .ok (.dup, 1) := by decide +kernel
theorem dX11_init_374 : decode cX11_init 374 = .ok (.bipush 47, 2) := by decide +kernel
theorem dX11_init_376 : decode cX11_init 376 = .ok (.bipush 104, 2) := by decide +kernel
theorem dX11_init_378 : decode cX11_init 378 = .ok (.iastore, 1) := by decide +kernel
theorem dX11_init_379 : decode cX11_init 379 = .ok (.dup, 1) := by decide +kernel
theorem dX11_init_380 : decode cX11_init 380 = .ok (.bipush 48, 2) := by decide +kernel
theorem dX11_init_382 : decode cX11_init 382 = .ok (.bipush 111, 2) := by decide +kernel
theorem dX11_init_384 : decode cX11_init 384 = .ok (.iastore, 1) := by decide +kernel
theorem dX11_init_385 : decode cX11_init 385 = .ok (.dup, 1) := by decide +kernel
theorem dX11_init_386 : decode cX11_init 386 = .ok (.bipush 49, 2) := by decide +kernel
theorem dX11_init_388 : decode cX11_init 388 = .ok (.bipush 111, 2) := by decide +kernel
theorem dX11_init_390 : decode cX11_init 390 = .ok (.iastore, 1) := by decide +kernel
theorem dX11_init_391 : decode cX11_init 391 = .ok (.dup, 1) := by decide +kernel
theorem dX11_init_392 : decode cX11_init 392 = .ok (.bipush 50, 2) := by decide +kernel
theorem dX11_init_394 : decode cX11_init 394 = .ok (.bipush 108, 2) := by decide +kernel
theorem dX11_init_396 : decode cX11_init 396 = .ok (.iastore, 1) := by decide +kernel
theorem dX11_init_397 : decode cX11_init 397 = .ok (.dup, 1) := by decide +kernel
theorem dX11_init_398 : decode cX11_init 398 = .ok (.bipush 51, 2) := by decide +kernel
theorem dX11_init_400 : decode cX11_init 400 = .ok (.bipush 99, 2) := by decide +kernel
theorem dX11_init_402 : decode cX11_init 402 = .ok (.iastore, 1) := by decide +kernel
theorem dX11_init_403 : decode cX11_init 403 = .ok (.dup, 1) := by decide +kernel
theorem dX11_init_404 : decode cX11_init 404 = .ok (.bipush 52, 2) := by decide +kernel
theorem dX11_init_406 : decode cX11_init 406 = .ok (.bipush 114, 2) := by decide +kernel
theorem dX11_init_408 : decode cX11_init 408 = .ok (.iastore, 1) := by decide +kernel
theorem dX11_init_409 : decode cX11_init 409 = .ok (.dup, 1) := by decide +kernel
theorem dX11_init_410 : decode cX11_init 410 = .ok (.bipush 53, 2) := by decide +kernel
theorem dX11_init_412 : decode cX11_init 412 = .ok (.bipush 111, 2) := by decide +kernel
theorem dX11_init_414 : decode cX11_init 414 = .ok (.iastore, 1) := by decide +kernel
theorem dX11_init_415 : decode cX11_init 415 = .ok (.dup, 1) := by decide +kernel
theorem dX11_init_416 : decode cX11_init 416 = .ok (.bipush 54, 2) := by decide +kernel
theorem dX11_init_418 : decode cX11_init 418 = .ok (.bipush 115, 2) := by decide +kernel
theorem dX11_init_420 : decode cX11_init 420 = .ok (.iastore, 1) := by decide +kernel
theorem dX11_init_421 : decode cX11_init 421 = .ok (.dup, 1) := by decide +kernel
theorem dX11_init_422 : decode cX11_init 422 = .ok (.bipush 55, 2) := by decide +kernel
theorem dX11_init_424 : decode cX11_init 424 = .ok (.bipush 115, 2) := by decide +kernel
theorem dX11_init_426 : decode cX11_init 426 = .ok (.iastore, 1) := by decide +kernel
theorem dX11_init_427 : decode cX11_init 427 = .ok (.dup, 1) := by decide +kernel
theorem dX11_init_428 : decode cX11_init 428 = .ok (.bipush 56, 2) := by decide +kernel
theorem dX11_init_430 : decode cX11_init 430 = .ok (.bipush 110, 2) := by decide +kernel
theorem dX11_init_432 : decode cX11_init 432 = .ok (.iastore, 1) := by decide +kernel
theorem dX11_init_433 : decode cX11_init 433 = .ok (.dup, 1) := by decide +kernel
theorem dX11_init_434 : decode cX11_init 434 = .ok (.bipush 57, 2) := by decide +kernel
theorem dX11_init_436 : decode cX11_init 436 = .ok (.bipush 97, 2) := by decide +kernel
theorem dX11_init_438 : decode cX11_init 438 = .ok (.iastore, 1) := by decide +kernel
theorem dX11_init_439 : decode cX11_init 439 = .ok (.dup, 1) := by decide +kernel
theorem dX11_init_440 : decode cX11_init 440 = .ok (.bipush 58, 2) := by decide +kernel
theorem dX11_init_442 : decode cX11_init 442 = .ok (.bipush 109, 2) := by decide +kernel
theorem dX11_init_444 : decode cX11_init 444 = .ok (.iastore, 1) := by decide +kernel
theorem dX11_init_445 : decode cX11_init 445 = .ok (.dup, 1) := by decide +kernel
theorem dX11_init_446 : decode cX11_init 446 = .ok (.bipush 59, 2) := by decide +kernel
theorem dX11_init_448 : decode cX11_init 448 = .ok (.bipush 101, 2) := by decide +kernel
theorem dX11_init_450 : decode cX11_init 450 = .ok (.iastore, 1) := by decide +kernel
theorem dX11_init_451 : decode cX11_init 451 = .ok (.putfield 16, 3) := by decide +kernel
theorem dX11_init_454 : decode cX11_init 454 = .ok (.aload_n 0, 1) := by decide +kernel
theorem dX11_init_455 : decode cX11_init 455 = .ok (.bipush 11, 2) := by decide +kernel
theorem dX11_init_457 : decode cX11_init 457 = .ok (.newarray .int, 2) := by decide +kernel
theorem dX11_init_459 : decode cX11_init 459 = .ok (.dup, 1) := by decide +kernel
theorem dX11_init_460 : decode cX11_init 460 = .ok (.iconst 0, 1) := by decide +kernel
theorem dX11_init_461 : decode cX11_init 461 = .ok (.iconst 0, 1) := by decide +kernel
theorem dX11_init_462 : decode cX11_init 462 = .ok (.iastore, 1) := by decide +kernel
theorem dX11_init_463 : decode cX11_init 463 = .ok (.dup, 1) := by decide +kernel
theorem dX11_init_464 : decode cX11_init 464 = .ok (.iconst 1, 1) := by decide +kernel
theorem dX11_init_465 : decode cX11_init 465 = .ok (.iconst 0, 1) := by decide +kernel
theorem dX11_init_466 : decode cX11_init 466 = .ok (.iastore, 1) := by decide +kernel
theorem dX11_init_467 : decode cX11_init 467 = .ok (.dup, 1) := by decide +kernel
theorem dX11_init_468 : decode cX11_init 468 = .ok (.iconst 2, 1) := by decide +kernel
theorem dX11_init_469 : decode cX11_init 469 = .ok (.bipush 11, 2) := by decide +kernel
theorem dX11_init_471 : decode cX11_init 471 = .ok (.iastore, 1) := by decide +kernel
theorem dX11_init_472 : decode cX11_init 472 = .ok (.dup, 1) := by decide +kernel
theorem dX11_init_473 : decode cX11_init 473 = .ok (.iconst 3, 1) := by decide +kernel
theorem dX11_init_474 : decode cX11_init 474 = .ok (.bipush 20, 2) := by decide +kernel
theorem dX11_init_476 : decode cX11_init 476 = .ok (.iastore, 1) := by decide +kernel
theorem dX11_init_477 : decode cX11_init 477 = .ok (.dup, 1) := by decide +kernel
theorem dX11_init_478 : decode cX11_init 478 = .ok (.iconst 4, 1) := by decide +kernel
theorem dX11_init_479 : decode cX11_init 479 = .ok (.bipush 35, 2) := by decide +kernel
theorem dX11_init_481 : decode cX11_init 481 = .ok (.iastore, 1) := by decide +kernel
theorem dX11_init_482 : decode cX11_init 482 = .ok (.dup, 1) := by decide +kernel
theorem dX11_init_483 : decode cX11_init 483 = .ok (.iconst 5, 1) := by decide +kernel
theorem dX11_init_484 : decode cX11_init 484 = .ok (.iconst 0, 1) := by decide +kernel
theorem dX11_init_485 : decode cX11_init 485 = .ok (.iastore, 1) := by decide +kernel
theorem dX11_init_486 : decode cX11_init 486 = .ok (.dup, 1) := by decide +kernel
theorem dX11_init_487 : decode cX11_init 487 = .ok (.bipush 6, 2) := by decide +kernel
theorem dX11_init_489 : decode cX11_init 489 = .ok (.iconst 1, 1) := by decide +kernel
theorem dX11_init_490 : decode cX11_init 490 = .ok (.iastore, 1) := by decide +kernel
theorem dX11_init_491 : decode cX11_init 491 = .ok (.dup, 1) := by decide +kernel
theorem dX11_init_492 : decode cX11_init 492 = .ok (.bipush 7, 2) := by decide +kernel
theorem dX11_init_494 : decode cX11_init 494 = .ok (.iconst 0, 1) := by decide +kernel
theorem dX11_init_495 : decode cX11_init 495 = .ok (.iastore, 1) := by decide +kernel
theorem dX11_init_496 : decode cX11_init 496 = .ok (.dup, 1) := by decide +kernel
theorem dX11_init_497 : decode cX11_init 497 = .ok (.bipush 8, 2) := by decide +kernel
theorem dX11_init_499 : decode cX11_init 499 = .ok (.iconst 1, 1) := by decide +kernel
theorem dX11_init_500 : decode cX11_init 500 = .ok (.iastore, 1) := by decide +kernel
theorem dX11_init_501 : decode cX11_init 501 = .ok (.dup, 1) := by decide +kernel
theorem dX11_init_502 : decode cX11_init 502 = .ok (.bipush 9, 2) := by decide +kernel
theorem dX11_init_504 : decode cX11_init 504 = .ok (.iconst 1, 1) := by decide +kernel
theorem dX11_init_505 : decode cX11_init 505 = .ok (.iastore, 1) := by decide +kernel
theorem dX11_init_506 : decode cX11_init 506 = .ok (.dup, 1) := by decide +kernel
theorem dX11_init_507 : decode cX11_init 507 = .ok (.bipush 10, 2) := by decide +kernel
theorem dX11_init_509 : decode cX11_init 509 = .ok (.iconst 1, 1) := by decide +kernel
theorem dX11_init_510 : decode cX11_init 510 = .ok (.iastore, 1) := by decide +kernel
theorem dX11_init_511 : decode cX11_init 511 = .ok (.putfield 19, 3) := by decide +kernel
theorem dX11_init_514 : decode cX11_init 514 = .ok (.aload_n 0, 1) := by decide +kernel
theorem dX11_init_515 : decode cX11_init 515 = .ok (.bipush 11, 2) := by decide +kernel
theorem dX11_init_517 : decode cX11_init 517 = .ok (.newarray .int, 2) := by decide +kernel
theorem dX11_init_519 : decode cX11_init 519 = .ok (.dup, 1) := by decide +kernel
theorem dX11_init_520 : decode cX11_init 520 = .ok (.iconst 0, 1) := by decide +kernel
theorem dX11_init_521 : decode cX11_init 521 = .ok (.iconst 0, 1) := by decide +kernel
theorem dX11_init_522 : decode cX11_init 522 = .ok (.iastore, 1) := by decide +kernel
theorem dX11_init_523 : decode cX11_init 523 = .ok (.dup, 1) := by decide +kernel
theorem dX11_init_524 : decode cX11_init 524 = .ok (.iconst 1, 1) := by decide +kernel
theorem dX11_init_525 : decode cX11_init 525 = .ok (.iconst 0, 1) := by decide +kernel
theorem dX11_init_526 : decode cX11_init 526 = .ok (.iastore, 1) := by decide +kernel
theorem dX11_init_527 : decode cX11_init 527 = .ok (.dup, 1) := by decide +kernel
theorem dX11_init_528 : decode cX11_init 528 = .ok (.iconst 2, 1) := by decide +kernel
theorem dX11_init_529 : decode cX11_init 529 = .ok (.bipush 11, 2) := by decide +kernel
theorem dX11_init_531 : decode cX11_init 531 = .ok (.iastore, 1) := by decide +kernel
theorem dX11_init_532 : decode cX11_init 532 = .ok (.dup, 1) := by decide +kernel
theorem dX11_init_533 : decode cX11_init 533 = .ok (.iconst 3, 1) := by decide +kernel
theorem dX11_init_534 : decode cX11_init 534 = .ok (.bipush 20, 2) := by decide +kernel
theorem dX11_init_536 : decode cX11_init 536 = .ok (.iastore, 1) := by decide +kernel
theorem dX11_init_537 : decode cX11_init 537 = .ok (.dup, 1) := by decide +kernel
theorem dX11_init_538 : decode cX11_init 538 = .ok (.iconst 4, 1) := by decide +kernel
theorem dX11_init_539 : decode cX11_init 539 = .ok (.bipush 35, 2) := by decide +kernel
theorem dX11_init_541 : decode cX11_init 541 = .ok (.iastore, 1) := by decide +kernel
theorem dX11_init_542 : decode cX11_init 542 = .ok (.dup, 1) := by decide +kernel
theorem dX11_init_543 : decode cX11_init 543 = .ok (.iconst 5, 1) := by decide +kernel
theorem dX11_init_544 : decode cX11_init 544 = .ok (.iconst 0, 1) := by decide +kernel
theorem dX11_init_545 : decode cX11_init 545 = .ok (.iastore, 1) := by decide +kernel
theorem dX11_init_546 : decode cX11_init 546 = .ok (.dup, 1) := by decide +kernel
theorem dX11_init_547 : decode cX11_init 547 = .ok (.bipush 6, 2) := by decide +kernel
theorem dX11_init_549 : decode cX11_init 549 = .ok (.iconst 1, 1) := by decide +kernel
theorem dX11_init_550 : decode cX11_init 550 = .ok (.iastore, 1) := by decide +kernel
theorem dX11_init_551 : decode cX11_init 551 = .ok (.dup, 1) := by decide +kernel
theorem dX11_init_552 : decode cX11_init 552 = .ok (.bipush 7, 2) := by decide +kernel
theorem dX11_init_554 : decode cX11_init 554 = .ok (.iconst 0, 1) := by decide +kernel
theorem dX11_init_555 : decode cX11_init 555 = .ok (.iastore, 1) := by decide +kernel
theorem dX11_init_556 : decode cX11_init 556 = .ok (.dup, 1) := by decide +kernel
theorem dX11_init_557 : decode cX11_init 557 = .ok (.bipush 8, 2) := by decide +kernel
theorem dX11_init_559 : decode cX11_init 559 = .ok (.iconst 1, 1) := by decide +kernel
theorem dX11_init_560 : decode cX11_init 560 = .ok (.iastore, 1) := by decide +kernel
theorem dX11_init_561 : decode cX11_init 561 = .ok (.dup, 1) := by decide +kernel
theorem dX11_init_562 : decode cX11_init 562 = .ok (.bipush 9, 2) := by decide +kernel
theorem dX11_init_564 : decode cX11_init 564 = .ok (.iconst 1, 1) := by decide +kernel
theorem dX11_init_565 : decode cX11_init 565 = .ok (.iastore, 1) := by decide +kernel
theorem dX11_init_566 : decode cX11_init 566 = .ok (.dup, 1) := by decide +kernel
theorem dX11_init_567 : decode cX11_init 567 = .ok (.bipush 10, 2) := by decide +kernel
theorem dX11_init_569 : decode cX11_init 569 = .ok (.iconst 1, 1) := by decide +kernel
theorem dX11_init_570 : decode cX11_init 570 = .ok (.iastore, 1) := by decide +kernel
theorem dX11_init_571 : decode cX11_init 571 = .ok (.putfield 22, 3) := by decide +kernel
theorem dX11_init_574 : decode cX11_init 574 = .ok (.aload_n 0, 1) := by decide +kernel
theorem dX11_init_575 : decode cX11_init 575 = .ok (.bipush 48, 2) := by decide +kernel
theorem dX11_init_577 : decode cX11_init 577 = .ok (.newarray .int, 2) := by decide +kernel
theorem dX11_init_579 : decode cX11_init 579 = .ok (.putfield 25, 3) := by decide +kernel
theorem dX11_init_582 : decode cX11_init 582 = .ok (.aload_n 0, 1) := by decide +kernel
theorem dX11_init_583 : decode cX11_init 583 = .ok (.bipush 40, 2) := by decide +kernel
theorem dX11_init_585 : decode cX11_init 585 = .ok (.newarray .int, 2) := by decide +kernel
theorem dX11_init_587 : decode cX11_init 587 = .ok (.putfield 28, 3) := by decide +kernel
theorem dX11_init_590 : decode cX11_init 590 = .ok (.aload_n 0, 1) := by decide +kernel
theorem dX11_init_591 : decode cX11_init 591 = .ok (.bipush 11, 2) := by decide +kernel
theorem dX11_init_593 : decode cX11_init 593 = .ok (.newarray .int, 2) := by decide +kernel
theorem dX11_init_595 : decode cX11_init 595 = .ok (.putfield 31, 3) := by decide +kernel
theorem dX11_init_598 : decode cX11_init 598 = .ok (.aload_n 0, 1) := by decide +kernel
theorem dX11_init_599 : decode cX11_init 599 = .ok (.bipush 48, 2) := by decide +kernel
theorem dX11_init_601 : decode cX11_init 601 = .ok (.newarray .int, 2) := by decide +kernel
theorem dX11_init_603 : decode cX11_init 603 = .ok (.putfield 34, 3) := by decide +kernel
theorem dX11_init_606 : decode cX11_init 606 = .ok (.aload_n 0, 1) := by decide +kernel
theorem dX11_init_607 : decode cX11_init 607 = .ok (.bipush 40, 2) := by decide +kernel
theorem dX11_init_609 : decode cX11_init 609 = .ok (.newarray .int, 2) := by decide +kernel
theorem dX11_init_611 : decode cX11_init 611 = .ok (.putfield 37, 3) := by decide +kernel
theorem dX11_init_614 : decode cX11_init 614 = .ok (.aload_n 0, 1) := by decide +kernel
theorem dX11_init_615 : decode cX11_init 615 = .ok (.sipush 1980, 3) := by decide +kernel
theorem dX11_init_618 : decode cX11_init 618 = .ok (.newarray .int, 2) := by decide +kernel
theorem dX11_init_620 : decode cX11_init 620 = .ok (.putfield 40, 3) := by decide +kernel
theorem dX11_init_623 : decode cX11_init 623 = .ok (.aload_n 0, 1) := by decide +kernel
theorem dX11_init_624 : decode cX11_init 624 = .ok (.bipush 80, 2) := by decide +kernel
theorem dX11_init_626 : decode cX11_init 626 = .ok (.newarray .int, 2) := by decide +kernel
theorem dX11_init_628 : decode cX11_init 628 = .ok (.putfield 43, 3) := by decide +kernel
theorem dX11_init_631 : decode cX11_init 631 = .ok (.aload_n 0, 1) := by decide +kernel
theorem dX11_init_632 : decode cX11_init 632 = .ok (.iconst 2, 1) := by decide +kernel
theorem dX11_init_633 : decode cX11_init 633 = .ok (.newarray .boolean, 2) := by decide +kernel
theorem dX11_init_635 : decode cX11_init 635 = .ok (.putfield 46, 3) := by decide +kernel
theorem dX11_init_638 : decode cX11_init 638 = .ok (.aload_n 0, 1) := by decide +kernel
theorem dX11_init_639 : decode cX11_init 639 = .ok (.iconst 4, 1) := by decide +kernel
theorem dX11_init_640 : decode cX11_init 640 = .ok (.newarray .int, 2) := by decide +kernel
theorem dX11_init_642 : decode cX11_init 642 = .ok (.dup, 1) := by decide +kernel
theorem dX11_init_643 : decode cX11_init 643 = .ok (.iconst 0, 1) := by decide +kernel
theorem dX11_init_644 : decode cX11_init 644 = .ok (.bipush (-4), 2) := by decide +kernel
theorem dX11_init_646 : decode cX11_init 646 = .ok (.iastore, 1) := by decide +kernel
theorem dX11_init_647 : decode cX11_init 647 = .ok (.dup, 1) := by decide +kernel
theorem dX11_init_648 : decode cX11_init 648 = .ok (.iconst 1, 1) := by decide +kernel
theorem dX11_init_649 : decode cX11_init 649 = .ok (.bipush (-4), 2) := by decide +kernel
theorem dX11_init_651 : decode cX11_init 651 = .ok (.iastore, 1) := by decide +kernel
theorem dX11_init_652 : decode cX11_init 652 = .ok (.dup, 1) := by decide +kernel
theorem dX11_init_653 : decode cX11_init 653 = .ok (.iconst 2, 1) := by decide +kernel
theorem dX11_init_654 : decode cX11_init 654 = .ok (.bipush (-4), 2) := by decide +kernel
theorem dX11_init_656 : decode cX11_init 656 = .ok (.iastore, 1) := by decide +kernel
theorem dX11_init_657 : decode cX11_init 657 = .ok (.dup, 1) := by decide +kernel
theorem dX11_init_658 : decode cX11_init 658 = .ok (.iconst 3, 1) := by decide +kernel
theorem dX11_init_659 : decode cX11_init 659 = .ok (.bipush (-4), 2) := by decide +kernel
theorem dX11_init_661 : decode cX11_init 661 = .ok (.iastore, 1) := by decide +kernel
theorem dX11_init_662 : decode cX11_init 662 = .ok (.putfield 50, 3) := by decide +kernel
theorem dX11_init_665 : decode cX11_init 665 = .ok (.aload_n 0, 1) := by decide +kernel
theorem dX11_init_666 : decode cX11_init 666 = .ok (.iconst 4, 1) := by decide +kernel
theorem dX11_init_667 : decode cX11_init 667 = .ok (.newarray .int, 2) := by decide +kernel
theorem dX11_init_669 : decode cX11_init 669 = .ok (.putfield 53, 3) := by decide +kernel
theorem dX11_init_672 : decode cX11_init 672 = .ok (.aload_n 0, 1) := by decide +kernel
theorem dX11_init_673 : decode cX11_init 673 = .ok (.sipush 240, 3) := by decide +kernel
theorem dX11_init_676 : decode cX11_init 676 = .ok (.newarray .int, 2) := by decide +kernel
theorem dX11_init_678 : decode cX11_init 678 = .ok (.putfield 56, 3) := by decide +kernel
theorem dX11_init_681 : decode cX11_init 681 = .ok (.return_, 1) := by decide +kernel
theorem dX11_in_0 : decode cX11_in 0 = .ok (.lload_n 0, 1) := by decide +kernel
theorem dX11_in_1 : decode cX11_in 1 = .ok (.lload_n 2, 1) := by decide +kernel
theorem dX11_in_2 : decode cX11_in 2 = .ok (.lcmp, 1) := by decide +kernel
theorem dX11_in_3 : decode cX11_in 3 = .ok (.ifCond .lt 14, 3) := by decide +kernel
theorem dX11_in_6 : decode cX11_in 6 = .ok (.lload_n 0, 1) := by decide +kernel
theorem dX11_in_7 : decode cX11_in 7 = .ok (.lload 4, 2) := by decide +kernel
theorem dX11_in_9 : decode cX11_in 9 = .ok (.lcmp, 1) := by decide +kernel
theorem dX11_in_10 : decode cX11_in 10 = .ok (.ifCond .gt 7, 3) := by decide +kernel
theorem dX11_in_13 : decode cX11_in 13 = .ok (.iconst 1, 1) := by decide +kernel
theorem dX11_in_14 : decode cX11_in 14 = .ok (.goto 4, 3) := by decide +kernel
theorem dX11_in_17 : decode cX11_in 17 = .ok (.iconst 0, 1) := by decide +kernel
theorem dX11_in_18 : decode cX11_in 18 = .ok (.ireturn, 1) := by decide +kernel
theorem dX11_feed_0 : decode cX11_feed 0 = .ok (.aload_n 0, 1) := by decide +kernel
theorem dX11_feed_1 : decode cX11_feed 1 = .ok (.getfield 59, 3) := by decide +kernel
theorem dX11_feed_4 : decode cX11_feed 4 = .ok (.bipush 8, 2) := by decide +kernel
theorem dX11_feed_6 : decode cX11_feed 6 = .ok (.iadd, 1) := by decide +kernel
theorem dX11_feed_7 : decode cX11_feed 7 = .ok (.sipush 320, 3) := by decide +kernel
theorem dX11_feed_10 : decode cX11_feed 10 = .ok (.if_icmp .le 6, 3) := by decide +kernel
theorem dX11_feed_13 : decode cX11_feed 13 = .ok (.bipush (-3), 2) := by decide +kernel
theorem dX11_feed_15 : decode cX11_feed 15 = .ok (.ireturn, 1) := by decide +kernel
theorem dX11_feed_16 : decode cX11_feed 16 = .ok (.bipush 56, 2) := by decide +kernel
theorem dX11_feed_18 : decode cX11_feed 18 = .ok (.istore_n 3, 1) := by decide +kernel
theorem dX11_feed_19 : decode cX11_feed 19 = .ok (.iload_n 3, 1) := by decide +kernel
theorem dX11_feed_20 : decode cX11_feed 20 = .ok (.ifCond .lt 36, 3) := by decide +kernel
theorem dX11_feed_23 : decode cX11_feed 23 = .ok (.aload_n 0, 1) := by decide +kernel
theorem dX11_feed_24 : decode cX11_feed 24 = .ok (.getfield 7, 3) := by decide +kernel
theorem dX11_feed_27 : decode cX11_feed 27 = .ok (.aload_n 0, 1) := by decide +kernel
theorem dX11_feed_28 : decode cX11_feed 28 = .ok (.getfield 59, 3) := by decide +kernel
theorem dX11_feed_31 : decode cX11_feed 31 = .ok (.lload_n 1, 1) := by decide +kernel
theorem dX11_feed_32 : decode cX11_feed 32 = .ok (.iload_n 3, 1) := by decide +kernel
theorem dX11_feed_33 : decode cX11_feed 33 = .ok (.lshr, 1) := by decide +kernel
theorem dX11_feed_34 : decode cX11_feed 34 = .ok (.l2i, 1) := by decide +kernel
theorem dX11_feed_35 : decode cX11_feed 35 = .ok (.sipush 255, 3) := by decide +kernel
theorem dX11_feed_38 : decode cX11_feed 38 = .ok (.iand, 1) := by decide +kernel
theorem dX11_feed_39 : decode cX11_feed 39 = .ok (.iastore, 1) := by decide +kernel
theorem dX11_feed_40 : decode cX11_feed 40 = .ok (.aload_n 0, 1) := by decide +kernel
theorem dX11_feed_41 : decode cX11_feed 41 = .ok (.dup, 1) := by decide +kernel
theorem dX11_feed_42 : decode cX11_feed 42 = .ok (.getfield 59, 3) := by decide +kernel
theorem dX11_feed_45 : decode cX11_feed 45 = .ok (.iconst 1, 1) := by decide +kernel
theorem dX11_feed_46 : decode cX11_feed 46 = .ok (.iadd, 1) := by decide +kernel
theorem dX11_feed_47 : decode cX11_feed 47 = .ok (.putfield 59, 3) := by decide +kernel
theorem dX11_feed_50 : decode cX11_feed 50 = .ok (.iinc 3 (-8), 3) := by decide +kernel
theorem dX11_feed_53 : decode cX11_feed 53 = .ok (.goto (-34), 3) := by decide +kernel
theorem dX11_feed_56 : decode cX11_feed 56 = .ok (.aload_n 0, 1) := by decide +kernel
theorem dX11_feed_57 : decode cX11_feed 57 = .ok (.getfield 59, 3) := by decide +kernel
theorem dX11_feed_60 : decode cX11_feed 60 = .ok (.ireturn, 1) := by decide +kernel
theorem dX11_end_0 : decode cX11_end 0 = .ok (.iload_n 1, 1) := by decide +kernel
theorem dX11_end_1 : decode cX11_end 1 = .ok (.i2l, 1) := by decide +kernel
theorem dX11_end_2 : decode cX11_end 2 = .ok (.lconst 0, 1) := by decide +kernel
theorem dX11_end_3 : decode cX11_end 3 = .ok (.aload_n 0, 1) := by decide +kernel
theorem dX11_end_4 : decode cX11_end 4 = .ok (.getfield 59, 3) := by decide +kernel
theorem dX11_end_7 : decode cX11_end 7 = .ok (.i2l, 1) := by decide +kernel
theorem dX11_end_8 : decode cX11_end 8 = .ok (.invokestatic 63, 3) := by decide +kernel
theorem dX11_end_11 : decode cX11_end 11 = .ok (.ifCond .ne 5, 3) := by decide +kernel
theorem dX11_end_14 : decode cX11_end 14 = .ok (.iconst (-1), 1) := by decide +kernel
theorem dX11_end_15 : decode cX11_end 15 = .ok (.ireturn, 1) := by decide +kernel
theorem dX11_end_16 : decode cX11_end 16 = .ok (.aload_n 0, 1) := by decide +kernel
theorem dX11_end_17 : decode cX11_end 17 = .ok (.getfield 59, 3) := by decide +kernel
theorem dX11_end_20 : decode cX11_end 20 = .ok (.istore_n 2, 1) := by decide +kernel
theorem dX11_end_21 : decode cX11_end 21 = .ok (.aload_n 0, 1) := by decide +kernel
theorem dX11_end_22 : decode cX11_end 22 = .ok (.iload_n 1, 1) := by decide +kernel
theorem dX11_end_23 : decode cX11_end 23 = .ok (.putfield 59, 3) := by decide +kernel
theorem dX11_end_26 : decode cX11_end 26 = .ok (.iload_n 2, 1) := by decide +kernel
theorem dX11_end_27 : decode cX11_end 27 = .ok (.ireturn, 1) := by decide +kernel
theorem dX11_byteAt_0 : decode cX11_byteAt 0 = .ok (.iload_n 1, 1) := by decide +kernel
theorem dX11_byteAt_1 : decode cX11_byteAt 1 = .ok (.aload_n 0, 1) := by decide +kernel
theorem dX11_byteAt_2 : decode cX11_byteAt 2 = .ok (.getfield 59, 3) := by decide +kernel
theorem dX11_byteAt_5 : decode cX11_byteAt 5 = .ok (.if_icmp .ge 12, 3) := by decide +kernel
theorem dX11_byteAt_8 : decode cX11_byteAt 8 = .ok (.aload_n 0, 1) := by decide +kernel
theorem dX11_byteAt_9 : decode cX11_byteAt 9 = .ok (.getfield 7, 3) := by decide +kernel
theorem dX11_byteAt_12 : decode cX11_byteAt 12 = .ok (.iload_n 1, 1) := by decide +kernel
theorem dX11_byteAt_13 : decode cX11_byteAt 13 = .ok (.iaload, 1) := by decide +kernel
theorem dX11_byteAt_14 : decode cX11_byteAt 14 = .ok (.goto 5, 3) := by decide +kernel
theorem dX11_byteAt_17 : decode cX11_byteAt 17 = .ok (.bipush (-4), 2) := by decide +kernel
theorem dX11_byteAt_19 : decode cX11_byteAt 19 = .ok (.ireturn, 1) := by decide +kernel
theorem dX11_fails_0 : decode cX11_fails 0 = .ok (.aload_n 0, 1) := by decide +kernel
theorem dX11_fails_1 : decode cX11_fails 1 = .ok (.getfield 67, 3) := by decide +kernel
theorem dX11_fails_4 : decode cX11_fails 4 = .ok (.ifCond .ne 16, 3) := by decide +kernel
theorem dX11_fails_7 : decode cX11_fails 7 = .ok (.aload_n 0, 1) := by decide +kernel
theorem dX11_fails_8 : decode cX11_fails 8 = .ok (.iload_n 1, 1) := by decide +kernel
theorem dX11_fails_9 : decode cX11_fails 9 = .ok (.putfield 67, 3) := by decide +kernel
theorem dX11_fails_12 : decode cX11_fails 12 = .ok (.aload_n 0, 1) := by decide +kernel
theorem dX11_fails_13 : decode cX11_fails 13 = .ok (.aload_n 0, 1) := by decide +kernel
theorem dX11_fails_14 : decode cX11_fails 14 = .ok (.getfield 70, 3) := by decide +kernel
theorem dX11_fails_17 : decode cX11_fails 17 = .ok (.putfield 73, 3) := by decide +kernel
theorem dX11_fails_20 : decode cX11_fails 20 = .ok (.return_, 1) := by decide +kernel
theorem dX11_nameHere_0 : decode cX11_nameHere 0 = .ok (.iconst 0, 1) := by decide +kernel
theorem dX11_nameHere_1 : decode cX11_nameHere 1 = .ok (.istore_n 1, 1) := by decide +kernel
theorem dX11_nameHere_2 : decode cX11_nameHere 2 = .ok (.iload_n 1, 1) := by decide +kernel
theorem dX11_nameHere_3 : decode cX11_nameHere 3 = .ok (.bipush 12, 2) := by decide +kernel
theorem dX11_nameHere_5 : decode cX11_nameHere 5 = .ok (.if_icmp .ge 113, 3) := by decide +kernel
theorem dX11_nameHere_8 : decode cX11_nameHere 8 = .ok (.aload_n 0, 1) := by decide +kernel
theorem dX11_nameHere_9 : decode cX11_nameHere 9 = .ok (.getfield 76, 3) := by decide +kernel
theorem dX11_nameHere_12 : decode cX11_nameHere 12 = .ok (.iconst 1, 1) := by decide +kernel
theorem dX11_nameHere_13 : decode cX11_nameHere 13 = .ok (.if_icmp .ne 105, 3) := by decide +kernel
theorem dX11_nameHere_16 : decode cX11_nameHere 16 = .ok (.aload_n 0, 1) := by decide +kernel
theorem dX11_nameHere_17 : decode cX11_nameHere 17 = .ok (.getfield 79, 3) := by decide +kernel
theorem dX11_nameHere_20 : decode cX11_nameHere 20 = .ok (.aload_n 0, 1) := by decide +kernel
theorem dX11_nameHere_21 : decode cX11_nameHere 21 = .ok (.getfield 70, 3) := by decide +kernel
theorem dX11_nameHere_24 : decode cX11_nameHere 24 = .ok (.isub, 1) := by decide +kernel
theorem dX11_nameHere_25 : decode cX11_nameHere 25 = .ok (.aload_n 0, 1) := by decide +kernel
theorem dX11_nameHere_26 : decode cX11_nameHere 26 = .ok (.getfield 13, 3) := by decide +kernel
theorem dX11_nameHere_29 : decode cX11_nameHere 29 = .ok (.iload_n 1, 1) := by decide +kernel
theorem dX11_nameHere_30 : decode cX11_nameHere 30 = .ok (.iconst 1, 1) := by decide +kernel
theorem dX11_nameHere_31 : decode cX11_nameHere 31 = .ok (.iadd, 1) := by decide +kernel
theorem dX11_nameHere_32 : decode cX11_nameHere 32 = .ok (.iaload, 1) := by decide +kernel
theorem dX11_nameHere_33 : decode cX11_nameHere 33 = .ok (.aload_n 0, 1) := by decide +kernel
theorem dX11_nameHere_34 : decode cX11_nameHere 34 = .ok (.getfield 13, 3) := by decide +kernel
theorem dX11_nameHere_37 : decode cX11_nameHere 37 = .ok (.iload_n 1, 1) := by decide +kernel
theorem dX11_nameHere_38 : decode cX11_nameHere 38 = .ok (.iaload, 1) := by decide +kernel
theorem dX11_nameHere_39 : decode cX11_nameHere 39 = .ok (.isub, 1) := by decide +kernel
theorem dX11_nameHere_40 : decode cX11_nameHere 40 = .ok (.if_icmp .ne 7, 3) := by decide +kernel
theorem dX11_nameHere_43 : decode cX11_nameHere 43 = .ok (.iconst 1, 1) := by decide +kernel
theorem dX11_nameHere_44 : decode cX11_nameHere 44 = .ok (.goto 4, 3) := by decide +kernel
theorem dX11_nameHere_47 : decode cX11_nameHere 47 = .ok (.iconst 0, 1) := by decide +kernel
theorem dX11_nameHere_48 : decode cX11_nameHere 48 = .ok (.istore_n 2, 1) := by decide +kernel
theorem dX11_nameHere_49 : decode cX11_nameHere 49 = .ok (.iconst 0, 1) := by decide +kernel
theorem dX11_nameHere_50 : decode cX11_nameHere 50 = .ok (.istore_n 3, 1) := by decide +kernel
theorem dX11_nameHere_51 : decode cX11_nameHere 51 = .ok (.iload_n 2, 1) := by decide +kernel
theorem dX11_nameHere_52 : decode cX11_nameHere 52 = .ok (.ifCond .eq 54, 3) := by decide +kernel
theorem dX11_nameHere_55 : decode cX11_nameHere 55 = .ok (.iload_n 3, 1) := by decide +kernel
theorem dX11_nameHere_56 : decode cX11_nameHere 56 = .ok (.aload_n 0, 1) := by decide +kernel
theorem dX11_nameHere_57 : decode cX11_nameHere 57 = .ok (.getfield 79, 3) := by decide +kernel
theorem dX11_nameHere_60 : decode cX11_nameHere 60 = .ok (.aload_n 0, 1) := by decide +kernel
theorem dX11_nameHere_61 : decode cX11_nameHere 61 = .ok (.getfield 70, 3) := by decide +kernel
theorem dX11_nameHere_64 : decode cX11_nameHere 64 = .ok (.isub, 1) := by decide +kernel
theorem dX11_nameHere_65 : decode cX11_nameHere 65 = .ok (.if_icmp .ge 41, 3) := by decide +kernel
theorem dX11_nameHere_68 : decode cX11_nameHere 68 = .ok (.aload_n 0, 1) := by decide +kernel
theorem dX11_nameHere_69 : decode cX11_nameHere 69 = .ok (.aload_n 0, 1) := by decide +kernel
theorem dX11_nameHere_70 : decode cX11_nameHere 70 = .ok (.getfield 70, 3) := by decide +kernel
theorem dX11_nameHere_73 : decode cX11_nameHere 73 = .ok (.iload_n 3, 1) := by decide +kernel
theorem dX11_nameHere_74 : decode cX11_nameHere 74 = .ok (.iadd, 1) := by decide +kernel
theorem dX11_nameHere_75 : decode cX11_nameHere 75 = .ok (.invokevirtual 82, 3) := by decide +kernel
theorem dX11_nameHere_78 : decode cX11_nameHere 78 = .ok (.aload_n 0, 1) := by decide +kernel
theorem dX11_nameHere_79 : decode cX11_nameHere 79 = .ok (.getfield 16, 3) := by decide +kernel
theorem dX11_nameHere_82 : decode cX11_nameHere 82 = .ok (.aload_n 0, 1) := by decide +kernel
theorem dX11_nameHere_83 : decode cX11_nameHere 83 = .ok (.getfield 13, 3) := by decide +kernel
theorem dX11_nameHere_86 : decode cX11_nameHere 86 = .ok (.iload_n 1, 1) := by decide +kernel
theorem dX11_nameHere_87 : decode cX11_nameHere 87 = .ok (.iaload, 1) := by decide +kernel
theorem dX11_nameHere_88 : decode cX11_nameHere 88 = .ok (.iload_n 3, 1) := by decide +kernel
theorem dX11_nameHere_89 : decode cX11_nameHere 89 = .ok (.iadd, 1) := by decide +kernel
theorem dX11_nameHere_90 : decode cX11_nameHere 90 = .ok (.iaload, 1) := by decide +kernel
theorem dX11_nameHere_91 : decode cX11_nameHere 91 = .ok (.if_icmp .ne 7, 3) := by decide +kernel
theorem dX11_nameHere_94 : decode cX11_nameHere 94 = .ok (.iconst 1, 1) := by decide +kernel
theorem dX11_nameHere_95 : decode cX11_nameHere 95 = .ok (.goto 4, 3) := by decide +kernel
theorem dX11_nameHere_98 : decode cX11_nameHere 98 = .ok (.iconst 0, 1) := by decide +kernel
theorem dX11_nameHere_99 : decode cX11_nameHere 99 = .ok (.istore_n 2, 1) := by decide +kernel
theorem dX11_nameHere_100 : decode cX11_nameHere 100 = .ok (.iinc 3 1, 3) := by decide +kernel
theorem dX11_nameHere_103 : decode cX11_nameHere 103 = .ok (.goto (-52), 3) := by decide +kernel
theorem dX11_nameHere_106 : decode cX11_nameHere 106 = .ok (.iload_n 2, 1) := by decide +kernel
theorem dX11_nameHere_107 : decode cX11_nameHere 107 = .ok (.ifCond .eq 5, 3) := by decide +kernel
theorem dX11_nameHere_110 : decode cX11_nameHere 110 = .ok (.iload_n 1, 1) := by decide +kernel
theorem dX11_nameHere_111 : decode cX11_nameHere 111 = .ok (.ireturn, 1) := by decide +kernel
theorem dX11_nameHere_112 : decode cX11_nameHere 112 = .ok (.iinc 1 1, 3) := by decide +kernel
theorem dX11_nameHere_115 : decode cX11_nameHere 115 = .ok (.goto (-113), 3) := by decide +kernel
theorem dX11_nameHere_118 : decode cX11_nameHere 118 = .ok (.bipush (-4), 2) := by decide +kernel
theorem dX11_nameHere_120 : decode cX11_nameHere 120 = .ok (.ireturn, 1) := by decide +kernel
theorem dX11_next2_0 : decode cX11_next2 0 = .ok (.aload_n 0, 1) := by decide +kernel
theorem dX11_next2_1 : decode cX11_next2 1 = .ok (.getfield 67, 3) := by decide +kernel
theorem dX11_next2_4 : decode cX11_next2 4 = .ok (.ifCond .le 4, 3) := by decide +kernel
theorem dX11_next2_7 : decode cX11_next2 7 = .ok (.return_, 1) := by decide +kernel
theorem dX11_next2_8 : decode cX11_next2 8 = .ok (.aload_n 0, 1) := by decide +kernel
theorem dX11_next2_9 : decode cX11_next2 9 = .ok (.aload_n 0, 1) := by decide +kernel
theorem dX11_next2_10 : decode cX11_next2 10 = .ok (.getfield 79, 3) := by decide +kernel
theorem dX11_next2_13 : decode cX11_next2 13 = .ok (.invokevirtual 82, 3) := by decide +kernel
theorem dX11_next2_16 : decode cX11_next2 16 = .ok (.bipush 32, 2) := by decide +kernel
theorem dX11_next2_18 : decode cX11_next2 18 = .ok (.if_icmp .ne 16, 3) := by decide +kernel
theorem dX11_next2_21 : decode cX11_next2 21 = .ok (.aload_n 0, 1) := by decide +kernel
theorem dX11_next2_22 : decode cX11_next2 22 = .ok (.dup, 1) := by decide +kernel
theorem dX11_next2_23 : decode cX11_next2 23 = .ok (.getfield 79, 3) := by decide +kernel
theorem dX11_next2_26 : decode cX11_next2 26 = .ok (.iconst 1, 1) := by decide +kernel
theorem dX11_next2_27 : decode cX11_next2 27 = .ok (.iadd, 1) := by decide +kernel
theorem dX11_next2_28 : decode cX11_next2 28 = .ok (.putfield 79, 3) := by decide +kernel
theorem dX11_next2_31 : decode cX11_next2 31 = .ok (.goto (-23), 3) := by decide +kernel
theorem dX11_next2_34 : decode cX11_next2 34 = .ok (.aload_n 0, 1) := by decide +kernel
theorem dX11_next2_35 : decode cX11_next2 35 = .ok (.aload_n 0, 1) := by decide +kernel
theorem dX11_next2_36 : decode cX11_next2 36 = .ok (.getfield 79, 3) := by decide +kernel
theorem dX11_next2_39 : decode cX11_next2 39 = .ok (.putfield 70, 3) := by decide +kernel
theorem dX11_next2_42 : decode cX11_next2 42 = .ok (.aload_n 0, 1) := by decide +kernel
theorem dX11_next2_43 : decode cX11_next2 43 = .ok (.aload_n 0, 1) := by decide +kernel
theorem dX11_next2_44 : decode cX11_next2 44 = .ok (.getfield 79, 3) := by decide +kernel
theorem dX11_next2_47 : decode cX11_next2 47 = .ok (.invokevirtual 82, 3) := by decide +kernel
theorem dX11_next2_50 : decode cX11_next2 50 = .ok (.istore_n 1, 1) := by decide +kernel
theorem dX11_next2_51 : decode cX11_next2 51 = .ok (.aload_n 0, 1) := by decide +kernel
theorem dX11_next2_52 : decode cX11_next2 52 = .ok (.iconst 0, 1) := by decide +kernel
theorem dX11_next2_53 : decode cX11_next2 53 = .ok (.putfield 86, 3) := by decide +kernel
theorem dX11_next2_56 : decode cX11_next2 56 = .ok (.iload_n 1, 1) := by decide +kernel
theorem dX11_next2_57 : decode cX11_next2 57 = .ok (.bipush (-4), 2) := by decide +kernel
theorem dX11_next2_59 : decode cX11_next2 59 = .ok (.if_icmp .ne 11, 3) := by decide +kernel
theorem dX11_next2_62 : decode cX11_next2 62 = .ok (.aload_n 0, 1) := by decide +kernel
theorem dX11_next2_63 : decode cX11_next2 63 = .ok (.iconst 0, 1) := by decide +kernel
theorem dX11_next2_64 : decode cX11_next2 64 = .ok (.putfield 76, 3) := by decide +kernel
theorem dX11_next2_67 : decode cX11_next2 67 = .ok (.goto 202, 3) := by decide +kernel
theorem dX11_next2_70 : decode cX11_next2 70 = .ok (.iload_n 1, 1) := by decide +kernel
theorem dX11_next2_71 : decode cX11_next2 71 = .ok (.i2l, 1) := by decide +kernel
theorem dX11_next2_72 : decode cX11_next2 72 = .ok (.ldc2_w 89, 3) := by decide +kernel
theorem dX11_next2_75 : decode cX11_next2 75 = .ok (.ldc2_w 91, 3) := by decide +kernel
theorem dX11_next2_78 : decode cX11_next2 78 = .ok (.invokestatic 63, 3) := by decide +kernel
theorem dX11_next2_81 : decode cX11_next2 81 = .ok (.ifCond .eq 45, 3) := by decide +kernel
theorem dX11_next2_84 : decode cX11_next2 84 = .ok (.aload_n 0, 1) := by decide +kernel
theorem dX11_next2_85 : decode cX11_next2 85 = .ok (.aload_n 0, 1) := by decide +kernel
theorem dX11_next2_86 : decode cX11_next2 86 = .ok (.getfield 79, 3) := by decide +kernel
theorem dX11_next2_89 : decode cX11_next2 89 = .ok (.invokevirtual 82, 3) := by decide +kernel
theorem dX11_next2_92 : decode cX11_next2 92 = .ok (.i2l, 1) := by decide +kernel
theorem dX11_next2_93 : decode cX11_next2 93 = .ok (.ldc2_w 89, 3) := by decide +kernel
theorem dX11_next2_96 : decode cX11_next2 96 = .ok (.ldc2_w 91, 3) := by decide +kernel
theorem dX11_next2_99 : decode cX11_next2 99 = .ok (.invokestatic 63, 3) := by decide +kernel
theorem dX11_next2_102 : decode cX11_next2 102 = .ok (.ifCond .eq 16, 3) := by decide +kernel
theorem dX11_next2_105 : decode cX11_next2 105 = .ok (.aload_n 0, 1) := by decide +kernel
theorem dX11_next2_106 : decode cX11_next2 106 = .ok (.dup, 1) := by decide +kernel
theorem dX11_next2_107 : decode cX11_next2 107 = .ok (.getfield 79, 3) := by decide +kernel
theorem dX11_next2_110 : decode cX11_next2 110 = .ok (.iconst 1, 1) := by decide +kernel
theorem dX11_next2_111 : decode cX11_next2 111 = .ok (.iadd, 1) := by decide +kernel
theorem dX11_next2_112 : decode cX11_next2 112 = .ok (.putfield 79, 3) := by decide +kernel
theorem dX11_next2_115 : decode cX11_next2 115 = .ok (.goto (-31), 3) := by decide +kernel
theorem dX11_next2_118 : decode cX11_next2 118 = .ok (.aload_n 0, 1) := by decide +kernel
theorem dX11_next2_119 : decode cX11_next2 119 = .ok (.iconst 1, 1) := by decide +kernel
theorem dX11_next2_120 : decode cX11_next2 120 = .ok (.putfield 76, 3) := by decide +kernel
theorem dX11_next2_123 : decode cX11_next2 123 = .ok (.goto 146, 3) := by decide +kernel
theorem dX11_next2_126 : decode cX11_next2 126 = .ok (.iload_n 1, 1) := by decide +kernel
theorem dX11_next2_127 : decode cX11_next2 127 = .ok (.i2l, 1) := by decide +kernel
theorem dX11_next2_128 : decode cX11_next2 128 = .ok (.ldc2_w 93, 3) := by decide +kernel
theorem dX11_next2_131 : decode cX11_next2 131 = .ok (.ldc2_w 95, 3) := by decide +kernel
theorem dX11_next2_134 : decode cX11_next2 134 = .ok (.invokestatic 63, 3) := by decide +kernel
theorem dX11_next2_137 : decode cX11_next2 137 = .ok (.ifCond .eq 106, 3) := by decide +kernel
theorem dX11_next2_140 : decode cX11_next2 140 = .ok (.aload_n 0, 1) := by decide +kernel
theorem dX11_next2_141 : decode cX11_next2 141 = .ok (.aload_n 0, 1) := by decide +kernel
theorem dX11_next2_142 : decode cX11_next2 142 = .ok (.getfield 79, 3) := by decide +kernel
theorem dX11_next2_145 : decode cX11_next2 145 = .ok (.invokevirtual 82, 3) := by decide +kernel
theorem dX11_next2_148 : decode cX11_next2 148 = .ok (.i2l, 1) := by decide +kernel
theorem dX11_next2_149 : decode cX11_next2 149 = .ok (.ldc2_w 93, 3) := by decide +kernel
theorem dX11_next2_152 : decode cX11_next2 152 = .ok (.ldc2_w 95, 3) := by decide +kernel
theorem dX11_next2_155 : decode cX11_next2 155 = .ok (.invokestatic 63, 3) := by decide +kernel
theorem dX11_next2_158 : decode cX11_next2 158 = .ok (.ifCond .eq 59, 3) := by decide +kernel
theorem dX11_next2_161 : decode cX11_next2 161 = .ok (.aload_n 0, 1) := by decide +kernel
theorem dX11_next2_162 : decode cX11_next2 162 = .ok (.aload_n 0, 1) := by decide +kernel
theorem dX11_next2_163 : decode cX11_next2 163 = .ok (.getfield 79, 3) := by decide +kernel
theorem dX11_next2_166 : decode cX11_next2 166 = .ok (.aload_n 0, 1) := by decide +kernel
theorem dX11_next2_167 : decode cX11_next2 167 = .ok (.getfield 70, 3) := by decide +kernel
theorem dX11_next2_170 : decode cX11_next2 170 = .ok (.isub, 1) := by decide +kernel
theorem dX11_next2_171 : decode cX11_next2 171 = .ok (.iconst 3, 1) := by decide +kernel
theorem dX11_next2_172 : decode cX11_next2 172 = .ok (.if_icmp .ge 25, 3) := by decide +kernel
theorem dX11_next2_175 : decode cX11_next2 175 = .ok (.bipush 10, 2) := by decide +kernel
theorem dX11_next2_177 : decode cX11_next2 177 = .ok (.aload_n 0, 1) := by decide +kernel
theorem dX11_next2_178 : decode cX11_next2 178 = .ok (.getfield 86, 3) := by decide +kernel
theorem dX11_next2_181 : decode cX11_next2 181 = .ok (.imul, 1) := by decide +kernel
theorem dX11_next2_182 : decode cX11_next2 182 = .ok (.aload_n 0, 1) := by decide +kernel
theorem dX11_next2_183 : decode cX11_next2 183 = .ok (.aload_n 0, 1) := by decide +kernel
theorem dX11_next2_184 : decode cX11_next2 184 = .ok (.getfield 79, 3) := by decide +kernel
theorem dX11_next2_187 : decode cX11_next2 187 = .ok (.invokevirtual 82, 3) := by decide +kernel
theorem dX11_next2_190 : decode cX11_next2 190 = .ok (.iadd, 1) := by decide +kernel
theorem dX11_next2_191 : decode cX11_next2 191 = .ok (.bipush 48, 2) := by decide +kernel
theorem dX11_next2_193 : decode cX11_next2 193 = .ok (.isub, 1) := by decide +kernel
theorem dX11_next2_194 : decode cX11_next2 194 = .ok (.goto 7, 3) := by decide +kernel
theorem dX11_next2_197 : decode cX11_next2 197 = .ok (.aload_n 0, 1) := by decide +kernel
theorem dX11_next2_198 : decode cX11_next2 198 = .ok (.getfield 86, 3) := by decide +kernel
theorem dX11_next2_201 : decode cX11_next2 201 = .ok (.putfield 86, 3) := by decide +kernel
theorem dX11_next2_204 : decode cX11_next2 204 = .ok (.aload_n 0, 1) := by decide +kernel
theorem dX11_next2_205 : decode cX11_next2 205 = .ok (.dup, 1) := by decide +kernel
theorem dX11_next2_206 : decode cX11_next2 206 = .ok (.getfield 79, 3) := by decide +kernel
theorem dX11_next2_209 : decode cX11_next2 209 = .ok (.iconst 1, 1) := by decide +kernel
theorem dX11_next2_210 : decode cX11_next2 210 = .ok (.iadd, 1) := by decide +kernel
theorem dX11_next2_211 : decode cX11_next2 211 = .ok (.putfield 79, 3) := by decide +kernel
theorem dX11_next2_214 : decode cX11_next2 214 = .ok (.goto (-74), 3) := by decide +kernel
theorem dX11_next2_217 : decode cX11_next2 217 = .ok (.aload_n 0, 1) := by decide +kernel
theorem dX11_next2_218 : decode cX11_next2 218 = .ok (.iconst 2, 1) := by decide +kernel
theorem dX11_next2_219 : decode cX11_next2 219 = .ok (.putfield 76, 3) := by decide +kernel
theorem dX11_next2_222 : decode cX11_next2 222 = .ok (.aload_n 0, 1) := by decide +kernel
theorem dX11_next2_223 : decode cX11_next2 223 = .ok (.getfield 79, 3) := by decide +kernel
theorem dX11_next2_226 : decode cX11_next2 226 = .ok (.aload_n 0, 1) := by decide +kernel
theorem dX11_next2_227 : decode cX11_next2 227 = .ok (.getfield 70, 3) := by decide +kernel
theorem dX11_next2_230 : decode cX11_next2 230 = .ok (.isub, 1) := by decide +kernel
theorem dX11_next2_231 : decode cX11_next2 231 = .ok (.iconst 3, 1) := by decide +kernel
theorem dX11_next2_232 : decode cX11_next2 232 = .ok (.if_icmp .le 37, 3) := by decide +kernel
theorem dX11_next2_235 : decode cX11_next2 235 = .ok (.aload_n 0, 1) := by decide +kernel
theorem dX11_next2_236 : decode cX11_next2 236 = .ok (.iconst 1, 1) := by decide +kernel
theorem dX11_next2_237 : decode cX11_next2 237 = .ok (.invokevirtual 97, 3) := by decide +kernel
theorem dX11_next2_240 : decode cX11_next2 240 = .ok (.goto 29, 3) := by decide +kernel
theorem dX11_next2_243 : decode cX11_next2 243 = .ok (.aload_n 0, 1) := by decide +kernel
theorem dX11_next2_244 : decode cX11_next2 244 = .ok (.iconst 3, 1) := by decide +kernel
theorem dX11_next2_245 : decode cX11_next2 245 = .ok (.putfield 76, 3) := by decide +kernel
theorem dX11_next2_248 : decode cX11_next2 248 = .ok (.aload_n 0, 1) := by decide +kernel
theorem dX11_next2_249 : decode cX11_next2 249 = .ok (.dup, 1) := by decide +kernel
theorem dX11_next2_250 : decode cX11_next2 250 = .ok (.getfield 79, 3) := by decide +kernel
theorem dX11_next2_253 : decode cX11_next2 253 = .ok (.iconst 1, 1) := by decide +kernel
theorem dX11_next2_254 : decode cX11_next2 254 = .ok (.iadd, 1) := by decide +kernel
theorem dX11_next2_255 : decode cX11_next2 255 = .ok (.putfield 79, 3) := by decide +kernel
theorem dX11_next2_258 : decode cX11_next2 258 = .ok (.iload_n 1, 1) := by decide +kernel
theorem dX11_next2_259 : decode cX11_next2 259 = .ok (.bipush 59, 2) := by decide +kernel
theorem dX11_next2_261 : decode cX11_next2 261 = .ok (.if_icmp .eq 8, 3) := by decide +kernel
theorem dX11_next2_264 : decode cX11_next2 264 = .ok (.aload_n 0, 1) := by decide +kernel
theorem dX11_next2_265 : decode cX11_next2 265 = .ok (.iconst 1, 1) := by decide +kernel
theorem dX11_next2_266 : decode cX11_next2 266 = .ok (.invokevirtual 97, 3) := by decide +kernel
theorem dX11_next2_269 : decode cX11_next2 269 = .ok (.return_, 1) := by decide +kernel
theorem dX11_number_0 : decode cX11_number 0 = .ok (.aload_n 0, 1) := by decide +kernel
theorem dX11_number_1 : decode cX11_number 1 = .ok (.getfield 67, 3) := by decide +kernel
theorem dX11_number_4 : decode cX11_number 4 = .ok (.ifCond .ne 16, 3) := by decide +kernel
theorem dX11_number_7 : decode cX11_number 7 = .ok (.aload_n 0, 1) := by decide +kernel
theorem dX11_number_8 : decode cX11_number 8 = .ok (.getfield 76, 3) := by decide +kernel
theorem dX11_number_11 : decode cX11_number 11 = .ok (.iconst 2, 1) := by decide +kernel
theorem dX11_number_12 : decode cX11_number 12 = .ok (.if_icmp .eq 8, 3) := by decide +kernel
theorem dX11_number_15 : decode cX11_number 15 = .ok (.aload_n 0, 1) := by decide +kernel
theorem dX11_number_16 : decode cX11_number 16 = .ok (.iconst 2, 1) := by decide +kernel
theorem dX11_number_17 : decode cX11_number 17 = .ok (.invokevirtual 97, 3) := by decide +kernel
theorem dX11_number_20 : decode cX11_number 20 = .ok (.aload_n 0, 1) := by decide +kernel
theorem dX11_number_21 : decode cX11_number 21 = .ok (.getfield 67, 3) := by decide +kernel
theorem dX11_number_24 : decode cX11_number 24 = .ok (.ifCond .ne 23, 3) := by decide +kernel
theorem dX11_number_27 : decode cX11_number 27 = .ok (.aload_n 0, 1) := by decide +kernel
theorem dX11_number_28 : decode cX11_number 28 = .ok (.getfield 86, 3) := by decide +kernel
theorem dX11_number_31 : decode cX11_number 31 = .ok (.i2l, 1) := by decide +kernel
theorem dX11_number_32 : decode cX11_number 32 = .ok (.iload_n 1, 1) := by decide +kernel
theorem dX11_number_33 : decode cX11_number 33 = .ok (.i2l, 1) := by decide +kernel
theorem dX11_number_34 : decode cX11_number 34 = .ok (.iload_n 2, 1) := by decide +kernel
theorem dX11_number_35 : decode cX11_number 35 = .ok (.i2l, 1) := by decide +kernel
theorem dX11_number_36 : decode cX11_number 36 = .ok (.invokestatic 63, 3) := by decide +kernel
theorem dX11_number_39 : decode cX11_number 39 = .ok (.ifCond .ne 8, 3) := by decide +kernel
theorem dX11_number_42 : decode cX11_number 42 = .ok (.aload_n 0, 1) := by decide +kernel
theorem dX11_number_43 : decode cX11_number 43 = .ok (.iconst 3, 1) := by decide +kernel
theorem dX11_number_44 : decode cX11_number 44 = .ok (.invokevirtual 97, 3) := by decide +kernel
theorem dX11_number_47 : decode cX11_number 47 = .ok (.aload_n 0, 1) := by decide +kernel
theorem dX11_number_48 : decode cX11_number 48 = .ok (.getfield 67, 3) := by decide +kernel
theorem dX11_number_51 : decode cX11_number 51 = .ok (.ifCond .ne 10, 3) := by decide +kernel
theorem dX11_number_54 : decode cX11_number 54 = .ok (.aload_n 0, 1) := by decide +kernel
theorem dX11_number_55 : decode cX11_number 55 = .ok (.getfield 86, 3) := by decide +kernel
theorem dX11_number_58 : decode cX11_number 58 = .ok (.goto 4, 3) := by decide +kernel
theorem dX11_number_61 : decode cX11_number 61 = .ok (.iload_n 1, 1) := by decide +kernel
theorem dX11_number_62 : decode cX11_number 62 = .ok (.istore_n 3, 1) := by decide +kernel
theorem dX11_number_63 : decode cX11_number 63 = .ok (.aload_n 0, 1) := by decide +kernel
theorem dX11_number_64 : decode cX11_number 64 = .ok (.invokevirtual 101, 3) := by decide +kernel
theorem dX11_number_67 : decode cX11_number 67 = .ok (.iload_n 3, 1) := by decide +kernel
theorem dX11_number_68 : decode cX11_number 68 = .ok (.ireturn, 1) := by decide +kernel
theorem dX11_yearBehind_0 : decode cX11_yearBehind 0 = .ok (.aload_n 0, 1) := by decide +kernel
theorem dX11_yearBehind_1 : decode cX11_yearBehind 1 = .ok (.getfield 67, 3) := by decide +kernel
theorem dX11_yearBehind_4 : decode cX11_yearBehind 4 = .ok (.ifCond .gt 11, 3) := by decide +kernel
theorem dX11_yearBehind_7 : decode cX11_yearBehind 7 = .ok (.aload_n 0, 1) := by decide +kernel
theorem dX11_yearBehind_8 : decode cX11_yearBehind 8 = .ok (.invokevirtual 104, 3) := by decide +kernel
theorem dX11_yearBehind_11 : decode cX11_yearBehind 11 = .ok (.iload_n 1, 1) := by decide +kernel
theorem dX11_yearBehind_12 : decode cX11_yearBehind 12 = .ok (.if_icmp .eq 6, 3) := by decide +kernel
theorem dX11_yearBehind_15 : decode cX11_yearBehind 15 = .ok (.bipush (-4), 2) := by decide +kernel
theorem dX11_yearBehind_17 : decode cX11_yearBehind 17 = .ok (.ireturn, 1) := by decide +kernel
theorem dX11_yearBehind_18 : decode cX11_yearBehind 18 = .ok (.aload_n 0, 1) := by decide +kernel
theorem dX11_yearBehind_19 : decode cX11_yearBehind 19 = .ok (.invokevirtual 101, 3) := by decide +kernel
theorem dX11_yearBehind_22 : decode cX11_yearBehind 22 = .ok (.aload_n 0, 1) := by decide +kernel
theorem dX11_yearBehind_23 : decode cX11_yearBehind 23 = .ok (.iconst 0, 1) := by decide +kernel
theorem dX11_yearBehind_24 : decode cX11_yearBehind 24 = .ok (.bipush 89, 2) := by decide +kernel
theorem dX11_yearBehind_26 : decode cX11_yearBehind 26 = .ok (.invokevirtual 108, 3) := by decide +kernel
theorem dX11_yearBehind_29 : decode cX11_yearBehind 29 = .ok (.ireturn, 1) := by decide +kernel
theorem dX11_readParish_0 : decode cX11_readParish 0 = .ok (.aload_n 0, 1) := by decide +kernel
theorem dX11_readParish_1 : decode cX11_readParish 1 = .ok (.getfield 31, 3) := by decide +kernel
theorem dX11_readParish_4 : decode cX11_readParish 4 = .ok (.iconst 0, 1) := by decide +kernel
theorem dX11_readParish_5 : decode cX11_readParish 5 = .ok (.iaload, 1) := by decide +kernel
theorem dX11_readParish_6 : decode cX11_readParish 6 = .ok (.bipush 12, 2) := by decide +kernel
theorem dX11_readParish_8 : decode cX11_readParish 8 = .ok (.if_icmp .ne 9, 3) := by decide +kernel
theorem dX11_readParish_11 : decode cX11_readParish 11 = .ok (.aload_n 0, 1) := by decide +kernel
theorem dX11_readParish_12 : decode cX11_readParish 12 = .ok (.iconst 5, 1) := by decide +kernel
theorem dX11_readParish_13 : decode cX11_readParish 13 = .ok (.invokevirtual 97, 3) := by decide +kernel
theorem dX11_readParish_16 : decode cX11_readParish 16 = .ok (.return_, 1) := by decide +kernel
theorem dX11_readParish_17 : decode cX11_readParish 17 = .ok (.aload_n 0, 1) := by decide +kernel
theorem dX11_readParish_18 : decode cX11_readParish 18 = .ok (.invokevirtual 101, 3) := by decide +kernel
theorem dX11_readParish_21 : decode cX11_readParish 21 = .ok (.aload_n 0, 1) := by decide +kernel
theorem dX11_readParish_22 : decode cX11_readParish 22 = .ok (.iconst 1, 1) := by decide +kernel
theorem dX11_readParish_23 : decode cX11_readParish 23 = .ok (.sipush 999, 3) := by decide +kernel
theorem dX11_readParish_26 : decode cX11_readParish 26 = .ok (.invokevirtual 108, 3) := by decide +kernel
theorem dX11_readParish_29 : decode cX11_readParish 29 = .ok (.istore_n 1, 1) := by decide +kernel
theorem dX11_readParish_30 : decode cX11_readParish 30 = .ok (.iconst 0, 1) := by decide +kernel
theorem dX11_readParish_31 : decode cX11_readParish 31 = .ok (.istore_n 2, 1) := by decide +kernel
theorem dX11_readParish_32 : decode cX11_readParish 32 = .ok (.aload_n 0, 1) := by decide +kernel
theorem dX11_readParish_33 : decode cX11_readParish 33 = .ok (.getfield 67, 3) := by decide +kernel
theorem dX11_readParish_36 : decode cX11_readParish 36 = .ok (.ifCond .ne 18, 3) := by decide +kernel
theorem dX11_readParish_39 : decode cX11_readParish 39 = .ok (.aload_n 0, 1) := by decide +kernel
theorem dX11_readParish_40 : decode cX11_readParish 40 = .ok (.invokevirtual 104, 3) := by decide +kernel
theorem dX11_readParish_43 : decode cX11_readParish 43 = .ok (.bipush 7, 2) := by decide +kernel
theorem dX11_readParish_45 : decode cX11_readParish 45 = .ok (.if_icmp .ne 9, 3) := by decide +kernel
theorem dX11_readParish_48 : decode cX11_readParish 48 = .ok (.iconst 1, 1) := by decide +kernel
theorem dX11_readParish_49 : decode cX11_readParish 49 = .ok (.istore_n 2, 1) := by decide +kernel
theorem dX11_readParish_50 : decode cX11_readParish 50 = .ok (.aload_n 0, 1) := by decide +kernel
theorem dX11_readParish_51 : decode cX11_readParish 51 = .ok (.invokevirtual 101, 3) := by decide +kernel
theorem dX11_readParish_54 : decode cX11_readParish 54 = .ok (.aload_n 0, 1) := by decide +kernel
theorem dX11_readParish_55 : decode cX11_readParish 55 = .ok (.bipush 8, 2) := by decide +kernel
theorem dX11_readParish_57 : decode cX11_readParish 57 = .ok (.invokevirtual 112, 3) := by decide +kernel
theorem dX11_readParish_60 : decode cX11_readParish 60 = .ok (.istore_n 3, 1) := by decide +kernel
theorem dX11_readParish_61 : decode cX11_readParish 61 = .ok (.aload_n 0, 1) := by decide +kernel
theorem dX11_readParish_62 : decode cX11_readParish 62 = .ok (.bipush 9, 2) := by decide +kernel
theorem dX11_readParish_64 : decode cX11_readParish 64 = .ok (.invokevirtual 112, 3) := by decide +kernel
theorem dX11_readParish_67 : decode cX11_readParish 67 = .ok (.istore 4, 2) := by decide +kernel
theorem dX11_readParish_69 : decode cX11_readParish 69 = .ok (.aload_n 0, 1) := by decide +kernel
theorem dX11_readParish_70 : decode cX11_readParish 70 = .ok (.getfield 67, 3) := by decide +kernel
theorem dX11_readParish_73 : decode cX11_readParish 73 = .ok (.ifCond .ne 62, 3) := by decide +kernel
theorem dX11_readParish_76 : decode cX11_readParish 76 = .ok (.iconst 4, 1) := by decide +kernel
theorem dX11_readParish_77 : decode cX11_readParish 77 = .ok (.aload_n 0, 1) := by decide +kernel
theorem dX11_readParish_78 : decode cX11_readParish 78 = .ok (.getfield 31, 3) := by decide +kernel
theorem dX11_readParish_81 : decode cX11_readParish 81 = .ok (.iconst 0, 1) := by decide +kernel
theorem dX11_readParish_82 : decode cX11_readParish 82 = .ok (.iaload, 1) := by decide +kernel
theorem dX11_readParish_83 : decode cX11_readParish 83 = .ok (.imul, 1) := by decide +kernel
theorem dX11_readParish_84 : decode cX11_readParish 84 = .ok (.istore 5, 2) := by decide +kernel
theorem dX11_readParish_86 : decode cX11_readParish 86 = .ok (.aload_n 0, 1) := by decide +kernel
theorem dX11_readParish_87 : decode cX11_readParish 87 = .ok (.getfield 34, 3) := by decide +kernel
theorem dX11_readParish_90 : decode cX11_readParish 90 = .ok (.iload 5, 2) := by decide +kernel
theorem dX11_readParish_92 : decode cX11_readParish 92 = .ok (.iload_n 1, 1) := by decide +kernel
theorem dX11_readParish_93 : decode cX11_readParish 93 = .ok (.iastore, 1) := by decide +kernel
theorem dX11_readParish_94 : decode cX11_readParish 94 = .ok (.aload_n 0, 1) := by decide +kernel
theorem dX11_readParish_95 : decode cX11_readParish 95 = .ok (.getfield 34, 3) := by decide +kernel
theorem dX11_readParish_98 : decode cX11_readParish 98 = .ok (.iload 5, 2) := by decide +kernel
theorem dX11_readParish_100 : decode cX11_readParish 100 = .ok (.iconst 1, 1) := by decide +kernel
theorem dX11_readParish_101 : decode cX11_readParish 101 = .ok (.iadd, 1) := by decide +kernel
theorem dX11_readParish_102 : decode cX11_readParish 102 = .ok (.iload_n 2, 1) := by decide +kernel
theorem dX11_readParish_103 : decode cX11_readParish 103 = .ok (.iastore, 1) := by decide +kernel
theorem dX11_readParish_104 : decode cX11_readParish 104 = .ok (.aload_n 0, 1) := by decide +kernel
theorem dX11_readParish_105 : decode cX11_readParish 105 = .ok (.getfield 34, 3) := by decide +kernel
theorem dX11_readParish_108 : decode cX11_readParish 108 = .ok (.iload 5, 2) := by decide +kernel
theorem dX11_readParish_110 : decode cX11_readParish 110 = .ok (.iconst 2, 1) := by decide +kernel
theorem dX11_readParish_111 : decode cX11_readParish 111 = .ok (.iadd, 1) := by decide +kernel
theorem dX11_readParish_112 : decode cX11_readParish 112 = .ok (.iload_n 3, 1) := by decide +kernel
theorem dX11_readParish_113 : decode cX11_readParish 113 = .ok (.iastore, 1) := by decide +kernel
theorem dX11_readParish_114 : decode cX11_readParish 114 = .ok (.aload_n 0, 1) := by decide +kernel
theorem dX11_readParish_115 : decode cX11_readParish 115 = .ok (.getfield 34, 3) := by decide +kernel
theorem dX11_readParish_118 : decode cX11_readParish 118 = .ok (.iload 5, 2) := by decide +kernel
theorem dX11_readParish_120 : decode cX11_readParish 120 = .ok (.iconst 3, 1) := by decide +kernel
theorem dX11_readParish_121 : decode cX11_readParish 121 = .ok (.iadd, 1) := by decide +kernel
theorem dX11_readParish_122 : decode cX11_readParish 122 = .ok (.iload 4, 2) := by decide +kernel
theorem dX11_readParish_124 : decode cX11_readParish 124 = .ok (.iastore, 1) := by decide +kernel
theorem dX11_readParish_125 : decode cX11_readParish 125 = .ok (.aload_n 0, 1) := by decide +kernel
theorem dX11_readParish_126 : decode cX11_readParish 126 = .ok (.getfield 31, 3) := by decide +kernel
theorem dX11_readParish_129 : decode cX11_readParish 129 = .ok (.iconst 0, 1) := by decide +kernel
theorem dX11_readParish_130 : decode cX11_readParish 130 = .ok (.dup2, 1) := by decide +kernel
theorem dX11_readParish_131 : decode cX11_readParish 131 = .ok (.iaload, 1) := by decide +kernel
theorem dX11_readParish_132 : decode cX11_readParish 132 = .ok (.iconst 1, 1) := by decide +kernel
theorem dX11_readParish_133 : decode cX11_readParish 133 = .ok (.iadd, 1) := by decide +kernel
theorem dX11_readParish_134 : decode cX11_readParish 134 = .ok (.iastore, 1) := by decide +kernel
theorem dX11_readParish_135 : decode cX11_readParish 135 = .ok (.return_, 1) := by decide +kernel
theorem dX11_readClerk_0 : decode cX11_readClerk 0 = .ok (.aload_n 0, 1) := by decide +kernel
theorem dX11_readClerk_1 : decode cX11_readClerk 1 = .ok (.getfield 31, 3) := by decide +kernel
theorem dX11_readClerk_4 : decode cX11_readClerk 4 = .ok (.iconst 1, 1) := by decide +kernel
theorem dX11_readClerk_5 : decode cX11_readClerk 5 = .ok (.iaload, 1) := by decide +kernel
theorem dX11_readClerk_6 : decode cX11_readClerk 6 = .ok (.bipush 8, 2) := by decide +kernel
theorem dX11_readClerk_8 : decode cX11_readClerk 8 = .ok (.if_icmp .ne 9, 3) := by decide +kernel
theorem dX11_readClerk_11 : decode cX11_readClerk 11 = .ok (.aload_n 0, 1) := by decide +kernel
theorem dX11_readClerk_12 : decode cX11_readClerk 12 = .ok (.iconst 5, 1) := by decide +kernel
theorem dX11_readClerk_13 : decode cX11_readClerk 13 = .ok (.invokevirtual 97, 3) := by decide +kernel
theorem dX11_readClerk_16 : decode cX11_readClerk 16 = .ok (.return_, 1) := by decide +kernel
theorem dX11_readClerk_17 : decode cX11_readClerk 17 = .ok (.aload_n 0, 1) := by decide +kernel
theorem dX11_readClerk_18 : decode cX11_readClerk 18 = .ok (.invokevirtual 101, 3) := by decide +kernel
theorem dX11_readClerk_21 : decode cX11_readClerk 21 = .ok (.iconst 5, 1) := by decide +kernel
theorem dX11_readClerk_22 : decode cX11_readClerk 22 = .ok (.aload_n 0, 1) := by decide +kernel
theorem dX11_readClerk_23 : decode cX11_readClerk 23 = .ok (.getfield 31, 3) := by decide +kernel
theorem dX11_readClerk_26 : decode cX11_readClerk 26 = .ok (.iconst 1, 1) := by decide +kernel
theorem dX11_readClerk_27 : decode cX11_readClerk 27 = .ok (.iaload, 1) := by decide +kernel
theorem dX11_readClerk_28 : decode cX11_readClerk 28 = .ok (.imul, 1) := by decide +kernel
theorem dX11_readClerk_29 : decode cX11_readClerk 29 = .ok (.istore_n 1, 1) := by decide +kernel
theorem dX11_readClerk_30 : decode cX11_readClerk 30 = .ok (.aload_n 0, 1) := by decide +kernel
theorem dX11_readClerk_31 : decode cX11_readClerk 31 = .ok (.iconst 0, 1) := by decide +kernel
theorem dX11_readClerk_32 : decode cX11_readClerk 32 = .ok (.aload_n 0, 1) := by decide +kernel
theorem dX11_readClerk_33 : decode cX11_readClerk 33 = .ok (.getfield 31, 3) := by decide +kernel
theorem dX11_readClerk_36 : decode cX11_readClerk 36 = .ok (.iconst 0, 1) := by decide +kernel
theorem dX11_readClerk_37 : decode cX11_readClerk 37 = .ok (.iaload, 1) := by decide +kernel
theorem dX11_readClerk_38 : decode cX11_readClerk 38 = .ok (.iconst 1, 1) := by decide +kernel
theorem dX11_readClerk_39 : decode cX11_readClerk 39 = .ok (.isub, 1) := by decide +kernel
theorem dX11_readClerk_40 : decode cX11_readClerk 40 = .ok (.invokevirtual 108, 3) := by decide +kernel
theorem dX11_readClerk_43 : decode cX11_readClerk 43 = .ok (.istore_n 2, 1) := by decide +kernel
theorem dX11_readClerk_44 : decode cX11_readClerk 44 = .ok (.aload_n 0, 1) := by decide +kernel
theorem dX11_readClerk_45 : decode cX11_readClerk 45 = .ok (.iconst 0, 1) := by decide +kernel
theorem dX11_readClerk_46 : decode cX11_readClerk 46 = .ok (.bipush 89, 2) := by decide +kernel
theorem dX11_readClerk_48 : decode cX11_readClerk 48 = .ok (.invokevirtual 108, 3) := by decide +kernel
theorem dX11_readClerk_51 : decode cX11_readClerk 51 = .ok (.istore_n 3, 1) := by decide +kernel
theorem dX11_readClerk_52 : decode cX11_readClerk 52 = .ok (.aload_n 0, 1) := by decide +kernel
theorem dX11_readClerk_53 : decode cX11_readClerk 53 = .ok (.iload_n 3, 1) := by decide +kernel
theorem dX11_readClerk_54 : decode cX11_readClerk 54 = .ok (.bipush 89, 2) := by decide +kernel
theorem dX11_readClerk_56 : decode cX11_readClerk 56 = .ok (.invokevirtual 108, 3) := by decide +kernel
theorem dX11_readClerk_59 : decode cX11_readClerk 59 = .ok (.istore 4, 2) := by decide +kernel
theorem dX11_readClerk_61 : decode cX11_readClerk 61 = .ok (.aload_n 0, 1) := by decide +kernel
theorem dX11_readClerk_62 : decode cX11_readClerk 62 = .ok (.iconst 0, 1) := by decide +kernel
theorem dX11_readClerk_63 : decode cX11_readClerk 63 = .ok (.sipush 255, 3) := by decide +kernel
theorem dX11_readClerk_66 : decode cX11_readClerk 66 = .ok (.invokevirtual 108, 3) := by decide +kernel
theorem dX11_readClerk_69 : decode cX11_readClerk 69 = .ok (.istore 5, 2) := by decide +kernel
theorem dX11_readClerk_71 : decode cX11_readClerk 71 = .ok (.aload_n 0, 1) := by decide +kernel
theorem dX11_readClerk_72 : decode cX11_readClerk 72 = .ok (.iconst 0, 1) := by decide +kernel
theorem dX11_readClerk_73 : decode cX11_readClerk 73 = .ok (.iconst 4, 1) := by decide +kernel
theorem dX11_readClerk_74 : decode cX11_readClerk 74 = .ok (.invokevirtual 108, 3) := by decide +kernel
theorem dX11_readClerk_77 : decode cX11_readClerk 77 = .ok (.istore 6, 2) := by decide +kernel
theorem dX11_readClerk_79 : decode cX11_readClerk 79 = .ok (.aload_n 0, 1) := by decide +kernel
theorem dX11_readClerk_80 : decode cX11_readClerk 80 = .ok (.getfield 67, 3) := by decide +kernel
theorem dX11_readClerk_83 : decode cX11_readClerk 83 = .ok (.ifCond .ne 59, 3) := by decide +kernel
theorem dX11_readClerk_86 : decode cX11_readClerk 86 = .ok (.aload_n 0, 1) := by decide +kernel
theorem dX11_readClerk_87 : decode cX11_readClerk 87 = .ok (.getfield 37, 3) := by decide +kernel
theorem dX11_readClerk_90 : decode cX11_readClerk 90 = .ok (.iload_n 1, 1) := by decide +kernel
theorem dX11_readClerk_91 : decode cX11_readClerk 91 = .ok (.iload_n 2, 1) := by decide +kernel
theorem dX11_readClerk_92 : decode cX11_readClerk 92 = .ok (.iastore, 1) := by decide +kernel
theorem dX11_readClerk_93 : decode cX11_readClerk 93 = .ok (.aload_n 0, 1) := by decide +kernel
theorem dX11_readClerk_94 : decode cX11_readClerk 94 = .ok (.getfield 37, 3) := by decide +kernel
theorem dX11_readClerk_97 : decode cX11_readClerk 97 = .ok (.iload_n 1, 1) := by decide +kernel
theorem dX11_readClerk_98 : decode cX11_readClerk 98 = .ok (.iconst 1, 1) := by decide +kernel
theorem dX11_readClerk_99 : decode cX11_readClerk 99 = .ok (.iadd, 1) := by decide +kernel
theorem dX11_readClerk_100 : decode cX11_readClerk 100 = .ok (.iload_n 3, 1) := by decide +kernel
theorem dX11_readClerk_101 : decode cX11_readClerk 101 = .ok (.iastore, 1) := by decide +kernel
theorem dX11_readClerk_102 : decode cX11_readClerk 102 = .ok (.aload_n 0, 1) := by decide +kernel
theorem dX11_readClerk_103 : decode cX11_readClerk 103 = .ok (.getfield 37, 3) := by decide +kernel
theorem dX11_readClerk_106 : decode cX11_readClerk 106 = .ok (.iload_n 1, 1) := by decide +kernel
theorem dX11_readClerk_107 : decode cX11_readClerk 107 = .ok (.iconst 2, 1) := by decide +kernel
theorem dX11_readClerk_108 : decode cX11_readClerk 108 = .ok (.iadd, 1) := by decide +kernel
theorem dX11_readClerk_109 : decode cX11_readClerk 109 = .ok (.iload 4, 2) := by decide +kernel
theorem dX11_readClerk_111 : decode cX11_readClerk 111 = .ok (.iastore, 1) := by decide +kernel
theorem dX11_readClerk_112 : decode cX11_readClerk 112 = .ok (.aload_n 0, 1) := by decide +kernel
theorem dX11_readClerk_113 : decode cX11_readClerk 113 = .ok (.getfield 37, 3) := by decide +kernel
theorem dX11_readClerk_116 : decode cX11_readClerk 116 = .ok (.iload_n 1, 1) := by decide +kernel
theorem dX11_readClerk_117 : decode cX11_readClerk 117 = .ok (.iconst 3, 1) := by decide +kernel
theorem dX11_readClerk_118 : decode cX11_readClerk 118 = .ok (.iadd, 1) := by decide +kernel
theorem dX11_readClerk_119 : decode cX11_readClerk 119 = .ok (.iload 5, 2) := by decide +kernel
theorem dX11_readClerk_121 : decode cX11_readClerk 121 = .ok (.iastore, 1) := by decide +kernel
theorem dX11_readClerk_122 : decode cX11_readClerk 122 = .ok (.aload_n 0, 1) := by decide +kernel
theorem dX11_readClerk_123 : decode cX11_readClerk 123 = .ok (.getfield 37, 3) := by decide +kernel
theorem dX11_readClerk_126 : decode cX11_readClerk 126 = .ok (.iload_n 1, 1) := by decide +kernel
theorem dX11_readClerk_127 : decode cX11_readClerk 127 = .ok (.iconst 4, 1) := by decide +kernel
theorem dX11_readClerk_128 : decode cX11_readClerk 128 = .ok (.iadd, 1) := by decide +kernel
theorem dX11_readClerk_129 : decode cX11_readClerk 129 = .ok (.iload 6, 2) := by decide +kernel
theorem dX11_readClerk_131 : decode cX11_readClerk 131 = .ok (.iastore, 1) := by decide +kernel
theorem dX11_readClerk_132 : decode cX11_readClerk 132 = .ok (.aload_n 0, 1) := by decide +kernel
theorem dX11_readClerk_133 : decode cX11_readClerk 133 = .ok (.getfield 31, 3) := by decide +kernel
theorem dX11_readClerk_136 : decode cX11_readClerk 136 = .ok (.iconst 1, 1) := by decide +kernel
theorem dX11_readClerk_137 : decode cX11_readClerk 137 = .ok (.dup2, 1) := by decide +kernel
theorem dX11_readClerk_138 : decode cX11_readClerk 138 = .ok (.iaload, 1) := by decide +kernel
theorem dX11_readClerk_139 : decode cX11_readClerk 139 = .ok (.iconst 1, 1) := by decide +kernel
theorem dX11_readClerk_140 : decode cX11_readClerk 140 = .ok (.iadd, 1) := by decide +kernel
theorem dX11_readClerk_141 : decode cX11_readClerk 141 = .ok (.iastore, 1) := by decide +kernel
theorem dX11_readClerk_142 : decode cX11_readClerk 142 = .ok (.return_, 1) := by decide +kernel
theorem dX11_readTried_0 : decode cX11_readTried 0 = .ok (.aload_n 0, 1) := by decide +kernel
theorem dX11_readTried_1 : decode cX11_readTried 1 = .ok (.invokevirtual 101, 3) := by decide +kernel
theorem dX11_readTried_4 : decode cX11_readTried 4 = .ok (.aload_n 0, 1) := by decide +kernel
theorem dX11_readTried_5 : decode cX11_readTried 5 = .ok (.getfield 67, 3) := by decide +kernel
theorem dX11_readTried_8 : decode cX11_readTried 8 = .ok (.ifCond .ne 10, 3) := by decide +kernel
theorem dX11_readTried_11 : decode cX11_readTried 11 = .ok (.aload_n 0, 1) := by decide +kernel
theorem dX11_readTried_12 : decode cX11_readTried 12 = .ok (.invokevirtual 104, 3) := by decide +kernel
theorem dX11_readTried_15 : decode cX11_readTried 15 = .ok (.goto 5, 3) := by decide +kernel
theorem dX11_readTried_18 : decode cX11_readTried 18 = .ok (.bipush (-4), 2) := by decide +kernel
theorem dX11_readTried_20 : decode cX11_readTried 20 = .ok (.istore_n 1, 1) := by decide +kernel
theorem dX11_readTried_21 : decode cX11_readTried 21 = .ok (.iload_n 1, 1) := by decide +kernel
theorem dX11_readTried_22 : decode cX11_readTried 22 = .ok (.bipush 10, 2) := by decide +kernel
theorem dX11_readTried_24 : decode cX11_readTried 24 = .ok (.if_icmp .eq 15, 3) := by decide +kernel
theorem dX11_readTried_27 : decode cX11_readTried 27 = .ok (.iload_n 1, 1) := by decide +kernel
theorem dX11_readTried_28 : decode cX11_readTried 28 = .ok (.bipush 11, 2) := by decide +kernel
theorem dX11_readTried_30 : decode cX11_readTried 30 = .ok (.if_icmp .eq 9, 3) := by decide +kernel
theorem dX11_readTried_33 : decode cX11_readTried 33 = .ok (.aload_n 0, 1) := by decide +kernel
theorem dX11_readTried_34 : decode cX11_readTried 34 = .ok (.iconst 2, 1) := by decide +kernel
theorem dX11_readTried_35 : decode cX11_readTried 35 = .ok (.invokevirtual 97, 3) := by decide +kernel
theorem dX11_readTried_38 : decode cX11_readTried 38 = .ok (.return_, 1) := by decide +kernel
theorem dX11_readTried_39 : decode cX11_readTried 39 = .ok (.aload_n 0, 1) := by decide +kernel
theorem dX11_readTried_40 : decode cX11_readTried 40 = .ok (.getfield 115, 3) := by decide +kernel
theorem dX11_readTried_43 : decode cX11_readTried 43 = .ok (.iload_n 1, 1) := by decide +kernel
theorem dX11_readTried_44 : decode cX11_readTried 44 = .ok (.ishr, 1) := by decide +kernel
theorem dX11_readTried_45 : decode cX11_readTried 45 = .ok (.iconst 1, 1) := by decide +kernel
theorem dX11_readTried_46 : decode cX11_readTried 46 = .ok (.iand, 1) := by decide +kernel
theorem dX11_readTried_47 : decode cX11_readTried 47 = .ok (.iconst 1, 1) := by decide +kernel
theorem dX11_readTried_48 : decode cX11_readTried 48 = .ok (.if_icmp .ne 8, 3) := by decide +kernel
theorem dX11_readTried_51 : decode cX11_readTried 51 = .ok (.aload_n 0, 1) := by decide +kernel
theorem dX11_readTried_52 : decode cX11_readTried 52 = .ok (.iconst 4, 1) := by decide +kernel
theorem dX11_readTried_53 : decode cX11_readTried 53 = .ok (.invokevirtual 97, 3) := by decide +kernel
theorem dX11_readTried_56 : decode cX11_readTried 56 = .ok (.aload_n 0, 1) := by decide +kernel
theorem dX11_readTried_57 : decode cX11_readTried 57 = .ok (.dup, 1) := by decide +kernel
theorem dX11_readTried_58 : decode cX11_readTried 58 = .ok (.getfield 115, 3) := by decide +kernel
theorem dX11_readTried_61 : decode cX11_readTried 61 = .ok (.iconst 1, 1) := by decide +kernel
theorem dX11_readTried_62 : decode cX11_readTried 62 = .ok (.iload_n 1, 1) := by decide +kernel
theorem dX11_readTried_63 : decode cX11_readTried 63 = .ok (.ishl, 1) := by decide +kernel
theorem dX11_readTried_64 : decode cX11_readTried 64 = .ok (.ior, 1) := by decide +kernel
theorem dX11_readTried_65 : decode cX11_readTried 65 = .ok (.putfield 115, 3) := by decide +kernel
theorem dX11_readTried_68 : decode cX11_readTried 68 = .ok (.aload_n 0, 1) := by decide +kernel
theorem dX11_readTried_69 : decode cX11_readTried 69 = .ok (.invokevirtual 101, 3) := by decide +kernel
theorem dX11_readTried_72 : decode cX11_readTried 72 = .ok (.bipush 7, 2) := by decide +kernel
theorem dX11_readTried_74 : decode cX11_readTried 74 = .ok (.iconst 2, 1) := by decide +kernel
theorem dX11_readTried_75 : decode cX11_readTried 75 = .ok (.iload_n 1, 1) := by decide +kernel
theorem dX11_readTried_76 : decode cX11_readTried 76 = .ok (.bipush 10, 2) := by decide +kernel
theorem dX11_readTried_78 : decode cX11_readTried 78 = .ok (.isub, 1) := by decide +kernel
theorem dX11_readTried_79 : decode cX11_readTried 79 = .ok (.imul, 1) := by decide +kernel
theorem dX11_readTried_80 : decode cX11_readTried 80 = .ok (.iadd, 1) := by decide +kernel
theorem dX11_readTried_81 : decode cX11_readTried 81 = .ok (.istore_n 2, 1) := by decide +kernel
theorem dX11_readTried_82 : decode cX11_readTried 82 = .ok (.aload_n 0, 1) := by decide +kernel
theorem dX11_readTried_83 : decode cX11_readTried 83 = .ok (.getfield 31, 3) := by decide +kernel
theorem dX11_readTried_86 : decode cX11_readTried 86 = .ok (.iload_n 2, 1) := by decide +kernel
theorem dX11_readTried_87 : decode cX11_readTried 87 = .ok (.aload_n 0, 1) := by decide +kernel
theorem dX11_readTried_88 : decode cX11_readTried 88 = .ok (.iconst 0, 1) := by decide +kernel
theorem dX11_readTried_89 : decode cX11_readTried 89 = .ok (.sipush 999, 3) := by decide +kernel
theorem dX11_readTried_92 : decode cX11_readTried 92 = .ok (.invokevirtual 108, 3) := by decide +kernel
theorem dX11_readTried_95 : decode cX11_readTried 95 = .ok (.iastore, 1) := by decide +kernel
theorem dX11_readTried_96 : decode cX11_readTried 96 = .ok (.aload_n 0, 1) := by decide +kernel
theorem dX11_readTried_97 : decode cX11_readTried 97 = .ok (.getfield 31, 3) := by decide +kernel
theorem dX11_readTried_100 : decode cX11_readTried 100 = .ok (.iload_n 2, 1) := by decide +kernel
theorem dX11_readTried_101 : decode cX11_readTried 101 = .ok (.iconst 1, 1) := by decide +kernel
theorem dX11_readTried_102 : decode cX11_readTried 102 = .ok (.iadd, 1) := by decide +kernel
theorem dX11_readTried_103 : decode cX11_readTried 103 = .ok (.aload_n 0, 1) := by decide +kernel
theorem dX11_readTried_104 : decode cX11_readTried 104 = .ok (.aload_n 0, 1) := by decide +kernel
theorem dX11_readTried_105 : decode cX11_readTried 105 = .ok (.getfield 31, 3) := by decide +kernel
theorem dX11_readTried_108 : decode cX11_readTried 108 = .ok (.iload_n 2, 1) := by decide +kernel
theorem dX11_readTried_109 : decode cX11_readTried 109 = .ok (.iaload, 1) := by decide +kernel
theorem dX11_readTried_110 : decode cX11_readTried 110 = .ok (.iconst 1, 1) := by decide +kernel
theorem dX11_readTried_111 : decode cX11_readTried 111 = .ok (.if_icmp .le 12, 3) := by decide +kernel
theorem dX11_readTried_114 : decode cX11_readTried 114 = .ok (.aload_n 0, 1) := by decide +kernel
theorem dX11_readTried_115 : decode cX11_readTried 115 = .ok (.getfield 31, 3) := by decide +kernel
theorem dX11_readTried_118 : decode cX11_readTried 118 = .ok (.iload_n 2, 1) := by decide +kernel
theorem dX11_readTried_119 : decode cX11_readTried 119 = .ok (.iaload, 1) := by decide +kernel
theorem dX11_readTried_120 : decode cX11_readTried 120 = .ok (.goto 4, 3) := by decide +kernel
theorem dX11_readTried_123 : decode cX11_readTried 123 = .ok (.iconst 1, 1) := by decide +kernel
theorem dX11_readTried_124 : decode cX11_readTried 124 = .ok (.sipush 999, 3) := by decide +kernel
theorem dX11_readTried_127 : decode cX11_readTried 127 = .ok (.invokevirtual 108, 3) := by decide +kernel
theorem dX11_readTried_130 : decode cX11_readTried 130 = .ok (.iastore, 1) := by decide +kernel
theorem dX11_readTried_131 : decode cX11_readTried 131 = .ok (.return_, 1) := by decide +kernel
theorem dX11_readRule_0 : decode cX11_readRule 0 = .ok (.aload_n 0, 1) := by decide +kernel
theorem dX11_readRule_1 : decode cX11_readRule 1 = .ok (.getfield 115, 3) := by decide +kernel
theorem dX11_readRule_4 : decode cX11_readRule 4 = .ok (.iload_n 1, 1) := by decide +kernel
theorem dX11_readRule_5 : decode cX11_readRule 5 = .ok (.ishr, 1) := by decide +kernel
theorem dX11_readRule_6 : decode cX11_readRule 6 = .ok (.iconst 1, 1) := by decide +kernel
theorem dX11_readRule_7 : decode cX11_readRule 7 = .ok (.iand, 1) := by decide +kernel
theorem dX11_readRule_8 : decode cX11_readRule 8 = .ok (.iconst 1, 1) := by decide +kernel
theorem dX11_readRule_9 : decode cX11_readRule 9 = .ok (.if_icmp .ne 8, 3) := by decide +kernel
theorem dX11_readRule_12 : decode cX11_readRule 12 = .ok (.aload_n 0, 1) := by decide +kernel
theorem dX11_readRule_13 : decode cX11_readRule 13 = .ok (.iconst 4, 1) := by decide +kernel
theorem dX11_readRule_14 : decode cX11_readRule 14 = .ok (.invokevirtual 97, 3) := by decide +kernel
theorem dX11_readRule_17 : decode cX11_readRule 17 = .ok (.aload_n 0, 1) := by decide +kernel
theorem dX11_readRule_18 : decode cX11_readRule 18 = .ok (.dup, 1) := by decide +kernel
theorem dX11_readRule_19 : decode cX11_readRule 19 = .ok (.getfield 115, 3) := by decide +kernel
theorem dX11_readRule_22 : decode cX11_readRule 22 = .ok (.iconst 1, 1) := by decide +kernel
theorem dX11_readRule_23 : decode cX11_readRule 23 = .ok (.iload_n 1, 1) := by decide +kernel
theorem dX11_readRule_24 : decode cX11_readRule 24 = .ok (.ishl, 1) := by decide +kernel
theorem dX11_readRule_25 : decode cX11_readRule 25 = .ok (.ior, 1) := by decide +kernel
theorem dX11_readRule_26 : decode cX11_readRule 26 = .ok (.putfield 115, 3) := by decide +kernel
theorem dX11_readRule_29 : decode cX11_readRule 29 = .ok (.aload_n 0, 1) := by decide +kernel
theorem dX11_readRule_30 : decode cX11_readRule 30 = .ok (.invokevirtual 101, 3) := by decide +kernel
theorem dX11_readRule_33 : decode cX11_readRule 33 = .ok (.iload_n 1, 1) := by decide +kernel
theorem dX11_readRule_34 : decode cX11_readRule 34 = .ok (.iconst 3, 1) := by decide +kernel
theorem dX11_readRule_35 : decode cX11_readRule 35 = .ok (.if_icmp .ne 19, 3) := by decide +kernel
theorem dX11_readRule_38 : decode cX11_readRule 38 = .ok (.aload_n 0, 1) := by decide +kernel
theorem dX11_readRule_39 : decode cX11_readRule 39 = .ok (.getfield 31, 3) := by decide +kernel
theorem dX11_readRule_42 : decode cX11_readRule 42 = .ok (.iconst 2, 1) := by decide +kernel
theorem dX11_readRule_43 : decode cX11_readRule 43 = .ok (.aload_n 0, 1) := by decide +kernel
theorem dX11_readRule_44 : decode cX11_readRule 44 = .ok (.iconst 5, 1) := by decide +kernel
theorem dX11_readRule_45 : decode cX11_readRule 45 = .ok (.bipush 20, 2) := by decide +kernel
theorem dX11_readRule_47 : decode cX11_readRule 47 = .ok (.invokevirtual 108, 3) := by decide +kernel
theorem dX11_readRule_50 : decode cX11_readRule 50 = .ok (.iastore, 1) := by decide +kernel
theorem dX11_readRule_51 : decode cX11_readRule 51 = .ok (.goto 79, 3) := by decide +kernel
theorem dX11_readRule_54 : decode cX11_readRule 54 = .ok (.iload_n 1, 1) := by decide +kernel
theorem dX11_readRule_55 : decode cX11_readRule 55 = .ok (.iconst 4, 1) := by decide +kernel
theorem dX11_readRule_56 : decode cX11_readRule 56 = .ok (.if_icmp .ne 38, 3) := by decide +kernel
theorem dX11_readRule_59 : decode cX11_readRule 59 = .ok (.aload_n 0, 1) := by decide +kernel
theorem dX11_readRule_60 : decode cX11_readRule 60 = .ok (.getfield 31, 3) := by decide +kernel
theorem dX11_readRule_63 : decode cX11_readRule 63 = .ok (.iconst 3, 1) := by decide +kernel
theorem dX11_readRule_64 : decode cX11_readRule 64 = .ok (.aload_n 0, 1) := by decide +kernel
theorem dX11_readRule_65 : decode cX11_readRule 65 = .ok (.bipush 16, 2) := by decide +kernel
theorem dX11_readRule_67 : decode cX11_readRule 67 = .ok (.bipush 60, 2) := by decide +kernel
theorem dX11_readRule_69 : decode cX11_readRule 69 = .ok (.invokevirtual 108, 3) := by decide +kernel
theorem dX11_readRule_72 : decode cX11_readRule 72 = .ok (.iastore, 1) := by decide +kernel
theorem dX11_readRule_73 : decode cX11_readRule 73 = .ok (.aload_n 0, 1) := by decide +kernel
theorem dX11_readRule_74 : decode cX11_readRule 74 = .ok (.getfield 31, 3) := by decide +kernel
theorem dX11_readRule_77 : decode cX11_readRule 77 = .ok (.iconst 4, 1) := by decide +kernel
theorem dX11_readRule_78 : decode cX11_readRule 78 = .ok (.aload_n 0, 1) := by decide +kernel
theorem dX11_readRule_79 : decode cX11_readRule 79 = .ok (.aload_n 0, 1) := by decide +kernel
theorem dX11_readRule_80 : decode cX11_readRule 80 = .ok (.getfield 31, 3) := by decide +kernel
theorem dX11_readRule_83 : decode cX11_readRule 83 = .ok (.iconst 3, 1) := by decide +kernel
theorem dX11_readRule_84 : decode cX11_readRule 84 = .ok (.iaload, 1) := by decide +kernel
theorem dX11_readRule_85 : decode cX11_readRule 85 = .ok (.bipush 60, 2) := by decide +kernel
theorem dX11_readRule_87 : decode cX11_readRule 87 = .ok (.invokevirtual 108, 3) := by decide +kernel
theorem dX11_readRule_90 : decode cX11_readRule 90 = .ok (.iastore, 1) := by decide +kernel
theorem dX11_readRule_91 : decode cX11_readRule 91 = .ok (.goto 39, 3) := by decide +kernel
theorem dX11_readRule_94 : decode cX11_readRule 94 = .ok (.iload_n 1, 1) := by decide +kernel
theorem dX11_readRule_95 : decode cX11_readRule 95 = .ok (.iconst 5, 1) := by decide +kernel
theorem dX11_readRule_96 : decode cX11_readRule 96 = .ok (.if_icmp .ne 20, 3) := by decide +kernel
theorem dX11_readRule_99 : decode cX11_readRule 99 = .ok (.aload_n 0, 1) := by decide +kernel
theorem dX11_readRule_100 : decode cX11_readRule 100 = .ok (.getfield 31, 3) := by decide +kernel
theorem dX11_readRule_103 : decode cX11_readRule 103 = .ok (.iconst 5, 1) := by decide +kernel
theorem dX11_readRule_104 : decode cX11_readRule 104 = .ok (.aload_n 0, 1) := by decide +kernel
theorem dX11_readRule_105 : decode cX11_readRule 105 = .ok (.iconst 0, 1) := by decide +kernel
theorem dX11_readRule_106 : decode cX11_readRule 106 = .ok (.sipush 999, 3) := by decide +kernel
theorem dX11_readRule_109 : decode cX11_readRule 109 = .ok (.invokevirtual 108, 3) := by decide +kernel
theorem dX11_readRule_112 : decode cX11_readRule 112 = .ok (.iastore, 1) := by decide +kernel
theorem dX11_readRule_113 : decode cX11_readRule 113 = .ok (.goto 17, 3) := by decide +kernel
theorem dX11_readRule_116 : decode cX11_readRule 116 = .ok (.aload_n 0, 1) := by decide +kernel
theorem dX11_readRule_117 : decode cX11_readRule 117 = .ok (.getfield 31, 3) := by decide +kernel
theorem dX11_readRule_120 : decode cX11_readRule 120 = .ok (.bipush 6, 2) := by decide +kernel
theorem dX11_readRule_122 : decode cX11_readRule 122 = .ok (.aload_n 0, 1) := by decide +kernel
theorem dX11_readRule_123 : decode cX11_readRule 123 = .ok (.iconst 0, 1) := by decide +kernel
theorem dX11_readRule_124 : decode cX11_readRule 124 = .ok (.bipush 8, 2) := by decide +kernel
theorem dX11_readRule_126 : decode cX11_readRule 126 = .ok (.invokevirtual 108, 3) := by decide +kernel
theorem dX11_readRule_129 : decode cX11_readRule 129 = .ok (.iastore, 1) := by decide +kernel
theorem dX11_readRule_130 : decode cX11_readRule 130 = .ok (.return_, 1) := by decide +kernel
theorem dX11_readLine_0 : decode cX11_readLine 0 = .ok (.aload_n 0, 1) := by decide +kernel
theorem dX11_readLine_1 : decode cX11_readLine 1 = .ok (.invokevirtual 104, 3) := by decide +kernel
theorem dX11_readLine_4 : decode cX11_readLine 4 = .ok (.istore_n 1, 1) := by decide +kernel
theorem dX11_readLine_5 : decode cX11_readLine 5 = .ok (.iload_n 1, 1) := by decide +kernel
theorem dX11_readLine_6 : decode cX11_readLine 6 = .ok (.i2l, 1) := by decide +kernel
theorem dX11_readLine_7 : decode cX11_readLine 7 = .ok (.lconst 0, 1) := by decide +kernel
theorem dX11_readLine_8 : decode cX11_readLine 8 = .ok (.ldc2_w 118, 3) := by decide +kernel
theorem dX11_readLine_11 : decode cX11_readLine 11 = .ok (.invokestatic 63, 3) := by decide +kernel
theorem dX11_readLine_14 : decode cX11_readLine 14 = .ok (.ifCond .ne 9, 3) := by decide +kernel
theorem dX11_readLine_17 : decode cX11_readLine 17 = .ok (.aload_n 0, 1) := by decide +kernel
theorem dX11_readLine_18 : decode cX11_readLine 18 = .ok (.iconst 2, 1) := by decide +kernel
theorem dX11_readLine_19 : decode cX11_readLine 19 = .ok (.invokevirtual 97, 3) := by decide +kernel
theorem dX11_readLine_22 : decode cX11_readLine 22 = .ok (.return_, 1) := by decide +kernel
theorem dX11_readLine_23 : decode cX11_readLine 23 = .ok (.iload_n 1, 1) := by decide +kernel
theorem dX11_readLine_24 : decode cX11_readLine 24 = .ok (.ifCond .ne 10, 3) := by decide +kernel
theorem dX11_readLine_27 : decode cX11_readLine 27 = .ok (.aload_n 0, 1) := by decide +kernel
theorem dX11_readLine_28 : decode cX11_readLine 28 = .ok (.invokevirtual 120, 3) := by decide +kernel
theorem dX11_readLine_31 : decode cX11_readLine 31 = .ok (.goto 32, 3) := by decide +kernel
theorem dX11_readLine_34 : decode cX11_readLine 34 = .ok (.iload_n 1, 1) := by decide +kernel
theorem dX11_readLine_35 : decode cX11_readLine 35 = .ok (.iconst 1, 1) := by decide +kernel
theorem dX11_readLine_36 : decode cX11_readLine 36 = .ok (.if_icmp .ne 10, 3) := by decide +kernel
theorem dX11_readLine_39 : decode cX11_readLine 39 = .ok (.aload_n 0, 1) := by decide +kernel
theorem dX11_readLine_40 : decode cX11_readLine 40 = .ok (.invokevirtual 123, 3) := by decide +kernel
theorem dX11_readLine_43 : decode cX11_readLine 43 = .ok (.goto 20, 3) := by decide +kernel
theorem dX11_readLine_46 : decode cX11_readLine 46 = .ok (.iload_n 1, 1) := by decide +kernel
theorem dX11_readLine_47 : decode cX11_readLine 47 = .ok (.iconst 2, 1) := by decide +kernel
theorem dX11_readLine_48 : decode cX11_readLine 48 = .ok (.if_icmp .ne 10, 3) := by decide +kernel
theorem dX11_readLine_51 : decode cX11_readLine 51 = .ok (.aload_n 0, 1) := by decide +kernel
theorem dX11_readLine_52 : decode cX11_readLine 52 = .ok (.invokevirtual 126, 3) := by decide +kernel
theorem dX11_readLine_55 : decode cX11_readLine 55 = .ok (.goto 8, 3) := by decide +kernel
theorem dX11_readLine_58 : decode cX11_readLine 58 = .ok (.aload_n 0, 1) := by decide +kernel
theorem dX11_readLine_59 : decode cX11_readLine 59 = .ok (.iload_n 1, 1) := by decide +kernel
theorem dX11_readLine_60 : decode cX11_readLine 60 = .ok (.invokevirtual 129, 3) := by decide +kernel
theorem dX11_readLine_63 : decode cX11_readLine 63 = .ok (.aload_n 0, 1) := by decide +kernel
theorem dX11_readLine_64 : decode cX11_readLine 64 = .ok (.getfield 67, 3) := by decide +kernel
theorem dX11_readLine_67 : decode cX11_readLine 67 = .ok (.ifCond .ne 16, 3) := by decide +kernel
theorem dX11_readLine_70 : decode cX11_readLine 70 = .ok (.aload_n 0, 1) := by decide +kernel
theorem dX11_readLine_71 : decode cX11_readLine 71 = .ok (.getfield 76, 3) := by decide +kernel
theorem dX11_readLine_74 : decode cX11_readLine 74 = .ok (.iconst 3, 1) := by decide +kernel
theorem dX11_readLine_75 : decode cX11_readLine 75 = .ok (.if_icmp .eq 8, 3) := by decide +kernel
theorem dX11_readLine_78 : decode cX11_readLine 78 = .ok (.aload_n 0, 1) := by decide +kernel
theorem dX11_readLine_79 : decode cX11_readLine 79 = .ok (.iconst 2, 1) := by decide +kernel
theorem dX11_readLine_80 : decode cX11_readLine 80 = .ok (.invokevirtual 97, 3) := by decide +kernel
theorem dX11_readLine_83 : decode cX11_readLine 83 = .ok (.aload_n 0, 1) := by decide +kernel
theorem dX11_readLine_84 : decode cX11_readLine 84 = .ok (.invokevirtual 101, 3) := by decide +kernel
theorem dX11_readLine_87 : decode cX11_readLine 87 = .ok (.return_, 1) := by decide +kernel
theorem dX11_land_0 : decode cX11_land 0 = .ok (.aload_n 0, 1) := by decide +kernel
theorem dX11_land_1 : decode cX11_land 1 = .ok (.iconst 0, 1) := by decide +kernel
theorem dX11_land_2 : decode cX11_land 2 = .ok (.putfield 67, 3) := by decide +kernel
theorem dX11_land_5 : decode cX11_land 5 = .ok (.aload_n 0, 1) := by decide +kernel
theorem dX11_land_6 : decode cX11_land 6 = .ok (.iconst 0, 1) := by decide +kernel
theorem dX11_land_7 : decode cX11_land 7 = .ok (.putfield 79, 3) := by decide +kernel
theorem dX11_land_10 : decode cX11_land 10 = .ok (.aload_n 0, 1) := by decide +kernel
theorem dX11_land_11 : decode cX11_land 11 = .ok (.iconst 0, 1) := by decide +kernel
theorem dX11_land_12 : decode cX11_land 12 = .ok (.putfield 115, 3) := by decide +kernel
theorem dX11_land_15 : decode cX11_land 15 = .ok (.iconst 0, 1) := by decide +kernel
theorem dX11_land_16 : decode cX11_land 16 = .ok (.istore_n 1, 1) := by decide +kernel
theorem dX11_land_17 : decode cX11_land 17 = .ok (.iconst 0, 1) := by decide +kernel
theorem dX11_land_18 : decode cX11_land 18 = .ok (.istore_n 2, 1) := by decide +kernel
theorem dX11_land_19 : decode cX11_land 19 = .ok (.iload_n 2, 1) := by decide +kernel
theorem dX11_land_20 : decode cX11_land 20 = .ok (.bipush 11, 2) := by decide +kernel
theorem dX11_land_22 : decode cX11_land 22 = .ok (.if_icmp .ge 21, 3) := by decide +kernel
theorem dX11_land_25 : decode cX11_land 25 = .ok (.aload_n 0, 1) := by decide +kernel
theorem dX11_land_26 : decode cX11_land 26 = .ok (.getfield 31, 3) := by decide +kernel
theorem dX11_land_29 : decode cX11_land 29 = .ok (.iload_n 2, 1) := by decide +kernel
theorem dX11_land_30 : decode cX11_land 30 = .ok (.aload_n 0, 1) := by decide +kernel
theorem dX11_land_31 : decode cX11_land 31 = .ok (.getfield 19, 3) := by decide +kernel
theorem dX11_land_34 : decode cX11_land 34 = .ok (.iload_n 2, 1) := by decide +kernel
theorem dX11_land_35 : decode cX11_land 35 = .ok (.iaload, 1) := by decide +kernel
theorem dX11_land_36 : decode cX11_land 36 = .ok (.iastore, 1) := by decide +kernel
theorem dX11_land_37 : decode cX11_land 37 = .ok (.iinc 2 1, 3) := by decide +kernel
theorem dX11_land_40 : decode cX11_land 40 = .ok (.goto (-21), 3) := by decide +kernel
theorem dX11_land_43 : decode cX11_land 43 = .ok (.aload_n 0, 1) := by decide +kernel
theorem dX11_land_44 : decode cX11_land 44 = .ok (.invokevirtual 101, 3) := by decide +kernel
theorem dX11_land_47 : decode cX11_land 47 = .ok (.aload_n 0, 1) := by decide +kernel
theorem dX11_land_48 : decode cX11_land 48 = .ok (.getfield 67, 3) := by decide +kernel
theorem dX11_land_51 : decode cX11_land 51 = .ok (.ifCond .ne 20, 3) := by decide +kernel
theorem dX11_land_54 : decode cX11_land 54 = .ok (.aload_n 0, 1) := by decide +kernel
theorem dX11_land_55 : decode cX11_land 55 = .ok (.getfield 76, 3) := by decide +kernel
theorem dX11_land_58 : decode cX11_land 58 = .ok (.ifCond .eq 13, 3) := by decide +kernel
theorem dX11_land_61 : decode cX11_land 61 = .ok (.aload_n 0, 1) := by decide +kernel
theorem dX11_land_62 : decode cX11_land 62 = .ok (.invokevirtual 132, 3) := by decide +kernel
theorem dX11_land_65 : decode cX11_land 65 = .ok (.iinc 1 1, 3) := by decide +kernel
theorem dX11_land_68 : decode cX11_land 68 = .ok (.goto (-21), 3) := by decide +kernel
theorem dX11_land_71 : decode cX11_land 71 = .ok (.aload_n 0, 1) := by decide +kernel
theorem dX11_land_72 : decode cX11_land 72 = .ok (.iconst 0, 1) := by decide +kernel
theorem dX11_land_73 : decode cX11_land 73 = .ok (.putfield 59, 3) := by decide +kernel
theorem dX11_land_76 : decode cX11_land 76 = .ok (.aload_n 0, 1) := by decide +kernel
theorem dX11_land_77 : decode cX11_land 77 = .ok (.aload_n 0, 1) := by decide +kernel
theorem dX11_land_78 : decode cX11_land 78 = .ok (.getfield 67, 3) := by decide +kernel
theorem dX11_land_81 : decode cX11_land 81 = .ok (.putfield 135, 3) := by decide +kernel
theorem dX11_land_84 : decode cX11_land 84 = .ok (.aload_n 0, 1) := by decide +kernel
theorem dX11_land_85 : decode cX11_land 85 = .ok (.getfield 67, 3) := by decide +kernel
theorem dX11_land_88 : decode cX11_land 88 = .ok (.ifCond .le 11, 3) := by decide +kernel
theorem dX11_land_91 : decode cX11_land 91 = .ok (.bipush (-10), 2) := by decide +kernel
theorem dX11_land_93 : decode cX11_land 93 = .ok (.aload_n 0, 1) := by decide +kernel
theorem dX11_land_94 : decode cX11_land 94 = .ok (.getfield 73, 3) := by decide +kernel
theorem dX11_land_97 : decode cX11_land 97 = .ok (.isub, 1) := by decide +kernel
theorem dX11_land_98 : decode cX11_land 98 = .ok (.ireturn, 1) := by decide +kernel
theorem dX11_land_99 : decode cX11_land 99 = .ok (.iconst 0, 1) := by decide +kernel
theorem dX11_land_100 : decode cX11_land 100 = .ok (.istore_n 2, 1) := by decide +kernel
theorem dX11_land_101 : decode cX11_land 101 = .ok (.iload_n 2, 1) := by decide +kernel
theorem dX11_land_102 : decode cX11_land 102 = .ok (.bipush 11, 2) := by decide +kernel
theorem dX11_land_104 : decode cX11_land 104 = .ok (.if_icmp .ge 21, 3) := by decide +kernel
theorem dX11_land_107 : decode cX11_land 107 = .ok (.aload_n 0, 1) := by decide +kernel
theorem dX11_land_108 : decode cX11_land 108 = .ok (.getfield 22, 3) := by decide +kernel
theorem dX11_land_111 : decode cX11_land 111 = .ok (.iload_n 2, 1) := by decide +kernel
theorem dX11_land_112 : decode cX11_land 112 = .ok (.aload_n 0, 1) := by decide +kernel
theorem dX11_land_113 : decode cX11_land 113 = .ok (.getfield 31, 3) := by decide +kernel
theorem dX11_land_116 : decode cX11_land 116 = .ok (.iload_n 2, 1) := by decide +kernel
theorem dX11_land_117 : decode cX11_land 117 = .ok (.iaload, 1) := by decide +kernel
theorem dX11_land_118 : decode cX11_land 118 = .ok (.iastore, 1) := by decide +kernel
theorem dX11_land_119 : decode cX11_land 119 = .ok (.iinc 2 1, 3) := by decide +kernel
theorem dX11_land_122 : decode cX11_land 122 = .ok (.goto (-21), 3) := by decide +kernel
theorem dX11_land_125 : decode cX11_land 125 = .ok (.iconst 0, 1) := by decide +kernel
theorem dX11_land_126 : decode cX11_land 126 = .ok (.istore_n 2, 1) := by decide +kernel
theorem dX11_land_127 : decode cX11_land 127 = .ok (.iload_n 2, 1) := by decide +kernel
theorem dX11_land_128 : decode cX11_land 128 = .ok (.bipush 48, 2) := by decide +kernel
theorem dX11_land_130 : decode cX11_land 130 = .ok (.if_icmp .ge 21, 3) := by decide +kernel
theorem dX11_land_133 : decode cX11_land 133 = .ok (.aload_n 0, 1) := by decide +kernel
theorem dX11_land_134 : decode cX11_land 134 = .ok (.getfield 25, 3) := by decide +kernel
theorem dX11_land_137 : decode cX11_land 137 = .ok (.iload_n 2, 1) := by decide +kernel
theorem dX11_land_138 : decode cX11_land 138 = .ok (.aload_n 0, 1) := by decide +kernel
theorem dX11_land_139 : decode cX11_land 139 = .ok (.getfield 34, 3) := by decide +kernel
theorem dX11_land_142 : decode cX11_land 142 = .ok (.iload_n 2, 1) := by decide +kernel
theorem dX11_land_143 : decode cX11_land 143 = .ok (.iaload, 1) := by decide +kernel
theorem dX11_land_144 : decode cX11_land 144 = .ok (.iastore, 1) := by decide +kernel
theorem dX11_land_145 : decode cX11_land 145 = .ok (.iinc 2 1, 3) := by decide +kernel
theorem dX11_land_148 : decode cX11_land 148 = .ok (.goto (-21), 3) := by decide +kernel
theorem dX11_land_151 : decode cX11_land 151 = .ok (.iconst 0, 1) := by decide +kernel
theorem dX11_land_152 : decode cX11_land 152 = .ok (.istore_n 2, 1) := by decide +kernel
theorem dX11_land_153 : decode cX11_land 153 = .ok (.iload_n 2, 1) := by decide +kernel
theorem dX11_land_154 : decode cX11_land 154 = .ok (.bipush 40, 2) := by decide +kernel
theorem dX11_land_156 : decode cX11_land 156 = .ok (.if_icmp .ge 21, 3) := by decide +kernel
theorem dX11_land_159 : decode cX11_land 159 = .ok (.aload_n 0, 1) := by decide +kernel
theorem dX11_land_160 : decode cX11_land 160 = .ok (.getfield 28, 3) := by decide +kernel
theorem dX11_land_163 : decode cX11_land 163 = .ok (.iload_n 2, 1) := by decide +kernel
theorem dX11_land_164 : decode cX11_land 164 = .ok (.aload_n 0, 1) := by decide +kernel
theorem dX11_land_165 : decode cX11_land 165 = .ok (.getfield 37, 3) := by decide +kernel
theorem dX11_land_168 : decode cX11_land 168 = .ok (.iload_n 2, 1) := by decide +kernel
theorem dX11_land_169 : decode cX11_land 169 = .ok (.iaload, 1) := by decide +kernel
theorem dX11_land_170 : decode cX11_land 170 = .ok (.iastore, 1) := by decide +kernel
theorem dX11_land_171 : decode cX11_land 171 = .ok (.iinc 2 1, 3) := by decide +kernel
theorem dX11_land_174 : decode cX11_land 174 = .ok (.goto (-21), 3) := by decide +kernel
theorem dX11_land_177 : decode cX11_land 177 = .ok (.aload_n 0, 1) := by decide +kernel
theorem dX11_land_178 : decode cX11_land 178 = .ok (.getfield 40, 3) := by decide +kernel
theorem dX11_land_181 : decode cX11_land 181 = .ok (.sipush 650, 3) := by decide +kernel
theorem dX11_land_184 : decode cX11_land 184 = .ok (.iconst 0, 1) := by decide +kernel
theorem dX11_land_185 : decode cX11_land 185 = .ok (.iastore, 1) := by decide +kernel
theorem dX11_land_186 : decode cX11_land 186 = .ok (.iconst 0, 1) := by decide +kernel
theorem dX11_land_187 : decode cX11_land 187 = .ok (.istore_n 2, 1) := by decide +kernel
theorem dX11_land_188 : decode cX11_land 188 = .ok (.iload_n 2, 1) := by decide +kernel
theorem dX11_land_189 : decode cX11_land 189 = .ok (.iconst 2, 1) := by decide +kernel
theorem dX11_land_190 : decode cX11_land 190 = .ok (.if_icmp .ge 31, 3) := by decide +kernel
theorem dX11_land_193 : decode cX11_land 193 = .ok (.aload_n 0, 1) := by decide +kernel
theorem dX11_land_194 : decode cX11_land 194 = .ok (.iload_n 2, 1) := by decide +kernel
theorem dX11_land_195 : decode cX11_land 195 = .ok (.iconst 1, 1) := by decide +kernel
theorem dX11_land_196 : decode cX11_land 196 = .ok (.aload_n 0, 1) := by decide +kernel
theorem dX11_land_197 : decode cX11_land 197 = .ok (.getfield 22, 3) := by decide +kernel
theorem dX11_land_200 : decode cX11_land 200 = .ok (.iconst 0, 1) := by decide +kernel
theorem dX11_land_201 : decode cX11_land 201 = .ok (.iaload, 1) := by decide +kernel
theorem dX11_land_202 : decode cX11_land 202 = .ok (.ishl, 1) := by decide +kernel
theorem dX11_land_203 : decode cX11_land 203 = .ok (.iconst 1, 1) := by decide +kernel
theorem dX11_land_204 : decode cX11_land 204 = .ok (.isub, 1) := by decide +kernel
theorem dX11_land_205 : decode cX11_land 205 = .ok (.iconst 0, 1) := by decide +kernel
theorem dX11_land_206 : decode cX11_land 206 = .ok (.bipush 89, 2) := by decide +kernel
theorem dX11_land_208 : decode cX11_land 208 = .ok (.iconst 3, 1) := by decide +kernel
theorem dX11_land_209 : decode cX11_land 209 = .ok (.sipush 255, 3) := by decide +kernel
theorem dX11_land_212 : decode cX11_land 212 = .ok (.invokevirtual 138, 3) := by decide +kernel
theorem dX11_land_215 : decode cX11_land 215 = .ok (.iinc 2 1, 3) := by decide +kernel
theorem dX11_land_218 : decode cX11_land 218 = .ok (.goto (-30), 3) := by decide +kernel
theorem dX11_land_221 : decode cX11_land 221 = .ok (.iload_n 1, 1) := by decide +kernel
theorem dX11_land_222 : decode cX11_land 222 = .ok (.ireturn, 1) := by decide +kernel
theorem dX11_fault_0 : decode cX11_fault 0 = .ok (.aload_n 0, 1) := by decide +kernel
theorem dX11_fault_1 : decode cX11_fault 1 = .ok (.getfield 135, 3) := by decide +kernel
theorem dX11_fault_4 : decode cX11_fault 4 = .ok (.ireturn, 1) := by decide +kernel
theorem dX11_told_0 : decode cX11_told 0 = .ok (.iload_n 1, 1) := by decide +kernel
theorem dX11_told_1 : decode cX11_told 1 = .ok (.i2l, 1) := by decide +kernel
theorem dX11_told_2 : decode cX11_told 2 = .ok (.lconst 0, 1) := by decide +kernel
theorem dX11_told_3 : decode cX11_told 3 = .ok (.ldc2_w 142, 3) := by decide +kernel
theorem dX11_told_6 : decode cX11_told 6 = .ok (.invokestatic 63, 3) := by decide +kernel
theorem dX11_told_9 : decode cX11_told 9 = .ok (.ifCond .eq 12, 3) := by decide +kernel
theorem dX11_told_12 : decode cX11_told 12 = .ok (.aload_n 0, 1) := by decide +kernel
theorem dX11_told_13 : decode cX11_told 13 = .ok (.getfield 22, 3) := by decide +kernel
theorem dX11_told_16 : decode cX11_told 16 = .ok (.iload_n 1, 1) := by decide +kernel
theorem dX11_told_17 : decode cX11_told 17 = .ok (.iaload, 1) := by decide +kernel
theorem dX11_told_18 : decode cX11_told 18 = .ok (.goto 4, 3) := by decide +kernel
theorem dX11_told_21 : decode cX11_told 21 = .ok (.iconst (-1), 1) := by decide +kernel
theorem dX11_told_22 : decode cX11_told 22 = .ok (.ireturn, 1) := by decide +kernel
theorem dX11_isParish_0 : decode cX11_isParish 0 = .ok (.iload_n 1, 1) := by decide +kernel
theorem dX11_isParish_1 : decode cX11_isParish 1 = .ok (.i2l, 1) := by decide +kernel
theorem dX11_isParish_2 : decode cX11_isParish 2 = .ok (.lconst 0, 1) := by decide +kernel
theorem dX11_isParish_3 : decode cX11_isParish 3 = .ok (.aload_n 0, 1) := by decide +kernel
theorem dX11_isParish_4 : decode cX11_isParish 4 = .ok (.getfield 22, 3) := by decide +kernel
theorem dX11_isParish_7 : decode cX11_isParish 7 = .ok (.iconst 0, 1) := by decide +kernel
theorem dX11_isParish_8 : decode cX11_isParish 8 = .ok (.iaload, 1) := by decide +kernel
theorem dX11_isParish_9 : decode cX11_isParish 9 = .ok (.iconst 1, 1) := by decide +kernel
theorem dX11_isParish_10 : decode cX11_isParish 10 = .ok (.isub, 1) := by decide +kernel
theorem dX11_isParish_11 : decode cX11_isParish 11 = .ok (.i2l, 1) := by decide +kernel
theorem dX11_isParish_12 : decode cX11_isParish 12 = .ok (.invokestatic 63, 3) := by decide +kernel
theorem dX11_isParish_15 : decode cX11_isParish 15 = .ok (.ireturn, 1) := by decide +kernel
theorem dX11_parishOf_0 : decode cX11_parishOf 0 = .ok (.aload_n 0, 1) := by decide +kernel
theorem dX11_parishOf_1 : decode cX11_parishOf 1 = .ok (.getfield 25, 3) := by decide +kernel
theorem dX11_parishOf_4 : decode cX11_parishOf 4 = .ok (.iconst 4, 1) := by decide +kernel
theorem dX11_parishOf_5 : decode cX11_parishOf 5 = .ok (.iload_n 1, 1) := by decide +kernel
theorem dX11_parishOf_6 : decode cX11_parishOf 6 = .ok (.imul, 1) := by decide +kernel
theorem dX11_parishOf_7 : decode cX11_parishOf 7 = .ok (.iload_n 2, 1) := by decide +kernel
theorem dX11_parishOf_8 : decode cX11_parishOf 8 = .ok (.iadd, 1) := by decide +kernel
theorem dX11_parishOf_9 : decode cX11_parishOf 9 = .ok (.iaload, 1) := by decide +kernel
theorem dX11_parishOf_10 : decode cX11_parishOf 10 = .ok (.ireturn, 1) := by decide +kernel
theorem dX11_parish_0 : decode cX11_parish 0 = .ok (.aload_n 0, 1) := by decide +kernel
theorem dX11_parish_1 : decode cX11_parish 1 = .ok (.iload_n 1, 1) := by decide +kernel
theorem dX11_parish_2 : decode cX11_parish 2 = .ok (.invokevirtual 144, 3) := by decide +kernel
theorem dX11_parish_5 : decode cX11_parish 5 = .ok (.ifCond .eq 15, 3) := by decide +kernel
theorem dX11_parish_8 : decode cX11_parish 8 = .ok (.iload_n 2, 1) := by decide +kernel
theorem dX11_parish_9 : decode cX11_parish 9 = .ok (.i2l, 1) := by decide +kernel
theorem dX11_parish_10 : decode cX11_parish 10 = .ok (.lconst 0, 1) := by decide +kernel
theorem dX11_parish_11 : decode cX11_parish 11 = .ok (.ldc2_w 148, 3) := by decide +kernel
theorem dX11_parish_14 : decode cX11_parish 14 = .ok (.invokestatic 63, 3) := by decide +kernel
theorem dX11_parish_17 : decode cX11_parish 17 = .ok (.ifCond .ne 5, 3) := by decide +kernel
theorem dX11_parish_20 : decode cX11_parish 20 = .ok (.iconst (-1), 1) := by decide +kernel
theorem dX11_parish_21 : decode cX11_parish 21 = .ok (.ireturn, 1) := by decide +kernel
theorem dX11_parish_22 : decode cX11_parish 22 = .ok (.iconst 0, 1) := by decide +kernel
theorem dX11_parish_23 : decode cX11_parish 23 = .ok (.istore_n 3, 1) := by decide +kernel
theorem dX11_parish_24 : decode cX11_parish 24 = .ok (.iconst 0, 1) := by decide +kernel
theorem dX11_parish_25 : decode cX11_parish 25 = .ok (.istore 4, 2) := by decide +kernel
theorem dX11_parish_27 : decode cX11_parish 27 = .ok (.iload 4, 2) := by decide +kernel
theorem dX11_parish_29 : decode cX11_parish 29 = .ok (.aload_n 0, 1) := by decide +kernel
theorem dX11_parish_30 : decode cX11_parish 30 = .ok (.invokevirtual 150, 3) := by decide +kernel
theorem dX11_parish_33 : decode cX11_parish 33 = .ok (.if_icmp .ge 28, 3) := by decide +kernel
theorem dX11_parish_36 : decode cX11_parish 36 = .ok (.iload_n 3, 1) := by decide +kernel
theorem dX11_parish_37 : decode cX11_parish 37 = .ok (.aload_n 0, 1) := by decide +kernel
theorem dX11_parish_38 : decode cX11_parish 38 = .ok (.iload 4, 2) := by decide +kernel
theorem dX11_parish_40 : decode cX11_parish 40 = .ok (.iconst 0, 1) := by decide +kernel
theorem dX11_parish_41 : decode cX11_parish 41 = .ok (.invokevirtual 153, 3) := by decide +kernel
theorem dX11_parish_44 : decode cX11_parish 44 = .ok (.iload_n 1, 1) := by decide +kernel
theorem dX11_parish_45 : decode cX11_parish 45 = .ok (.if_icmp .ne 7, 3) := by decide +kernel
theorem dX11_parish_48 : decode cX11_parish 48 = .ok (.iconst 1, 1) := by decide +kernel
theorem dX11_parish_49 : decode cX11_parish 49 = .ok (.goto 4, 3) := by decide +kernel
theorem dX11_parish_52 : decode cX11_parish 52 = .ok (.iconst 0, 1) := by decide +kernel
theorem dX11_parish_53 : decode cX11_parish 53 = .ok (.iadd, 1) := by decide +kernel
theorem dX11_parish_54 : decode cX11_parish 54 = .ok (.istore_n 3, 1) := by decide +kernel
theorem dX11_parish_55 : decode cX11_parish 55 = .ok (.iinc 4 1, 3) := by decide +kernel
theorem dX11_parish_58 : decode cX11_parish 58 = .ok (.goto (-31), 3) := by decide +kernel
theorem dX11_parish_61 : decode cX11_parish 61 = .ok (.iload_n 2, 1) := by decide +kernel
theorem dX11_parish_62 : decode cX11_parish 62 = .ok (.iconst 4, 1) := by decide +kernel
theorem dX11_parish_63 : decode cX11_parish 63 = .ok (.if_icmp .ge 12, 3) := by decide +kernel
theorem dX11_parish_66 : decode cX11_parish 66 = .ok (.aload_n 0, 1) := by decide +kernel
theorem dX11_parish_67 : decode cX11_parish 67 = .ok (.iload_n 1, 1) := by decide +kernel
theorem dX11_parish_68 : decode cX11_parish 68 = .ok (.iload_n 2, 1) := by decide +kernel
theorem dX11_parish_69 : decode cX11_parish 69 = .ok (.invokevirtual 156, 3) := by decide +kernel
theorem dX11_parish_72 : decode cX11_parish 72 = .ok (.goto 4, 3) := by decide +kernel
theorem dX11_parish_75 : decode cX11_parish 75 = .ok (.iload_n 3, 1) := by decide +kernel
theorem dX11_parish_76 : decode cX11_parish 76 = .ok (.ireturn, 1) := by decide +kernel
theorem dX11_isClerk_0 : decode cX11_isClerk 0 = .ok (.iload_n 1, 1) := by decide +kernel
theorem dX11_isClerk_1 : decode cX11_isClerk 1 = .ok (.i2l, 1) := by decide +kernel
theorem dX11_isClerk_2 : decode cX11_isClerk 2 = .ok (.lconst 0, 1) := by decide +kernel
theorem dX11_isClerk_3 : decode cX11_isClerk 3 = .ok (.aload_n 0, 1) := by decide +kernel
theorem dX11_isClerk_4 : decode cX11_isClerk 4 = .ok (.getfield 22, 3) := by decide +kernel
theorem dX11_isClerk_7 : decode cX11_isClerk 7 = .ok (.iconst 1, 1) := by decide +kernel
theorem dX11_isClerk_8 : decode cX11_isClerk 8 = .ok (.iaload, 1) := by decide +kernel
theorem dX11_isClerk_9 : decode cX11_isClerk 9 = .ok (.iconst 1, 1) := by decide +kernel
theorem dX11_isClerk_10 : decode cX11_isClerk 10 = .ok (.isub, 1) := by decide +kernel
theorem dX11_isClerk_11 : decode cX11_isClerk 11 = .ok (.i2l, 1) := by decide +kernel
theorem dX11_isClerk_12 : decode cX11_isClerk 12 = .ok (.invokestatic 63, 3) := by decide +kernel
theorem dX11_isClerk_15 : decode cX11_isClerk 15 = .ok (.ireturn, 1) := by decide +kernel
theorem dX11_clerk_0 : decode cX11_clerk 0 = .ok (.aload_n 0, 1) := by decide +kernel
theorem dX11_clerk_1 : decode cX11_clerk 1 = .ok (.iload_n 1, 1) := by decide +kernel
theorem dX11_clerk_2 : decode cX11_clerk 2 = .ok (.invokevirtual 159, 3) := by decide +kernel
theorem dX11_clerk_5 : decode cX11_clerk 5 = .ok (.ifCond .eq 15, 3) := by decide +kernel
theorem dX11_clerk_8 : decode cX11_clerk 8 = .ok (.iload_n 2, 1) := by decide +kernel
theorem dX11_clerk_9 : decode cX11_clerk 9 = .ok (.i2l, 1) := by decide +kernel
theorem dX11_clerk_10 : decode cX11_clerk 10 = .ok (.lconst 0, 1) := by decide +kernel
theorem dX11_clerk_11 : decode cX11_clerk 11 = .ok (.ldc2_w 162, 3) := by decide +kernel
theorem dX11_clerk_14 : decode cX11_clerk 14 = .ok (.invokestatic 63, 3) := by decide +kernel
theorem dX11_clerk_17 : decode cX11_clerk 17 = .ok (.ifCond .ne 5, 3) := by decide +kernel
theorem dX11_clerk_20 : decode cX11_clerk 20 = .ok (.iconst (-1), 1) := by decide +kernel
theorem dX11_clerk_21 : decode cX11_clerk 21 = .ok (.ireturn, 1) := by decide +kernel
theorem dX11_clerk_22 : decode cX11_clerk 22 = .ok (.iconst 0, 1) := by decide +kernel
theorem dX11_clerk_23 : decode cX11_clerk 23 = .ok (.istore_n 3, 1) := by decide +kernel
theorem dX11_clerk_24 : decode cX11_clerk 24 = .ok (.iconst 0, 1) := by decide +kernel
theorem dX11_clerk_25 : decode cX11_clerk 25 = .ok (.istore 4, 2) := by decide +kernel
theorem dX11_clerk_27 : decode cX11_clerk 27 = .ok (.iload 4, 2) := by decide +kernel
theorem dX11_clerk_29 : decode cX11_clerk 29 = .ok (.iconst 2, 1) := by decide +kernel
theorem dX11_clerk_30 : decode cX11_clerk 30 = .ok (.aload_n 0, 1) := by decide +kernel
theorem dX11_clerk_31 : decode cX11_clerk 31 = .ok (.invokevirtual 150, 3) := by decide +kernel
theorem dX11_clerk_34 : decode cX11_clerk 34 = .ok (.imul, 1) := by decide +kernel
theorem dX11_clerk_35 : decode cX11_clerk 35 = .ok (.if_icmp .ge 33, 3) := by decide +kernel
theorem dX11_clerk_38 : decode cX11_clerk 38 = .ok (.iload_n 3, 1) := by decide +kernel
theorem dX11_clerk_39 : decode cX11_clerk 39 = .ok (.aload_n 0, 1) := by decide +kernel
theorem dX11_clerk_40 : decode cX11_clerk 40 = .ok (.iload 4, 2) := by decide +kernel
theorem dX11_clerk_42 : decode cX11_clerk 42 = .ok (.iconst 2, 1) := by decide +kernel
theorem dX11_clerk_43 : decode cX11_clerk 43 = .ok (.idiv, 1) := by decide +kernel
theorem dX11_clerk_44 : decode cX11_clerk 44 = .ok (.iload 4, 2) := by decide +kernel
theorem dX11_clerk_46 : decode cX11_clerk 46 = .ok (.iconst 2, 1) := by decide +kernel
theorem dX11_clerk_47 : decode cX11_clerk 47 = .ok (.irem, 1) := by decide +kernel
theorem dX11_clerk_48 : decode cX11_clerk 48 = .ok (.invokevirtual 164, 3) := by decide +kernel
theorem dX11_clerk_51 : decode cX11_clerk 51 = .ok (.iload_n 1, 1) := by decide +kernel
theorem dX11_clerk_52 : decode cX11_clerk 52 = .ok (.if_icmp .ne 7, 3) := by decide +kernel
theorem dX11_clerk_55 : decode cX11_clerk 55 = .ok (.iconst 1, 1) := by decide +kernel
theorem dX11_clerk_56 : decode cX11_clerk 56 = .ok (.goto 4, 3) := by decide +kernel
theorem dX11_clerk_59 : decode cX11_clerk 59 = .ok (.iconst 0, 1) := by decide +kernel
theorem dX11_clerk_60 : decode cX11_clerk 60 = .ok (.iadd, 1) := by decide +kernel
theorem dX11_clerk_61 : decode cX11_clerk 61 = .ok (.istore_n 3, 1) := by decide +kernel
theorem dX11_clerk_62 : decode cX11_clerk 62 = .ok (.iinc 4 1, 3) := by decide +kernel
theorem dX11_clerk_65 : decode cX11_clerk 65 = .ok (.goto (-38), 3) := by decide +kernel
theorem dX11_clerk_68 : decode cX11_clerk 68 = .ok (.iload_n 2, 1) := by decide +kernel
theorem dX11_clerk_69 : decode cX11_clerk 69 = .ok (.iconst 5, 1) := by decide +kernel
theorem dX11_clerk_70 : decode cX11_clerk 70 = .ok (.if_icmp .ge 16, 3) := by decide +kernel
theorem dX11_clerk_73 : decode cX11_clerk 73 = .ok (.aload_n 0, 1) := by decide +kernel
theorem dX11_clerk_74 : decode cX11_clerk 74 = .ok (.getfield 28, 3) := by decide +kernel
theorem dX11_clerk_77 : decode cX11_clerk 77 = .ok (.iconst 5, 1) := by decide +kernel
theorem dX11_clerk_78 : decode cX11_clerk 78 = .ok (.iload_n 1, 1) := by decide +kernel
theorem dX11_clerk_79 : decode cX11_clerk 79 = .ok (.imul, 1) := by decide +kernel
theorem dX11_clerk_80 : decode cX11_clerk 80 = .ok (.iload_n 2, 1) := by decide +kernel
theorem dX11_clerk_81 : decode cX11_clerk 81 = .ok (.iadd, 1) := by decide +kernel
theorem dX11_clerk_82 : decode cX11_clerk 82 = .ok (.iaload, 1) := by decide +kernel
theorem dX11_clerk_83 : decode cX11_clerk 83 = .ok (.goto 4, 3) := by decide +kernel
theorem dX11_clerk_86 : decode cX11_clerk 86 = .ok (.iload_n 3, 1) := by decide +kernel
theorem dX11_clerk_87 : decode cX11_clerk 87 = .ok (.ireturn, 1) := by decide +kernel
theorem dX11_size_0 : decode cX11_size 0 = .ok (.aload_n 0, 1) := by decide +kernel
theorem dX11_size_1 : decode cX11_size 1 = .ok (.getfield 40, 3) := by decide +kernel
theorem dX11_size_4 : decode cX11_size 4 = .ok (.sipush 650, 3) := by decide +kernel
theorem dX11_size_7 : decode cX11_size 7 = .ok (.iaload, 1) := by decide +kernel
theorem dX11_size_8 : decode cX11_size 8 = .ok (.ireturn, 1) := by decide +kernel
theorem dX11_its_0 : decode cX11_its 0 = .ok (.aload_n 0, 1) := by decide +kernel
theorem dX11_its_1 : decode cX11_its 1 = .ok (.getfield 40, 3) := by decide +kernel
theorem dX11_its_4 : decode cX11_its 4 = .ok (.bipush 16, 2) := by decide +kernel
theorem dX11_its_6 : decode cX11_its 6 = .ok (.iload_n 1, 1) := by decide +kernel
theorem dX11_its_7 : decode cX11_its 7 = .ok (.imul, 1) := by decide +kernel
theorem dX11_its_8 : decode cX11_its 8 = .ok (.iload_n 2, 1) := by decide +kernel
theorem dX11_its_9 : decode cX11_its 9 = .ok (.iadd, 1) := by decide +kernel
theorem dX11_its_10 : decode cX11_its 10 = .ok (.iaload, 1) := by decide +kernel
theorem dX11_its_11 : decode cX11_its 11 = .ok (.ireturn, 1) := by decide +kernel
theorem dX11_of5_0 : decode cX11_of5 0 = .ok (.aload_n 0, 1) := by decide +kernel
theorem dX11_of5_1 : decode cX11_of5 1 = .ok (.getfield 40, 3) := by decide +kernel
theorem dX11_of5_4 : decode cX11_of5 4 = .ok (.bipush 16, 2) := by decide +kernel
theorem dX11_of5_6 : decode cX11_of5 6 = .ok (.iload_n 1, 1) := by decide +kernel
theorem dX11_of5_7 : decode cX11_of5 7 = .ok (.imul, 1) := by decide +kernel
theorem dX11_of5_8 : decode cX11_of5 8 = .ok (.iconst 3, 1) := by decide +kernel
theorem dX11_of5_9 : decode cX11_of5 9 = .ok (.iadd, 1) := by decide +kernel
theorem dX11_of5_10 : decode cX11_of5 10 = .ok (.iconst 5, 1) := by decide +kernel
theorem dX11_of5_11 : decode cX11_of5 11 = .ok (.iload_n 2, 1) := by decide +kernel
theorem dX11_of5_12 : decode cX11_of5 12 = .ok (.imul, 1) := by decide +kernel
theorem dX11_of5_13 : decode cX11_of5 13 = .ok (.iadd, 1) := by decide +kernel
theorem dX11_of5_14 : decode cX11_of5 14 = .ok (.iload_n 3, 1) := by decide +kernel
theorem dX11_of5_15 : decode cX11_of5 15 = .ok (.iadd, 1) := by decide +kernel
theorem dX11_of5_16 : decode cX11_of5 16 = .ok (.iaload, 1) := by decide +kernel
theorem dX11_of5_17 : decode cX11_of5 17 = .ok (.ireturn, 1) := by decide +kernel
theorem dX11_setChoice_0 : decode cX11_setChoice 0 = .ok (.sipush 640, 3) := by decide +kernel
theorem dX11_setChoice_3 : decode cX11_setChoice 3 = .ok (.iconst 5, 1) := by decide +kernel
theorem dX11_setChoice_4 : decode cX11_setChoice 4 = .ok (.iload_n 1, 1) := by decide +kernel
theorem dX11_setChoice_5 : decode cX11_setChoice 5 = .ok (.imul, 1) := by decide +kernel
theorem dX11_setChoice_6 : decode cX11_setChoice 6 = .ok (.iadd, 1) := by decide +kernel
theorem dX11_setChoice_7 : decode cX11_setChoice 7 = .ok (.istore 7, 2) := by decide +kernel
theorem dX11_setChoice_9 : decode cX11_setChoice 9 = .ok (.aload_n 0, 1) := by decide +kernel
theorem dX11_setChoice_10 : decode cX11_setChoice 10 = .ok (.getfield 40, 3) := by decide +kernel
theorem dX11_setChoice_13 : decode cX11_setChoice 13 = .ok (.iload 7, 2) := by decide +kernel
theorem dX11_setChoice_15 : decode cX11_setChoice 15 = .ok (.iload_n 2, 1) := by decide +kernel
theorem dX11_setChoice_16 : decode cX11_setChoice 16 = .ok (.iastore, 1) := by decide +kernel
theorem dX11_setChoice_17 : decode cX11_setChoice 17 = .ok (.aload_n 0, 1) := by decide +kernel
theorem dX11_setChoice_18 : decode cX11_setChoice 18 = .ok (.getfield 40, 3) := by decide +kernel
theorem dX11_setChoice_21 : decode cX11_setChoice 21 = .ok (.iload 7, 2) := by decide +kernel
theorem dX11_setChoice_23 : decode cX11_setChoice 23 = .ok (.iconst 1, 1) := by decide +kernel
theorem dX11_setChoice_24 : decode cX11_setChoice 24 = .ok (.iadd, 1) := by decide +kernel
theorem dX11_setChoice_25 : decode cX11_setChoice 25 = .ok (.iload_n 3, 1) := by decide +kernel
theorem dX11_setChoice_26 : decode cX11_setChoice 26 = .ok (.iastore, 1) := by decide +kernel
theorem dX11_setChoice_27 : decode cX11_setChoice 27 = .ok (.aload_n 0, 1) := by decide +kernel
theorem dX11_setChoice_28 : decode cX11_setChoice 28 = .ok (.getfield 40, 3) := by decide +kernel
theorem dX11_setChoice_31 : decode cX11_setChoice 31 = .ok (.iload 7, 2) := by decide +kernel
theorem dX11_setChoice_33 : decode cX11_setChoice 33 = .ok (.iconst 2, 1) := by decide +kernel
theorem dX11_setChoice_34 : decode cX11_setChoice 34 = .ok (.iadd, 1) := by decide +kernel
theorem dX11_setChoice_35 : decode cX11_setChoice 35 = .ok (.iload 4, 2) := by decide +kernel
theorem dX11_setChoice_37 : decode cX11_setChoice 37 = .ok (.iastore, 1) := by decide +kernel
theorem dX11_setChoice_38 : decode cX11_setChoice 38 = .ok (.aload_n 0, 1) := by decide +kernel
theorem dX11_setChoice_39 : decode cX11_setChoice 39 = .ok (.getfield 40, 3) := by decide +kernel
theorem dX11_setChoice_42 : decode cX11_setChoice 42 = .ok (.iload 7, 2) := by decide +kernel
theorem dX11_setChoice_44 : decode cX11_setChoice 44 = .ok (.iconst 3, 1) := by decide +kernel
theorem dX11_setChoice_45 : decode cX11_setChoice 45 = .ok (.iadd, 1) := by decide +kernel
theorem dX11_setChoice_46 : decode cX11_setChoice 46 = .ok (.iload 5, 2) := by decide +kernel
theorem dX11_setChoice_48 : decode cX11_setChoice 48 = .ok (.iastore, 1) := by decide +kernel
theorem dX11_setChoice_49 : decode cX11_setChoice 49 = .ok (.aload_n 0, 1) := by decide +kernel
theorem dX11_setChoice_50 : decode cX11_setChoice 50 = .ok (.getfield 40, 3) := by decide +kernel
theorem dX11_setChoice_53 : decode cX11_setChoice 53 = .ok (.iload 7, 2) := by decide +kernel
theorem dX11_setChoice_55 : decode cX11_setChoice 55 = .ok (.iconst 4, 1) := by decide +kernel
theorem dX11_setChoice_56 : decode cX11_setChoice 56 = .ok (.iadd, 1) := by decide +kernel
theorem dX11_setChoice_57 : decode cX11_setChoice 57 = .ok (.iload 6, 2) := by decide +kernel
theorem dX11_setChoice_59 : decode cX11_setChoice 59 = .ok (.iastore, 1) := by decide +kernel
theorem dX11_setChoice_60 : decode cX11_setChoice 60 = .ok (.aload_n 0, 1) := by decide +kernel
theorem dX11_setChoice_61 : decode cX11_setChoice 61 = .ok (.iconst 1, 1) := by decide +kernel
theorem dX11_setChoice_62 : decode cX11_setChoice 62 = .ok (.putfield 167, 3) := by decide +kernel
theorem dX11_setChoice_65 : decode cX11_setChoice 65 = .ok (.return_, 1) := by decide +kernel
theorem dX11_awake_0 : decode cX11_awake 0 = .ok (.aload_n 0, 1) := by decide +kernel
theorem dX11_awake_1 : decode cX11_awake 1 = .ok (.getfield 167, 3) := by decide +kernel
theorem dX11_awake_4 : decode cX11_awake 4 = .ok (.ifCond .ne 29, 3) := by decide +kernel
theorem dX11_awake_7 : decode cX11_awake 7 = .ok (.aload_n 0, 1) := by decide +kernel
theorem dX11_awake_8 : decode cX11_awake 8 = .ok (.iconst 0, 1) := by decide +kernel
theorem dX11_awake_9 : decode cX11_awake 9 = .ok (.iconst 0, 1) := by decide +kernel
theorem dX11_awake_10 : decode cX11_awake 10 = .ok (.iconst 0, 1) := by decide +kernel
theorem dX11_awake_11 : decode cX11_awake 11 = .ok (.bipush 89, 2) := by decide +kernel
theorem dX11_awake_13 : decode cX11_awake 13 = .ok (.iconst 3, 1) := by decide +kernel
theorem dX11_awake_14 : decode cX11_awake 14 = .ok (.sipush 255, 3) := by decide +kernel
theorem dX11_awake_17 : decode cX11_awake 17 = .ok (.invokevirtual 138, 3) := by decide +kernel
theorem dX11_awake_20 : decode cX11_awake 20 = .ok (.aload_n 0, 1) := by decide +kernel
theorem dX11_awake_21 : decode cX11_awake 21 = .ok (.iconst 1, 1) := by decide +kernel
theorem dX11_awake_22 : decode cX11_awake 22 = .ok (.iconst 0, 1) := by decide +kernel
theorem dX11_awake_23 : decode cX11_awake 23 = .ok (.iconst 0, 1) := by decide +kernel
theorem dX11_awake_24 : decode cX11_awake 24 = .ok (.bipush 89, 2) := by decide +kernel
theorem dX11_awake_26 : decode cX11_awake 26 = .ok (.iconst 3, 1) := by decide +kernel
theorem dX11_awake_27 : decode cX11_awake 27 = .ok (.sipush 255, 3) := by decide +kernel
theorem dX11_awake_30 : decode cX11_awake 30 = .ok (.invokevirtual 138, 3) := by decide +kernel
theorem dX11_awake_33 : decode cX11_awake 33 = .ok (.return_, 1) := by decide +kernel
theorem dX11_isMarry_0 : decode cX11_isMarry 0 = .ok (.aload_n 0, 1) := by decide +kernel
theorem dX11_isMarry_1 : decode cX11_isMarry 1 = .ok (.iload_n 1, 1) := by decide +kernel
theorem dX11_isMarry_2 : decode cX11_isMarry 2 = .ok (.invokevirtual 144, 3) := by decide +kernel
theorem dX11_isMarry_5 : decode cX11_isMarry 5 = .ok (.ifCond .eq 53, 3) := by decide +kernel
theorem dX11_isMarry_8 : decode cX11_isMarry 8 = .ok (.iload_n 2, 1) := by decide +kernel
theorem dX11_isMarry_9 : decode cX11_isMarry 9 = .ok (.i2l, 1) := by decide +kernel
theorem dX11_isMarry_10 : decode cX11_isMarry 10 = .ok (.lconst 0, 1) := by decide +kernel
theorem dX11_isMarry_11 : decode cX11_isMarry 11 = .ok (.ldc2_w 171, 3) := by decide +kernel
theorem dX11_isMarry_14 : decode cX11_isMarry 14 = .ok (.invokestatic 63, 3) := by decide +kernel
theorem dX11_isMarry_17 : decode cX11_isMarry 17 = .ok (.ifCond .eq 41, 3) := by decide +kernel
theorem dX11_isMarry_20 : decode cX11_isMarry 20 = .ok (.iload_n 3, 1) := by decide +kernel
theorem dX11_isMarry_21 : decode cX11_isMarry 21 = .ok (.i2l, 1) := by decide +kernel
theorem dX11_isMarry_22 : decode cX11_isMarry 22 = .ok (.lconst 0, 1) := by decide +kernel
theorem dX11_isMarry_23 : decode cX11_isMarry 23 = .ok (.ldc2_w 173, 3) := by decide +kernel
theorem dX11_isMarry_26 : decode cX11_isMarry 26 = .ok (.invokestatic 63, 3) := by decide +kernel
theorem dX11_isMarry_29 : decode cX11_isMarry 29 = .ok (.ifCond .eq 29, 3) := by decide +kernel
theorem dX11_isMarry_32 : decode cX11_isMarry 32 = .ok (.iload 4, 2) := by decide +kernel
theorem dX11_isMarry_34 : decode cX11_isMarry 34 = .ok (.i2l, 1) := by decide +kernel
theorem dX11_isMarry_35 : decode cX11_isMarry 35 = .ok (.lconst 0, 1) := by decide +kernel
theorem dX11_isMarry_36 : decode cX11_isMarry 36 = .ok (.lconst 1, 1) := by decide +kernel
theorem dX11_isMarry_37 : decode cX11_isMarry 37 = .ok (.invokestatic 63, 3) := by decide +kernel
theorem dX11_isMarry_40 : decode cX11_isMarry 40 = .ok (.ifCond .eq 18, 3) := by decide +kernel
theorem dX11_isMarry_43 : decode cX11_isMarry 43 = .ok (.iload 5, 2) := by decide +kernel
theorem dX11_isMarry_45 : decode cX11_isMarry 45 = .ok (.i2l, 1) := by decide +kernel
theorem dX11_isMarry_46 : decode cX11_isMarry 46 = .ok (.lconst 0, 1) := by decide +kernel
theorem dX11_isMarry_47 : decode cX11_isMarry 47 = .ok (.lconst 1, 1) := by decide +kernel
theorem dX11_isMarry_48 : decode cX11_isMarry 48 = .ok (.invokestatic 63, 3) := by decide +kernel
theorem dX11_isMarry_51 : decode cX11_isMarry 51 = .ok (.ifCond .eq 7, 3) := by decide +kernel
theorem dX11_isMarry_54 : decode cX11_isMarry 54 = .ok (.iconst 1, 1) := by decide +kernel
theorem dX11_isMarry_55 : decode cX11_isMarry 55 = .ok (.goto 4, 3) := by decide +kernel
theorem dX11_isMarry_58 : decode cX11_isMarry 58 = .ok (.iconst 0, 1) := by decide +kernel
theorem dX11_isMarry_59 : decode cX11_isMarry 59 = .ok (.ireturn, 1) := by decide +kernel
theorem dX11_adds_0 : decode cX11_adds 0 = .ok (.bipush 16, 2) := by decide +kernel
theorem dX11_adds_2 : decode cX11_adds 2 = .ok (.aload_n 0, 1) := by decide +kernel
theorem dX11_adds_3 : decode cX11_adds 3 = .ok (.invokevirtual 150, 3) := by decide +kernel
theorem dX11_adds_6 : decode cX11_adds 6 = .ok (.imul, 1) := by decide +kernel
theorem dX11_adds_7 : decode cX11_adds 7 = .ok (.istore 6, 2) := by decide +kernel
theorem dX11_adds_9 : decode cX11_adds 9 = .ok (.iconst 0, 1) := by decide +kernel
theorem dX11_adds_10 : decode cX11_adds 10 = .ok (.istore 7, 2) := by decide +kernel
theorem dX11_adds_12 : decode cX11_adds 12 = .ok (.iload 7, 2) := by decide +kernel
theorem dX11_adds_14 : decode cX11_adds 14 = .ok (.bipush 16, 2) := by decide +kernel
theorem dX11_adds_16 : decode cX11_adds 16 = .ok (.if_icmp .ge 20, 3) := by decide +kernel
theorem dX11_adds_19 : decode cX11_adds 19 = .ok (.aload_n 0, 1) := by decide +kernel
theorem dX11_adds_20 : decode cX11_adds 20 = .ok (.getfield 40, 3) := by decide +kernel
theorem dX11_adds_23 : decode cX11_adds 23 = .ok (.iload 6, 2) := by decide +kernel
theorem dX11_adds_25 : decode cX11_adds 25 = .ok (.iload 7, 2) := by decide +kernel
theorem dX11_adds_27 : decode cX11_adds 27 = .ok (.iadd, 1) := by decide +kernel
theorem dX11_adds_28 : decode cX11_adds 28 = .ok (.iconst 0, 1) := by decide +kernel
theorem dX11_adds_29 : decode cX11_adds 29 = .ok (.iastore, 1) := by decide +kernel
theorem dX11_adds_30 : decode cX11_adds 30 = .ok (.iinc 7 1, 3) := by decide +kernel
theorem dX11_adds_33 : decode cX11_adds 33 = .ok (.goto (-21), 3) := by decide +kernel
theorem dX11_adds_36 : decode cX11_adds 36 = .ok (.aload_n 0, 1) := by decide +kernel
theorem dX11_adds_37 : decode cX11_adds 37 = .ok (.getfield 40, 3) := by decide +kernel
theorem dX11_adds_40 : decode cX11_adds 40 = .ok (.iload 6, 2) := by decide +kernel
theorem dX11_adds_42 : decode cX11_adds 42 = .ok (.iload_n 1, 1) := by decide +kernel
theorem dX11_adds_43 : decode cX11_adds 43 = .ok (.iastore, 1) := by decide +kernel
theorem dX11_adds_44 : decode cX11_adds 44 = .ok (.aload_n 0, 1) := by decide +kernel
theorem dX11_adds_45 : decode cX11_adds 45 = .ok (.getfield 40, 3) := by decide +kernel
theorem dX11_adds_48 : decode cX11_adds 48 = .ok (.iload 6, 2) := by decide +kernel
theorem dX11_adds_50 : decode cX11_adds 50 = .ok (.iconst 1, 1) := by decide +kernel
theorem dX11_adds_51 : decode cX11_adds 51 = .ok (.iadd, 1) := by decide +kernel
theorem dX11_adds_52 : decode cX11_adds 52 = .ok (.iload_n 2, 1) := by decide +kernel
theorem dX11_adds_53 : decode cX11_adds 53 = .ok (.iastore, 1) := by decide +kernel
theorem dX11_adds_54 : decode cX11_adds 54 = .ok (.aload_n 0, 1) := by decide +kernel
theorem dX11_adds_55 : decode cX11_adds 55 = .ok (.getfield 40, 3) := by decide +kernel
theorem dX11_adds_58 : decode cX11_adds 58 = .ok (.iload 6, 2) := by decide +kernel
theorem dX11_adds_60 : decode cX11_adds 60 = .ok (.iconst 2, 1) := by decide +kernel
theorem dX11_adds_61 : decode cX11_adds 61 = .ok (.iadd, 1) := by decide +kernel
theorem dX11_adds_62 : decode cX11_adds 62 = .ok (.iload_n 3, 1) := by decide +kernel
theorem dX11_adds_63 : decode cX11_adds 63 = .ok (.iastore, 1) := by decide +kernel
theorem dX11_adds_64 : decode cX11_adds 64 = .ok (.aload_n 0, 1) := by decide +kernel
theorem dX11_adds_65 : decode cX11_adds 65 = .ok (.getfield 40, 3) := by decide +kernel
theorem dX11_adds_68 : decode cX11_adds 68 = .ok (.iload 6, 2) := by decide +kernel
theorem dX11_adds_70 : decode cX11_adds 70 = .ok (.iconst 3, 1) := by decide +kernel
theorem dX11_adds_71 : decode cX11_adds 71 = .ok (.iadd, 1) := by decide +kernel
theorem dX11_adds_72 : decode cX11_adds 72 = .ok (.iload 4, 2) := by decide +kernel
theorem dX11_adds_74 : decode cX11_adds 74 = .ok (.iastore, 1) := by decide +kernel
theorem dX11_adds_75 : decode cX11_adds 75 = .ok (.aload_n 0, 1) := by decide +kernel
theorem dX11_adds_76 : decode cX11_adds 76 = .ok (.getfield 40, 3) := by decide +kernel
theorem dX11_adds_79 : decode cX11_adds 79 = .ok (.iload 6, 2) := by decide +kernel
theorem dX11_adds_81 : decode cX11_adds 81 = .ok (.bipush 8, 2) := by decide +kernel
theorem dX11_adds_83 : decode cX11_adds 83 = .ok (.iadd, 1) := by decide +kernel
theorem dX11_adds_84 : decode cX11_adds 84 = .ok (.iload 5, 2) := by decide +kernel
theorem dX11_adds_86 : decode cX11_adds 86 = .ok (.iastore, 1) := by decide +kernel
theorem dX11_adds_87 : decode cX11_adds 87 = .ok (.aload_n 0, 1) := by decide +kernel
theorem dX11_adds_88 : decode cX11_adds 88 = .ok (.getfield 40, 3) := by decide +kernel
theorem dX11_adds_91 : decode cX11_adds 91 = .ok (.iload 6, 2) := by decide +kernel
theorem dX11_adds_93 : decode cX11_adds 93 = .ok (.iconst 3, 1) := by decide +kernel
theorem dX11_adds_94 : decode cX11_adds 94 = .ok (.iadd, 1) := by decide +kernel
theorem dX11_adds_95 : decode cX11_adds 95 = .ok (.iconst 4, 1) := by decide +kernel
theorem dX11_adds_96 : decode cX11_adds 96 = .ok (.iadd, 1) := by decide +kernel
theorem dX11_adds_97 : decode cX11_adds 97 = .ok (.iconst 1, 1) := by decide +kernel
theorem dX11_adds_98 : decode cX11_adds 98 = .ok (.iastore, 1) := by decide +kernel
theorem dX11_adds_99 : decode cX11_adds 99 = .ok (.aload_n 0, 1) := by decide +kernel
theorem dX11_adds_100 : decode cX11_adds 100 = .ok (.getfield 40, 3) := by decide +kernel
theorem dX11_adds_103 : decode cX11_adds 103 = .ok (.iload 6, 2) := by decide +kernel
theorem dX11_adds_105 : decode cX11_adds 105 = .ok (.bipush 8, 2) := by decide +kernel
theorem dX11_adds_107 : decode cX11_adds 107 = .ok (.iadd, 1) := by decide +kernel
theorem dX11_adds_108 : decode cX11_adds 108 = .ok (.iconst 4, 1) := by decide +kernel
theorem dX11_adds_109 : decode cX11_adds 109 = .ok (.iadd, 1) := by decide +kernel
theorem dX11_adds_110 : decode cX11_adds 110 = .ok (.iconst 1, 1) := by decide +kernel
theorem dX11_adds_111 : decode cX11_adds 111 = .ok (.iastore, 1) := by decide +kernel
theorem dX11_adds_112 : decode cX11_adds 112 = .ok (.aload_n 0, 1) := by decide +kernel
theorem dX11_adds_113 : decode cX11_adds 113 = .ok (.getfield 40, 3) := by decide +kernel
theorem dX11_adds_116 : decode cX11_adds 116 = .ok (.sipush 650, 3) := by decide +kernel
theorem dX11_adds_119 : decode cX11_adds 119 = .ok (.dup2, 1) := by decide +kernel
theorem dX11_adds_120 : decode cX11_adds 120 = .ok (.iaload, 1) := by decide +kernel
theorem dX11_adds_121 : decode cX11_adds 121 = .ok (.iconst 1, 1) := by decide +kernel
theorem dX11_adds_122 : decode cX11_adds 122 = .ok (.iadd, 1) := by decide +kernel
theorem dX11_adds_123 : decode cX11_adds 123 = .ok (.iastore, 1) := by decide +kernel
theorem dX11_adds_124 : decode cX11_adds 124 = .ok (.return_, 1) := by decide +kernel
theorem dX11_marry_0 : decode cX11_marry 0 = .ok (.aload_n 0, 1) := by decide +kernel
theorem dX11_marry_1 : decode cX11_marry 1 = .ok (.iload_n 1, 1) := by decide +kernel
theorem dX11_marry_2 : decode cX11_marry 2 = .ok (.iload_n 2, 1) := by decide +kernel
theorem dX11_marry_3 : decode cX11_marry 3 = .ok (.iload_n 3, 1) := by decide +kernel
theorem dX11_marry_4 : decode cX11_marry 4 = .ok (.iload 4, 2) := by decide +kernel
theorem dX11_marry_6 : decode cX11_marry 6 = .ok (.iload 5, 2) := by decide +kernel
theorem dX11_marry_8 : decode cX11_marry 8 = .ok (.invokevirtual 175, 3) := by decide +kernel
theorem dX11_marry_11 : decode cX11_marry 11 = .ok (.ifCond .ne 5, 3) := by decide +kernel
theorem dX11_marry_14 : decode cX11_marry 14 = .ok (.iconst (-1), 1) := by decide +kernel
theorem dX11_marry_15 : decode cX11_marry 15 = .ok (.ireturn, 1) := by decide +kernel
theorem dX11_marry_16 : decode cX11_marry 16 = .ok (.aload_n 0, 1) := by decide +kernel
theorem dX11_marry_17 : decode cX11_marry 17 = .ok (.invokevirtual 150, 3) := by decide +kernel
theorem dX11_marry_20 : decode cX11_marry 20 = .ok (.bipush 40, 2) := by decide +kernel
theorem dX11_marry_22 : decode cX11_marry 22 = .ok (.if_icmp .ne 6, 3) := by decide +kernel
theorem dX11_marry_25 : decode cX11_marry 25 = .ok (.bipush (-3), 2) := by decide +kernel
theorem dX11_marry_27 : decode cX11_marry 27 = .ok (.ireturn, 1) := by decide +kernel
theorem dX11_marry_28 : decode cX11_marry 28 = .ok (.aload_n 0, 1) := by decide +kernel
theorem dX11_marry_29 : decode cX11_marry 29 = .ok (.iload_n 1, 1) := by decide +kernel
theorem dX11_marry_30 : decode cX11_marry 30 = .ok (.iload_n 2, 1) := by decide +kernel
theorem dX11_marry_31 : decode cX11_marry 31 = .ok (.iload_n 3, 1) := by decide +kernel
theorem dX11_marry_32 : decode cX11_marry 32 = .ok (.iload 4, 2) := by decide +kernel
theorem dX11_marry_34 : decode cX11_marry 34 = .ok (.iload 5, 2) := by decide +kernel
theorem dX11_marry_36 : decode cX11_marry 36 = .ok (.invokevirtual 179, 3) := by decide +kernel
theorem dX11_marry_39 : decode cX11_marry 39 = .ok (.aload_n 0, 1) := by decide +kernel
theorem dX11_marry_40 : decode cX11_marry 40 = .ok (.invokevirtual 150, 3) := by decide +kernel
theorem dX11_marry_43 : decode cX11_marry 43 = .ok (.iconst 1, 1) := by decide +kernel
theorem dX11_marry_44 : decode cX11_marry 44 = .ok (.isub, 1) := by decide +kernel
theorem dX11_marry_45 : decode cX11_marry 45 = .ok (.ireturn, 1) := by decide +kernel
theorem dX11_isMark_0 : decode cX11_isMark 0 = .ok (.iload_n 1, 1) := by decide +kernel
theorem dX11_isMark_1 : decode cX11_isMark 1 = .ok (.i2l, 1) := by decide +kernel
theorem dX11_isMark_2 : decode cX11_isMark 2 = .ok (.lconst 0, 1) := by decide +kernel
theorem dX11_isMark_3 : decode cX11_isMark 3 = .ok (.aload_n 0, 1) := by decide +kernel
theorem dX11_isMark_4 : decode cX11_isMark 4 = .ok (.invokevirtual 150, 3) := by decide +kernel
theorem dX11_isMark_7 : decode cX11_isMark 7 = .ok (.iconst 1, 1) := by decide +kernel
theorem dX11_isMark_8 : decode cX11_isMark 8 = .ok (.isub, 1) := by decide +kernel
theorem dX11_isMark_9 : decode cX11_isMark 9 = .ok (.i2l, 1) := by decide +kernel
theorem dX11_isMark_10 : decode cX11_isMark 10 = .ok (.invokestatic 63, 3) := by decide +kernel
theorem dX11_isMark_13 : decode cX11_isMark 13 = .ok (.ifCond .eq 17, 3) := by decide +kernel
theorem dX11_isMark_16 : decode cX11_isMark 16 = .ok (.iload_n 2, 1) := by decide +kernel
theorem dX11_isMark_17 : decode cX11_isMark 17 = .ok (.i2l, 1) := by decide +kernel
theorem dX11_isMark_18 : decode cX11_isMark 18 = .ok (.lconst 0, 1) := by decide +kernel
theorem dX11_isMark_19 : decode cX11_isMark 19 = .ok (.lconst 1, 1) := by decide +kernel
theorem dX11_isMark_20 : decode cX11_isMark 20 = .ok (.invokestatic 63, 3) := by decide +kernel
theorem dX11_isMark_23 : decode cX11_isMark 23 = .ok (.ifCond .eq 7, 3) := by decide +kernel
theorem dX11_isMark_26 : decode cX11_isMark 26 = .ok (.iconst 1, 1) := by decide +kernel
theorem dX11_isMark_27 : decode cX11_isMark 27 = .ok (.goto 4, 3) := by decide +kernel
theorem dX11_isMark_30 : decode cX11_isMark 30 = .ok (.iconst 0, 1) := by decide +kernel
theorem dX11_isMark_31 : decode cX11_isMark 31 = .ok (.ireturn, 1) := by decide +kernel
theorem dX11_isValue_0 : decode cX11_isValue 0 = .ok (.iload_n 0, 1) := by decide +kernel
theorem dX11_isValue_1 : decode cX11_isValue 1 = .ok (.tableswitch 87 0 4 #[35, 43, 67, 77, 35], 35) := by decide +kernel
theorem dX11_isValue_36 : decode cX11_isValue 36 = .ok (.iload_n 1, 1) := by decide +kernel
theorem dX11_isValue_37 : decode cX11_isValue 37 = .ok (.i2l, 1) := by decide +kernel
theorem dX11_isValue_38 : decode cX11_isValue 38 = .ok (.lconst 0, 1) := by decide +kernel
theorem dX11_isValue_39 : decode cX11_isValue 39 = .ok (.lconst 1, 1) := by decide +kernel
theorem dX11_isValue_40 : decode cX11_isValue 40 = .ok (.invokestatic 63, 3) := by decide +kernel
theorem dX11_isValue_43 : decode cX11_isValue 43 = .ok (.ireturn, 1) := by decide +kernel
theorem dX11_isValue_44 : decode cX11_isValue 44 = .ok (.iload_n 1, 1) := by decide +kernel
theorem dX11_isValue_45 : decode cX11_isValue 45 = .ok (.ifCond .eq 17, 3) := by decide +kernel
theorem dX11_isValue_48 : decode cX11_isValue 48 = .ok (.iload_n 1, 1) := by decide +kernel
theorem dX11_isValue_49 : decode cX11_isValue 49 = .ok (.i2l, 1) := by decide +kernel
theorem dX11_isValue_50 : decode cX11_isValue 50 = .ok (.ldc2_w 183, 3) := by decide +kernel
theorem dX11_isValue_53 : decode cX11_isValue 53 = .ok (.ldc2_w 185, 3) := by decide +kernel
theorem dX11_isValue_56 : decode cX11_isValue 56 = .ok (.invokestatic 63, 3) := by decide +kernel
theorem dX11_isValue_59 : decode cX11_isValue 59 = .ok (.ifCond .eq 7, 3) := by decide +kernel
theorem dX11_isValue_62 : decode cX11_isValue 62 = .ok (.iconst 1, 1) := by decide +kernel
theorem dX11_isValue_63 : decode cX11_isValue 63 = .ok (.goto 4, 3) := by decide +kernel
theorem dX11_isValue_66 : decode cX11_isValue 66 = .ok (.iconst 0, 1) := by decide +kernel
theorem dX11_isValue_67 : decode cX11_isValue 67 = .ok (.ireturn, 1) := by decide +kernel
theorem dX11_isValue_68 : decode cX11_isValue 68 = .ok (.iload_n 1, 1) := by decide +kernel
theorem dX11_isValue_69 : decode cX11_isValue 69 = .ok (.i2l, 1) := by decide +kernel
theorem dX11_isValue_70 : decode cX11_isValue 70 = .ok (.lconst 0, 1) := by decide +kernel
theorem dX11_isValue_71 : decode cX11_isValue 71 = .ok (.ldc2_w 187, 3) := by decide +kernel
theorem dX11_isValue_74 : decode cX11_isValue 74 = .ok (.invokestatic 63, 3) := by decide +kernel
theorem dX11_isValue_77 : decode cX11_isValue 77 = .ok (.ireturn, 1) := by decide +kernel
theorem dX11_isValue_78 : decode cX11_isValue 78 = .ok (.iload_n 1, 1) := by decide +kernel
theorem dX11_isValue_79 : decode cX11_isValue 79 = .ok (.i2l, 1) := by decide +kernel
theorem dX11_isValue_80 : decode cX11_isValue 80 = .ok (.lconst 0, 1) := by decide +kernel
theorem dX11_isValue_81 : decode cX11_isValue 81 = .ok (.ldc2_w 189, 3) := by decide +kernel
theorem dX11_isValue_84 : decode cX11_isValue 84 = .ok (.invokestatic 63, 3) := by decide +kernel
theorem dX11_isValue_87 : decode cX11_isValue 87 = .ok (.ireturn, 1) := by decide +kernel
theorem dX11_isValue_88 : decode cX11_isValue 88 = .ok (.iconst 0, 1) := by decide +kernel
theorem dX11_isValue_89 : decode cX11_isValue 89 = .ok (.ireturn, 1) := by decide +kernel
theorem dX11_set_0 : decode cX11_set 0 = .ok (.aload_n 0, 1) := by decide +kernel
theorem dX11_set_1 : decode cX11_set 1 = .ok (.iload_n 1, 1) := by decide +kernel
theorem dX11_set_2 : decode cX11_set 2 = .ok (.iload_n 2, 1) := by decide +kernel
theorem dX11_set_3 : decode cX11_set 3 = .ok (.invokevirtual 191, 3) := by decide +kernel
theorem dX11_set_6 : decode cX11_set 6 = .ok (.ifCond .eq 12, 3) := by decide +kernel
theorem dX11_set_9 : decode cX11_set 9 = .ok (.iload_n 3, 1) := by decide +kernel
theorem dX11_set_10 : decode cX11_set 10 = .ok (.iload 4, 2) := by decide +kernel
theorem dX11_set_12 : decode cX11_set 12 = .ok (.invokestatic 195, 3) := by decide +kernel
theorem dX11_set_15 : decode cX11_set 15 = .ok (.ifCond .ne 5, 3) := by decide +kernel
theorem dX11_set_18 : decode cX11_set 18 = .ok (.iconst (-1), 1) := by decide +kernel
theorem dX11_set_19 : decode cX11_set 19 = .ok (.ireturn, 1) := by decide +kernel
theorem dX11_set_20 : decode cX11_set 20 = .ok (.iload_n 3, 1) := by decide +kernel
theorem dX11_set_21 : decode cX11_set 21 = .ok (.iconst 2, 1) := by decide +kernel
theorem dX11_set_22 : decode cX11_set 22 = .ok (.if_icmp .ne 16, 3) := by decide +kernel
theorem dX11_set_25 : decode cX11_set 25 = .ok (.aload_n 0, 1) := by decide +kernel
theorem dX11_set_26 : decode cX11_set 26 = .ok (.iload_n 1, 1) := by decide +kernel
theorem dX11_set_27 : decode cX11_set 27 = .ok (.iload_n 2, 1) := by decide +kernel
theorem dX11_set_28 : decode cX11_set 28 = .ok (.iconst 0, 1) := by decide +kernel
theorem dX11_set_29 : decode cX11_set 29 = .ok (.invokevirtual 198, 3) := by decide +kernel
theorem dX11_set_32 : decode cX11_set 32 = .ok (.ifCond .ne 6, 3) := by decide +kernel
theorem dX11_set_35 : decode cX11_set 35 = .ok (.bipush (-2), 2) := by decide +kernel
theorem dX11_set_37 : decode cX11_set 37 = .ok (.ireturn, 1) := by decide +kernel
theorem dX11_set_38 : decode cX11_set 38 = .ok (.bipush 16, 2) := by decide +kernel
theorem dX11_set_40 : decode cX11_set 40 = .ok (.iload_n 1, 1) := by decide +kernel
theorem dX11_set_41 : decode cX11_set 41 = .ok (.imul, 1) := by decide +kernel
theorem dX11_set_42 : decode cX11_set 42 = .ok (.iconst 3, 1) := by decide +kernel
theorem dX11_set_43 : decode cX11_set 43 = .ok (.iadd, 1) := by decide +kernel
theorem dX11_set_44 : decode cX11_set 44 = .ok (.iconst 5, 1) := by decide +kernel
theorem dX11_set_45 : decode cX11_set 45 = .ok (.iload_n 2, 1) := by decide +kernel
theorem dX11_set_46 : decode cX11_set 46 = .ok (.imul, 1) := by decide +kernel
theorem dX11_set_47 : decode cX11_set 47 = .ok (.iadd, 1) := by decide +kernel
theorem dX11_set_48 : decode cX11_set 48 = .ok (.istore 5, 2) := by decide +kernel
theorem dX11_set_50 : decode cX11_set 50 = .ok (.aload_n 0, 1) := by decide +kernel
theorem dX11_set_51 : decode cX11_set 51 = .ok (.getfield 40, 3) := by decide +kernel
theorem dX11_set_54 : decode cX11_set 54 = .ok (.iload 5, 2) := by decide +kernel
theorem dX11_set_56 : decode cX11_set 56 = .ok (.iload_n 3, 1) := by decide +kernel
theorem dX11_set_57 : decode cX11_set 57 = .ok (.iadd, 1) := by decide +kernel
theorem dX11_set_58 : decode cX11_set 58 = .ok (.iaload, 1) := by decide +kernel
theorem dX11_set_59 : decode cX11_set 59 = .ok (.istore 6, 2) := by decide +kernel
theorem dX11_set_61 : decode cX11_set 61 = .ok (.aload_n 0, 1) := by decide +kernel
theorem dX11_set_62 : decode cX11_set 62 = .ok (.getfield 40, 3) := by decide +kernel
theorem dX11_set_65 : decode cX11_set 65 = .ok (.iload 5, 2) := by decide +kernel
theorem dX11_set_67 : decode cX11_set 67 = .ok (.iload_n 3, 1) := by decide +kernel
theorem dX11_set_68 : decode cX11_set 68 = .ok (.iadd, 1) := by decide +kernel
theorem dX11_set_69 : decode cX11_set 69 = .ok (.iload 4, 2) := by decide +kernel
theorem dX11_set_71 : decode cX11_set 71 = .ok (.iastore, 1) := by decide +kernel
theorem dX11_set_72 : decode cX11_set 72 = .ok (.iload_n 3, 1) := by decide +kernel
theorem dX11_set_73 : decode cX11_set 73 = .ok (.ifCond .ne 18, 3) := by decide +kernel
theorem dX11_set_76 : decode cX11_set 76 = .ok (.iload 4, 2) := by decide +kernel
theorem dX11_set_78 : decode cX11_set 78 = .ok (.ifCond .ne 13, 3) := by decide +kernel
theorem dX11_set_81 : decode cX11_set 81 = .ok (.aload_n 0, 1) := by decide +kernel
theorem dX11_set_82 : decode cX11_set 82 = .ok (.getfield 40, 3) := by decide +kernel
theorem dX11_set_85 : decode cX11_set 85 = .ok (.iload 5, 2) := by decide +kernel
theorem dX11_set_87 : decode cX11_set 87 = .ok (.iconst 2, 1) := by decide +kernel
theorem dX11_set_88 : decode cX11_set 88 = .ok (.iadd, 1) := by decide +kernel
theorem dX11_set_89 : decode cX11_set 89 = .ok (.iconst 0, 1) := by decide +kernel
theorem dX11_set_90 : decode cX11_set 90 = .ok (.iastore, 1) := by decide +kernel
theorem dX11_set_91 : decode cX11_set 91 = .ok (.iload 6, 2) := by decide +kernel
theorem dX11_set_93 : decode cX11_set 93 = .ok (.ireturn, 1) := by decide +kernel
theorem dX11_of_0 : decode cX11_of 0 = .ok (.iload_n 1, 1) := by decide +kernel
theorem dX11_of_1 : decode cX11_of 1 = .ok (.i2l, 1) := by decide +kernel
theorem dX11_of_2 : decode cX11_of 2 = .ok (.lconst 0, 1) := by decide +kernel
theorem dX11_of_3 : decode cX11_of 3 = .ok (.aload_n 0, 1) := by decide +kernel
theorem dX11_of_4 : decode cX11_of 4 = .ok (.invokevirtual 150, 3) := by decide +kernel
theorem dX11_of_7 : decode cX11_of 7 = .ok (.iconst 1, 1) := by decide +kernel
theorem dX11_of_8 : decode cX11_of 8 = .ok (.isub, 1) := by decide +kernel
theorem dX11_of_9 : decode cX11_of 9 = .ok (.i2l, 1) := by decide +kernel
theorem dX11_of_10 : decode cX11_of 10 = .ok (.invokestatic 63, 3) := by decide +kernel
theorem dX11_of_13 : decode cX11_of 13 = .ok (.ifCond .eq 24, 3) := by decide +kernel
theorem dX11_of_16 : decode cX11_of 16 = .ok (.iload_n 2, 1) := by decide +kernel
theorem dX11_of_17 : decode cX11_of 17 = .ok (.i2l, 1) := by decide +kernel
theorem dX11_of_18 : decode cX11_of 18 = .ok (.lconst 0, 1) := by decide +kernel
theorem dX11_of_19 : decode cX11_of 19 = .ok (.ldc2_w 202, 3) := by decide +kernel
theorem dX11_of_22 : decode cX11_of 22 = .ok (.invokestatic 63, 3) := by decide +kernel
theorem dX11_of_25 : decode cX11_of 25 = .ok (.ifCond .eq 12, 3) := by decide +kernel
theorem dX11_of_28 : decode cX11_of 28 = .ok (.aload_n 0, 1) := by decide +kernel
theorem dX11_of_29 : decode cX11_of 29 = .ok (.iload_n 1, 1) := by decide +kernel
theorem dX11_of_30 : decode cX11_of 30 = .ok (.iload_n 2, 1) := by decide +kernel
theorem dX11_of_31 : decode cX11_of 31 = .ok (.invokevirtual 153, 3) := by decide +kernel
theorem dX11_of_34 : decode cX11_of 34 = .ok (.goto 4, 3) := by decide +kernel
theorem dX11_of_37 : decode cX11_of 37 = .ok (.iconst (-1), 1) := by decide +kernel
theorem dX11_of_38 : decode cX11_of 38 = .ok (.ireturn, 1) := by decide +kernel
theorem dX11_has_0 : decode cX11_has 0 = .ok (.aload_n 0, 1) := by decide +kernel
theorem dX11_has_1 : decode cX11_has 1 = .ok (.iload_n 1, 1) := by decide +kernel
theorem dX11_has_2 : decode cX11_has 2 = .ok (.iload_n 2, 1) := by decide +kernel
theorem dX11_has_3 : decode cX11_has 3 = .ok (.invokevirtual 191, 3) := by decide +kernel
theorem dX11_has_6 : decode cX11_has 6 = .ok (.ifCond .eq 25, 3) := by decide +kernel
theorem dX11_has_9 : decode cX11_has 9 = .ok (.iload_n 3, 1) := by decide +kernel
theorem dX11_has_10 : decode cX11_has 10 = .ok (.i2l, 1) := by decide +kernel
theorem dX11_has_11 : decode cX11_has 11 = .ok (.lconst 0, 1) := by decide +kernel
theorem dX11_has_12 : decode cX11_has 12 = .ok (.ldc2_w 148, 3) := by decide +kernel
theorem dX11_has_15 : decode cX11_has 15 = .ok (.invokestatic 63, 3) := by decide +kernel
theorem dX11_has_18 : decode cX11_has 18 = .ok (.ifCond .eq 13, 3) := by decide +kernel
theorem dX11_has_21 : decode cX11_has 21 = .ok (.aload_n 0, 1) := by decide +kernel
theorem dX11_has_22 : decode cX11_has 22 = .ok (.iload_n 1, 1) := by decide +kernel
theorem dX11_has_23 : decode cX11_has 23 = .ok (.iload_n 2, 1) := by decide +kernel
theorem dX11_has_24 : decode cX11_has 24 = .ok (.iload_n 3, 1) := by decide +kernel
theorem dX11_has_25 : decode cX11_has 25 = .ok (.invokevirtual 198, 3) := by decide +kernel
theorem dX11_has_28 : decode cX11_has 28 = .ok (.goto 4, 3) := by decide +kernel
theorem dX11_has_31 : decode cX11_has 31 = .ok (.iconst (-1), 1) := by decide +kernel
theorem dX11_has_32 : decode cX11_has 32 = .ok (.ireturn, 1) := by decide +kernel
theorem dX11_bitsOf_0 : decode cX11_bitsOf 0 = .ok (.iconst 0, 1) := by decide +kernel
theorem dX11_bitsOf_1 : decode cX11_bitsOf 1 = .ok (.istore_n 1, 1) := by decide +kernel
theorem dX11_bitsOf_2 : decode cX11_bitsOf 2 = .ok (.iconst 0, 1) := by decide +kernel
theorem dX11_bitsOf_3 : decode cX11_bitsOf 3 = .ok (.istore_n 2, 1) := by decide +kernel
theorem dX11_bitsOf_4 : decode cX11_bitsOf 4 = .ok (.iload_n 2, 1) := by decide +kernel
theorem dX11_bitsOf_5 : decode cX11_bitsOf 5 = .ok (.bipush 12, 2) := by decide +kernel
theorem dX11_bitsOf_7 : decode cX11_bitsOf 7 = .ok (.if_icmp .ge 17, 3) := by decide +kernel
theorem dX11_bitsOf_10 : decode cX11_bitsOf 10 = .ok (.iload_n 1, 1) := by decide +kernel
theorem dX11_bitsOf_11 : decode cX11_bitsOf 11 = .ok (.iload_n 0, 1) := by decide +kernel
theorem dX11_bitsOf_12 : decode cX11_bitsOf 12 = .ok (.iload_n 2, 1) := by decide +kernel
theorem dX11_bitsOf_13 : decode cX11_bitsOf 13 = .ok (.ishr, 1) := by decide +kernel
theorem dX11_bitsOf_14 : decode cX11_bitsOf 14 = .ok (.iconst 1, 1) := by decide +kernel
theorem dX11_bitsOf_15 : decode cX11_bitsOf 15 = .ok (.iand, 1) := by decide +kernel
theorem dX11_bitsOf_16 : decode cX11_bitsOf 16 = .ok (.iadd, 1) := by decide +kernel
theorem dX11_bitsOf_17 : decode cX11_bitsOf 17 = .ok (.istore_n 1, 1) := by decide +kernel
theorem dX11_bitsOf_18 : decode cX11_bitsOf 18 = .ok (.iinc 2 1, 3) := by decide +kernel
theorem dX11_bitsOf_21 : decode cX11_bitsOf 21 = .ok (.goto (-17), 3) := by decide +kernel
theorem dX11_bitsOf_24 : decode cX11_bitsOf 24 = .ok (.iload_n 1, 1) := by decide +kernel
theorem dX11_bitsOf_25 : decode cX11_bitsOf 25 = .ok (.ireturn, 1) := by decide +kernel
theorem dX11_writerOf_0 : decode cX11_writerOf 0 = .ok (.iconst 0, 1) := by decide +kernel
theorem dX11_writerOf_1 : decode cX11_writerOf 1 = .ok (.istore_n 3, 1) := by decide +kernel
theorem dX11_writerOf_2 : decode cX11_writerOf 2 = .ok (.iload_n 3, 1) := by decide +kernel
theorem dX11_writerOf_3 : decode cX11_writerOf 3 = .ok (.aload_n 0, 1) := by decide +kernel
theorem dX11_writerOf_4 : decode cX11_writerOf 4 = .ok (.getfield 22, 3) := by decide +kernel
theorem dX11_writerOf_7 : decode cX11_writerOf 7 = .ok (.iconst 1, 1) := by decide +kernel
theorem dX11_writerOf_8 : decode cX11_writerOf 8 = .ok (.iaload, 1) := by decide +kernel
theorem dX11_writerOf_9 : decode cX11_writerOf 9 = .ok (.if_icmp .ge 120, 3) := by decide +kernel
theorem dX11_writerOf_12 : decode cX11_writerOf 12 = .ok (.iconst 5, 1) := by decide +kernel
theorem dX11_writerOf_13 : decode cX11_writerOf 13 = .ok (.iload_n 3, 1) := by decide +kernel
theorem dX11_writerOf_14 : decode cX11_writerOf 14 = .ok (.imul, 1) := by decide +kernel
theorem dX11_writerOf_15 : decode cX11_writerOf 15 = .ok (.istore 4, 2) := by decide +kernel
theorem dX11_writerOf_17 : decode cX11_writerOf 17 = .ok (.aload_n 0, 1) := by decide +kernel
theorem dX11_writerOf_18 : decode cX11_writerOf 18 = .ok (.getfield 28, 3) := by decide +kernel
theorem dX11_writerOf_21 : decode cX11_writerOf 21 = .ok (.iload 4, 2) := by decide +kernel
theorem dX11_writerOf_23 : decode cX11_writerOf 23 = .ok (.iaload, 1) := by decide +kernel
theorem dX11_writerOf_24 : decode cX11_writerOf 24 = .ok (.aload_n 0, 1) := by decide +kernel
theorem dX11_writerOf_25 : decode cX11_writerOf 25 = .ok (.iload_n 1, 1) := by decide +kernel
theorem dX11_writerOf_26 : decode cX11_writerOf 26 = .ok (.iconst 0, 1) := by decide +kernel
theorem dX11_writerOf_27 : decode cX11_writerOf 27 = .ok (.invokevirtual 153, 3) := by decide +kernel
theorem dX11_writerOf_30 : decode cX11_writerOf 30 = .ok (.if_icmp .ne 40, 3) := by decide +kernel
theorem dX11_writerOf_33 : decode cX11_writerOf 33 = .ok (.aload_n 0, 1) := by decide +kernel
theorem dX11_writerOf_34 : decode cX11_writerOf 34 = .ok (.iload_n 1, 1) := by decide +kernel
theorem dX11_writerOf_35 : decode cX11_writerOf 35 = .ok (.iconst 1, 1) := by decide +kernel
theorem dX11_writerOf_36 : decode cX11_writerOf 36 = .ok (.invokevirtual 153, 3) := by decide +kernel
theorem dX11_writerOf_39 : decode cX11_writerOf 39 = .ok (.i2l, 1) := by decide +kernel
theorem dX11_writerOf_40 : decode cX11_writerOf 40 = .ok (.aload_n 0, 1) := by decide +kernel
theorem dX11_writerOf_41 : decode cX11_writerOf 41 = .ok (.getfield 28, 3) := by decide +kernel
theorem dX11_writerOf_44 : decode cX11_writerOf 44 = .ok (.iload 4, 2) := by decide +kernel
theorem dX11_writerOf_46 : decode cX11_writerOf 46 = .ok (.iconst 1, 1) := by decide +kernel
theorem dX11_writerOf_47 : decode cX11_writerOf 47 = .ok (.iadd, 1) := by decide +kernel
theorem dX11_writerOf_48 : decode cX11_writerOf 48 = .ok (.iaload, 1) := by decide +kernel
theorem dX11_writerOf_49 : decode cX11_writerOf 49 = .ok (.i2l, 1) := by decide +kernel
theorem dX11_writerOf_50 : decode cX11_writerOf 50 = .ok (.aload_n 0, 1) := by decide +kernel
theorem dX11_writerOf_51 : decode cX11_writerOf 51 = .ok (.getfield 28, 3) := by decide +kernel
theorem dX11_writerOf_54 : decode cX11_writerOf 54 = .ok (.iload 4, 2) := by decide +kernel
theorem dX11_writerOf_56 : decode cX11_writerOf 56 = .ok (.iconst 2, 1) := by decide +kernel
theorem dX11_writerOf_57 : decode cX11_writerOf 57 = .ok (.iadd, 1) := by decide +kernel
theorem dX11_writerOf_58 : decode cX11_writerOf 58 = .ok (.iaload, 1) := by decide +kernel
theorem dX11_writerOf_59 : decode cX11_writerOf 59 = .ok (.i2l, 1) := by decide +kernel
theorem dX11_writerOf_60 : decode cX11_writerOf 60 = .ok (.invokestatic 63, 3) := by decide +kernel
theorem dX11_writerOf_63 : decode cX11_writerOf 63 = .ok (.ifCond .eq 7, 3) := by decide +kernel
theorem dX11_writerOf_66 : decode cX11_writerOf 66 = .ok (.iconst 1, 1) := by decide +kernel
theorem dX11_writerOf_67 : decode cX11_writerOf 67 = .ok (.goto 4, 3) := by decide +kernel
theorem dX11_writerOf_70 : decode cX11_writerOf 70 = .ok (.iconst 0, 1) := by decide +kernel
theorem dX11_writerOf_71 : decode cX11_writerOf 71 = .ok (.istore 5, 2) := by decide +kernel
theorem dX11_writerOf_73 : decode cX11_writerOf 73 = .ok (.aload_n 0, 1) := by decide +kernel
theorem dX11_writerOf_74 : decode cX11_writerOf 74 = .ok (.iload_n 1, 1) := by decide +kernel
theorem dX11_writerOf_75 : decode cX11_writerOf 75 = .ok (.iload_n 2, 1) := by decide +kernel
theorem dX11_writerOf_76 : decode cX11_writerOf 76 = .ok (.iconst 0, 1) := by decide +kernel
theorem dX11_writerOf_77 : decode cX11_writerOf 77 = .ok (.invokevirtual 198, 3) := by decide +kernel
theorem dX11_writerOf_80 : decode cX11_writerOf 80 = .ok (.iconst 1, 1) := by decide +kernel
theorem dX11_writerOf_81 : decode cX11_writerOf 81 = .ok (.if_icmp .ne 42, 3) := by decide +kernel
theorem dX11_writerOf_84 : decode cX11_writerOf 84 = .ok (.iload 5, 2) := by decide +kernel
theorem dX11_writerOf_86 : decode cX11_writerOf 86 = .ok (.ifCond .eq 37, 3) := by decide +kernel
theorem dX11_writerOf_89 : decode cX11_writerOf 89 = .ok (.aload_n 0, 1) := by decide +kernel
theorem dX11_writerOf_90 : decode cX11_writerOf 90 = .ok (.getfield 28, 3) := by decide +kernel
theorem dX11_writerOf_93 : decode cX11_writerOf 93 = .ok (.iload 4, 2) := by decide +kernel
theorem dX11_writerOf_95 : decode cX11_writerOf 95 = .ok (.iconst 3, 1) := by decide +kernel
theorem dX11_writerOf_96 : decode cX11_writerOf 96 = .ok (.iadd, 1) := by decide +kernel
theorem dX11_writerOf_97 : decode cX11_writerOf 97 = .ok (.iaload, 1) := by decide +kernel
theorem dX11_writerOf_98 : decode cX11_writerOf 98 = .ok (.aload_n 0, 1) := by decide +kernel
theorem dX11_writerOf_99 : decode cX11_writerOf 99 = .ok (.iload_n 1, 1) := by decide +kernel
theorem dX11_writerOf_100 : decode cX11_writerOf 100 = .ok (.iload_n 2, 1) := by decide +kernel
theorem dX11_writerOf_101 : decode cX11_writerOf 101 = .ok (.iconst 2, 1) := by decide +kernel
theorem dX11_writerOf_102 : decode cX11_writerOf 102 = .ok (.invokevirtual 198, 3) := by decide +kernel
theorem dX11_writerOf_105 : decode cX11_writerOf 105 = .ok (.ixor, 1) := by decide +kernel
theorem dX11_writerOf_106 : decode cX11_writerOf 106 = .ok (.invokestatic 204, 3) := by decide +kernel
theorem dX11_writerOf_109 : decode cX11_writerOf 109 = .ok (.aload_n 0, 1) := by decide +kernel
theorem dX11_writerOf_110 : decode cX11_writerOf 110 = .ok (.getfield 28, 3) := by decide +kernel
theorem dX11_writerOf_113 : decode cX11_writerOf 113 = .ok (.iload 4, 2) := by decide +kernel
theorem dX11_writerOf_115 : decode cX11_writerOf 115 = .ok (.iconst 4, 1) := by decide +kernel
theorem dX11_writerOf_116 : decode cX11_writerOf 116 = .ok (.iadd, 1) := by decide +kernel
theorem dX11_writerOf_117 : decode cX11_writerOf 117 = .ok (.iaload, 1) := by decide +kernel
theorem dX11_writerOf_118 : decode cX11_writerOf 118 = .ok (.if_icmp .gt 5, 3) := by decide +kernel
theorem dX11_writerOf_121 : decode cX11_writerOf 121 = .ok (.iload_n 3, 1) := by decide +kernel
theorem dX11_writerOf_122 : decode cX11_writerOf 122 = .ok (.ireturn, 1) := by decide +kernel
theorem dX11_writerOf_123 : decode cX11_writerOf 123 = .ok (.iinc 3 1, 3) := by decide +kernel
theorem dX11_writerOf_126 : decode cX11_writerOf 126 = .ok (.goto (-124), 3) := by decide +kernel
theorem dX11_writerOf_129 : decode cX11_writerOf 129 = .ok (.bipush (-4), 2) := by decide +kernel
theorem dX11_writerOf_131 : decode cX11_writerOf 131 = .ok (.ireturn, 1) := by decide +kernel
theorem dX11_isOwnName_0 : decode cX11_isOwnName 0 = .ok (.aload_n 0, 1) := by decide +kernel
theorem dX11_isOwnName_1 : decode cX11_isOwnName 1 = .ok (.iload_n 1, 1) := by decide +kernel
theorem dX11_isOwnName_2 : decode cX11_isOwnName 2 = .ok (.iload_n 2, 1) := by decide +kernel
theorem dX11_isOwnName_3 : decode cX11_isOwnName 3 = .ok (.iconst 0, 1) := by decide +kernel
theorem dX11_isOwnName_4 : decode cX11_isOwnName 4 = .ok (.invokevirtual 198, 3) := by decide +kernel
theorem dX11_isOwnName_7 : decode cX11_isOwnName 7 = .ok (.iconst 1, 1) := by decide +kernel
theorem dX11_isOwnName_8 : decode cX11_isOwnName 8 = .ok (.if_icmp .ne 18, 3) := by decide +kernel
theorem dX11_isOwnName_11 : decode cX11_isOwnName 11 = .ok (.aload_n 0, 1) := by decide +kernel
theorem dX11_isOwnName_12 : decode cX11_isOwnName 12 = .ok (.iload_n 1, 1) := by decide +kernel
theorem dX11_isOwnName_13 : decode cX11_isOwnName 13 = .ok (.iload_n 2, 1) := by decide +kernel
theorem dX11_isOwnName_14 : decode cX11_isOwnName 14 = .ok (.invokevirtual 164, 3) := by decide +kernel
theorem dX11_isOwnName_17 : decode cX11_isOwnName 17 = .ok (.bipush (-4), 2) := by decide +kernel
theorem dX11_isOwnName_19 : decode cX11_isOwnName 19 = .ok (.if_icmp .ne 7, 3) := by decide +kernel
theorem dX11_isOwnName_22 : decode cX11_isOwnName 22 = .ok (.iconst 1, 1) := by decide +kernel
theorem dX11_isOwnName_23 : decode cX11_isOwnName 23 = .ok (.goto 4, 3) := by decide +kernel
theorem dX11_isOwnName_26 : decode cX11_isOwnName 26 = .ok (.iconst 0, 1) := by decide +kernel
theorem dX11_isOwnName_27 : decode cX11_isOwnName 27 = .ok (.ireturn, 1) := by decide +kernel
theorem dX11_isDrawn_0 : decode cX11_isDrawn 0 = .ok (.aload_n 0, 1) := by decide +kernel
theorem dX11_isDrawn_1 : decode cX11_isDrawn 1 = .ok (.iload_n 1, 1) := by decide +kernel
theorem dX11_isDrawn_2 : decode cX11_isDrawn 2 = .ok (.iload_n 2, 1) := by decide +kernel
theorem dX11_isDrawn_3 : decode cX11_isDrawn 3 = .ok (.iconst 3, 1) := by decide +kernel
theorem dX11_isDrawn_4 : decode cX11_isDrawn 4 = .ok (.invokevirtual 198, 3) := by decide +kernel
theorem dX11_isDrawn_7 : decode cX11_isDrawn 7 = .ok (.istore_n 3, 1) := by decide +kernel
theorem dX11_isDrawn_8 : decode cX11_isDrawn 8 = .ok (.iconst 0, 1) := by decide +kernel
theorem dX11_isDrawn_9 : decode cX11_isDrawn 9 = .ok (.istore 4, 2) := by decide +kernel
theorem dX11_isDrawn_11 : decode cX11_isDrawn 11 = .ok (.iconst 1, 1) := by decide +kernel
theorem dX11_isDrawn_12 : decode cX11_isDrawn 12 = .ok (.istore 5, 2) := by decide +kernel
theorem dX11_isDrawn_14 : decode cX11_isDrawn 14 = .ok (.iconst 0, 1) := by decide +kernel
theorem dX11_isDrawn_15 : decode cX11_isDrawn 15 = .ok (.istore 6, 2) := by decide +kernel
theorem dX11_isDrawn_17 : decode cX11_isDrawn 17 = .ok (.iload 6, 2) := by decide +kernel
theorem dX11_isDrawn_19 : decode cX11_isDrawn 19 = .ok (.iconst 2, 1) := by decide +kernel
theorem dX11_isDrawn_20 : decode cX11_isDrawn 20 = .ok (.aload_n 0, 1) := by decide +kernel
theorem dX11_isDrawn_21 : decode cX11_isDrawn 21 = .ok (.invokevirtual 150, 3) := by decide +kernel
theorem dX11_isDrawn_24 : decode cX11_isDrawn 24 = .ok (.imul, 1) := by decide +kernel
theorem dX11_isDrawn_25 : decode cX11_isDrawn 25 = .ok (.if_icmp .ge 139, 3) := by decide +kernel
theorem dX11_isDrawn_28 : decode cX11_isDrawn 28 = .ok (.iload_n 3, 1) := by decide +kernel
theorem dX11_isDrawn_29 : decode cX11_isDrawn 29 = .ok (.ifCond .le 135, 3) := by decide +kernel
theorem dX11_isDrawn_32 : decode cX11_isDrawn 32 = .ok (.iload 6, 2) := by decide +kernel
theorem dX11_isDrawn_34 : decode cX11_isDrawn 34 = .ok (.iconst 2, 1) := by decide +kernel
theorem dX11_isDrawn_35 : decode cX11_isDrawn 35 = .ok (.idiv, 1) := by decide +kernel
theorem dX11_isDrawn_36 : decode cX11_isDrawn 36 = .ok (.iload_n 1, 1) := by decide +kernel
theorem dX11_isDrawn_37 : decode cX11_isDrawn 37 = .ok (.if_icmp .ne 15, 3) := by decide +kernel
theorem dX11_isDrawn_40 : decode cX11_isDrawn 40 = .ok (.iload 6, 2) := by decide +kernel
theorem dX11_isDrawn_42 : decode cX11_isDrawn 42 = .ok (.iconst 2, 1) := by decide +kernel
theorem dX11_isDrawn_43 : decode cX11_isDrawn 43 = .ok (.irem, 1) := by decide +kernel
theorem dX11_isDrawn_44 : decode cX11_isDrawn 44 = .ok (.iload_n 2, 1) := by decide +kernel
theorem dX11_isDrawn_45 : decode cX11_isDrawn 45 = .ok (.if_icmp .ne 7, 3) := by decide +kernel
theorem dX11_isDrawn_48 : decode cX11_isDrawn 48 = .ok (.iconst 1, 1) := by decide +kernel
theorem dX11_isDrawn_49 : decode cX11_isDrawn 49 = .ok (.goto 4, 3) := by decide +kernel
theorem dX11_isDrawn_52 : decode cX11_isDrawn 52 = .ok (.iconst 0, 1) := by decide +kernel
theorem dX11_isDrawn_53 : decode cX11_isDrawn 53 = .ok (.istore 7, 2) := by decide +kernel
theorem dX11_isDrawn_55 : decode cX11_isDrawn 55 = .ok (.iload 7, 2) := by decide +kernel
theorem dX11_isDrawn_57 : decode cX11_isDrawn 57 = .ok (.ifCond .ne 101, 3) := by decide +kernel
theorem dX11_isDrawn_60 : decode cX11_isDrawn 60 = .ok (.aload_n 0, 1) := by decide +kernel
theorem dX11_isDrawn_61 : decode cX11_isDrawn 61 = .ok (.iload 6, 2) := by decide +kernel
theorem dX11_isDrawn_63 : decode cX11_isDrawn 63 = .ok (.iconst 2, 1) := by decide +kernel
theorem dX11_isDrawn_64 : decode cX11_isDrawn 64 = .ok (.idiv, 1) := by decide +kernel
theorem dX11_isDrawn_65 : decode cX11_isDrawn 65 = .ok (.iload 6, 2) := by decide +kernel
theorem dX11_isDrawn_67 : decode cX11_isDrawn 67 = .ok (.iconst 2, 1) := by decide +kernel
theorem dX11_isDrawn_68 : decode cX11_isDrawn 68 = .ok (.irem, 1) := by decide +kernel
theorem dX11_isDrawn_69 : decode cX11_isDrawn 69 = .ok (.iconst 3, 1) := by decide +kernel
theorem dX11_isDrawn_70 : decode cX11_isDrawn 70 = .ok (.invokevirtual 198, 3) := by decide +kernel
theorem dX11_isDrawn_73 : decode cX11_isDrawn 73 = .ok (.iload_n 3, 1) := by decide +kernel
theorem dX11_isDrawn_74 : decode cX11_isDrawn 74 = .ok (.if_icmp .ne 84, 3) := by decide +kernel
theorem dX11_isDrawn_77 : decode cX11_isDrawn 77 = .ok (.aload_n 0, 1) := by decide +kernel
theorem dX11_isDrawn_78 : decode cX11_isDrawn 78 = .ok (.iload 6, 2) := by decide +kernel
theorem dX11_isDrawn_80 : decode cX11_isDrawn 80 = .ok (.iconst 2, 1) := by decide +kernel
theorem dX11_isDrawn_81 : decode cX11_isDrawn 81 = .ok (.idiv, 1) := by decide +kernel
theorem dX11_isDrawn_82 : decode cX11_isDrawn 82 = .ok (.iload 6, 2) := by decide +kernel
theorem dX11_isDrawn_84 : decode cX11_isDrawn 84 = .ok (.iconst 2, 1) := by decide +kernel
theorem dX11_isDrawn_85 : decode cX11_isDrawn 85 = .ok (.irem, 1) := by decide +kernel
theorem dX11_isDrawn_86 : decode cX11_isDrawn 86 = .ok (.invokevirtual 207, 3) := by decide +kernel
theorem dX11_isDrawn_89 : decode cX11_isDrawn 89 = .ok (.ifCond .eq 69, 3) := by decide +kernel
theorem dX11_isDrawn_92 : decode cX11_isDrawn 92 = .ok (.iload 4, 2) := by decide +kernel
theorem dX11_isDrawn_94 : decode cX11_isDrawn 94 = .ok (.ifCond .ne 11, 3) := by decide +kernel
theorem dX11_isDrawn_97 : decode cX11_isDrawn 97 = .ok (.iload 6, 2) := by decide +kernel
theorem dX11_isDrawn_99 : decode cX11_isDrawn 99 = .ok (.iconst 2, 1) := by decide +kernel
theorem dX11_isDrawn_100 : decode cX11_isDrawn 100 = .ok (.idiv, 1) := by decide +kernel
theorem dX11_isDrawn_101 : decode cX11_isDrawn 101 = .ok (.iload_n 1, 1) := by decide +kernel
theorem dX11_isDrawn_102 : decode cX11_isDrawn 102 = .ok (.if_icmp .eq 7, 3) := by decide +kernel
theorem dX11_isDrawn_105 : decode cX11_isDrawn 105 = .ok (.iconst 1, 1) := by decide +kernel
theorem dX11_isDrawn_106 : decode cX11_isDrawn 106 = .ok (.goto 4, 3) := by decide +kernel
theorem dX11_isDrawn_109 : decode cX11_isDrawn 109 = .ok (.iconst 0, 1) := by decide +kernel
theorem dX11_isDrawn_110 : decode cX11_isDrawn 110 = .ok (.istore 4, 2) := by decide +kernel
theorem dX11_isDrawn_112 : decode cX11_isDrawn 112 = .ok (.iload 5, 2) := by decide +kernel
theorem dX11_isDrawn_114 : decode cX11_isDrawn 114 = .ok (.ifCond .eq 41, 3) := by decide +kernel
theorem dX11_isDrawn_117 : decode cX11_isDrawn 117 = .ok (.aload_n 0, 1) := by decide +kernel
theorem dX11_isDrawn_118 : decode cX11_isDrawn 118 = .ok (.iload 6, 2) := by decide +kernel
theorem dX11_isDrawn_120 : decode cX11_isDrawn 120 = .ok (.iconst 2, 1) := by decide +kernel
theorem dX11_isDrawn_121 : decode cX11_isDrawn 121 = .ok (.idiv, 1) := by decide +kernel
theorem dX11_isDrawn_122 : decode cX11_isDrawn 122 = .ok (.iload 6, 2) := by decide +kernel
theorem dX11_isDrawn_124 : decode cX11_isDrawn 124 = .ok (.iconst 2, 1) := by decide +kernel
theorem dX11_isDrawn_125 : decode cX11_isDrawn 125 = .ok (.irem, 1) := by decide +kernel
theorem dX11_isDrawn_126 : decode cX11_isDrawn 126 = .ok (.iconst 2, 1) := by decide +kernel
theorem dX11_isDrawn_127 : decode cX11_isDrawn 127 = .ok (.invokevirtual 198, 3) := by decide +kernel
theorem dX11_isDrawn_130 : decode cX11_isDrawn 130 = .ok (.aload_n 0, 1) := by decide +kernel
theorem dX11_isDrawn_131 : decode cX11_isDrawn 131 = .ok (.iload_n 1, 1) := by decide +kernel
theorem dX11_isDrawn_132 : decode cX11_isDrawn 132 = .ok (.iload_n 2, 1) := by decide +kernel
theorem dX11_isDrawn_133 : decode cX11_isDrawn 133 = .ok (.iconst 2, 1) := by decide +kernel
theorem dX11_isDrawn_134 : decode cX11_isDrawn 134 = .ok (.invokevirtual 198, 3) := by decide +kernel
theorem dX11_isDrawn_137 : decode cX11_isDrawn 137 = .ok (.ixor, 1) := by decide +kernel
theorem dX11_isDrawn_138 : decode cX11_isDrawn 138 = .ok (.invokestatic 204, 3) := by decide +kernel
theorem dX11_isDrawn_141 : decode cX11_isDrawn 141 = .ok (.aload_n 0, 1) := by decide +kernel
theorem dX11_isDrawn_142 : decode cX11_isDrawn 142 = .ok (.getfield 22, 3) := by decide +kernel
theorem dX11_isDrawn_145 : decode cX11_isDrawn 145 = .ok (.bipush 6, 2) := by decide +kernel
theorem dX11_isDrawn_147 : decode cX11_isDrawn 147 = .ok (.iaload, 1) := by decide +kernel
theorem dX11_isDrawn_148 : decode cX11_isDrawn 148 = .ok (.if_icmp .gt 7, 3) := by decide +kernel
theorem dX11_isDrawn_151 : decode cX11_isDrawn 151 = .ok (.iconst 1, 1) := by decide +kernel
theorem dX11_isDrawn_152 : decode cX11_isDrawn 152 = .ok (.goto 4, 3) := by decide +kernel
theorem dX11_isDrawn_155 : decode cX11_isDrawn 155 = .ok (.iconst 0, 1) := by decide +kernel
theorem dX11_isDrawn_156 : decode cX11_isDrawn 156 = .ok (.istore 5, 2) := by decide +kernel
theorem dX11_isDrawn_158 : decode cX11_isDrawn 158 = .ok (.iinc 6 1, 3) := by decide +kernel
theorem dX11_isDrawn_161 : decode cX11_isDrawn 161 = .ok (.goto (-144), 3) := by decide +kernel
theorem dX11_isDrawn_164 : decode cX11_isDrawn 164 = .ok (.iload 4, 2) := by decide +kernel
theorem dX11_isDrawn_166 : decode cX11_isDrawn 166 = .ok (.ifCond .eq 12, 3) := by decide +kernel
theorem dX11_isDrawn_169 : decode cX11_isDrawn 169 = .ok (.iload 5, 2) := by decide +kernel
theorem dX11_isDrawn_171 : decode cX11_isDrawn 171 = .ok (.ifCond .eq 7, 3) := by decide +kernel
theorem dX11_isDrawn_174 : decode cX11_isDrawn 174 = .ok (.iconst 1, 1) := by decide +kernel
theorem dX11_isDrawn_175 : decode cX11_isDrawn 175 = .ok (.goto 4, 3) := by decide +kernel
theorem dX11_isDrawn_178 : decode cX11_isDrawn 178 = .ok (.iconst 0, 1) := by decide +kernel
theorem dX11_isDrawn_179 : decode cX11_isDrawn 179 = .ok (.ireturn, 1) := by decide +kernel
theorem dX11_nameKind_0 : decode cX11_nameKind 0 = .ok (.aload_n 0, 1) := by decide +kernel
theorem dX11_nameKind_1 : decode cX11_nameKind 1 = .ok (.iload_n 1, 1) := by decide +kernel
theorem dX11_nameKind_2 : decode cX11_nameKind 2 = .ok (.iload_n 2, 1) := by decide +kernel
theorem dX11_nameKind_3 : decode cX11_nameKind 3 = .ok (.invokevirtual 164, 3) := by decide +kernel
theorem dX11_nameKind_6 : decode cX11_nameKind 6 = .ok (.bipush (-4), 2) := by decide +kernel
theorem dX11_nameKind_8 : decode cX11_nameKind 8 = .ok (.if_icmp .eq 7, 3) := by decide +kernel
theorem dX11_nameKind_11 : decode cX11_nameKind 11 = .ok (.iconst 5, 1) := by decide +kernel
theorem dX11_nameKind_12 : decode cX11_nameKind 12 = .ok (.goto 17, 3) := by decide +kernel
theorem dX11_nameKind_15 : decode cX11_nameKind 15 = .ok (.aload_n 0, 1) := by decide +kernel
theorem dX11_nameKind_16 : decode cX11_nameKind 16 = .ok (.iload_n 1, 1) := by decide +kernel
theorem dX11_nameKind_17 : decode cX11_nameKind 17 = .ok (.iload_n 2, 1) := by decide +kernel
theorem dX11_nameKind_18 : decode cX11_nameKind 18 = .ok (.invokevirtual 210, 3) := by decide +kernel
theorem dX11_nameKind_21 : decode cX11_nameKind 21 = .ok (.ifCond .eq 7, 3) := by decide +kernel
theorem dX11_nameKind_24 : decode cX11_nameKind 24 = .ok (.iconst 4, 1) := by decide +kernel
theorem dX11_nameKind_25 : decode cX11_nameKind 25 = .ok (.goto 4, 3) := by decide +kernel
theorem dX11_nameKind_28 : decode cX11_nameKind 28 = .ok (.iconst 3, 1) := by decide +kernel
theorem dX11_nameKind_29 : decode cX11_nameKind 29 = .ok (.ireturn, 1) := by decide +kernel
theorem dX11_kindOf_0 : decode cX11_kindOf 0 = .ok (.aload_n 0, 1) := by decide +kernel
theorem dX11_kindOf_1 : decode cX11_kindOf 1 = .ok (.iload_n 1, 1) := by decide +kernel
theorem dX11_kindOf_2 : decode cX11_kindOf 2 = .ok (.iload_n 2, 1) := by decide +kernel
theorem dX11_kindOf_3 : decode cX11_kindOf 3 = .ok (.iconst 0, 1) := by decide +kernel
theorem dX11_kindOf_4 : decode cX11_kindOf 4 = .ok (.invokevirtual 198, 3) := by decide +kernel
theorem dX11_kindOf_7 : decode cX11_kindOf 7 = .ok (.iconst 1, 1) := by decide +kernel
theorem dX11_kindOf_8 : decode cX11_kindOf 8 = .ok (.if_icmp .ne 10, 3) := by decide +kernel
theorem dX11_kindOf_11 : decode cX11_kindOf 11 = .ok (.aload_n 0, 1) := by decide +kernel
theorem dX11_kindOf_12 : decode cX11_kindOf 12 = .ok (.iload_n 1, 1) := by decide +kernel
theorem dX11_kindOf_13 : decode cX11_kindOf 13 = .ok (.iload_n 2, 1) := by decide +kernel
theorem dX11_kindOf_14 : decode cX11_kindOf 14 = .ok (.invokevirtual 213, 3) := by decide +kernel
theorem dX11_kindOf_17 : decode cX11_kindOf 17 = .ok (.ireturn, 1) := by decide +kernel
theorem dX11_kindOf_18 : decode cX11_kindOf 18 = .ok (.aload_n 0, 1) := by decide +kernel
theorem dX11_kindOf_19 : decode cX11_kindOf 19 = .ok (.iload_n 1, 1) := by decide +kernel
theorem dX11_kindOf_20 : decode cX11_kindOf 20 = .ok (.iload_n 2, 1) := by decide +kernel
theorem dX11_kindOf_21 : decode cX11_kindOf 21 = .ok (.iconst 3, 1) := by decide +kernel
theorem dX11_kindOf_22 : decode cX11_kindOf 22 = .ok (.invokevirtual 198, 3) := by decide +kernel
theorem dX11_kindOf_25 : decode cX11_kindOf 25 = .ok (.istore_n 3, 1) := by decide +kernel
theorem dX11_kindOf_26 : decode cX11_kindOf 26 = .ok (.iconst 0, 1) := by decide +kernel
theorem dX11_kindOf_27 : decode cX11_kindOf 27 = .ok (.istore 4, 2) := by decide +kernel
theorem dX11_kindOf_29 : decode cX11_kindOf 29 = .ok (.iload 4, 2) := by decide +kernel
theorem dX11_kindOf_31 : decode cX11_kindOf 31 = .ok (.iconst 2, 1) := by decide +kernel
theorem dX11_kindOf_32 : decode cX11_kindOf 32 = .ok (.aload_n 0, 1) := by decide +kernel
theorem dX11_kindOf_33 : decode cX11_kindOf 33 = .ok (.invokevirtual 150, 3) := by decide +kernel
theorem dX11_kindOf_36 : decode cX11_kindOf 36 = .ok (.imul, 1) := by decide +kernel
theorem dX11_kindOf_37 : decode cX11_kindOf 37 = .ok (.if_icmp .ge 95, 3) := by decide +kernel
theorem dX11_kindOf_40 : decode cX11_kindOf 40 = .ok (.iload_n 3, 1) := by decide +kernel
theorem dX11_kindOf_41 : decode cX11_kindOf 41 = .ok (.ifCond .le 91, 3) := by decide +kernel
theorem dX11_kindOf_44 : decode cX11_kindOf 44 = .ok (.aload_n 0, 1) := by decide +kernel
theorem dX11_kindOf_45 : decode cX11_kindOf 45 = .ok (.iload 4, 2) := by decide +kernel
theorem dX11_kindOf_47 : decode cX11_kindOf 47 = .ok (.iconst 2, 1) := by decide +kernel
theorem dX11_kindOf_48 : decode cX11_kindOf 48 = .ok (.idiv, 1) := by decide +kernel
theorem dX11_kindOf_49 : decode cX11_kindOf 49 = .ok (.iload 4, 2) := by decide +kernel
theorem dX11_kindOf_51 : decode cX11_kindOf 51 = .ok (.iconst 2, 1) := by decide +kernel
theorem dX11_kindOf_52 : decode cX11_kindOf 52 = .ok (.irem, 1) := by decide +kernel
theorem dX11_kindOf_53 : decode cX11_kindOf 53 = .ok (.iconst 3, 1) := by decide +kernel
theorem dX11_kindOf_54 : decode cX11_kindOf 54 = .ok (.invokevirtual 198, 3) := by decide +kernel
theorem dX11_kindOf_57 : decode cX11_kindOf 57 = .ok (.iload_n 3, 1) := by decide +kernel
theorem dX11_kindOf_58 : decode cX11_kindOf 58 = .ok (.if_icmp .ne 42, 3) := by decide +kernel
theorem dX11_kindOf_61 : decode cX11_kindOf 61 = .ok (.aload_n 0, 1) := by decide +kernel
theorem dX11_kindOf_62 : decode cX11_kindOf 62 = .ok (.iload 4, 2) := by decide +kernel
theorem dX11_kindOf_64 : decode cX11_kindOf 64 = .ok (.iconst 2, 1) := by decide +kernel
theorem dX11_kindOf_65 : decode cX11_kindOf 65 = .ok (.idiv, 1) := by decide +kernel
theorem dX11_kindOf_66 : decode cX11_kindOf 66 = .ok (.iload 4, 2) := by decide +kernel
theorem dX11_kindOf_68 : decode cX11_kindOf 68 = .ok (.iconst 2, 1) := by decide +kernel
theorem dX11_kindOf_69 : decode cX11_kindOf 69 = .ok (.irem, 1) := by decide +kernel
theorem dX11_kindOf_70 : decode cX11_kindOf 70 = .ok (.iconst 0, 1) := by decide +kernel
theorem dX11_kindOf_71 : decode cX11_kindOf 71 = .ok (.invokevirtual 198, 3) := by decide +kernel
theorem dX11_kindOf_74 : decode cX11_kindOf 74 = .ok (.iconst 1, 1) := by decide +kernel
theorem dX11_kindOf_75 : decode cX11_kindOf 75 = .ok (.if_icmp .ne 25, 3) := by decide +kernel
theorem dX11_kindOf_78 : decode cX11_kindOf 78 = .ok (.aload_n 0, 1) := by decide +kernel
theorem dX11_kindOf_79 : decode cX11_kindOf 79 = .ok (.iload 4, 2) := by decide +kernel
theorem dX11_kindOf_81 : decode cX11_kindOf 81 = .ok (.iconst 2, 1) := by decide +kernel
theorem dX11_kindOf_82 : decode cX11_kindOf 82 = .ok (.idiv, 1) := by decide +kernel
theorem dX11_kindOf_83 : decode cX11_kindOf 83 = .ok (.iconst 1, 1) := by decide +kernel
theorem dX11_kindOf_84 : decode cX11_kindOf 84 = .ok (.invokevirtual 153, 3) := by decide +kernel
theorem dX11_kindOf_87 : decode cX11_kindOf 87 = .ok (.aload_n 0, 1) := by decide +kernel
theorem dX11_kindOf_88 : decode cX11_kindOf 88 = .ok (.iload_n 1, 1) := by decide +kernel
theorem dX11_kindOf_89 : decode cX11_kindOf 89 = .ok (.iconst 1, 1) := by decide +kernel
theorem dX11_kindOf_90 : decode cX11_kindOf 90 = .ok (.invokevirtual 153, 3) := by decide +kernel
theorem dX11_kindOf_93 : decode cX11_kindOf 93 = .ok (.if_icmp .ge 7, 3) := by decide +kernel
theorem dX11_kindOf_96 : decode cX11_kindOf 96 = .ok (.iconst 1, 1) := by decide +kernel
theorem dX11_kindOf_97 : decode cX11_kindOf 97 = .ok (.goto 4, 3) := by decide +kernel
theorem dX11_kindOf_100 : decode cX11_kindOf 100 = .ok (.iconst 0, 1) := by decide +kernel
theorem dX11_kindOf_101 : decode cX11_kindOf 101 = .ok (.istore 5, 2) := by decide +kernel
theorem dX11_kindOf_103 : decode cX11_kindOf 103 = .ok (.iload 5, 2) := by decide +kernel
theorem dX11_kindOf_105 : decode cX11_kindOf 105 = .ok (.ifCond .eq 21, 3) := by decide +kernel
theorem dX11_kindOf_108 : decode cX11_kindOf 108 = .ok (.aload_n 0, 1) := by decide +kernel
theorem dX11_kindOf_109 : decode cX11_kindOf 109 = .ok (.iload 4, 2) := by decide +kernel
theorem dX11_kindOf_111 : decode cX11_kindOf 111 = .ok (.iconst 2, 1) := by decide +kernel
theorem dX11_kindOf_112 : decode cX11_kindOf 112 = .ok (.idiv, 1) := by decide +kernel
theorem dX11_kindOf_113 : decode cX11_kindOf 113 = .ok (.iload 4, 2) := by decide +kernel
theorem dX11_kindOf_115 : decode cX11_kindOf 115 = .ok (.iconst 2, 1) := by decide +kernel
theorem dX11_kindOf_116 : decode cX11_kindOf 116 = .ok (.irem, 1) := by decide +kernel
theorem dX11_kindOf_117 : decode cX11_kindOf 117 = .ok (.invokevirtual 213, 3) := by decide +kernel
theorem dX11_kindOf_120 : decode cX11_kindOf 120 = .ok (.iconst 3, 1) := by decide +kernel
theorem dX11_kindOf_121 : decode cX11_kindOf 121 = .ok (.if_icmp .ne 5, 3) := by decide +kernel
theorem dX11_kindOf_124 : decode cX11_kindOf 124 = .ok (.iconst 2, 1) := by decide +kernel
theorem dX11_kindOf_125 : decode cX11_kindOf 125 = .ok (.ireturn, 1) := by decide +kernel
theorem dX11_kindOf_126 : decode cX11_kindOf 126 = .ok (.iinc 4 1, 3) := by decide +kernel
theorem dX11_kindOf_129 : decode cX11_kindOf 129 = .ok (.goto (-100), 3) := by decide +kernel
theorem dX11_kindOf_132 : decode cX11_kindOf 132 = .ok (.iconst 1, 1) := by decide +kernel
theorem dX11_kindOf_133 : decode cX11_kindOf 133 = .ok (.ireturn, 1) := by decide +kernel
theorem dX11_kind_0 : decode cX11_kind 0 = .ok (.aload_n 0, 1) := by decide +kernel
theorem dX11_kind_1 : decode cX11_kind 1 = .ok (.iload_n 1, 1) := by decide +kernel
theorem dX11_kind_2 : decode cX11_kind 2 = .ok (.iload_n 2, 1) := by decide +kernel
theorem dX11_kind_3 : decode cX11_kind 3 = .ok (.invokevirtual 191, 3) := by decide +kernel
theorem dX11_kind_6 : decode cX11_kind 6 = .ok (.ifCond .eq 12, 3) := by decide +kernel
theorem dX11_kind_9 : decode cX11_kind 9 = .ok (.aload_n 0, 1) := by decide +kernel
theorem dX11_kind_10 : decode cX11_kind 10 = .ok (.iload_n 1, 1) := by decide +kernel
theorem dX11_kind_11 : decode cX11_kind 11 = .ok (.iload_n 2, 1) := by decide +kernel
theorem dX11_kind_12 : decode cX11_kind 12 = .ok (.invokevirtual 216, 3) := by decide +kernel
theorem dX11_kind_15 : decode cX11_kind 15 = .ok (.goto 4, 3) := by decide +kernel
theorem dX11_kind_18 : decode cX11_kind 18 = .ok (.iconst (-1), 1) := by decide +kernel
theorem dX11_kind_19 : decode cX11_kind 19 = .ok (.ireturn, 1) := by decide +kernel
theorem dX11_writer_0 : decode cX11_writer 0 = .ok (.aload_n 0, 1) := by decide +kernel
theorem dX11_writer_1 : decode cX11_writer 1 = .ok (.iload_n 1, 1) := by decide +kernel
theorem dX11_writer_2 : decode cX11_writer 2 = .ok (.iload_n 2, 1) := by decide +kernel
theorem dX11_writer_3 : decode cX11_writer 3 = .ok (.invokevirtual 191, 3) := by decide +kernel
theorem dX11_writer_6 : decode cX11_writer 6 = .ok (.ifCond .eq 12, 3) := by decide +kernel
theorem dX11_writer_9 : decode cX11_writer 9 = .ok (.aload_n 0, 1) := by decide +kernel
theorem dX11_writer_10 : decode cX11_writer 10 = .ok (.iload_n 1, 1) := by decide +kernel
theorem dX11_writer_11 : decode cX11_writer 11 = .ok (.iload_n 2, 1) := by decide +kernel
theorem dX11_writer_12 : decode cX11_writer 12 = .ok (.invokevirtual 164, 3) := by decide +kernel
theorem dX11_writer_15 : decode cX11_writer 15 = .ok (.goto 4, 3) := by decide +kernel
theorem dX11_writer_18 : decode cX11_writer 18 = .ok (.iconst (-1), 1) := by decide +kernel
theorem dX11_writer_19 : decode cX11_writer 19 = .ok (.ireturn, 1) := by decide +kernel
theorem dX11_apart_0 : decode cX11_apart 0 = .ok (.iload_n 1, 1) := by decide +kernel
theorem dX11_apart_1 : decode cX11_apart 1 = .ok (.i2l, 1) := by decide +kernel
theorem dX11_apart_2 : decode cX11_apart 2 = .ok (.lconst 0, 1) := by decide +kernel
theorem dX11_apart_3 : decode cX11_apart 3 = .ok (.ldc2_w 187, 3) := by decide +kernel
theorem dX11_apart_6 : decode cX11_apart 6 = .ok (.invokestatic 63, 3) := by decide +kernel
theorem dX11_apart_9 : decode cX11_apart 9 = .ok (.ifCond .eq 24, 3) := by decide +kernel
theorem dX11_apart_12 : decode cX11_apart 12 = .ok (.iload_n 2, 1) := by decide +kernel
theorem dX11_apart_13 : decode cX11_apart 13 = .ok (.i2l, 1) := by decide +kernel
theorem dX11_apart_14 : decode cX11_apart 14 = .ok (.lconst 0, 1) := by decide +kernel
theorem dX11_apart_15 : decode cX11_apart 15 = .ok (.ldc2_w 187, 3) := by decide +kernel
theorem dX11_apart_18 : decode cX11_apart 18 = .ok (.invokestatic 63, 3) := by decide +kernel
theorem dX11_apart_21 : decode cX11_apart 21 = .ok (.ifCond .eq 12, 3) := by decide +kernel
theorem dX11_apart_24 : decode cX11_apart 24 = .ok (.iload_n 1, 1) := by decide +kernel
theorem dX11_apart_25 : decode cX11_apart 25 = .ok (.iload_n 2, 1) := by decide +kernel
theorem dX11_apart_26 : decode cX11_apart 26 = .ok (.ixor, 1) := by decide +kernel
theorem dX11_apart_27 : decode cX11_apart 27 = .ok (.invokestatic 204, 3) := by decide +kernel
theorem dX11_apart_30 : decode cX11_apart 30 = .ok (.goto 4, 3) := by decide +kernel
theorem dX11_apart_33 : decode cX11_apart 33 = .ok (.iconst (-1), 1) := by decide +kernel
theorem dX11_apart_34 : decode cX11_apart 34 = .ok (.ireturn, 1) := by decide +kernel
theorem dX11_tear_0 : decode cX11_tear 0 = .ok (.iload_n 1, 1) := by decide +kernel
theorem dX11_tear_1 : decode cX11_tear 1 = .ok (.i2l, 1) := by decide +kernel
theorem dX11_tear_2 : decode cX11_tear 2 = .ok (.lconst 0, 1) := by decide +kernel
theorem dX11_tear_3 : decode cX11_tear 3 = .ok (.aload_n 0, 1) := by decide +kernel
theorem dX11_tear_4 : decode cX11_tear 4 = .ok (.invokevirtual 150, 3) := by decide +kernel
theorem dX11_tear_7 : decode cX11_tear 7 = .ok (.iconst 1, 1) := by decide +kernel
theorem dX11_tear_8 : decode cX11_tear 8 = .ok (.isub, 1) := by decide +kernel
theorem dX11_tear_9 : decode cX11_tear 9 = .ok (.i2l, 1) := by decide +kernel
theorem dX11_tear_10 : decode cX11_tear 10 = .ok (.invokestatic 63, 3) := by decide +kernel
theorem dX11_tear_13 : decode cX11_tear 13 = .ok (.ifCond .ne 5, 3) := by decide +kernel
theorem dX11_tear_16 : decode cX11_tear 16 = .ok (.iconst (-1), 1) := by decide +kernel
theorem dX11_tear_17 : decode cX11_tear 17 = .ok (.ireturn, 1) := by decide +kernel
theorem dX11_tear_18 : decode cX11_tear 18 = .ok (.bipush 16, 2) := by decide +kernel
theorem dX11_tear_20 : decode cX11_tear 20 = .ok (.iload_n 1, 1) := by decide +kernel
theorem dX11_tear_21 : decode cX11_tear 21 = .ok (.imul, 1) := by decide +kernel
theorem dX11_tear_22 : decode cX11_tear 22 = .ok (.istore_n 2, 1) := by decide +kernel
theorem dX11_tear_23 : decode cX11_tear 23 = .ok (.iload_n 2, 1) := by decide +kernel
theorem dX11_tear_24 : decode cX11_tear 24 = .ok (.bipush 16, 2) := by decide +kernel
theorem dX11_tear_26 : decode cX11_tear 26 = .ok (.aload_n 0, 1) := by decide +kernel
theorem dX11_tear_27 : decode cX11_tear 27 = .ok (.invokevirtual 150, 3) := by decide +kernel
theorem dX11_tear_30 : decode cX11_tear 30 = .ok (.iconst 1, 1) := by decide +kernel
theorem dX11_tear_31 : decode cX11_tear 31 = .ok (.isub, 1) := by decide +kernel
theorem dX11_tear_32 : decode cX11_tear 32 = .ok (.imul, 1) := by decide +kernel
theorem dX11_tear_33 : decode cX11_tear 33 = .ok (.if_icmp .ge 24, 3) := by decide +kernel
theorem dX11_tear_36 : decode cX11_tear 36 = .ok (.aload_n 0, 1) := by decide +kernel
theorem dX11_tear_37 : decode cX11_tear 37 = .ok (.getfield 40, 3) := by decide +kernel
theorem dX11_tear_40 : decode cX11_tear 40 = .ok (.iload_n 2, 1) := by decide +kernel
theorem dX11_tear_41 : decode cX11_tear 41 = .ok (.aload_n 0, 1) := by decide +kernel
theorem dX11_tear_42 : decode cX11_tear 42 = .ok (.getfield 40, 3) := by decide +kernel
theorem dX11_tear_45 : decode cX11_tear 45 = .ok (.iload_n 2, 1) := by decide +kernel
theorem dX11_tear_46 : decode cX11_tear 46 = .ok (.bipush 16, 2) := by decide +kernel
theorem dX11_tear_48 : decode cX11_tear 48 = .ok (.iadd, 1) := by decide +kernel
theorem dX11_tear_49 : decode cX11_tear 49 = .ok (.iaload, 1) := by decide +kernel
theorem dX11_tear_50 : decode cX11_tear 50 = .ok (.iastore, 1) := by decide +kernel
theorem dX11_tear_51 : decode cX11_tear 51 = .ok (.iinc 2 1, 3) := by decide +kernel
theorem dX11_tear_54 : decode cX11_tear 54 = .ok (.goto (-31), 3) := by decide +kernel
theorem dX11_tear_57 : decode cX11_tear 57 = .ok (.aload_n 0, 1) := by decide +kernel
theorem dX11_tear_58 : decode cX11_tear 58 = .ok (.getfield 40, 3) := by decide +kernel
theorem dX11_tear_61 : decode cX11_tear 61 = .ok (.sipush 650, 3) := by decide +kernel
theorem dX11_tear_64 : decode cX11_tear 64 = .ok (.dup2, 1) := by decide +kernel
theorem dX11_tear_65 : decode cX11_tear 65 = .ok (.iaload, 1) := by decide +kernel
theorem dX11_tear_66 : decode cX11_tear 66 = .ok (.iconst 1, 1) := by decide +kernel
theorem dX11_tear_67 : decode cX11_tear 67 = .ok (.isub, 1) := by decide +kernel
theorem dX11_tear_68 : decode cX11_tear 68 = .ok (.iastore, 1) := by decide +kernel
theorem dX11_tear_69 : decode cX11_tear 69 = .ok (.aload_n 0, 1) := by decide +kernel
theorem dX11_tear_70 : decode cX11_tear 70 = .ok (.invokevirtual 150, 3) := by decide +kernel
theorem dX11_tear_73 : decode cX11_tear 73 = .ok (.ireturn, 1) := by decide +kernel
theorem dX11_layKinds_0 : decode cX11_layKinds 0 = .ok (.aload_n 0, 1) := by decide +kernel
theorem dX11_layKinds_1 : decode cX11_layKinds 1 = .ok (.invokevirtual 219, 3) := by decide +kernel
theorem dX11_layKinds_4 : decode cX11_layKinds 4 = .ok (.iconst 0, 1) := by decide +kernel
theorem dX11_layKinds_5 : decode cX11_layKinds 5 = .ok (.istore_n 1, 1) := by decide +kernel
theorem dX11_layKinds_6 : decode cX11_layKinds 6 = .ok (.iload_n 1, 1) := by decide +kernel
theorem dX11_layKinds_7 : decode cX11_layKinds 7 = .ok (.iconst 2, 1) := by decide +kernel
theorem dX11_layKinds_8 : decode cX11_layKinds 8 = .ok (.aload_n 0, 1) := by decide +kernel
theorem dX11_layKinds_9 : decode cX11_layKinds 9 = .ok (.invokevirtual 150, 3) := by decide +kernel
theorem dX11_layKinds_12 : decode cX11_layKinds 12 = .ok (.imul, 1) := by decide +kernel
theorem dX11_layKinds_13 : decode cX11_layKinds 13 = .ok (.if_icmp .ge 25, 3) := by decide +kernel
theorem dX11_layKinds_16 : decode cX11_layKinds 16 = .ok (.aload_n 0, 1) := by decide +kernel
theorem dX11_layKinds_17 : decode cX11_layKinds 17 = .ok (.getfield 43, 3) := by decide +kernel
theorem dX11_layKinds_20 : decode cX11_layKinds 20 = .ok (.iload_n 1, 1) := by decide +kernel
theorem dX11_layKinds_21 : decode cX11_layKinds 21 = .ok (.aload_n 0, 1) := by decide +kernel
theorem dX11_layKinds_22 : decode cX11_layKinds 22 = .ok (.iload_n 1, 1) := by decide +kernel
theorem dX11_layKinds_23 : decode cX11_layKinds 23 = .ok (.iconst 2, 1) := by decide +kernel
theorem dX11_layKinds_24 : decode cX11_layKinds 24 = .ok (.idiv, 1) := by decide +kernel
theorem dX11_layKinds_25 : decode cX11_layKinds 25 = .ok (.iload_n 1, 1) := by decide +kernel
theorem dX11_layKinds_26 : decode cX11_layKinds 26 = .ok (.iconst 2, 1) := by decide +kernel
theorem dX11_layKinds_27 : decode cX11_layKinds 27 = .ok (.irem, 1) := by decide +kernel
theorem dX11_layKinds_28 : decode cX11_layKinds 28 = .ok (.invokevirtual 216, 3) := by decide +kernel
theorem dX11_layKinds_31 : decode cX11_layKinds 31 = .ok (.iastore, 1) := by decide +kernel
theorem dX11_layKinds_32 : decode cX11_layKinds 32 = .ok (.iinc 1 1, 3) := by decide +kernel
theorem dX11_layKinds_35 : decode cX11_layKinds 35 = .ok (.goto (-29), 3) := by decide +kernel
theorem dX11_layKinds_38 : decode cX11_layKinds 38 = .ok (.return_, 1) := by decide +kernel
theorem dX11_isChoice_0 : decode cX11_isChoice 0 = .ok (.iload_n 0, 1) := by decide +kernel
theorem dX11_isChoice_1 : decode cX11_isChoice 1 = .ok (.i2l, 1) := by decide +kernel
theorem dX11_isChoice_2 : decode cX11_isChoice 2 = .ok (.lconst 0, 1) := by decide +kernel
theorem dX11_isChoice_3 : decode cX11_isChoice 3 = .ok (.lconst 1, 1) := by decide +kernel
theorem dX11_isChoice_4 : decode cX11_isChoice 4 = .ok (.invokestatic 63, 3) := by decide +kernel
theorem dX11_isChoice_7 : decode cX11_isChoice 7 = .ok (.ireturn, 1) := by decide +kernel
theorem dX11_isIn_0 : decode cX11_isIn 0 = .ok (.sipush 640, 3) := by decide +kernel
theorem dX11_isIn_3 : decode cX11_isIn 3 = .ok (.iconst 5, 1) := by decide +kernel
theorem dX11_isIn_4 : decode cX11_isIn 4 = .ok (.iload_n 1, 1) := by decide +kernel
theorem dX11_isIn_5 : decode cX11_isIn 5 = .ok (.imul, 1) := by decide +kernel
theorem dX11_isIn_6 : decode cX11_isIn 6 = .ok (.iadd, 1) := by decide +kernel
theorem dX11_isIn_7 : decode cX11_isIn 7 = .ok (.istore_n 3, 1) := by decide +kernel
theorem dX11_isIn_8 : decode cX11_isIn 8 = .ok (.iload_n 2, 1) := by decide +kernel
theorem dX11_isIn_9 : decode cX11_isIn 9 = .ok (.iconst 2, 1) := by decide +kernel
theorem dX11_isIn_10 : decode cX11_isIn 10 = .ok (.idiv, 1) := by decide +kernel
theorem dX11_isIn_11 : decode cX11_isIn 11 = .ok (.istore 4, 2) := by decide +kernel
theorem dX11_isIn_13 : decode cX11_isIn 13 = .ok (.aload_n 0, 1) := by decide +kernel
theorem dX11_isIn_14 : decode cX11_isIn 14 = .ok (.getfield 40, 3) := by decide +kernel
theorem dX11_isIn_17 : decode cX11_isIn 17 = .ok (.iload_n 3, 1) := by decide +kernel
theorem dX11_isIn_18 : decode cX11_isIn 18 = .ok (.iaload, 1) := by decide +kernel
theorem dX11_isIn_19 : decode cX11_isIn 19 = .ok (.aload_n 0, 1) := by decide +kernel
theorem dX11_isIn_20 : decode cX11_isIn 20 = .ok (.iload 4, 2) := by decide +kernel
theorem dX11_isIn_22 : decode cX11_isIn 22 = .ok (.iconst 0, 1) := by decide +kernel
theorem dX11_isIn_23 : decode cX11_isIn 23 = .ok (.invokevirtual 153, 3) := by decide +kernel
theorem dX11_isIn_26 : decode cX11_isIn 26 = .ok (.ishr, 1) := by decide +kernel
theorem dX11_isIn_27 : decode cX11_isIn 27 = .ok (.iconst 1, 1) := by decide +kernel
theorem dX11_isIn_28 : decode cX11_isIn 28 = .ok (.iand, 1) := by decide +kernel
theorem dX11_isIn_29 : decode cX11_isIn 29 = .ok (.iconst 1, 1) := by decide +kernel
theorem dX11_isIn_30 : decode cX11_isIn 30 = .ok (.if_icmp .ne 79, 3) := by decide +kernel
theorem dX11_isIn_33 : decode cX11_isIn 33 = .ok (.aload_n 0, 1) := by decide +kernel
theorem dX11_isIn_34 : decode cX11_isIn 34 = .ok (.iload 4, 2) := by decide +kernel
theorem dX11_isIn_36 : decode cX11_isIn 36 = .ok (.iconst 1, 1) := by decide +kernel
theorem dX11_isIn_37 : decode cX11_isIn 37 = .ok (.invokevirtual 153, 3) := by decide +kernel
theorem dX11_isIn_40 : decode cX11_isIn 40 = .ok (.i2l, 1) := by decide +kernel
theorem dX11_isIn_41 : decode cX11_isIn 41 = .ok (.aload_n 0, 1) := by decide +kernel
theorem dX11_isIn_42 : decode cX11_isIn 42 = .ok (.getfield 40, 3) := by decide +kernel
theorem dX11_isIn_45 : decode cX11_isIn 45 = .ok (.iload_n 3, 1) := by decide +kernel
theorem dX11_isIn_46 : decode cX11_isIn 46 = .ok (.iconst 1, 1) := by decide +kernel
theorem dX11_isIn_47 : decode cX11_isIn 47 = .ok (.iadd, 1) := by decide +kernel
theorem dX11_isIn_48 : decode cX11_isIn 48 = .ok (.iaload, 1) := by decide +kernel
theorem dX11_isIn_49 : decode cX11_isIn 49 = .ok (.i2l, 1) := by decide +kernel
theorem dX11_isIn_50 : decode cX11_isIn 50 = .ok (.aload_n 0, 1) := by decide +kernel
theorem dX11_isIn_51 : decode cX11_isIn 51 = .ok (.getfield 40, 3) := by decide +kernel
theorem dX11_isIn_54 : decode cX11_isIn 54 = .ok (.iload_n 3, 1) := by decide +kernel
theorem dX11_isIn_55 : decode cX11_isIn 55 = .ok (.iconst 2, 1) := by decide +kernel
theorem dX11_isIn_56 : decode cX11_isIn 56 = .ok (.iadd, 1) := by decide +kernel
theorem dX11_isIn_57 : decode cX11_isIn 57 = .ok (.iaload, 1) := by decide +kernel
theorem dX11_isIn_58 : decode cX11_isIn 58 = .ok (.i2l, 1) := by decide +kernel
theorem dX11_isIn_59 : decode cX11_isIn 59 = .ok (.invokestatic 63, 3) := by decide +kernel
theorem dX11_isIn_62 : decode cX11_isIn 62 = .ok (.ifCond .eq 47, 3) := by decide +kernel
theorem dX11_isIn_65 : decode cX11_isIn 65 = .ok (.aload_n 0, 1) := by decide +kernel
theorem dX11_isIn_66 : decode cX11_isIn 66 = .ok (.getfield 40, 3) := by decide +kernel
theorem dX11_isIn_69 : decode cX11_isIn 69 = .ok (.iload_n 3, 1) := by decide +kernel
theorem dX11_isIn_70 : decode cX11_isIn 70 = .ok (.iconst 3, 1) := by decide +kernel
theorem dX11_isIn_71 : decode cX11_isIn 71 = .ok (.iadd, 1) := by decide +kernel
theorem dX11_isIn_72 : decode cX11_isIn 72 = .ok (.iaload, 1) := by decide +kernel
theorem dX11_isIn_73 : decode cX11_isIn 73 = .ok (.iload_n 2, 1) := by decide +kernel
theorem dX11_isIn_74 : decode cX11_isIn 74 = .ok (.iconst 2, 1) := by decide +kernel
theorem dX11_isIn_75 : decode cX11_isIn 75 = .ok (.irem, 1) := by decide +kernel
theorem dX11_isIn_76 : decode cX11_isIn 76 = .ok (.ishr, 1) := by decide +kernel
theorem dX11_isIn_77 : decode cX11_isIn 77 = .ok (.iconst 1, 1) := by decide +kernel
theorem dX11_isIn_78 : decode cX11_isIn 78 = .ok (.iand, 1) := by decide +kernel
theorem dX11_isIn_79 : decode cX11_isIn 79 = .ok (.iconst 1, 1) := by decide +kernel
theorem dX11_isIn_80 : decode cX11_isIn 80 = .ok (.if_icmp .ne 29, 3) := by decide +kernel
theorem dX11_isIn_83 : decode cX11_isIn 83 = .ok (.aload_n 0, 1) := by decide +kernel
theorem dX11_isIn_84 : decode cX11_isIn 84 = .ok (.getfield 40, 3) := by decide +kernel
theorem dX11_isIn_87 : decode cX11_isIn 87 = .ok (.iload_n 3, 1) := by decide +kernel
theorem dX11_isIn_88 : decode cX11_isIn 88 = .ok (.iconst 4, 1) := by decide +kernel
theorem dX11_isIn_89 : decode cX11_isIn 89 = .ok (.iadd, 1) := by decide +kernel
theorem dX11_isIn_90 : decode cX11_isIn 90 = .ok (.iaload, 1) := by decide +kernel
theorem dX11_isIn_91 : decode cX11_isIn 91 = .ok (.aload_n 0, 1) := by decide +kernel
theorem dX11_isIn_92 : decode cX11_isIn 92 = .ok (.iload 4, 2) := by decide +kernel
theorem dX11_isIn_94 : decode cX11_isIn 94 = .ok (.iconst 2, 1) := by decide +kernel
theorem dX11_isIn_95 : decode cX11_isIn 95 = .ok (.invokevirtual 153, 3) := by decide +kernel
theorem dX11_isIn_98 : decode cX11_isIn 98 = .ok (.ishr, 1) := by decide +kernel
theorem dX11_isIn_99 : decode cX11_isIn 99 = .ok (.iconst 1, 1) := by decide +kernel
theorem dX11_isIn_100 : decode cX11_isIn 100 = .ok (.iand, 1) := by decide +kernel
theorem dX11_isIn_101 : decode cX11_isIn 101 = .ok (.iconst 1, 1) := by decide +kernel
theorem dX11_isIn_102 : decode cX11_isIn 102 = .ok (.if_icmp .ne 7, 3) := by decide +kernel
theorem dX11_isIn_105 : decode cX11_isIn 105 = .ok (.iconst 1, 1) := by decide +kernel
theorem dX11_isIn_106 : decode cX11_isIn 106 = .ok (.goto 4, 3) := by decide +kernel
theorem dX11_isIn_109 : decode cX11_isIn 109 = .ok (.iconst 0, 1) := by decide +kernel
theorem dX11_isIn_110 : decode cX11_isIn 110 = .ok (.ireturn, 1) := by decide +kernel
theorem dX11_isAble_0 : decode cX11_isAble 0 = .ok (.aload_n 0, 1) := by decide +kernel
theorem dX11_isAble_1 : decode cX11_isAble 1 = .ok (.getfield 43, 3) := by decide +kernel
theorem dX11_isAble_4 : decode cX11_isAble 4 = .ok (.iload_n 1, 1) := by decide +kernel
theorem dX11_isAble_5 : decode cX11_isAble 5 = .ok (.iaload, 1) := by decide +kernel
theorem dX11_isAble_6 : decode cX11_isAble 6 = .ok (.iconst 2, 1) := by decide +kernel
theorem dX11_isAble_7 : decode cX11_isAble 7 = .ok (.if_icmp .eq 13, 3) := by decide +kernel
theorem dX11_isAble_10 : decode cX11_isAble 10 = .ok (.aload_n 0, 1) := by decide +kernel
theorem dX11_isAble_11 : decode cX11_isAble 11 = .ok (.getfield 43, 3) := by decide +kernel
theorem dX11_isAble_14 : decode cX11_isAble 14 = .ok (.iload_n 1, 1) := by decide +kernel
theorem dX11_isAble_15 : decode cX11_isAble 15 = .ok (.iaload, 1) := by decide +kernel
theorem dX11_isAble_16 : decode cX11_isAble 16 = .ok (.iconst 3, 1) := by decide +kernel
theorem dX11_isAble_17 : decode cX11_isAble 17 = .ok (.if_icmp .ne 7, 3) := by decide +kernel
theorem dX11_isAble_20 : decode cX11_isAble 20 = .ok (.iconst 1, 1) := by decide +kernel
theorem dX11_isAble_21 : decode cX11_isAble 21 = .ok (.goto 4, 3) := by decide +kernel
theorem dX11_isAble_24 : decode cX11_isAble 24 = .ok (.iconst 0, 1) := by decide +kernel
theorem dX11_isAble_25 : decode cX11_isAble 25 = .ok (.ireturn, 1) := by decide +kernel
theorem dX11_choose_0 : decode cX11_choose 0 = .ok (.iload_n 1, 1) := by decide +kernel
theorem dX11_choose_1 : decode cX11_choose 1 = .ok (.invokestatic 222, 3) := by decide +kernel
theorem dX11_choose_4 : decode cX11_choose 4 = .ok (.ifCond .eq 75, 3) := by decide +kernel
theorem dX11_choose_7 : decode cX11_choose 7 = .ok (.iload_n 2, 1) := by decide +kernel
theorem dX11_choose_8 : decode cX11_choose 8 = .ok (.i2l, 1) := by decide +kernel
theorem dX11_choose_9 : decode cX11_choose 9 = .ok (.lconst 0, 1) := by decide +kernel
theorem dX11_choose_10 : decode cX11_choose 10 = .ok (.iconst 1, 1) := by decide +kernel
theorem dX11_choose_11 : decode cX11_choose 11 = .ok (.aload_n 0, 1) := by decide +kernel
theorem dX11_choose_12 : decode cX11_choose 12 = .ok (.getfield 22, 3) := by decide +kernel
theorem dX11_choose_15 : decode cX11_choose 15 = .ok (.iconst 0, 1) := by decide +kernel
theorem dX11_choose_16 : decode cX11_choose 16 = .ok (.iaload, 1) := by decide +kernel
theorem dX11_choose_17 : decode cX11_choose 17 = .ok (.ishl, 1) := by decide +kernel
theorem dX11_choose_18 : decode cX11_choose 18 = .ok (.iconst 1, 1) := by decide +kernel
theorem dX11_choose_19 : decode cX11_choose 19 = .ok (.isub, 1) := by decide +kernel
theorem dX11_choose_20 : decode cX11_choose 20 = .ok (.i2l, 1) := by decide +kernel
theorem dX11_choose_21 : decode cX11_choose 21 = .ok (.invokestatic 63, 3) := by decide +kernel
theorem dX11_choose_24 : decode cX11_choose 24 = .ok (.ifCond .eq 55, 3) := by decide +kernel
theorem dX11_choose_27 : decode cX11_choose 27 = .ok (.iload_n 3, 1) := by decide +kernel
theorem dX11_choose_28 : decode cX11_choose 28 = .ok (.i2l, 1) := by decide +kernel
theorem dX11_choose_29 : decode cX11_choose 29 = .ok (.lconst 0, 1) := by decide +kernel
theorem dX11_choose_30 : decode cX11_choose 30 = .ok (.ldc2_w 171, 3) := by decide +kernel
theorem dX11_choose_33 : decode cX11_choose 33 = .ok (.invokestatic 63, 3) := by decide +kernel
theorem dX11_choose_36 : decode cX11_choose 36 = .ok (.ifCond .eq 43, 3) := by decide +kernel
theorem dX11_choose_39 : decode cX11_choose 39 = .ok (.iload 4, 2) := by decide +kernel
theorem dX11_choose_41 : decode cX11_choose 41 = .ok (.i2l, 1) := by decide +kernel
theorem dX11_choose_42 : decode cX11_choose 42 = .ok (.iload_n 3, 1) := by decide +kernel
theorem dX11_choose_43 : decode cX11_choose 43 = .ok (.i2l, 1) := by decide +kernel
theorem dX11_choose_44 : decode cX11_choose 44 = .ok (.ldc2_w 171, 3) := by decide +kernel
theorem dX11_choose_47 : decode cX11_choose 47 = .ok (.invokestatic 63, 3) := by decide +kernel
theorem dX11_choose_50 : decode cX11_choose 50 = .ok (.ifCond .eq 29, 3) := by decide +kernel
theorem dX11_choose_53 : decode cX11_choose 53 = .ok (.iload 5, 2) := by decide +kernel
theorem dX11_choose_55 : decode cX11_choose 55 = .ok (.i2l, 1) := by decide +kernel
theorem dX11_choose_56 : decode cX11_choose 56 = .ok (.lconst 0, 1) := by decide +kernel
theorem dX11_choose_57 : decode cX11_choose 57 = .ok (.ldc2_w 225, 3) := by decide +kernel
theorem dX11_choose_60 : decode cX11_choose 60 = .ok (.invokestatic 63, 3) := by decide +kernel
theorem dX11_choose_63 : decode cX11_choose 63 = .ok (.ifCond .eq 16, 3) := by decide +kernel
theorem dX11_choose_66 : decode cX11_choose 66 = .ok (.iload 6, 2) := by decide +kernel
theorem dX11_choose_68 : decode cX11_choose 68 = .ok (.i2l, 1) := by decide +kernel
theorem dX11_choose_69 : decode cX11_choose 69 = .ok (.lconst 0, 1) := by decide +kernel
theorem dX11_choose_70 : decode cX11_choose 70 = .ok (.ldc2_w 187, 3) := by decide +kernel
theorem dX11_choose_73 : decode cX11_choose 73 = .ok (.invokestatic 63, 3) := by decide +kernel
theorem dX11_choose_76 : decode cX11_choose 76 = .ok (.ifCond .ne 5, 3) := by decide +kernel
theorem dX11_choose_79 : decode cX11_choose 79 = .ok (.iconst (-1), 1) := by decide +kernel
theorem dX11_choose_80 : decode cX11_choose 80 = .ok (.ireturn, 1) := by decide +kernel
theorem dX11_choose_81 : decode cX11_choose 81 = .ok (.aload_n 0, 1) := by decide +kernel
theorem dX11_choose_82 : decode cX11_choose 82 = .ok (.invokevirtual 219, 3) := by decide +kernel
theorem dX11_choose_85 : decode cX11_choose 85 = .ok (.aload_n 0, 1) := by decide +kernel
theorem dX11_choose_86 : decode cX11_choose 86 = .ok (.iload_n 1, 1) := by decide +kernel
theorem dX11_choose_87 : decode cX11_choose 87 = .ok (.iload_n 2, 1) := by decide +kernel
theorem dX11_choose_88 : decode cX11_choose 88 = .ok (.iload_n 3, 1) := by decide +kernel
theorem dX11_choose_89 : decode cX11_choose 89 = .ok (.iload 4, 2) := by decide +kernel
theorem dX11_choose_91 : decode cX11_choose 91 = .ok (.iload 5, 2) := by decide +kernel
theorem dX11_choose_93 : decode cX11_choose 93 = .ok (.iload 6, 2) := by decide +kernel
theorem dX11_choose_95 : decode cX11_choose 95 = .ok (.invokevirtual 138, 3) := by decide +kernel
theorem dX11_choose_98 : decode cX11_choose 98 = .ok (.aload_n 0, 1) := by decide +kernel
theorem dX11_choose_99 : decode cX11_choose 99 = .ok (.invokevirtual 227, 3) := by decide +kernel
theorem dX11_choose_102 : decode cX11_choose 102 = .ok (.aload_n 0, 1) := by decide +kernel
theorem dX11_choose_103 : decode cX11_choose 103 = .ok (.iload_n 1, 1) := by decide +kernel
theorem dX11_choose_104 : decode cX11_choose 104 = .ok (.bipush (-4), 2) := by decide +kernel
theorem dX11_choose_106 : decode cX11_choose 106 = .ok (.iconst 0, 1) := by decide +kernel
theorem dX11_choose_107 : decode cX11_choose 107 = .ok (.invokevirtual 230, 3) := by decide +kernel
theorem dX11_choose_110 : decode cX11_choose 110 = .ok (.aload_n 0, 1) := by decide +kernel
theorem dX11_choose_111 : decode cX11_choose 111 = .ok (.getfield 234, 3) := by decide +kernel
theorem dX11_choose_114 : decode cX11_choose 114 = .ok (.ireturn, 1) := by decide +kernel
theorem dX11_groupOf_0 : decode cX11_groupOf 0 = .ok (.iload_n 1, 1) := by decide +kernel
theorem dX11_groupOf_1 : decode cX11_groupOf 1 = .ok (.iconst 2, 1) := by decide +kernel
theorem dX11_groupOf_2 : decode cX11_groupOf 2 = .ok (.idiv, 1) := by decide +kernel
theorem dX11_groupOf_3 : decode cX11_groupOf 3 = .ok (.istore_n 3, 1) := by decide +kernel
theorem dX11_groupOf_4 : decode cX11_groupOf 4 = .ok (.iload_n 2, 1) := by decide +kernel
theorem dX11_groupOf_5 : decode cX11_groupOf 5 = .ok (.ifCond .ne 12, 3) := by decide +kernel
theorem dX11_groupOf_8 : decode cX11_groupOf 8 = .ok (.aload_n 0, 1) := by decide +kernel
theorem dX11_groupOf_9 : decode cX11_groupOf 9 = .ok (.iload_n 3, 1) := by decide +kernel
theorem dX11_groupOf_10 : decode cX11_groupOf 10 = .ok (.iconst 0, 1) := by decide +kernel
theorem dX11_groupOf_11 : decode cX11_groupOf 11 = .ok (.invokevirtual 153, 3) := by decide +kernel
theorem dX11_groupOf_14 : decode cX11_groupOf 14 = .ok (.goto 37, 3) := by decide +kernel
theorem dX11_groupOf_17 : decode cX11_groupOf 17 = .ok (.iload_n 2, 1) := by decide +kernel
theorem dX11_groupOf_18 : decode cX11_groupOf 18 = .ok (.iconst 1, 1) := by decide +kernel
theorem dX11_groupOf_19 : decode cX11_groupOf 19 = .ok (.if_icmp .ne 12, 3) := by decide +kernel
theorem dX11_groupOf_22 : decode cX11_groupOf 22 = .ok (.aload_n 0, 1) := by decide +kernel
theorem dX11_groupOf_23 : decode cX11_groupOf 23 = .ok (.iload_n 3, 1) := by decide +kernel
theorem dX11_groupOf_24 : decode cX11_groupOf 24 = .ok (.iconst 2, 1) := by decide +kernel
theorem dX11_groupOf_25 : decode cX11_groupOf 25 = .ok (.invokevirtual 153, 3) := by decide +kernel
theorem dX11_groupOf_28 : decode cX11_groupOf 28 = .ok (.goto 23, 3) := by decide +kernel
theorem dX11_groupOf_31 : decode cX11_groupOf 31 = .ok (.iload_n 2, 1) := by decide +kernel
theorem dX11_groupOf_32 : decode cX11_groupOf 32 = .ok (.iconst 2, 1) := by decide +kernel
theorem dX11_groupOf_33 : decode cX11_groupOf 33 = .ok (.if_icmp .ne 9, 3) := by decide +kernel
theorem dX11_groupOf_36 : decode cX11_groupOf 36 = .ok (.iload_n 1, 1) := by decide +kernel
theorem dX11_groupOf_37 : decode cX11_groupOf 37 = .ok (.iconst 2, 1) := by decide +kernel
theorem dX11_groupOf_38 : decode cX11_groupOf 38 = .ok (.irem, 1) := by decide +kernel
theorem dX11_groupOf_39 : decode cX11_groupOf 39 = .ok (.goto 12, 3) := by decide +kernel
theorem dX11_groupOf_42 : decode cX11_groupOf 42 = .ok (.aload_n 0, 1) := by decide +kernel
theorem dX11_groupOf_43 : decode cX11_groupOf 43 = .ok (.iload_n 3, 1) := by decide +kernel
theorem dX11_groupOf_44 : decode cX11_groupOf 44 = .ok (.iload_n 1, 1) := by decide +kernel
theorem dX11_groupOf_45 : decode cX11_groupOf 45 = .ok (.iconst 2, 1) := by decide +kernel
theorem dX11_groupOf_46 : decode cX11_groupOf 46 = .ok (.irem, 1) := by decide +kernel
theorem dX11_groupOf_47 : decode cX11_groupOf 47 = .ok (.iconst 4, 1) := by decide +kernel
theorem dX11_groupOf_48 : decode cX11_groupOf 48 = .ok (.invokevirtual 198, 3) := by decide +kernel
theorem dX11_groupOf_51 : decode cX11_groupOf 51 = .ok (.ireturn, 1) := by decide +kernel
theorem dX11_tally_0 : decode cX11_tally 0 = .ok (.aload_n 0, 1) := by decide +kernel
theorem dX11_tally_1 : decode cX11_tally 1 = .ok (.iconst 0, 1) := by decide +kernel
theorem dX11_tally_2 : decode cX11_tally 2 = .ok (.putfield 234, 3) := by decide +kernel
theorem dX11_tally_5 : decode cX11_tally 5 = .ok (.aload_n 0, 1) := by decide +kernel
theorem dX11_tally_6 : decode cX11_tally 6 = .ok (.iconst 0, 1) := by decide +kernel
theorem dX11_tally_7 : decode cX11_tally 7 = .ok (.putfield 237, 3) := by decide +kernel
theorem dX11_tally_10 : decode cX11_tally 10 = .ok (.iconst 0, 1) := by decide +kernel
theorem dX11_tally_11 : decode cX11_tally 11 = .ok (.istore 4, 2) := by decide +kernel
theorem dX11_tally_13 : decode cX11_tally 13 = .ok (.iload 4, 2) := by decide +kernel
theorem dX11_tally_15 : decode cX11_tally 15 = .ok (.iconst 2, 1) := by decide +kernel
theorem dX11_tally_16 : decode cX11_tally 16 = .ok (.aload_n 0, 1) := by decide +kernel
theorem dX11_tally_17 : decode cX11_tally 17 = .ok (.invokevirtual 150, 3) := by decide +kernel
theorem dX11_tally_20 : decode cX11_tally 20 = .ok (.imul, 1) := by decide +kernel
theorem dX11_tally_21 : decode cX11_tally 21 = .ok (.if_icmp .ge 69, 3) := by decide +kernel
theorem dX11_tally_24 : decode cX11_tally 24 = .ok (.aload_n 0, 1) := by decide +kernel
theorem dX11_tally_25 : decode cX11_tally 25 = .ok (.iload_n 1, 1) := by decide +kernel
theorem dX11_tally_26 : decode cX11_tally 26 = .ok (.iload 4, 2) := by decide +kernel
theorem dX11_tally_28 : decode cX11_tally 28 = .ok (.invokevirtual 240, 3) := by decide +kernel
theorem dX11_tally_31 : decode cX11_tally 31 = .ok (.ifCond .eq 53, 3) := by decide +kernel
theorem dX11_tally_34 : decode cX11_tally 34 = .ok (.iload_n 2, 1) := by decide +kernel
theorem dX11_tally_35 : decode cX11_tally 35 = .ok (.bipush (-4), 2) := by decide +kernel
theorem dX11_tally_37 : decode cX11_tally 37 = .ok (.if_icmp .eq 14, 3) := by decide +kernel
theorem dX11_tally_40 : decode cX11_tally 40 = .ok (.aload_n 0, 1) := by decide +kernel
theorem dX11_tally_41 : decode cX11_tally 41 = .ok (.iload 4, 2) := by decide +kernel
theorem dX11_tally_43 : decode cX11_tally 43 = .ok (.iload_n 2, 1) := by decide +kernel
theorem dX11_tally_44 : decode cX11_tally 44 = .ok (.invokevirtual 243, 3) := by decide +kernel
theorem dX11_tally_47 : decode cX11_tally 47 = .ok (.iload_n 3, 1) := by decide +kernel
theorem dX11_tally_48 : decode cX11_tally 48 = .ok (.if_icmp .ne 36, 3) := by decide +kernel
theorem dX11_tally_51 : decode cX11_tally 51 = .ok (.aload_n 0, 1) := by decide +kernel
theorem dX11_tally_52 : decode cX11_tally 52 = .ok (.dup, 1) := by decide +kernel
theorem dX11_tally_53 : decode cX11_tally 53 = .ok (.getfield 234, 3) := by decide +kernel
theorem dX11_tally_56 : decode cX11_tally 56 = .ok (.iconst 1, 1) := by decide +kernel
theorem dX11_tally_57 : decode cX11_tally 57 = .ok (.iadd, 1) := by decide +kernel
theorem dX11_tally_58 : decode cX11_tally 58 = .ok (.putfield 234, 3) := by decide +kernel
theorem dX11_tally_61 : decode cX11_tally 61 = .ok (.aload_n 0, 1) := by decide +kernel
theorem dX11_tally_62 : decode cX11_tally 62 = .ok (.dup, 1) := by decide +kernel
theorem dX11_tally_63 : decode cX11_tally 63 = .ok (.getfield 237, 3) := by decide +kernel
theorem dX11_tally_66 : decode cX11_tally 66 = .ok (.aload_n 0, 1) := by decide +kernel
theorem dX11_tally_67 : decode cX11_tally 67 = .ok (.iload 4, 2) := by decide +kernel
theorem dX11_tally_69 : decode cX11_tally 69 = .ok (.invokevirtual 246, 3) := by decide +kernel
theorem dX11_tally_72 : decode cX11_tally 72 = .ok (.ifCond .eq 7, 3) := by decide +kernel
theorem dX11_tally_75 : decode cX11_tally 75 = .ok (.iconst 1, 1) := by decide +kernel
theorem dX11_tally_76 : decode cX11_tally 76 = .ok (.goto 4, 3) := by decide +kernel
theorem dX11_tally_79 : decode cX11_tally 79 = .ok (.iconst 0, 1) := by decide +kernel
theorem dX11_tally_80 : decode cX11_tally 80 = .ok (.iadd, 1) := by decide +kernel
theorem dX11_tally_81 : decode cX11_tally 81 = .ok (.putfield 237, 3) := by decide +kernel
theorem dX11_tally_84 : decode cX11_tally 84 = .ok (.iinc 4 1, 3) := by decide +kernel
theorem dX11_tally_87 : decode cX11_tally 87 = .ok (.goto (-74), 3) := by decide +kernel
theorem dX11_tally_90 : decode cX11_tally 90 = .ok (.return_, 1) := by decide +kernel
theorem dX11_many_0 : decode cX11_many 0 = .ok (.iload_n 1, 1) := by decide +kernel
theorem dX11_many_1 : decode cX11_many 1 = .ok (.invokestatic 222, 3) := by decide +kernel
theorem dX11_many_4 : decode cX11_many 4 = .ok (.ifCond .eq 29, 3) := by decide +kernel
theorem dX11_many_7 : decode cX11_many 7 = .ok (.iload_n 2, 1) := by decide +kernel
theorem dX11_many_8 : decode cX11_many 8 = .ok (.i2l, 1) := by decide +kernel
theorem dX11_many_9 : decode cX11_many 9 = .ok (.lconst 0, 1) := by decide +kernel
theorem dX11_many_10 : decode cX11_many 10 = .ok (.ldc2_w 202, 3) := by decide +kernel
theorem dX11_many_13 : decode cX11_many 13 = .ok (.invokestatic 63, 3) := by decide +kernel
theorem dX11_many_16 : decode cX11_many 16 = .ok (.ifCond .ne 19, 3) := by decide +kernel
theorem dX11_many_19 : decode cX11_many 19 = .ok (.iload_n 2, 1) := by decide +kernel
theorem dX11_many_20 : decode cX11_many 20 = .ok (.i2l, 1) := by decide +kernel
theorem dX11_many_21 : decode cX11_many 21 = .ok (.ldc2_w 249, 3) := by decide +kernel
theorem dX11_many_24 : decode cX11_many 24 = .ok (.ldc2_w 251, 3) := by decide +kernel
theorem dX11_many_27 : decode cX11_many 27 = .ok (.invokestatic 63, 3) := by decide +kernel
theorem dX11_many_30 : decode cX11_many 30 = .ok (.ifCond .ne 5, 3) := by decide +kernel
theorem dX11_many_33 : decode cX11_many 33 = .ok (.iconst (-1), 1) := by decide +kernel
theorem dX11_many_34 : decode cX11_many 34 = .ok (.ireturn, 1) := by decide +kernel
theorem dX11_many_35 : decode cX11_many 35 = .ok (.aload_n 0, 1) := by decide +kernel
theorem dX11_many_36 : decode cX11_many 36 = .ok (.invokevirtual 227, 3) := by decide +kernel
theorem dX11_many_39 : decode cX11_many 39 = .ok (.aload_n 0, 1) := by decide +kernel
theorem dX11_many_40 : decode cX11_many 40 = .ok (.iload_n 1, 1) := by decide +kernel
theorem dX11_many_41 : decode cX11_many 41 = .ok (.bipush (-4), 2) := by decide +kernel
theorem dX11_many_43 : decode cX11_many 43 = .ok (.iconst 0, 1) := by decide +kernel
theorem dX11_many_44 : decode cX11_many 44 = .ok (.invokevirtual 230, 3) := by decide +kernel
theorem dX11_many_47 : decode cX11_many 47 = .ok (.iconst 0, 1) := by decide +kernel
theorem dX11_many_48 : decode cX11_many 48 = .ok (.istore_n 3, 1) := by decide +kernel
theorem dX11_many_49 : decode cX11_many 49 = .ok (.iconst 0, 1) := by decide +kernel
theorem dX11_many_50 : decode cX11_many 50 = .ok (.istore 4, 2) := by decide +kernel
theorem dX11_many_52 : decode cX11_many 52 = .ok (.iload 4, 2) := by decide +kernel
theorem dX11_many_54 : decode cX11_many 54 = .ok (.iconst 2, 1) := by decide +kernel
theorem dX11_many_55 : decode cX11_many 55 = .ok (.aload_n 0, 1) := by decide +kernel
theorem dX11_many_56 : decode cX11_many 56 = .ok (.invokevirtual 150, 3) := by decide +kernel
theorem dX11_many_59 : decode cX11_many 59 = .ok (.imul, 1) := by decide +kernel
theorem dX11_many_60 : decode cX11_many 60 = .ok (.if_icmp .ge 82, 3) := by decide +kernel
theorem dX11_many_63 : decode cX11_many 63 = .ok (.iload_n 2, 1) := by decide +kernel
theorem dX11_many_64 : decode cX11_many 64 = .ok (.iconst 2, 1) := by decide +kernel
theorem dX11_many_65 : decode cX11_many 65 = .ok (.if_icmp .ne 27, 3) := by decide +kernel
theorem dX11_many_68 : decode cX11_many 68 = .ok (.aload_n 0, 1) := by decide +kernel
theorem dX11_many_69 : decode cX11_many 69 = .ok (.iload 4, 2) := by decide +kernel
theorem dX11_many_71 : decode cX11_many 71 = .ok (.iconst 2, 1) := by decide +kernel
theorem dX11_many_72 : decode cX11_many 72 = .ok (.idiv, 1) := by decide +kernel
theorem dX11_many_73 : decode cX11_many 73 = .ok (.iload 4, 2) := by decide +kernel
theorem dX11_many_75 : decode cX11_many 75 = .ok (.iconst 2, 1) := by decide +kernel
theorem dX11_many_76 : decode cX11_many 76 = .ok (.irem, 1) := by decide +kernel
theorem dX11_many_77 : decode cX11_many 77 = .ok (.iconst 0, 1) := by decide +kernel
theorem dX11_many_78 : decode cX11_many 78 = .ok (.invokevirtual 198, 3) := by decide +kernel
theorem dX11_many_81 : decode cX11_many 81 = .ok (.ifCond .ne 7, 3) := by decide +kernel
theorem dX11_many_84 : decode cX11_many 84 = .ok (.iconst 1, 1) := by decide +kernel
theorem dX11_many_85 : decode cX11_many 85 = .ok (.goto 26, 3) := by decide +kernel
theorem dX11_many_88 : decode cX11_many 88 = .ok (.iconst 0, 1) := by decide +kernel
theorem dX11_many_89 : decode cX11_many 89 = .ok (.goto 22, 3) := by decide +kernel
theorem dX11_many_92 : decode cX11_many 92 = .ok (.aload_n 0, 1) := by decide +kernel
theorem dX11_many_93 : decode cX11_many 93 = .ok (.getfield 43, 3) := by decide +kernel
theorem dX11_many_96 : decode cX11_many 96 = .ok (.iload 4, 2) := by decide +kernel
theorem dX11_many_98 : decode cX11_many 98 = .ok (.iaload, 1) := by decide +kernel
theorem dX11_many_99 : decode cX11_many 99 = .ok (.iload_n 2, 1) := by decide +kernel
theorem dX11_many_100 : decode cX11_many 100 = .ok (.bipush 10, 2) := by decide +kernel
theorem dX11_many_102 : decode cX11_many 102 = .ok (.isub, 1) := by decide +kernel
theorem dX11_many_103 : decode cX11_many 103 = .ok (.if_icmp .ne 7, 3) := by decide +kernel
theorem dX11_many_106 : decode cX11_many 106 = .ok (.iconst 1, 1) := by decide +kernel
theorem dX11_many_107 : decode cX11_many 107 = .ok (.goto 4, 3) := by decide +kernel
theorem dX11_many_110 : decode cX11_many 110 = .ok (.iconst 0, 1) := by decide +kernel
theorem dX11_many_111 : decode cX11_many 111 = .ok (.istore 5, 2) := by decide +kernel
theorem dX11_many_113 : decode cX11_many 113 = .ok (.iload_n 3, 1) := by decide +kernel
theorem dX11_many_114 : decode cX11_many 114 = .ok (.aload_n 0, 1) := by decide +kernel
theorem dX11_many_115 : decode cX11_many 115 = .ok (.iload_n 1, 1) := by decide +kernel
theorem dX11_many_116 : decode cX11_many 116 = .ok (.iload 4, 2) := by decide +kernel
theorem dX11_many_118 : decode cX11_many 118 = .ok (.invokevirtual 240, 3) := by decide +kernel
theorem dX11_many_121 : decode cX11_many 121 = .ok (.ifCond .eq 12, 3) := by decide +kernel
theorem dX11_many_124 : decode cX11_many 124 = .ok (.iload 5, 2) := by decide +kernel
theorem dX11_many_126 : decode cX11_many 126 = .ok (.ifCond .eq 7, 3) := by decide +kernel
theorem dX11_many_129 : decode cX11_many 129 = .ok (.iconst 1, 1) := by decide +kernel
theorem dX11_many_130 : decode cX11_many 130 = .ok (.goto 4, 3) := by decide +kernel
theorem dX11_many_133 : decode cX11_many 133 = .ok (.iconst 0, 1) := by decide +kernel
theorem dX11_many_134 : decode cX11_many 134 = .ok (.iadd, 1) := by decide +kernel
theorem dX11_many_135 : decode cX11_many 135 = .ok (.istore_n 3, 1) := by decide +kernel
theorem dX11_many_136 : decode cX11_many 136 = .ok (.iinc 4 1, 3) := by decide +kernel
theorem dX11_many_139 : decode cX11_many 139 = .ok (.goto (-87), 3) := by decide +kernel
theorem dX11_many_142 : decode cX11_many 142 = .ok (.iload_n 2, 1) := by decide +kernel
theorem dX11_many_143 : decode cX11_many 143 = .ok (.ifCond .ne 10, 3) := by decide +kernel
theorem dX11_many_146 : decode cX11_many 146 = .ok (.aload_n 0, 1) := by decide +kernel
theorem dX11_many_147 : decode cX11_many 147 = .ok (.getfield 234, 3) := by decide +kernel
theorem dX11_many_150 : decode cX11_many 150 = .ok (.goto 16, 3) := by decide +kernel
theorem dX11_many_153 : decode cX11_many 153 = .ok (.iload_n 2, 1) := by decide +kernel
theorem dX11_many_154 : decode cX11_many 154 = .ok (.iconst 1, 1) := by decide +kernel
theorem dX11_many_155 : decode cX11_many 155 = .ok (.if_icmp .ne 10, 3) := by decide +kernel
theorem dX11_many_158 : decode cX11_many 158 = .ok (.aload_n 0, 1) := by decide +kernel
theorem dX11_many_159 : decode cX11_many 159 = .ok (.getfield 237, 3) := by decide +kernel
theorem dX11_many_162 : decode cX11_many 162 = .ok (.goto 4, 3) := by decide +kernel
theorem dX11_many_165 : decode cX11_many 165 = .ok (.iload_n 3, 1) := by decide +kernel
theorem dX11_many_166 : decode cX11_many 166 = .ok (.ireturn, 1) := by decide +kernel
theorem dX11_common_0 : decode cX11_common 0 = .ok (.lload_n 0, 1) := by decide +kernel
theorem dX11_common_1 : decode cX11_common 1 = .ok (.lconst 0, 1) := by decide +kernel
theorem dX11_common_2 : decode cX11_common 2 = .ok (.lcmp, 1) := by decide +kernel
theorem dX11_common_3 : decode cX11_common 3 = .ok (.ifCond .ge 8, 3) := by decide +kernel
theorem dX11_common_6 : decode cX11_common 6 = .ok (.lload_n 0, 1) := by decide +kernel
theorem dX11_common_7 : decode cX11_common 7 = .ok (.lneg, 1) := by decide +kernel
theorem dX11_common_8 : decode cX11_common 8 = .ok (.goto 4, 3) := by decide +kernel
theorem dX11_common_11 : decode cX11_common 11 = .ok (.lload_n 0, 1) := by decide +kernel
theorem dX11_common_12 : decode cX11_common 12 = .ok (.lstore 4, 2) := by decide +kernel
theorem dX11_common_14 : decode cX11_common 14 = .ok (.lload_n 2, 1) := by decide +kernel
theorem dX11_common_15 : decode cX11_common 15 = .ok (.lstore 6, 2) := by decide +kernel
theorem dX11_common_17 : decode cX11_common 17 = .ok (.lload 6, 2) := by decide +kernel
theorem dX11_common_19 : decode cX11_common 19 = .ok (.lconst 0, 1) := by decide +kernel
theorem dX11_common_20 : decode cX11_common 20 = .ok (.lcmp, 1) := by decide +kernel
theorem dX11_common_21 : decode cX11_common 21 = .ok (.ifCond .eq 21, 3) := by decide +kernel
theorem dX11_common_24 : decode cX11_common 24 = .ok (.lload 4, 2) := by decide +kernel
theorem dX11_common_26 : decode cX11_common 26 = .ok (.lload 6, 2) := by decide +kernel
theorem dX11_common_28 : decode cX11_common 28 = .ok (.lrem, 1) := by decide +kernel
theorem dX11_common_29 : decode cX11_common 29 = .ok (.lstore 8, 2) := by decide +kernel
theorem dX11_common_31 : decode cX11_common 31 = .ok (.lload 6, 2) := by decide +kernel
theorem dX11_common_33 : decode cX11_common 33 = .ok (.lstore 4, 2) := by decide +kernel
theorem dX11_common_35 : decode cX11_common 35 = .ok (.lload 8, 2) := by decide +kernel
theorem dX11_common_37 : decode cX11_common 37 = .ok (.lstore 6, 2) := by decide +kernel
theorem dX11_common_39 : decode cX11_common 39 = .ok (.goto (-22), 3) := by decide +kernel
theorem dX11_common_42 : decode cX11_common 42 = .ok (.lload 4, 2) := by decide +kernel
theorem dX11_common_44 : decode cX11_common 44 = .ok (.lreturn, 1) := by decide +kernel
theorem dX11_lowest_0 : decode cX11_lowest 0 = .ok (.iload 4, 2) := by decide +kernel
theorem dX11_lowest_2 : decode cX11_lowest 2 = .ok (.iconst 2, 1) := by decide +kernel
theorem dX11_lowest_3 : decode cX11_lowest 3 = .ok (.irem, 1) := by decide +kernel
theorem dX11_lowest_4 : decode cX11_lowest 4 = .ok (.ifCond .ne 7, 3) := by decide +kernel
theorem dX11_lowest_7 : decode cX11_lowest 7 = .ok (.lload_n 0, 1) := by decide +kernel
theorem dX11_lowest_8 : decode cX11_lowest 8 = .ok (.goto 4, 3) := by decide +kernel
theorem dX11_lowest_11 : decode cX11_lowest 11 = .ok (.lload_n 2, 1) := by decide +kernel
theorem dX11_lowest_12 : decode cX11_lowest 12 = .ok (.lload_n 0, 1) := by decide +kernel
theorem dX11_lowest_13 : decode cX11_lowest 13 = .ok (.lload_n 2, 1) := by decide +kernel
theorem dX11_lowest_14 : decode cX11_lowest 14 = .ok (.invokestatic 253, 3) := by decide +kernel
theorem dX11_lowest_17 : decode cX11_lowest 17 = .ok (.ldiv, 1) := by decide +kernel
theorem dX11_lowest_18 : decode cX11_lowest 18 = .ok (.lreturn, 1) := by decide +kernel
theorem dX11_share_0 : decode cX11_share 0 = .ok (.iload_n 1, 1) := by decide +kernel
theorem dX11_share_1 : decode cX11_share 1 = .ok (.invokestatic 222, 3) := by decide +kernel
theorem dX11_share_4 : decode cX11_share 4 = .ok (.ifCond .eq 13, 3) := by decide +kernel
theorem dX11_share_7 : decode cX11_share 7 = .ok (.iload_n 2, 1) := by decide +kernel
theorem dX11_share_8 : decode cX11_share 8 = .ok (.i2l, 1) := by decide +kernel
theorem dX11_share_9 : decode cX11_share 9 = .ok (.lconst 0, 1) := by decide +kernel
theorem dX11_share_10 : decode cX11_share 10 = .ok (.lconst 1, 1) := by decide +kernel
theorem dX11_share_11 : decode cX11_share 11 = .ok (.invokestatic 63, 3) := by decide +kernel
theorem dX11_share_14 : decode cX11_share 14 = .ok (.ifCond .ne 5, 3) := by decide +kernel
theorem dX11_share_17 : decode cX11_share 17 = .ok (.iconst (-1), 1) := by decide +kernel
theorem dX11_share_18 : decode cX11_share 18 = .ok (.ireturn, 1) := by decide +kernel
theorem dX11_share_19 : decode cX11_share 19 = .ok (.aload_n 0, 1) := by decide +kernel
theorem dX11_share_20 : decode cX11_share 20 = .ok (.invokevirtual 227, 3) := by decide +kernel
theorem dX11_share_23 : decode cX11_share 23 = .ok (.aload_n 0, 1) := by decide +kernel
theorem dX11_share_24 : decode cX11_share 24 = .ok (.iload_n 1, 1) := by decide +kernel
theorem dX11_share_25 : decode cX11_share 25 = .ok (.bipush (-4), 2) := by decide +kernel
theorem dX11_share_27 : decode cX11_share 27 = .ok (.iconst 0, 1) := by decide +kernel
theorem dX11_share_28 : decode cX11_share 28 = .ok (.invokevirtual 230, 3) := by decide +kernel
theorem dX11_share_31 : decode cX11_share 31 = .ok (.aload_n 0, 1) := by decide +kernel
theorem dX11_share_32 : decode cX11_share 32 = .ok (.getfield 234, 3) := by decide +kernel
theorem dX11_share_35 : decode cX11_share 35 = .ok (.ifCond .ne 8, 3) := by decide +kernel
theorem dX11_share_38 : decode cX11_share 38 = .ok (.bipush (-4), 2) := by decide +kernel
theorem dX11_share_40 : decode cX11_share 40 = .ok (.goto 18, 3) := by decide +kernel
theorem dX11_share_43 : decode cX11_share 43 = .ok (.aload_n 0, 1) := by decide +kernel
theorem dX11_share_44 : decode cX11_share 44 = .ok (.getfield 237, 3) := by decide +kernel
theorem dX11_share_47 : decode cX11_share 47 = .ok (.i2l, 1) := by decide +kernel
theorem dX11_share_48 : decode cX11_share 48 = .ok (.aload_n 0, 1) := by decide +kernel
theorem dX11_share_49 : decode cX11_share 49 = .ok (.getfield 234, 3) := by decide +kernel
theorem dX11_share_52 : decode cX11_share 52 = .ok (.i2l, 1) := by decide +kernel
theorem dX11_share_53 : decode cX11_share 53 = .ok (.iload_n 2, 1) := by decide +kernel
theorem dX11_share_54 : decode cX11_share 54 = .ok (.invokestatic 257, 3) := by decide +kernel
theorem dX11_share_57 : decode cX11_share 57 = .ok (.l2i, 1) := by decide +kernel
theorem dX11_share_58 : decode cX11_share 58 = .ok (.ireturn, 1) := by decide +kernel
theorem dX11_groupMany_0 : decode cX11_groupMany 0 = .ok (.iload_n 1, 1) := by decide +kernel
theorem dX11_groupMany_1 : decode cX11_groupMany 1 = .ok (.ifCond .ne 12, 3) := by decide +kernel
theorem dX11_groupMany_4 : decode cX11_groupMany 4 = .ok (.aload_n 0, 1) := by decide +kernel
theorem dX11_groupMany_5 : decode cX11_groupMany 5 = .ok (.getfield 22, 3) := by decide +kernel
theorem dX11_groupMany_8 : decode cX11_groupMany 8 = .ok (.iconst 0, 1) := by decide +kernel
theorem dX11_groupMany_9 : decode cX11_groupMany 9 = .ok (.iaload, 1) := by decide +kernel
theorem dX11_groupMany_10 : decode cX11_groupMany 10 = .ok (.goto 14, 3) := by decide +kernel
theorem dX11_groupMany_13 : decode cX11_groupMany 13 = .ok (.iload_n 1, 1) := by decide +kernel
theorem dX11_groupMany_14 : decode cX11_groupMany 14 = .ok (.iconst 1, 1) := by decide +kernel
theorem dX11_groupMany_15 : decode cX11_groupMany 15 = .ok (.if_icmp .ne 8, 3) := by decide +kernel
theorem dX11_groupMany_18 : decode cX11_groupMany 18 = .ok (.bipush 8, 2) := by decide +kernel
theorem dX11_groupMany_20 : decode cX11_groupMany 20 = .ok (.goto 4, 3) := by decide +kernel
theorem dX11_groupMany_23 : decode cX11_groupMany 23 = .ok (.iconst 2, 1) := by decide +kernel
theorem dX11_groupMany_24 : decode cX11_groupMany 24 = .ok (.ireturn, 1) := by decide +kernel
theorem dX11_best_0 : decode cX11_best 0 = .ok (.iload_n 1, 1) := by decide +kernel
theorem dX11_best_1 : decode cX11_best 1 = .ok (.invokestatic 222, 3) := by decide +kernel
theorem dX11_best_4 : decode cX11_best 4 = .ok (.ifCond .eq 40, 3) := by decide +kernel
theorem dX11_best_7 : decode cX11_best 7 = .ok (.iload_n 2, 1) := by decide +kernel
theorem dX11_best_8 : decode cX11_best 8 = .ok (.i2l, 1) := by decide +kernel
theorem dX11_best_9 : decode cX11_best 9 = .ok (.lconst 0, 1) := by decide +kernel
theorem dX11_best_10 : decode cX11_best 10 = .ok (.ldc2_w 225, 3) := by decide +kernel
theorem dX11_best_13 : decode cX11_best 13 = .ok (.invokestatic 63, 3) := by decide +kernel
theorem dX11_best_16 : decode cX11_best 16 = .ok (.ifCond .eq 28, 3) := by decide +kernel
theorem dX11_best_19 : decode cX11_best 19 = .ok (.iload_n 3, 1) := by decide +kernel
theorem dX11_best_20 : decode cX11_best 20 = .ok (.i2l, 1) := by decide +kernel
theorem dX11_best_21 : decode cX11_best 21 = .ok (.lconst 1, 1) := by decide +kernel
theorem dX11_best_22 : decode cX11_best 22 = .ok (.ldc2_w 189, 3) := by decide +kernel
theorem dX11_best_25 : decode cX11_best 25 = .ok (.invokestatic 63, 3) := by decide +kernel
theorem dX11_best_28 : decode cX11_best 28 = .ok (.ifCond .eq 16, 3) := by decide +kernel
theorem dX11_best_31 : decode cX11_best 31 = .ok (.iload 4, 2) := by decide +kernel
theorem dX11_best_33 : decode cX11_best 33 = .ok (.i2l, 1) := by decide +kernel
theorem dX11_best_34 : decode cX11_best 34 = .ok (.lconst 0, 1) := by decide +kernel
theorem dX11_best_35 : decode cX11_best 35 = .ok (.ldc2_w 202, 3) := by decide +kernel
theorem dX11_best_38 : decode cX11_best 38 = .ok (.invokestatic 63, 3) := by decide +kernel
theorem dX11_best_41 : decode cX11_best 41 = .ok (.ifCond .ne 5, 3) := by decide +kernel
theorem dX11_best_44 : decode cX11_best 44 = .ok (.iconst (-1), 1) := by decide +kernel
theorem dX11_best_45 : decode cX11_best 45 = .ok (.ireturn, 1) := by decide +kernel
theorem dX11_best_46 : decode cX11_best 46 = .ok (.aload_n 0, 1) := by decide +kernel
theorem dX11_best_47 : decode cX11_best 47 = .ok (.invokevirtual 227, 3) := by decide +kernel
theorem dX11_best_50 : decode cX11_best 50 = .ok (.bipush (-4), 2) := by decide +kernel
theorem dX11_best_52 : decode cX11_best 52 = .ok (.istore 5, 2) := by decide +kernel
theorem dX11_best_54 : decode cX11_best 54 = .ok (.iconst 1, 1) := by decide +kernel
theorem dX11_best_55 : decode cX11_best 55 = .ok (.istore 6, 2) := by decide +kernel
theorem dX11_best_57 : decode cX11_best 57 = .ok (.iconst 0, 1) := by decide +kernel
theorem dX11_best_58 : decode cX11_best 58 = .ok (.istore 7, 2) := by decide +kernel
theorem dX11_best_60 : decode cX11_best 60 = .ok (.iconst 0, 1) := by decide +kernel
theorem dX11_best_61 : decode cX11_best 61 = .ok (.istore 8, 2) := by decide +kernel
theorem dX11_best_63 : decode cX11_best 63 = .ok (.iload 8, 2) := by decide +kernel
theorem dX11_best_65 : decode cX11_best 65 = .ok (.aload_n 0, 1) := by decide +kernel
theorem dX11_best_66 : decode cX11_best 66 = .ok (.iload_n 2, 1) := by decide +kernel
theorem dX11_best_67 : decode cX11_best 67 = .ok (.invokevirtual 261, 3) := by decide +kernel
theorem dX11_best_70 : decode cX11_best 70 = .ok (.if_icmp .ge 65, 3) := by decide +kernel
theorem dX11_best_73 : decode cX11_best 73 = .ok (.aload_n 0, 1) := by decide +kernel
theorem dX11_best_74 : decode cX11_best 74 = .ok (.iload_n 1, 1) := by decide +kernel
theorem dX11_best_75 : decode cX11_best 75 = .ok (.iload_n 2, 1) := by decide +kernel
theorem dX11_best_76 : decode cX11_best 76 = .ok (.iload 8, 2) := by decide +kernel
theorem dX11_best_78 : decode cX11_best 78 = .ok (.invokevirtual 230, 3) := by decide +kernel
theorem dX11_best_81 : decode cX11_best 81 = .ok (.aload_n 0, 1) := by decide +kernel
theorem dX11_best_82 : decode cX11_best 82 = .ok (.getfield 234, 3) := by decide +kernel
theorem dX11_best_85 : decode cX11_best 85 = .ok (.iload_n 3, 1) := by decide +kernel
theorem dX11_best_86 : decode cX11_best 86 = .ok (.if_icmp .lt 43, 3) := by decide +kernel
theorem dX11_best_89 : decode cX11_best 89 = .ok (.iload 5, 2) := by decide +kernel
theorem dX11_best_91 : decode cX11_best 91 = .ok (.bipush (-4), 2) := by decide +kernel
theorem dX11_best_93 : decode cX11_best 93 = .ok (.if_icmp .eq 20, 3) := by decide +kernel
theorem dX11_best_96 : decode cX11_best 96 = .ok (.aload_n 0, 1) := by decide +kernel
theorem dX11_best_97 : decode cX11_best 97 = .ok (.getfield 237, 3) := by decide +kernel
theorem dX11_best_100 : decode cX11_best 100 = .ok (.iload 6, 2) := by decide +kernel
theorem dX11_best_102 : decode cX11_best 102 = .ok (.imul, 1) := by decide +kernel
theorem dX11_best_103 : decode cX11_best 103 = .ok (.iload 7, 2) := by decide +kernel
theorem dX11_best_105 : decode cX11_best 105 = .ok (.aload_n 0, 1) := by decide +kernel
theorem dX11_best_106 : decode cX11_best 106 = .ok (.getfield 234, 3) := by decide +kernel
theorem dX11_best_109 : decode cX11_best 109 = .ok (.imul, 1) := by decide +kernel
theorem dX11_best_110 : decode cX11_best 110 = .ok (.if_icmp .le 19, 3) := by decide +kernel
theorem dX11_best_113 : decode cX11_best 113 = .ok (.iload 8, 2) := by decide +kernel
theorem dX11_best_115 : decode cX11_best 115 = .ok (.istore 5, 2) := by decide +kernel
theorem dX11_best_117 : decode cX11_best 117 = .ok (.aload_n 0, 1) := by decide +kernel
theorem dX11_best_118 : decode cX11_best 118 = .ok (.getfield 234, 3) := by decide +kernel
theorem dX11_best_121 : decode cX11_best 121 = .ok (.istore 6, 2) := by decide +kernel
theorem dX11_best_123 : decode cX11_best 123 = .ok (.aload_n 0, 1) := by decide +kernel
theorem dX11_best_124 : decode cX11_best 124 = .ok (.getfield 237, 3) := by decide +kernel
theorem dX11_best_127 : decode cX11_best 127 = .ok (.istore 7, 2) := by decide +kernel
theorem dX11_best_129 : decode cX11_best 129 = .ok (.iinc 8 1, 3) := by decide +kernel
theorem dX11_best_132 : decode cX11_best 132 = .ok (.goto (-69), 3) := by decide +kernel
theorem dX11_best_135 : decode cX11_best 135 = .ok (.iload 5, 2) := by decide +kernel
theorem dX11_best_137 : decode cX11_best 137 = .ok (.bipush (-4), 2) := by decide +kernel
theorem dX11_best_139 : decode cX11_best 139 = .ok (.if_icmp .eq 8, 3) := by decide +kernel
theorem dX11_best_142 : decode cX11_best 142 = .ok (.iload 4, 2) := by decide +kernel
theorem dX11_best_144 : decode cX11_best 144 = .ok (.ifCond .ne 8, 3) := by decide +kernel
theorem dX11_best_147 : decode cX11_best 147 = .ok (.iload 5, 2) := by decide +kernel
theorem dX11_best_149 : decode cX11_best 149 = .ok (.goto 16, 3) := by decide +kernel
theorem dX11_best_152 : decode cX11_best 152 = .ok (.iload 4, 2) := by decide +kernel
theorem dX11_best_154 : decode cX11_best 154 = .ok (.iconst 1, 1) := by decide +kernel
theorem dX11_best_155 : decode cX11_best 155 = .ok (.if_icmp .ne 8, 3) := by decide +kernel
theorem dX11_best_158 : decode cX11_best 158 = .ok (.iload 6, 2) := by decide +kernel
theorem dX11_best_160 : decode cX11_best 160 = .ok (.goto 5, 3) := by decide +kernel
theorem dX11_best_163 : decode cX11_best 163 = .ok (.iload 7, 2) := by decide +kernel
theorem dX11_best_165 : decode cX11_best 165 = .ok (.ireturn, 1) := by decide +kernel
theorem dX11_pairsOf_0 : decode cX11_pairsOf 0 = .ok (.iconst 0, 1) := by decide +kernel
theorem dX11_pairsOf_1 : decode cX11_pairsOf 1 = .ok (.istore 4, 2) := by decide +kernel
theorem dX11_pairsOf_3 : decode cX11_pairsOf 3 = .ok (.iconst 0, 1) := by decide +kernel
theorem dX11_pairsOf_4 : decode cX11_pairsOf 4 = .ok (.istore 5, 2) := by decide +kernel
theorem dX11_pairsOf_6 : decode cX11_pairsOf 6 = .ok (.iload 5, 2) := by decide +kernel
theorem dX11_pairsOf_8 : decode cX11_pairsOf 8 = .ok (.aload_n 0, 1) := by decide +kernel
theorem dX11_pairsOf_9 : decode cX11_pairsOf 9 = .ok (.invokevirtual 150, 3) := by decide +kernel
theorem dX11_pairsOf_12 : decode cX11_pairsOf 12 = .ok (.if_icmp .ge 81, 3) := by decide +kernel
theorem dX11_pairsOf_15 : decode cX11_pairsOf 15 = .ok (.aload_n 0, 1) := by decide +kernel
theorem dX11_pairsOf_16 : decode cX11_pairsOf 16 = .ok (.iload_n 1, 1) := by decide +kernel
theorem dX11_pairsOf_17 : decode cX11_pairsOf 17 = .ok (.iconst 2, 1) := by decide +kernel
theorem dX11_pairsOf_18 : decode cX11_pairsOf 18 = .ok (.iload 5, 2) := by decide +kernel
theorem dX11_pairsOf_20 : decode cX11_pairsOf 20 = .ok (.imul, 1) := by decide +kernel
theorem dX11_pairsOf_21 : decode cX11_pairsOf 21 = .ok (.invokevirtual 240, 3) := by decide +kernel
theorem dX11_pairsOf_24 : decode cX11_pairsOf 24 = .ok (.ifCond .eq 21, 3) := by decide +kernel
theorem dX11_pairsOf_27 : decode cX11_pairsOf 27 = .ok (.aload_n 0, 1) := by decide +kernel
theorem dX11_pairsOf_28 : decode cX11_pairsOf 28 = .ok (.iload_n 1, 1) := by decide +kernel
theorem dX11_pairsOf_29 : decode cX11_pairsOf 29 = .ok (.iconst 2, 1) := by decide +kernel
theorem dX11_pairsOf_30 : decode cX11_pairsOf 30 = .ok (.iload 5, 2) := by decide +kernel
theorem dX11_pairsOf_32 : decode cX11_pairsOf 32 = .ok (.imul, 1) := by decide +kernel
theorem dX11_pairsOf_33 : decode cX11_pairsOf 33 = .ok (.iconst 1, 1) := by decide +kernel
theorem dX11_pairsOf_34 : decode cX11_pairsOf 34 = .ok (.iadd, 1) := by decide +kernel
theorem dX11_pairsOf_35 : decode cX11_pairsOf 35 = .ok (.invokevirtual 240, 3) := by decide +kernel
theorem dX11_pairsOf_38 : decode cX11_pairsOf 38 = .ok (.ifCond .eq 7, 3) := by decide +kernel
theorem dX11_pairsOf_41 : decode cX11_pairsOf 41 = .ok (.iconst 1, 1) := by decide +kernel
theorem dX11_pairsOf_42 : decode cX11_pairsOf 42 = .ok (.goto 4, 3) := by decide +kernel
theorem dX11_pairsOf_45 : decode cX11_pairsOf 45 = .ok (.iconst 0, 1) := by decide +kernel
theorem dX11_pairsOf_46 : decode cX11_pairsOf 46 = .ok (.istore 6, 2) := by decide +kernel
theorem dX11_pairsOf_48 : decode cX11_pairsOf 48 = .ok (.iload 4, 2) := by decide +kernel
theorem dX11_pairsOf_50 : decode cX11_pairsOf 50 = .ok (.iload 6, 2) := by decide +kernel
theorem dX11_pairsOf_52 : decode cX11_pairsOf 52 = .ok (.ifCond .eq 31, 3) := by decide +kernel
theorem dX11_pairsOf_55 : decode cX11_pairsOf 55 = .ok (.aload_n 0, 1) := by decide +kernel
theorem dX11_pairsOf_56 : decode cX11_pairsOf 56 = .ok (.iload 5, 2) := by decide +kernel
theorem dX11_pairsOf_58 : decode cX11_pairsOf 58 = .ok (.iconst 0, 1) := by decide +kernel
theorem dX11_pairsOf_59 : decode cX11_pairsOf 59 = .ok (.iconst 0, 1) := by decide +kernel
theorem dX11_pairsOf_60 : decode cX11_pairsOf 60 = .ok (.invokevirtual 198, 3) := by decide +kernel
theorem dX11_pairsOf_63 : decode cX11_pairsOf 63 = .ok (.iload_n 2, 1) := by decide +kernel
theorem dX11_pairsOf_64 : decode cX11_pairsOf 64 = .ok (.if_icmp .ne 19, 3) := by decide +kernel
theorem dX11_pairsOf_67 : decode cX11_pairsOf 67 = .ok (.aload_n 0, 1) := by decide +kernel
theorem dX11_pairsOf_68 : decode cX11_pairsOf 68 = .ok (.iload 5, 2) := by decide +kernel
theorem dX11_pairsOf_70 : decode cX11_pairsOf 70 = .ok (.iconst 1, 1) := by decide +kernel
theorem dX11_pairsOf_71 : decode cX11_pairsOf 71 = .ok (.iconst 0, 1) := by decide +kernel
theorem dX11_pairsOf_72 : decode cX11_pairsOf 72 = .ok (.invokevirtual 198, 3) := by decide +kernel
theorem dX11_pairsOf_75 : decode cX11_pairsOf 75 = .ok (.iload_n 3, 1) := by decide +kernel
theorem dX11_pairsOf_76 : decode cX11_pairsOf 76 = .ok (.if_icmp .ne 7, 3) := by decide +kernel
theorem dX11_pairsOf_79 : decode cX11_pairsOf 79 = .ok (.iconst 1, 1) := by decide +kernel
theorem dX11_pairsOf_80 : decode cX11_pairsOf 80 = .ok (.goto 4, 3) := by decide +kernel
theorem dX11_pairsOf_83 : decode cX11_pairsOf 83 = .ok (.iconst 0, 1) := by decide +kernel
theorem dX11_pairsOf_84 : decode cX11_pairsOf 84 = .ok (.iadd, 1) := by decide +kernel
theorem dX11_pairsOf_85 : decode cX11_pairsOf 85 = .ok (.istore 4, 2) := by decide +kernel
theorem dX11_pairsOf_87 : decode cX11_pairsOf 87 = .ok (.iinc 5 1, 3) := by decide +kernel
theorem dX11_pairsOf_90 : decode cX11_pairsOf 90 = .ok (.goto (-84), 3) := by decide +kernel
theorem dX11_pairsOf_93 : decode cX11_pairsOf 93 = .ok (.iload 4, 2) := by decide +kernel
theorem dX11_pairsOf_95 : decode cX11_pairsOf 95 = .ok (.ireturn, 1) := by decide +kernel
theorem dX11_pairs_0 : decode cX11_pairs 0 = .ok (.iload_n 1, 1) := by decide +kernel
theorem dX11_pairs_1 : decode cX11_pairs 1 = .ok (.invokestatic 222, 3) := by decide +kernel
theorem dX11_pairs_4 : decode cX11_pairs 4 = .ok (.ifCond .eq 15, 3) := by decide +kernel
theorem dX11_pairs_7 : decode cX11_pairs 7 = .ok (.iload_n 2, 1) := by decide +kernel
theorem dX11_pairs_8 : decode cX11_pairs 8 = .ok (.i2l, 1) := by decide +kernel
theorem dX11_pairs_9 : decode cX11_pairs 9 = .ok (.lconst 0, 1) := by decide +kernel
theorem dX11_pairs_10 : decode cX11_pairs 10 = .ok (.ldc2_w 225, 3) := by decide +kernel
theorem dX11_pairs_13 : decode cX11_pairs 13 = .ok (.invokestatic 63, 3) := by decide +kernel
theorem dX11_pairs_16 : decode cX11_pairs 16 = .ok (.ifCond .ne 5, 3) := by decide +kernel
theorem dX11_pairs_19 : decode cX11_pairs 19 = .ok (.iconst (-1), 1) := by decide +kernel
theorem dX11_pairs_20 : decode cX11_pairs 20 = .ok (.ireturn, 1) := by decide +kernel
theorem dX11_pairs_21 : decode cX11_pairs 21 = .ok (.aload_n 0, 1) := by decide +kernel
theorem dX11_pairs_22 : decode cX11_pairs 22 = .ok (.invokevirtual 219, 3) := by decide +kernel
theorem dX11_pairs_25 : decode cX11_pairs 25 = .ok (.aload_n 0, 1) := by decide +kernel
theorem dX11_pairs_26 : decode cX11_pairs 26 = .ok (.iload_n 1, 1) := by decide +kernel
theorem dX11_pairs_27 : decode cX11_pairs 27 = .ok (.iload_n 2, 1) := by decide +kernel
theorem dX11_pairs_28 : decode cX11_pairs 28 = .ok (.iconst 2, 1) := by decide +kernel
theorem dX11_pairs_29 : decode cX11_pairs 29 = .ok (.idiv, 1) := by decide +kernel
theorem dX11_pairs_30 : decode cX11_pairs 30 = .ok (.iload_n 2, 1) := by decide +kernel
theorem dX11_pairs_31 : decode cX11_pairs 31 = .ok (.iconst 2, 1) := by decide +kernel
theorem dX11_pairs_32 : decode cX11_pairs 32 = .ok (.irem, 1) := by decide +kernel
theorem dX11_pairs_33 : decode cX11_pairs 33 = .ok (.invokevirtual 264, 3) := by decide +kernel
theorem dX11_pairs_36 : decode cX11_pairs 36 = .ok (.ireturn, 1) := by decide +kernel
theorem dX11_spared_0 : decode cX11_spared 0 = .ok (.iload_n 1, 1) := by decide +kernel
theorem dX11_spared_1 : decode cX11_spared 1 = .ok (.invokestatic 222, 3) := by decide +kernel
theorem dX11_spared_4 : decode cX11_spared 4 = .ok (.ifCond .eq 13, 3) := by decide +kernel
theorem dX11_spared_7 : decode cX11_spared 7 = .ok (.iload_n 2, 1) := by decide +kernel
theorem dX11_spared_8 : decode cX11_spared 8 = .ok (.i2l, 1) := by decide +kernel
theorem dX11_spared_9 : decode cX11_spared 9 = .ok (.lconst 0, 1) := by decide +kernel
theorem dX11_spared_10 : decode cX11_spared 10 = .ok (.lconst 1, 1) := by decide +kernel
theorem dX11_spared_11 : decode cX11_spared 11 = .ok (.invokestatic 63, 3) := by decide +kernel
theorem dX11_spared_14 : decode cX11_spared 14 = .ok (.ifCond .ne 5, 3) := by decide +kernel
theorem dX11_spared_17 : decode cX11_spared 17 = .ok (.iconst (-1), 1) := by decide +kernel
theorem dX11_spared_18 : decode cX11_spared 18 = .ok (.ireturn, 1) := by decide +kernel
theorem dX11_spared_19 : decode cX11_spared 19 = .ok (.aload_n 0, 1) := by decide +kernel
theorem dX11_spared_20 : decode cX11_spared 20 = .ok (.invokevirtual 219, 3) := by decide +kernel
theorem dX11_spared_23 : decode cX11_spared 23 = .ok (.aload_n 0, 1) := by decide +kernel
theorem dX11_spared_24 : decode cX11_spared 24 = .ok (.iload_n 1, 1) := by decide +kernel
theorem dX11_spared_25 : decode cX11_spared 25 = .ok (.iconst 0, 1) := by decide +kernel
theorem dX11_spared_26 : decode cX11_spared 26 = .ok (.iconst 0, 1) := by decide +kernel
theorem dX11_spared_27 : decode cX11_spared 27 = .ok (.invokevirtual 264, 3) := by decide +kernel
theorem dX11_spared_30 : decode cX11_spared 30 = .ok (.istore_n 3, 1) := by decide +kernel
theorem dX11_spared_31 : decode cX11_spared 31 = .ok (.iload_n 3, 1) := by decide +kernel
theorem dX11_spared_32 : decode cX11_spared 32 = .ok (.aload_n 0, 1) := by decide +kernel
theorem dX11_spared_33 : decode cX11_spared 33 = .ok (.iload_n 1, 1) := by decide +kernel
theorem dX11_spared_34 : decode cX11_spared 34 = .ok (.iconst 0, 1) := by decide +kernel
theorem dX11_spared_35 : decode cX11_spared 35 = .ok (.iconst 1, 1) := by decide +kernel
theorem dX11_spared_36 : decode cX11_spared 36 = .ok (.invokevirtual 264, 3) := by decide +kernel
theorem dX11_spared_39 : decode cX11_spared 39 = .ok (.iadd, 1) := by decide +kernel
theorem dX11_spared_40 : decode cX11_spared 40 = .ok (.istore 4, 2) := by decide +kernel
theorem dX11_spared_42 : decode cX11_spared 42 = .ok (.aload_n 0, 1) := by decide +kernel
theorem dX11_spared_43 : decode cX11_spared 43 = .ok (.iload_n 1, 1) := by decide +kernel
theorem dX11_spared_44 : decode cX11_spared 44 = .ok (.iconst 1, 1) := by decide +kernel
theorem dX11_spared_45 : decode cX11_spared 45 = .ok (.iconst 0, 1) := by decide +kernel
theorem dX11_spared_46 : decode cX11_spared 46 = .ok (.invokevirtual 264, 3) := by decide +kernel
theorem dX11_spared_49 : decode cX11_spared 49 = .ok (.istore 5, 2) := by decide +kernel
theorem dX11_spared_51 : decode cX11_spared 51 = .ok (.iload 5, 2) := by decide +kernel
theorem dX11_spared_53 : decode cX11_spared 53 = .ok (.aload_n 0, 1) := by decide +kernel
theorem dX11_spared_54 : decode cX11_spared 54 = .ok (.iload_n 1, 1) := by decide +kernel
theorem dX11_spared_55 : decode cX11_spared 55 = .ok (.iconst 1, 1) := by decide +kernel
theorem dX11_spared_56 : decode cX11_spared 56 = .ok (.iconst 1, 1) := by decide +kernel
theorem dX11_spared_57 : decode cX11_spared 57 = .ok (.invokevirtual 264, 3) := by decide +kernel
theorem dX11_spared_60 : decode cX11_spared 60 = .ok (.iadd, 1) := by decide +kernel
theorem dX11_spared_61 : decode cX11_spared 61 = .ok (.istore 6, 2) := by decide +kernel
theorem dX11_spared_63 : decode cX11_spared 63 = .ok (.iload_n 3, 1) := by decide +kernel
theorem dX11_spared_64 : decode cX11_spared 64 = .ok (.iload 6, 2) := by decide +kernel
theorem dX11_spared_66 : decode cX11_spared 66 = .ok (.imul, 1) := by decide +kernel
theorem dX11_spared_67 : decode cX11_spared 67 = .ok (.iload 4, 2) := by decide +kernel
theorem dX11_spared_69 : decode cX11_spared 69 = .ok (.iload 5, 2) := by decide +kernel
theorem dX11_spared_71 : decode cX11_spared 71 = .ok (.imul, 1) := by decide +kernel
theorem dX11_spared_72 : decode cX11_spared 72 = .ok (.isub, 1) := by decide +kernel
theorem dX11_spared_73 : decode cX11_spared 73 = .ok (.istore 7, 2) := by decide +kernel
theorem dX11_spared_75 : decode cX11_spared 75 = .ok (.iload 6, 2) := by decide +kernel
theorem dX11_spared_77 : decode cX11_spared 77 = .ok (.ifCond .ne 8, 3) := by decide +kernel
theorem dX11_spared_80 : decode cX11_spared 80 = .ok (.bipush (-4), 2) := by decide +kernel
theorem dX11_spared_82 : decode cX11_spared 82 = .ok (.goto 23, 3) := by decide +kernel
theorem dX11_spared_85 : decode cX11_spared 85 = .ok (.iload 7, 2) := by decide +kernel
theorem dX11_spared_87 : decode cX11_spared 87 = .ok (.ifCond .ge 7, 3) := by decide +kernel
theorem dX11_spared_90 : decode cX11_spared 90 = .ok (.lconst 0, 1) := by decide +kernel
theorem dX11_spared_91 : decode cX11_spared 91 = .ok (.goto 6, 3) := by decide +kernel
theorem dX11_spared_94 : decode cX11_spared 94 = .ok (.iload 7, 2) := by decide +kernel
theorem dX11_spared_96 : decode cX11_spared 96 = .ok (.i2l, 1) := by decide +kernel
theorem dX11_spared_97 : decode cX11_spared 97 = .ok (.iload 6, 2) := by decide +kernel
theorem dX11_spared_99 : decode cX11_spared 99 = .ok (.i2l, 1) := by decide +kernel
theorem dX11_spared_100 : decode cX11_spared 100 = .ok (.iload_n 2, 1) := by decide +kernel
theorem dX11_spared_101 : decode cX11_spared 101 = .ok (.invokestatic 257, 3) := by decide +kernel
theorem dX11_spared_104 : decode cX11_spared 104 = .ok (.l2i, 1) := by decide +kernel
theorem dX11_spared_105 : decode cX11_spared 105 = .ok (.ireturn, 1) := by decide +kernel
theorem dX11_layLearnt_0 : decode cX11_layLearnt 0 = .ok (.aload_n 0, 1) := by decide +kernel
theorem dX11_layLearnt_1 : decode cX11_layLearnt 1 = .ok (.invokevirtual 227, 3) := by decide +kernel
theorem dX11_layLearnt_4 : decode cX11_layLearnt 4 = .ok (.aload_n 0, 1) := by decide +kernel
theorem dX11_layLearnt_5 : decode cX11_layLearnt 5 = .ok (.iconst 0, 1) := by decide +kernel
theorem dX11_layLearnt_6 : decode cX11_layLearnt 6 = .ok (.putfield 267, 3) := by decide +kernel
theorem dX11_layLearnt_9 : decode cX11_layLearnt 9 = .ok (.aload_n 0, 1) := by decide +kernel
theorem dX11_layLearnt_10 : decode cX11_layLearnt 10 = .ok (.iconst 0, 1) := by decide +kernel
theorem dX11_layLearnt_11 : decode cX11_layLearnt 11 = .ok (.putfield 270, 3) := by decide +kernel
theorem dX11_layLearnt_14 : decode cX11_layLearnt 14 = .ok (.aload_n 0, 1) := by decide +kernel
theorem dX11_layLearnt_15 : decode cX11_layLearnt 15 = .ok (.iconst 0, 1) := by decide +kernel
theorem dX11_layLearnt_16 : decode cX11_layLearnt 16 = .ok (.putfield 273, 3) := by decide +kernel
theorem dX11_layLearnt_19 : decode cX11_layLearnt 19 = .ok (.aload_n 0, 1) := by decide +kernel
theorem dX11_layLearnt_20 : decode cX11_layLearnt 20 = .ok (.iconst 0, 1) := by decide +kernel
theorem dX11_layLearnt_21 : decode cX11_layLearnt 21 = .ok (.putfield 276, 3) := by decide +kernel
theorem dX11_layLearnt_24 : decode cX11_layLearnt 24 = .ok (.iconst 0, 1) := by decide +kernel
theorem dX11_layLearnt_25 : decode cX11_layLearnt 25 = .ok (.istore 4, 2) := by decide +kernel
theorem dX11_layLearnt_27 : decode cX11_layLearnt 27 = .ok (.iload 4, 2) := by decide +kernel
theorem dX11_layLearnt_29 : decode cX11_layLearnt 29 = .ok (.iconst 2, 1) := by decide +kernel
theorem dX11_layLearnt_30 : decode cX11_layLearnt 30 = .ok (.aload_n 0, 1) := by decide +kernel
theorem dX11_layLearnt_31 : decode cX11_layLearnt 31 = .ok (.invokevirtual 150, 3) := by decide +kernel
theorem dX11_layLearnt_34 : decode cX11_layLearnt 34 = .ok (.imul, 1) := by decide +kernel
theorem dX11_layLearnt_35 : decode cX11_layLearnt 35 = .ok (.if_icmp .ge 231, 3) := by decide +kernel
theorem dX11_layLearnt_38 : decode cX11_layLearnt 38 = .ok (.aload_n 0, 1) := by decide +kernel
theorem dX11_layLearnt_39 : decode cX11_layLearnt 39 = .ok (.iload_n 1, 1) := by decide +kernel
theorem dX11_layLearnt_40 : decode cX11_layLearnt 40 = .ok (.iload 4, 2) := by decide +kernel
theorem dX11_layLearnt_42 : decode cX11_layLearnt 42 = .ok (.invokevirtual 240, 3) := by decide +kernel
theorem dX11_layLearnt_45 : decode cX11_layLearnt 45 = .ok (.ifCond .eq 215, 3) := by decide +kernel
theorem dX11_layLearnt_48 : decode cX11_layLearnt 48 = .ok (.aload_n 0, 1) := by decide +kernel
theorem dX11_layLearnt_49 : decode cX11_layLearnt 49 = .ok (.iload 4, 2) := by decide +kernel
theorem dX11_layLearnt_51 : decode cX11_layLearnt 51 = .ok (.iconst 2, 1) := by decide +kernel
theorem dX11_layLearnt_52 : decode cX11_layLearnt 52 = .ok (.idiv, 1) := by decide +kernel
theorem dX11_layLearnt_53 : decode cX11_layLearnt 53 = .ok (.iload 4, 2) := by decide +kernel
theorem dX11_layLearnt_55 : decode cX11_layLearnt 55 = .ok (.iconst 2, 1) := by decide +kernel
theorem dX11_layLearnt_56 : decode cX11_layLearnt 56 = .ok (.irem, 1) := by decide +kernel
theorem dX11_layLearnt_57 : decode cX11_layLearnt 57 = .ok (.iconst 1, 1) := by decide +kernel
theorem dX11_layLearnt_58 : decode cX11_layLearnt 58 = .ok (.invokevirtual 198, 3) := by decide +kernel
theorem dX11_layLearnt_61 : decode cX11_layLearnt 61 = .ok (.istore 5, 2) := by decide +kernel
theorem dX11_layLearnt_63 : decode cX11_layLearnt 63 = .ok (.aload_n 0, 1) := by decide +kernel
theorem dX11_layLearnt_64 : decode cX11_layLearnt 64 = .ok (.iload 4, 2) := by decide +kernel
theorem dX11_layLearnt_66 : decode cX11_layLearnt 66 = .ok (.iconst 2, 1) := by decide +kernel
theorem dX11_layLearnt_67 : decode cX11_layLearnt 67 = .ok (.idiv, 1) := by decide +kernel
theorem dX11_layLearnt_68 : decode cX11_layLearnt 68 = .ok (.iconst 1, 1) := by decide +kernel
theorem dX11_layLearnt_69 : decode cX11_layLearnt 69 = .ok (.invokevirtual 153, 3) := by decide +kernel
theorem dX11_layLearnt_72 : decode cX11_layLearnt 72 = .ok (.aload_n 0, 1) := by decide +kernel
theorem dX11_layLearnt_73 : decode cX11_layLearnt 73 = .ok (.getfield 22, 3) := by decide +kernel
theorem dX11_layLearnt_76 : decode cX11_layLearnt 76 = .ok (.iconst 2, 1) := by decide +kernel
theorem dX11_layLearnt_77 : decode cX11_layLearnt 77 = .ok (.iaload, 1) := by decide +kernel
theorem dX11_layLearnt_78 : decode cX11_layLearnt 78 = .ok (.iadd, 1) := by decide +kernel
theorem dX11_layLearnt_79 : decode cX11_layLearnt 79 = .ok (.istore 6, 2) := by decide +kernel
theorem dX11_layLearnt_81 : decode cX11_layLearnt 81 = .ok (.iload 6, 2) := by decide +kernel
theorem dX11_layLearnt_83 : decode cX11_layLearnt 83 = .ok (.iload 5, 2) := by decide +kernel
theorem dX11_layLearnt_85 : decode cX11_layLearnt 85 = .ok (.ifCond .le 8, 3) := by decide +kernel
theorem dX11_layLearnt_88 : decode cX11_layLearnt 88 = .ok (.iload 5, 2) := by decide +kernel
theorem dX11_layLearnt_90 : decode cX11_layLearnt 90 = .ok (.goto 9, 3) := by decide +kernel
theorem dX11_layLearnt_93 : decode cX11_layLearnt 93 = .ok (.aload_n 0, 1) := by decide +kernel
theorem dX11_layLearnt_94 : decode cX11_layLearnt 94 = .ok (.getfield 22, 3) := by decide +kernel
theorem dX11_layLearnt_97 : decode cX11_layLearnt 97 = .ok (.iconst 4, 1) := by decide +kernel
theorem dX11_layLearnt_98 : decode cX11_layLearnt 98 = .ok (.iaload, 1) := by decide +kernel
theorem dX11_layLearnt_99 : decode cX11_layLearnt 99 = .ok (.isub, 1) := by decide +kernel
theorem dX11_layLearnt_100 : decode cX11_layLearnt 100 = .ok (.istore 7, 2) := by decide +kernel
theorem dX11_layLearnt_102 : decode cX11_layLearnt 102 = .ok (.iload 6, 2) := by decide +kernel
theorem dX11_layLearnt_104 : decode cX11_layLearnt 104 = .ok (.iload 5, 2) := by decide +kernel
theorem dX11_layLearnt_106 : decode cX11_layLearnt 106 = .ok (.ifCond .le 8, 3) := by decide +kernel
theorem dX11_layLearnt_109 : decode cX11_layLearnt 109 = .ok (.iload 5, 2) := by decide +kernel
theorem dX11_layLearnt_111 : decode cX11_layLearnt 111 = .ok (.goto 9, 3) := by decide +kernel
theorem dX11_layLearnt_114 : decode cX11_layLearnt 114 = .ok (.aload_n 0, 1) := by decide +kernel
theorem dX11_layLearnt_115 : decode cX11_layLearnt 115 = .ok (.getfield 22, 3) := by decide +kernel
theorem dX11_layLearnt_118 : decode cX11_layLearnt 118 = .ok (.iconst 3, 1) := by decide +kernel
theorem dX11_layLearnt_119 : decode cX11_layLearnt 119 = .ok (.iaload, 1) := by decide +kernel
theorem dX11_layLearnt_120 : decode cX11_layLearnt 120 = .ok (.isub, 1) := by decide +kernel
theorem dX11_layLearnt_121 : decode cX11_layLearnt 121 = .ok (.istore 8, 2) := by decide +kernel
theorem dX11_layLearnt_123 : decode cX11_layLearnt 123 = .ok (.iload 7, 2) := by decide +kernel
theorem dX11_layLearnt_125 : decode cX11_layLearnt 125 = .ok (.iload_n 2, 1) := by decide +kernel
theorem dX11_layLearnt_126 : decode cX11_layLearnt 126 = .ok (.if_icmp .lt 13, 3) := by decide +kernel
theorem dX11_layLearnt_129 : decode cX11_layLearnt 129 = .ok (.iload 8, 2) := by decide +kernel
theorem dX11_layLearnt_131 : decode cX11_layLearnt 131 = .ok (.iload_n 3, 1) := by decide +kernel
theorem dX11_layLearnt_132 : decode cX11_layLearnt 132 = .ok (.if_icmp .gt 7, 3) := by decide +kernel
theorem dX11_layLearnt_135 : decode cX11_layLearnt 135 = .ok (.iconst 1, 1) := by decide +kernel
theorem dX11_layLearnt_136 : decode cX11_layLearnt 136 = .ok (.goto 4, 3) := by decide +kernel
theorem dX11_layLearnt_139 : decode cX11_layLearnt 139 = .ok (.iconst 0, 1) := by decide +kernel
theorem dX11_layLearnt_140 : decode cX11_layLearnt 140 = .ok (.istore 9, 2) := by decide +kernel
theorem dX11_layLearnt_142 : decode cX11_layLearnt 142 = .ok (.iload 9, 2) := by decide +kernel
theorem dX11_layLearnt_144 : decode cX11_layLearnt 144 = .ok (.ifCond .ne 19, 3) := by decide +kernel
theorem dX11_layLearnt_147 : decode cX11_layLearnt 147 = .ok (.iload 7, 2) := by decide +kernel
theorem dX11_layLearnt_149 : decode cX11_layLearnt 149 = .ok (.iload_n 3, 1) := by decide +kernel
theorem dX11_layLearnt_150 : decode cX11_layLearnt 150 = .ok (.if_icmp .gt 13, 3) := by decide +kernel
theorem dX11_layLearnt_153 : decode cX11_layLearnt 153 = .ok (.iload 8, 2) := by decide +kernel
theorem dX11_layLearnt_155 : decode cX11_layLearnt 155 = .ok (.iload_n 2, 1) := by decide +kernel
theorem dX11_layLearnt_156 : decode cX11_layLearnt 156 = .ok (.if_icmp .lt 7, 3) := by decide +kernel
theorem dX11_layLearnt_159 : decode cX11_layLearnt 159 = .ok (.iconst 1, 1) := by decide +kernel
theorem dX11_layLearnt_160 : decode cX11_layLearnt 160 = .ok (.goto 4, 3) := by decide +kernel
theorem dX11_layLearnt_163 : decode cX11_layLearnt 163 = .ok (.iconst 0, 1) := by decide +kernel
theorem dX11_layLearnt_164 : decode cX11_layLearnt 164 = .ok (.istore 10, 2) := by decide +kernel
theorem dX11_layLearnt_166 : decode cX11_layLearnt 166 = .ok (.aload_n 0, 1) := by decide +kernel
theorem dX11_layLearnt_167 : decode cX11_layLearnt 167 = .ok (.dup, 1) := by decide +kernel
theorem dX11_layLearnt_168 : decode cX11_layLearnt 168 = .ok (.getfield 267, 3) := by decide +kernel
theorem dX11_layLearnt_171 : decode cX11_layLearnt 171 = .ok (.iload 9, 2) := by decide +kernel
theorem dX11_layLearnt_173 : decode cX11_layLearnt 173 = .ok (.ifCond .eq 7, 3) := by decide +kernel
theorem dX11_layLearnt_176 : decode cX11_layLearnt 176 = .ok (.iconst 1, 1) := by decide +kernel
theorem dX11_layLearnt_177 : decode cX11_layLearnt 177 = .ok (.goto 4, 3) := by decide +kernel
theorem dX11_layLearnt_180 : decode cX11_layLearnt 180 = .ok (.iconst 0, 1) := by decide +kernel
theorem dX11_layLearnt_181 : decode cX11_layLearnt 181 = .ok (.iadd, 1) := by decide +kernel
theorem dX11_layLearnt_182 : decode cX11_layLearnt 182 = .ok (.putfield 267, 3) := by decide +kernel
theorem dX11_layLearnt_185 : decode cX11_layLearnt 185 = .ok (.aload_n 0, 1) := by decide +kernel
theorem dX11_layLearnt_186 : decode cX11_layLearnt 186 = .ok (.dup, 1) := by decide +kernel
theorem dX11_layLearnt_187 : decode cX11_layLearnt 187 = .ok (.getfield 270, 3) := by decide +kernel
theorem dX11_layLearnt_190 : decode cX11_layLearnt 190 = .ok (.iload 10, 2) := by decide +kernel
theorem dX11_layLearnt_192 : decode cX11_layLearnt 192 = .ok (.ifCond .eq 7, 3) := by decide +kernel
theorem dX11_layLearnt_195 : decode cX11_layLearnt 195 = .ok (.iconst 1, 1) := by decide +kernel
theorem dX11_layLearnt_196 : decode cX11_layLearnt 196 = .ok (.goto 4, 3) := by decide +kernel
theorem dX11_layLearnt_199 : decode cX11_layLearnt 199 = .ok (.iconst 0, 1) := by decide +kernel
theorem dX11_layLearnt_200 : decode cX11_layLearnt 200 = .ok (.iadd, 1) := by decide +kernel
theorem dX11_layLearnt_201 : decode cX11_layLearnt 201 = .ok (.putfield 270, 3) := by decide +kernel
theorem dX11_layLearnt_204 : decode cX11_layLearnt 204 = .ok (.aload_n 0, 1) := by decide +kernel
theorem dX11_layLearnt_205 : decode cX11_layLearnt 205 = .ok (.dup, 1) := by decide +kernel
theorem dX11_layLearnt_206 : decode cX11_layLearnt 206 = .ok (.getfield 273, 3) := by decide +kernel
theorem dX11_layLearnt_209 : decode cX11_layLearnt 209 = .ok (.iload 9, 2) := by decide +kernel
theorem dX11_layLearnt_211 : decode cX11_layLearnt 211 = .ok (.ifCond .eq 16, 3) := by decide +kernel
theorem dX11_layLearnt_214 : decode cX11_layLearnt 214 = .ok (.aload_n 0, 1) := by decide +kernel
theorem dX11_layLearnt_215 : decode cX11_layLearnt 215 = .ok (.iload 4, 2) := by decide +kernel
theorem dX11_layLearnt_217 : decode cX11_layLearnt 217 = .ok (.invokevirtual 246, 3) := by decide +kernel
theorem dX11_layLearnt_220 : decode cX11_layLearnt 220 = .ok (.ifCond .eq 7, 3) := by decide +kernel
theorem dX11_layLearnt_223 : decode cX11_layLearnt 223 = .ok (.iconst 1, 1) := by decide +kernel
theorem dX11_layLearnt_224 : decode cX11_layLearnt 224 = .ok (.goto 4, 3) := by decide +kernel
theorem dX11_layLearnt_227 : decode cX11_layLearnt 227 = .ok (.iconst 0, 1) := by decide +kernel
theorem dX11_layLearnt_228 : decode cX11_layLearnt 228 = .ok (.iadd, 1) := by decide +kernel
theorem dX11_layLearnt_229 : decode cX11_layLearnt 229 = .ok (.putfield 273, 3) := by decide +kernel
theorem dX11_layLearnt_232 : decode cX11_layLearnt 232 = .ok (.aload_n 0, 1) := by decide +kernel
theorem dX11_layLearnt_233 : decode cX11_layLearnt 233 = .ok (.dup, 1) := by decide +kernel
theorem dX11_layLearnt_234 : decode cX11_layLearnt 234 = .ok (.getfield 276, 3) := by decide +kernel
theorem dX11_layLearnt_237 : decode cX11_layLearnt 237 = .ok (.iload 10, 2) := by decide +kernel
theorem dX11_layLearnt_239 : decode cX11_layLearnt 239 = .ok (.ifCond .eq 16, 3) := by decide +kernel
theorem dX11_layLearnt_242 : decode cX11_layLearnt 242 = .ok (.aload_n 0, 1) := by decide +kernel
theorem dX11_layLearnt_243 : decode cX11_layLearnt 243 = .ok (.iload 4, 2) := by decide +kernel
theorem dX11_layLearnt_245 : decode cX11_layLearnt 245 = .ok (.invokevirtual 246, 3) := by decide +kernel
theorem dX11_layLearnt_248 : decode cX11_layLearnt 248 = .ok (.ifCond .eq 7, 3) := by decide +kernel
theorem dX11_layLearnt_251 : decode cX11_layLearnt 251 = .ok (.iconst 1, 1) := by decide +kernel
theorem dX11_layLearnt_252 : decode cX11_layLearnt 252 = .ok (.goto 4, 3) := by decide +kernel
theorem dX11_layLearnt_255 : decode cX11_layLearnt 255 = .ok (.iconst 0, 1) := by decide +kernel
theorem dX11_layLearnt_256 : decode cX11_layLearnt 256 = .ok (.iadd, 1) := by decide +kernel
theorem dX11_layLearnt_257 : decode cX11_layLearnt 257 = .ok (.putfield 276, 3) := by decide +kernel
theorem dX11_layLearnt_260 : decode cX11_layLearnt 260 = .ok (.iinc 4 1, 3) := by decide +kernel
theorem dX11_layLearnt_263 : decode cX11_layLearnt 263 = .ok (.goto (-236), 3) := by decide +kernel
theorem dX11_layLearnt_266 : decode cX11_layLearnt 266 = .ok (.return_, 1) := by decide +kernel
theorem dX11_isSpan_0 : decode cX11_isSpan 0 = .ok (.iload_n 0, 1) := by decide +kernel
theorem dX11_isSpan_1 : decode cX11_isSpan 1 = .ok (.i2l, 1) := by decide +kernel
theorem dX11_isSpan_2 : decode cX11_isSpan 2 = .ok (.ldc2_w 279, 3) := by decide +kernel
theorem dX11_isSpan_5 : decode cX11_isSpan 5 = .ok (.ldc2_w 171, 3) := by decide +kernel
theorem dX11_isSpan_8 : decode cX11_isSpan 8 = .ok (.invokestatic 63, 3) := by decide +kernel
theorem dX11_isSpan_11 : decode cX11_isSpan 11 = .ok (.ifCond .eq 20, 3) := by decide +kernel
theorem dX11_isSpan_14 : decode cX11_isSpan 14 = .ok (.iload_n 1, 1) := by decide +kernel
theorem dX11_isSpan_15 : decode cX11_isSpan 15 = .ok (.i2l, 1) := by decide +kernel
theorem dX11_isSpan_16 : decode cX11_isSpan 16 = .ok (.iload_n 0, 1) := by decide +kernel
theorem dX11_isSpan_17 : decode cX11_isSpan 17 = .ok (.i2l, 1) := by decide +kernel
theorem dX11_isSpan_18 : decode cX11_isSpan 18 = .ok (.ldc2_w 171, 3) := by decide +kernel
theorem dX11_isSpan_21 : decode cX11_isSpan 21 = .ok (.invokestatic 63, 3) := by decide +kernel
theorem dX11_isSpan_24 : decode cX11_isSpan 24 = .ok (.ifCond .eq 7, 3) := by decide +kernel
theorem dX11_isSpan_27 : decode cX11_isSpan 27 = .ok (.iconst 1, 1) := by decide +kernel
theorem dX11_isSpan_28 : decode cX11_isSpan 28 = .ok (.goto 4, 3) := by decide +kernel
theorem dX11_isSpan_31 : decode cX11_isSpan 31 = .ok (.iconst 0, 1) := by decide +kernel
theorem dX11_isSpan_32 : decode cX11_isSpan 32 = .ok (.ireturn, 1) := by decide +kernel
theorem dX11_learnt_0 : decode cX11_learnt 0 = .ok (.iload_n 1, 1) := by decide +kernel
theorem dX11_learnt_1 : decode cX11_learnt 1 = .ok (.invokestatic 222, 3) := by decide +kernel
theorem dX11_learnt_4 : decode cX11_learnt 4 = .ok (.ifCond .eq 24, 3) := by decide +kernel
theorem dX11_learnt_7 : decode cX11_learnt 7 = .ok (.iload_n 2, 1) := by decide +kernel
theorem dX11_learnt_8 : decode cX11_learnt 8 = .ok (.iload_n 3, 1) := by decide +kernel
theorem dX11_learnt_9 : decode cX11_learnt 9 = .ok (.invokestatic 281, 3) := by decide +kernel
theorem dX11_learnt_12 : decode cX11_learnt 12 = .ok (.ifCond .eq 16, 3) := by decide +kernel
theorem dX11_learnt_15 : decode cX11_learnt 15 = .ok (.iload 4, 2) := by decide +kernel
theorem dX11_learnt_17 : decode cX11_learnt 17 = .ok (.i2l, 1) := by decide +kernel
theorem dX11_learnt_18 : decode cX11_learnt 18 = .ok (.lconst 0, 1) := by decide +kernel
theorem dX11_learnt_19 : decode cX11_learnt 19 = .ok (.ldc2_w 225, 3) := by decide +kernel
theorem dX11_learnt_22 : decode cX11_learnt 22 = .ok (.invokestatic 63, 3) := by decide +kernel
theorem dX11_learnt_25 : decode cX11_learnt 25 = .ok (.ifCond .ne 5, 3) := by decide +kernel
theorem dX11_learnt_28 : decode cX11_learnt 28 = .ok (.iconst (-1), 1) := by decide +kernel
theorem dX11_learnt_29 : decode cX11_learnt 29 = .ok (.ireturn, 1) := by decide +kernel
theorem dX11_learnt_30 : decode cX11_learnt 30 = .ok (.aload_n 0, 1) := by decide +kernel
theorem dX11_learnt_31 : decode cX11_learnt 31 = .ok (.iload_n 1, 1) := by decide +kernel
theorem dX11_learnt_32 : decode cX11_learnt 32 = .ok (.iload_n 2, 1) := by decide +kernel
theorem dX11_learnt_33 : decode cX11_learnt 33 = .ok (.iload_n 3, 1) := by decide +kernel
theorem dX11_learnt_34 : decode cX11_learnt 34 = .ok (.invokevirtual 284, 3) := by decide +kernel
theorem dX11_learnt_37 : decode cX11_learnt 37 = .ok (.iload 4, 2) := by decide +kernel
theorem dX11_learnt_39 : decode cX11_learnt 39 = .ok (.ifCond .ne 10, 3) := by decide +kernel
theorem dX11_learnt_42 : decode cX11_learnt 42 = .ok (.aload_n 0, 1) := by decide +kernel
theorem dX11_learnt_43 : decode cX11_learnt 43 = .ok (.getfield 267, 3) := by decide +kernel
theorem dX11_learnt_46 : decode cX11_learnt 46 = .ok (.goto 33, 3) := by decide +kernel
theorem dX11_learnt_49 : decode cX11_learnt 49 = .ok (.iload 4, 2) := by decide +kernel
theorem dX11_learnt_51 : decode cX11_learnt 51 = .ok (.iconst 1, 1) := by decide +kernel
theorem dX11_learnt_52 : decode cX11_learnt 52 = .ok (.if_icmp .ne 10, 3) := by decide +kernel
theorem dX11_learnt_55 : decode cX11_learnt 55 = .ok (.aload_n 0, 1) := by decide +kernel
theorem dX11_learnt_56 : decode cX11_learnt 56 = .ok (.getfield 270, 3) := by decide +kernel
theorem dX11_learnt_59 : decode cX11_learnt 59 = .ok (.goto 20, 3) := by decide +kernel
theorem dX11_learnt_62 : decode cX11_learnt 62 = .ok (.iload 4, 2) := by decide +kernel
theorem dX11_learnt_64 : decode cX11_learnt 64 = .ok (.iconst 2, 1) := by decide +kernel
theorem dX11_learnt_65 : decode cX11_learnt 65 = .ok (.if_icmp .ne 10, 3) := by decide +kernel
theorem dX11_learnt_68 : decode cX11_learnt 68 = .ok (.aload_n 0, 1) := by decide +kernel
theorem dX11_learnt_69 : decode cX11_learnt 69 = .ok (.getfield 273, 3) := by decide +kernel
theorem dX11_learnt_72 : decode cX11_learnt 72 = .ok (.goto 7, 3) := by decide +kernel
theorem dX11_learnt_75 : decode cX11_learnt 75 = .ok (.aload_n 0, 1) := by decide +kernel
theorem dX11_learnt_76 : decode cX11_learnt 76 = .ok (.getfield 276, 3) := by decide +kernel
theorem dX11_learnt_79 : decode cX11_learnt 79 = .ok (.ireturn, 1) := by decide +kernel
theorem dX11_bounds_0 : decode cX11_bounds 0 = .ok (.iload_n 1, 1) := by decide +kernel
theorem dX11_bounds_1 : decode cX11_bounds 1 = .ok (.invokestatic 222, 3) := by decide +kernel
theorem dX11_bounds_4 : decode cX11_bounds 4 = .ok (.ifCond .eq 24, 3) := by decide +kernel
theorem dX11_bounds_7 : decode cX11_bounds 7 = .ok (.iload_n 2, 1) := by decide +kernel
theorem dX11_bounds_8 : decode cX11_bounds 8 = .ok (.iload_n 3, 1) := by decide +kernel
theorem dX11_bounds_9 : decode cX11_bounds 9 = .ok (.invokestatic 281, 3) := by decide +kernel
theorem dX11_bounds_12 : decode cX11_bounds 12 = .ok (.ifCond .eq 16, 3) := by decide +kernel
theorem dX11_bounds_15 : decode cX11_bounds 15 = .ok (.iload 4, 2) := by decide +kernel
theorem dX11_bounds_17 : decode cX11_bounds 17 = .ok (.i2l, 1) := by decide +kernel
theorem dX11_bounds_18 : decode cX11_bounds 18 = .ok (.lconst 0, 1) := by decide +kernel
theorem dX11_bounds_19 : decode cX11_bounds 19 = .ok (.ldc2_w 225, 3) := by decide +kernel
theorem dX11_bounds_22 : decode cX11_bounds 22 = .ok (.invokestatic 63, 3) := by decide +kernel
theorem dX11_bounds_25 : decode cX11_bounds 25 = .ok (.ifCond .ne 5, 3) := by decide +kernel
theorem dX11_bounds_28 : decode cX11_bounds 28 = .ok (.iconst (-1), 1) := by decide +kernel
theorem dX11_bounds_29 : decode cX11_bounds 29 = .ok (.ireturn, 1) := by decide +kernel
theorem dX11_bounds_30 : decode cX11_bounds 30 = .ok (.aload_n 0, 1) := by decide +kernel
theorem dX11_bounds_31 : decode cX11_bounds 31 = .ok (.iload_n 1, 1) := by decide +kernel
theorem dX11_bounds_32 : decode cX11_bounds 32 = .ok (.iload_n 2, 1) := by decide +kernel
theorem dX11_bounds_33 : decode cX11_bounds 33 = .ok (.iload_n 3, 1) := by decide +kernel
theorem dX11_bounds_34 : decode cX11_bounds 34 = .ok (.invokevirtual 284, 3) := by decide +kernel
theorem dX11_bounds_37 : decode cX11_bounds 37 = .ok (.iload 4, 2) := by decide +kernel
theorem dX11_bounds_39 : decode cX11_bounds 39 = .ok (.iconst 2, 1) := by decide +kernel
theorem dX11_bounds_40 : decode cX11_bounds 40 = .ok (.if_icmp .ge 10, 3) := by decide +kernel
theorem dX11_bounds_43 : decode cX11_bounds 43 = .ok (.aload_n 0, 1) := by decide +kernel
theorem dX11_bounds_44 : decode cX11_bounds 44 = .ok (.getfield 273, 3) := by decide +kernel
theorem dX11_bounds_47 : decode cX11_bounds 47 = .ok (.goto 12, 3) := by decide +kernel
theorem dX11_bounds_50 : decode cX11_bounds 50 = .ok (.aload_n 0, 1) := by decide +kernel
theorem dX11_bounds_51 : decode cX11_bounds 51 = .ok (.getfield 273, 3) := by decide +kernel
theorem dX11_bounds_54 : decode cX11_bounds 54 = .ok (.aload_n 0, 1) := by decide +kernel
theorem dX11_bounds_55 : decode cX11_bounds 55 = .ok (.getfield 276, 3) := by decide +kernel
theorem dX11_bounds_58 : decode cX11_bounds 58 = .ok (.iadd, 1) := by decide +kernel
theorem dX11_bounds_59 : decode cX11_bounds 59 = .ok (.istore 5, 2) := by decide +kernel
theorem dX11_bounds_61 : decode cX11_bounds 61 = .ok (.iload 4, 2) := by decide +kernel
theorem dX11_bounds_63 : decode cX11_bounds 63 = .ok (.iconst 2, 1) := by decide +kernel
theorem dX11_bounds_64 : decode cX11_bounds 64 = .ok (.if_icmp .ge 20, 3) := by decide +kernel
theorem dX11_bounds_67 : decode cX11_bounds 67 = .ok (.aload_n 0, 1) := by decide +kernel
theorem dX11_bounds_68 : decode cX11_bounds 68 = .ok (.getfield 267, 3) := by decide +kernel
theorem dX11_bounds_71 : decode cX11_bounds 71 = .ok (.aload_n 0, 1) := by decide +kernel
theorem dX11_bounds_72 : decode cX11_bounds 72 = .ok (.getfield 270, 3) := by decide +kernel
theorem dX11_bounds_75 : decode cX11_bounds 75 = .ok (.iadd, 1) := by decide +kernel
theorem dX11_bounds_76 : decode cX11_bounds 76 = .ok (.aload_n 0, 1) := by decide +kernel
theorem dX11_bounds_77 : decode cX11_bounds 77 = .ok (.getfield 276, 3) := by decide +kernel
theorem dX11_bounds_80 : decode cX11_bounds 80 = .ok (.isub, 1) := by decide +kernel
theorem dX11_bounds_81 : decode cX11_bounds 81 = .ok (.goto 12, 3) := by decide +kernel
theorem dX11_bounds_84 : decode cX11_bounds 84 = .ok (.aload_n 0, 1) := by decide +kernel
theorem dX11_bounds_85 : decode cX11_bounds 85 = .ok (.getfield 267, 3) := by decide +kernel
theorem dX11_bounds_88 : decode cX11_bounds 88 = .ok (.aload_n 0, 1) := by decide +kernel
theorem dX11_bounds_89 : decode cX11_bounds 89 = .ok (.getfield 276, 3) := by decide +kernel
theorem dX11_bounds_92 : decode cX11_bounds 92 = .ok (.iadd, 1) := by decide +kernel
theorem dX11_bounds_93 : decode cX11_bounds 93 = .ok (.istore 6, 2) := by decide +kernel
theorem dX11_bounds_95 : decode cX11_bounds 95 = .ok (.iload 6, 2) := by decide +kernel
theorem dX11_bounds_97 : decode cX11_bounds 97 = .ok (.ifCond .ne 8, 3) := by decide +kernel
theorem dX11_bounds_100 : decode cX11_bounds 100 = .ok (.bipush (-4), 2) := by decide +kernel
theorem dX11_bounds_102 : decode cX11_bounds 102 = .ok (.goto 15, 3) := by decide +kernel
theorem dX11_bounds_105 : decode cX11_bounds 105 = .ok (.iload 5, 2) := by decide +kernel
theorem dX11_bounds_107 : decode cX11_bounds 107 = .ok (.i2l, 1) := by decide +kernel
theorem dX11_bounds_108 : decode cX11_bounds 108 = .ok (.iload 6, 2) := by decide +kernel
theorem dX11_bounds_110 : decode cX11_bounds 110 = .ok (.i2l, 1) := by decide +kernel
theorem dX11_bounds_111 : decode cX11_bounds 111 = .ok (.iload 4, 2) := by decide +kernel
theorem dX11_bounds_113 : decode cX11_bounds 113 = .ok (.invokestatic 257, 3) := by decide +kernel
theorem dX11_bounds_116 : decode cX11_bounds 116 = .ok (.l2i, 1) := by decide +kernel
theorem dX11_bounds_117 : decode cX11_bounds 117 = .ok (.ireturn, 1) := by decide +kernel
theorem dX11_tens_0 : decode cX11_tens 0 = .ok (.iload_n 1, 1) := by decide +kernel
theorem dX11_tens_1 : decode cX11_tens 1 = .ok (.invokestatic 222, 3) := by decide +kernel
theorem dX11_tens_4 : decode cX11_tens 4 = .ok (.ifCond .eq 13, 3) := by decide +kernel
theorem dX11_tens_7 : decode cX11_tens 7 = .ok (.iload_n 2, 1) := by decide +kernel
theorem dX11_tens_8 : decode cX11_tens 8 = .ok (.i2l, 1) := by decide +kernel
theorem dX11_tens_9 : decode cX11_tens 9 = .ok (.lconst 0, 1) := by decide +kernel
theorem dX11_tens_10 : decode cX11_tens 10 = .ok (.lconst 1, 1) := by decide +kernel
theorem dX11_tens_11 : decode cX11_tens 11 = .ok (.invokestatic 63, 3) := by decide +kernel
theorem dX11_tens_14 : decode cX11_tens 14 = .ok (.ifCond .ne 7, 3) := by decide +kernel
theorem dX11_tens_17 : decode cX11_tens 17 = .ok (.sipush (-1000), 3) := by decide +kernel
theorem dX11_tens_20 : decode cX11_tens 20 = .ok (.ireturn, 1) := by decide +kernel
theorem dX11_tens_21 : decode cX11_tens 21 = .ok (.aload_n 0, 1) := by decide +kernel
theorem dX11_tens_22 : decode cX11_tens 22 = .ok (.invokevirtual 219, 3) := by decide +kernel
theorem dX11_tens_25 : decode cX11_tens 25 = .ok (.bipush (-4), 2) := by decide +kernel
theorem dX11_tens_27 : decode cX11_tens 27 = .ok (.istore_n 3, 1) := by decide +kernel
theorem dX11_tens_28 : decode cX11_tens 28 = .ok (.iconst 0, 1) := by decide +kernel
theorem dX11_tens_29 : decode cX11_tens 29 = .ok (.istore 4, 2) := by decide +kernel
theorem dX11_tens_31 : decode cX11_tens 31 = .ok (.bipush (-60), 2) := by decide +kernel
theorem dX11_tens_33 : decode cX11_tens 33 = .ok (.istore 5, 2) := by decide +kernel
theorem dX11_tens_35 : decode cX11_tens 35 = .ok (.iload 5, 2) := by decide +kernel
theorem dX11_tens_37 : decode cX11_tens 37 = .ok (.bipush 90, 2) := by decide +kernel
theorem dX11_tens_39 : decode cX11_tens 39 = .ok (.if_icmp .ge 137, 3) := by decide +kernel
theorem dX11_tens_42 : decode cX11_tens 42 = .ok (.iconst 0, 1) := by decide +kernel
theorem dX11_tens_43 : decode cX11_tens 43 = .ok (.istore 6, 2) := by decide +kernel
theorem dX11_tens_45 : decode cX11_tens 45 = .ok (.iconst 0, 1) := by decide +kernel
theorem dX11_tens_46 : decode cX11_tens 46 = .ok (.istore 7, 2) := by decide +kernel
theorem dX11_tens_48 : decode cX11_tens 48 = .ok (.iload 7, 2) := by decide +kernel
theorem dX11_tens_50 : decode cX11_tens 50 = .ok (.iconst 2, 1) := by decide +kernel
theorem dX11_tens_51 : decode cX11_tens 51 = .ok (.aload_n 0, 1) := by decide +kernel
theorem dX11_tens_52 : decode cX11_tens 52 = .ok (.invokevirtual 150, 3) := by decide +kernel
theorem dX11_tens_55 : decode cX11_tens 55 = .ok (.imul, 1) := by decide +kernel
theorem dX11_tens_56 : decode cX11_tens 56 = .ok (.if_icmp .ge 84, 3) := by decide +kernel
theorem dX11_tens_59 : decode cX11_tens 59 = .ok (.aload_n 0, 1) := by decide +kernel
theorem dX11_tens_60 : decode cX11_tens 60 = .ok (.iload 7, 2) := by decide +kernel
theorem dX11_tens_62 : decode cX11_tens 62 = .ok (.iconst 2, 1) := by decide +kernel
theorem dX11_tens_63 : decode cX11_tens 63 = .ok (.idiv, 1) := by decide +kernel
theorem dX11_tens_64 : decode cX11_tens 64 = .ok (.iload 7, 2) := by decide +kernel
theorem dX11_tens_66 : decode cX11_tens 66 = .ok (.iconst 2, 1) := by decide +kernel
theorem dX11_tens_67 : decode cX11_tens 67 = .ok (.irem, 1) := by decide +kernel
theorem dX11_tens_68 : decode cX11_tens 68 = .ok (.iconst 1, 1) := by decide +kernel
theorem dX11_tens_69 : decode cX11_tens 69 = .ok (.invokevirtual 198, 3) := by decide +kernel
theorem dX11_tens_72 : decode cX11_tens 72 = .ok (.istore 8, 2) := by decide +kernel
theorem dX11_tens_74 : decode cX11_tens 74 = .ok (.iload 6, 2) := by decide +kernel
theorem dX11_tens_76 : decode cX11_tens 76 = .ok (.iload 8, 2) := by decide +kernel
theorem dX11_tens_78 : decode cX11_tens 78 = .ok (.ifCond .le 52, 3) := by decide +kernel
theorem dX11_tens_81 : decode cX11_tens 81 = .ok (.aload_n 0, 1) := by decide +kernel
theorem dX11_tens_82 : decode cX11_tens 82 = .ok (.iload_n 1, 1) := by decide +kernel
theorem dX11_tens_83 : decode cX11_tens 83 = .ok (.iload 7, 2) := by decide +kernel
theorem dX11_tens_85 : decode cX11_tens 85 = .ok (.invokevirtual 240, 3) := by decide +kernel
theorem dX11_tens_88 : decode cX11_tens 88 = .ok (.ifCond .eq 42, 3) := by decide +kernel
theorem dX11_tens_91 : decode cX11_tens 91 = .ok (.aload_n 0, 1) := by decide +kernel
theorem dX11_tens_92 : decode cX11_tens 92 = .ok (.iload 7, 2) := by decide +kernel
theorem dX11_tens_94 : decode cX11_tens 94 = .ok (.iconst 2, 1) := by decide +kernel
theorem dX11_tens_95 : decode cX11_tens 95 = .ok (.idiv, 1) := by decide +kernel
theorem dX11_tens_96 : decode cX11_tens 96 = .ok (.iconst 1, 1) := by decide +kernel
theorem dX11_tens_97 : decode cX11_tens 97 = .ok (.invokevirtual 153, 3) := by decide +kernel
theorem dX11_tens_100 : decode cX11_tens 100 = .ok (.iload 8, 2) := by decide +kernel
theorem dX11_tens_102 : decode cX11_tens 102 = .ok (.isub, 1) := by decide +kernel
theorem dX11_tens_103 : decode cX11_tens 103 = .ok (.aload_n 0, 1) := by decide +kernel
theorem dX11_tens_104 : decode cX11_tens 104 = .ok (.getfield 22, 3) := by decide +kernel
theorem dX11_tens_107 : decode cX11_tens 107 = .ok (.iconst 2, 1) := by decide +kernel
theorem dX11_tens_108 : decode cX11_tens 108 = .ok (.iaload, 1) := by decide +kernel
theorem dX11_tens_109 : decode cX11_tens 109 = .ok (.iadd, 1) := by decide +kernel
theorem dX11_tens_110 : decode cX11_tens 110 = .ok (.i2l, 1) := by decide +kernel
theorem dX11_tens_111 : decode cX11_tens 111 = .ok (.iload 5, 2) := by decide +kernel
theorem dX11_tens_113 : decode cX11_tens 113 = .ok (.i2l, 1) := by decide +kernel
theorem dX11_tens_114 : decode cX11_tens 114 = .ok (.iload 5, 2) := by decide +kernel
theorem dX11_tens_116 : decode cX11_tens 116 = .ok (.bipush 9, 2) := by decide +kernel
theorem dX11_tens_118 : decode cX11_tens 118 = .ok (.iadd, 1) := by decide +kernel
theorem dX11_tens_119 : decode cX11_tens 119 = .ok (.i2l, 1) := by decide +kernel
theorem dX11_tens_120 : decode cX11_tens 120 = .ok (.invokestatic 63, 3) := by decide +kernel
theorem dX11_tens_123 : decode cX11_tens 123 = .ok (.ifCond .eq 7, 3) := by decide +kernel
theorem dX11_tens_126 : decode cX11_tens 126 = .ok (.iconst 1, 1) := by decide +kernel
theorem dX11_tens_127 : decode cX11_tens 127 = .ok (.goto 4, 3) := by decide +kernel
theorem dX11_tens_130 : decode cX11_tens 130 = .ok (.iconst 0, 1) := by decide +kernel
theorem dX11_tens_131 : decode cX11_tens 131 = .ok (.iadd, 1) := by decide +kernel
theorem dX11_tens_132 : decode cX11_tens 132 = .ok (.istore 6, 2) := by decide +kernel
theorem dX11_tens_134 : decode cX11_tens 134 = .ok (.iinc 7 1, 3) := by decide +kernel
theorem dX11_tens_137 : decode cX11_tens 137 = .ok (.goto (-89), 3) := by decide +kernel
theorem dX11_tens_140 : decode cX11_tens 140 = .ok (.iload 6, 2) := by decide +kernel
theorem dX11_tens_142 : decode cX11_tens 142 = .ok (.iload 4, 2) := by decide +kernel
theorem dX11_tens_144 : decode cX11_tens 144 = .ok (.if_icmp .le 8, 3) := by decide +kernel
theorem dX11_tens_147 : decode cX11_tens 147 = .ok (.iload 5, 2) := by decide +kernel
theorem dX11_tens_149 : decode cX11_tens 149 = .ok (.goto 4, 3) := by decide +kernel
theorem dX11_tens_152 : decode cX11_tens 152 = .ok (.iload_n 3, 1) := by decide +kernel
theorem dX11_tens_153 : decode cX11_tens 153 = .ok (.istore_n 3, 1) := by decide +kernel
theorem dX11_tens_154 : decode cX11_tens 154 = .ok (.iload 6, 2) := by decide +kernel
theorem dX11_tens_156 : decode cX11_tens 156 = .ok (.iload 4, 2) := by decide +kernel
theorem dX11_tens_158 : decode cX11_tens 158 = .ok (.if_icmp .le 8, 3) := by decide +kernel
theorem dX11_tens_161 : decode cX11_tens 161 = .ok (.iload 6, 2) := by decide +kernel
theorem dX11_tens_163 : decode cX11_tens 163 = .ok (.goto 5, 3) := by decide +kernel
theorem dX11_tens_166 : decode cX11_tens 166 = .ok (.iload 4, 2) := by decide +kernel
theorem dX11_tens_168 : decode cX11_tens 168 = .ok (.istore 4, 2) := by decide +kernel
theorem dX11_tens_170 : decode cX11_tens 170 = .ok (.iinc 5 10, 3) := by decide +kernel
theorem dX11_tens_173 : decode cX11_tens 173 = .ok (.goto (-138), 3) := by decide +kernel
theorem dX11_tens_176 : decode cX11_tens 176 = .ok (.iload 4, 2) := by decide +kernel
theorem dX11_tens_178 : decode cX11_tens 178 = .ok (.ifCond .ne 9, 3) := by decide +kernel
theorem dX11_tens_181 : decode cX11_tens 181 = .ok (.sipush (-1004), 3) := by decide +kernel
theorem dX11_tens_184 : decode cX11_tens 184 = .ok (.goto 13, 3) := by decide +kernel
theorem dX11_tens_187 : decode cX11_tens 187 = .ok (.iload_n 2, 1) := by decide +kernel
theorem dX11_tens_188 : decode cX11_tens 188 = .ok (.ifCond .ne 7, 3) := by decide +kernel
theorem dX11_tens_191 : decode cX11_tens 191 = .ok (.iload_n 3, 1) := by decide +kernel
theorem dX11_tens_192 : decode cX11_tens 192 = .ok (.goto 5, 3) := by decide +kernel
theorem dX11_tens_195 : decode cX11_tens 195 = .ok (.iload 4, 2) := by decide +kernel
theorem dX11_tens_197 : decode cX11_tens 197 = .ok (.ireturn, 1) := by decide +kernel
theorem dX11_nothing_0 : decode cX11_nothing 0 = .ok (.aload_n 0, 1) := by decide +kernel
theorem dX11_nothing_1 : decode cX11_nothing 1 = .ok (.lconst 0, 1) := by decide +kernel
theorem dX11_nothing_2 : decode cX11_nothing 2 = .ok (.putfield 287, 3) := by decide +kernel
theorem dX11_nothing_5 : decode cX11_nothing 5 = .ok (.aload_n 0, 1) := by decide +kernel
theorem dX11_nothing_6 : decode cX11_nothing 6 = .ok (.lconst 1, 1) := by decide +kernel
theorem dX11_nothing_7 : decode cX11_nothing 7 = .ok (.putfield 291, 3) := by decide +kernel
theorem dX11_nothing_10 : decode cX11_nothing 10 = .ok (.return_, 1) := by decide +kernel
theorem dX11_plus_0 : decode cX11_plus 0 = .ok (.lload_n 1, 1) := by decide +kernel
theorem dX11_plus_1 : decode cX11_plus 1 = .ok (.lload_n 3, 1) := by decide +kernel
theorem dX11_plus_2 : decode cX11_plus 2 = .ok (.invokestatic 253, 3) := by decide +kernel
theorem dX11_plus_5 : decode cX11_plus 5 = .ok (.lstore 5, 2) := by decide +kernel
theorem dX11_plus_7 : decode cX11_plus 7 = .ok (.lload_n 1, 1) := by decide +kernel
theorem dX11_plus_8 : decode cX11_plus 8 = .ok (.lload 5, 2) := by decide +kernel
theorem dX11_plus_10 : decode cX11_plus 10 = .ok (.ldiv, 1) := by decide +kernel
theorem dX11_plus_11 : decode cX11_plus 11 = .ok (.lstore 7, 2) := by decide +kernel
theorem dX11_plus_13 : decode cX11_plus 13 = .ok (.lload_n 3, 1) := by decide +kernel
theorem dX11_plus_14 : decode cX11_plus 14 = .ok (.lload 5, 2) := by decide +kernel
theorem dX11_plus_16 : decode cX11_plus 16 = .ok (.ldiv, 1) := by decide +kernel
theorem dX11_plus_17 : decode cX11_plus 17 = .ok (.lstore 9, 2) := by decide +kernel
theorem dX11_plus_19 : decode cX11_plus 19 = .ok (.aload_n 0, 1) := by decide +kernel
theorem dX11_plus_20 : decode cX11_plus 20 = .ok (.getfield 291, 3) := by decide +kernel
theorem dX11_plus_23 : decode cX11_plus 23 = .ok (.lload 9, 2) := by decide +kernel
theorem dX11_plus_25 : decode cX11_plus 25 = .ok (.invokestatic 253, 3) := by decide +kernel
theorem dX11_plus_28 : decode cX11_plus 28 = .ok (.lstore 11, 2) := by decide +kernel
theorem dX11_plus_30 : decode cX11_plus 30 = .ok (.aload_n 0, 1) := by decide +kernel
theorem dX11_plus_31 : decode cX11_plus 31 = .ok (.aload_n 0, 1) := by decide +kernel
theorem dX11_plus_32 : decode cX11_plus 32 = .ok (.getfield 287, 3) := by decide +kernel
theorem dX11_plus_35 : decode cX11_plus 35 = .ok (.lload 9, 2) := by decide +kernel
theorem dX11_plus_37 : decode cX11_plus 37 = .ok (.lload 11, 2) := by decide +kernel
theorem dX11_plus_39 : decode cX11_plus 39 = .ok (.ldiv, 1) := by decide +kernel
theorem dX11_plus_40 : decode cX11_plus 40 = .ok (.lmul, 1) := by decide +kernel
theorem dX11_plus_41 : decode cX11_plus 41 = .ok (.lload 7, 2) := by decide +kernel
theorem dX11_plus_43 : decode cX11_plus 43 = .ok (.aload_n 0, 1) := by decide +kernel
theorem dX11_plus_44 : decode cX11_plus 44 = .ok (.getfield 291, 3) := by decide +kernel
theorem dX11_plus_47 : decode cX11_plus 47 = .ok (.lload 11, 2) := by decide +kernel
theorem dX11_plus_49 : decode cX11_plus 49 = .ok (.ldiv, 1) := by decide +kernel
theorem dX11_plus_50 : decode cX11_plus 50 = .ok (.lmul, 1) := by decide +kernel
theorem dX11_plus_51 : decode cX11_plus 51 = .ok (.ladd, 1) := by decide +kernel
theorem dX11_plus_52 : decode cX11_plus 52 = .ok (.putfield 287, 3) := by decide +kernel
theorem dX11_plus_55 : decode cX11_plus 55 = .ok (.aload_n 0, 1) := by decide +kernel
theorem dX11_plus_56 : decode cX11_plus 56 = .ok (.aload_n 0, 1) := by decide +kernel
theorem dX11_plus_57 : decode cX11_plus 57 = .ok (.getfield 291, 3) := by decide +kernel
theorem dX11_plus_60 : decode cX11_plus 60 = .ok (.lload 11, 2) := by decide +kernel
theorem dX11_plus_62 : decode cX11_plus 62 = .ok (.ldiv, 1) := by decide +kernel
theorem dX11_plus_63 : decode cX11_plus 63 = .ok (.lload 9, 2) := by decide +kernel
theorem dX11_plus_65 : decode cX11_plus 65 = .ok (.lmul, 1) := by decide +kernel
theorem dX11_plus_66 : decode cX11_plus 66 = .ok (.putfield 291, 3) := by decide +kernel
theorem dX11_plus_69 : decode cX11_plus 69 = .ok (.aload_n 0, 1) := by decide +kernel
theorem dX11_plus_70 : decode cX11_plus 70 = .ok (.getfield 287, 3) := by decide +kernel
theorem dX11_plus_73 : decode cX11_plus 73 = .ok (.aload_n 0, 1) := by decide +kernel
theorem dX11_plus_74 : decode cX11_plus 74 = .ok (.getfield 291, 3) := by decide +kernel
theorem dX11_plus_77 : decode cX11_plus 77 = .ok (.invokestatic 253, 3) := by decide +kernel
theorem dX11_plus_80 : decode cX11_plus 80 = .ok (.lstore 13, 2) := by decide +kernel
theorem dX11_plus_82 : decode cX11_plus 82 = .ok (.aload_n 0, 1) := by decide +kernel
theorem dX11_plus_83 : decode cX11_plus 83 = .ok (.dup, 1) := by decide +kernel
theorem dX11_plus_84 : decode cX11_plus 84 = .ok (.getfield 287, 3) := by decide +kernel
theorem dX11_plus_87 : decode cX11_plus 87 = .ok (.lload 13, 2) := by decide +kernel
theorem dX11_plus_89 : decode cX11_plus 89 = .ok (.ldiv, 1) := by decide +kernel
theorem dX11_plus_90 : decode cX11_plus 90 = .ok (.putfield 287, 3) := by decide +kernel
theorem dX11_plus_93 : decode cX11_plus 93 = .ok (.aload_n 0, 1) := by decide +kernel
theorem dX11_plus_94 : decode cX11_plus 94 = .ok (.dup, 1) := by decide +kernel
theorem dX11_plus_95 : decode cX11_plus 95 = .ok (.getfield 291, 3) := by decide +kernel
theorem dX11_plus_98 : decode cX11_plus 98 = .ok (.lload 13, 2) := by decide +kernel
theorem dX11_plus_100 : decode cX11_plus 100 = .ok (.ldiv, 1) := by decide +kernel
theorem dX11_plus_101 : decode cX11_plus 101 = .ok (.putfield 291, 3) := by decide +kernel
theorem dX11_plus_104 : decode cX11_plus 104 = .ok (.return_, 1) := by decide +kernel
theorem dX11_allMarriages_0 : decode cX11_allMarriages 0 = .ok (.iconst 0, 1) := by decide +kernel
theorem dX11_allMarriages_1 : decode cX11_allMarriages 1 = .ok (.istore_n 1, 1) := by decide +kernel
theorem dX11_allMarriages_2 : decode cX11_allMarriages 2 = .ok (.iconst 0, 1) := by decide +kernel
theorem dX11_allMarriages_3 : decode cX11_allMarriages 3 = .ok (.istore_n 2, 1) := by decide +kernel
theorem dX11_allMarriages_4 : decode cX11_allMarriages 4 = .ok (.iload_n 2, 1) := by decide +kernel
theorem dX11_allMarriages_5 : decode cX11_allMarriages 5 = .ok (.aload_n 0, 1) := by decide +kernel
theorem dX11_allMarriages_6 : decode cX11_allMarriages 6 = .ok (.getfield 22, 3) := by decide +kernel
theorem dX11_allMarriages_9 : decode cX11_allMarriages 9 = .ok (.iconst 0, 1) := by decide +kernel
theorem dX11_allMarriages_10 : decode cX11_allMarriages 10 = .ok (.iaload, 1) := by decide +kernel
theorem dX11_allMarriages_11 : decode cX11_allMarriages 11 = .ok (.if_icmp .ge 18, 3) := by decide +kernel
theorem dX11_allMarriages_14 : decode cX11_allMarriages 14 = .ok (.iload_n 1, 1) := by decide +kernel
theorem dX11_allMarriages_15 : decode cX11_allMarriages 15 = .ok (.aload_n 0, 1) := by decide +kernel
theorem dX11_allMarriages_16 : decode cX11_allMarriages 16 = .ok (.iload_n 2, 1) := by decide +kernel
theorem dX11_allMarriages_17 : decode cX11_allMarriages 17 = .ok (.iconst 0, 1) := by decide +kernel
theorem dX11_allMarriages_18 : decode cX11_allMarriages 18 = .ok (.invokevirtual 156, 3) := by decide +kernel
theorem dX11_allMarriages_21 : decode cX11_allMarriages 21 = .ok (.iadd, 1) := by decide +kernel
theorem dX11_allMarriages_22 : decode cX11_allMarriages 22 = .ok (.istore_n 1, 1) := by decide +kernel
theorem dX11_allMarriages_23 : decode cX11_allMarriages 23 = .ok (.iinc 2 1, 3) := by decide +kernel
theorem dX11_allMarriages_26 : decode cX11_allMarriages 26 = .ok (.goto (-22), 3) := by decide +kernel
theorem dX11_allMarriages_29 : decode cX11_allMarriages 29 = .ok (.iload_n 1, 1) := by decide +kernel
theorem dX11_allMarriages_30 : decode cX11_allMarriages 30 = .ok (.ireturn, 1) := by decide +kernel
theorem dX11_marked_0 : decode cX11_marked 0 = .ok (.iconst 0, 1) := by decide +kernel
theorem dX11_marked_1 : decode cX11_marked 1 = .ok (.istore_n 1, 1) := by decide +kernel
theorem dX11_marked_2 : decode cX11_marked 2 = .ok (.iconst 0, 1) := by decide +kernel
theorem dX11_marked_3 : decode cX11_marked 3 = .ok (.istore_n 2, 1) := by decide +kernel
theorem dX11_marked_4 : decode cX11_marked 4 = .ok (.iload_n 2, 1) := by decide +kernel
theorem dX11_marked_5 : decode cX11_marked 5 = .ok (.iconst 2, 1) := by decide +kernel
theorem dX11_marked_6 : decode cX11_marked 6 = .ok (.aload_n 0, 1) := by decide +kernel
theorem dX11_marked_7 : decode cX11_marked 7 = .ok (.invokevirtual 150, 3) := by decide +kernel
theorem dX11_marked_10 : decode cX11_marked 10 = .ok (.imul, 1) := by decide +kernel
theorem dX11_marked_11 : decode cX11_marked 11 = .ok (.if_icmp .ge 35, 3) := by decide +kernel
theorem dX11_marked_14 : decode cX11_marked 14 = .ok (.iload_n 1, 1) := by decide +kernel
theorem dX11_marked_15 : decode cX11_marked 15 = .ok (.aload_n 0, 1) := by decide +kernel
theorem dX11_marked_16 : decode cX11_marked 16 = .ok (.iconst 0, 1) := by decide +kernel
theorem dX11_marked_17 : decode cX11_marked 17 = .ok (.iload_n 2, 1) := by decide +kernel
theorem dX11_marked_18 : decode cX11_marked 18 = .ok (.invokevirtual 240, 3) := by decide +kernel
theorem dX11_marked_21 : decode cX11_marked 21 = .ok (.ifCond .eq 16, 3) := by decide +kernel
theorem dX11_marked_24 : decode cX11_marked 24 = .ok (.iconst 1, 1) := by decide +kernel
theorem dX11_marked_25 : decode cX11_marked 25 = .ok (.aload_n 0, 1) := by decide +kernel
theorem dX11_marked_26 : decode cX11_marked 26 = .ok (.iload_n 2, 1) := by decide +kernel
theorem dX11_marked_27 : decode cX11_marked 27 = .ok (.iconst 2, 1) := by decide +kernel
theorem dX11_marked_28 : decode cX11_marked 28 = .ok (.idiv, 1) := by decide +kernel
theorem dX11_marked_29 : decode cX11_marked 29 = .ok (.iconst 0, 1) := by decide +kernel
theorem dX11_marked_30 : decode cX11_marked 30 = .ok (.invokevirtual 153, 3) := by decide +kernel
theorem dX11_marked_33 : decode cX11_marked 33 = .ok (.ishl, 1) := by decide +kernel
theorem dX11_marked_34 : decode cX11_marked 34 = .ok (.goto 4, 3) := by decide +kernel
theorem dX11_marked_37 : decode cX11_marked 37 = .ok (.iconst 0, 1) := by decide +kernel
theorem dX11_marked_38 : decode cX11_marked 38 = .ok (.ior, 1) := by decide +kernel
theorem dX11_marked_39 : decode cX11_marked 39 = .ok (.istore_n 1, 1) := by decide +kernel
theorem dX11_marked_40 : decode cX11_marked 40 = .ok (.iinc 2 1, 3) := by decide +kernel
theorem dX11_marked_43 : decode cX11_marked 43 = .ok (.goto (-39), 3) := by decide +kernel
theorem dX11_marked_46 : decode cX11_marked 46 = .ok (.iload_n 1, 1) := by decide +kernel
theorem dX11_marked_47 : decode cX11_marked 47 = .ok (.ireturn, 1) := by decide +kernel
theorem dX11_areDrawn_0 : decode cX11_areDrawn 0 = .ok (.iload_n 1, 1) := by decide +kernel
theorem dX11_areDrawn_1 : decode cX11_areDrawn 1 = .ok (.i2l, 1) := by decide +kernel
theorem dX11_areDrawn_2 : decode cX11_areDrawn 2 = .ok (.lconst 0, 1) := by decide +kernel
theorem dX11_areDrawn_3 : decode cX11_areDrawn 3 = .ok (.iconst 1, 1) := by decide +kernel
theorem dX11_areDrawn_4 : decode cX11_areDrawn 4 = .ok (.aload_n 0, 1) := by decide +kernel
theorem dX11_areDrawn_5 : decode cX11_areDrawn 5 = .ok (.getfield 22, 3) := by decide +kernel
theorem dX11_areDrawn_8 : decode cX11_areDrawn 8 = .ok (.iconst 0, 1) := by decide +kernel
theorem dX11_areDrawn_9 : decode cX11_areDrawn 9 = .ok (.iaload, 1) := by decide +kernel
theorem dX11_areDrawn_10 : decode cX11_areDrawn 10 = .ok (.ishl, 1) := by decide +kernel
theorem dX11_areDrawn_11 : decode cX11_areDrawn 11 = .ok (.iconst 1, 1) := by decide +kernel
theorem dX11_areDrawn_12 : decode cX11_areDrawn 12 = .ok (.isub, 1) := by decide +kernel
theorem dX11_areDrawn_13 : decode cX11_areDrawn 13 = .ok (.i2l, 1) := by decide +kernel
theorem dX11_areDrawn_14 : decode cX11_areDrawn 14 = .ok (.invokestatic 63, 3) := by decide +kernel
theorem dX11_areDrawn_17 : decode cX11_areDrawn 17 = .ok (.ifCond .eq 18, 3) := by decide +kernel
theorem dX11_areDrawn_20 : decode cX11_areDrawn 20 = .ok (.iload_n 1, 1) := by decide +kernel
theorem dX11_areDrawn_21 : decode cX11_areDrawn 21 = .ok (.aload_n 0, 1) := by decide +kernel
theorem dX11_areDrawn_22 : decode cX11_areDrawn 22 = .ok (.invokevirtual 294, 3) := by decide +kernel
theorem dX11_areDrawn_25 : decode cX11_areDrawn 25 = .ok (.iconst (-1), 1) := by decide +kernel
theorem dX11_areDrawn_26 : decode cX11_areDrawn 26 = .ok (.ixor, 1) := by decide +kernel
theorem dX11_areDrawn_27 : decode cX11_areDrawn 27 = .ok (.iand, 1) := by decide +kernel
theorem dX11_areDrawn_28 : decode cX11_areDrawn 28 = .ok (.ifCond .ne 7, 3) := by decide +kernel
theorem dX11_areDrawn_31 : decode cX11_areDrawn 31 = .ok (.iconst 1, 1) := by decide +kernel
theorem dX11_areDrawn_32 : decode cX11_areDrawn 32 = .ok (.goto 4, 3) := by decide +kernel
theorem dX11_areDrawn_35 : decode cX11_areDrawn 35 = .ok (.iconst 0, 1) := by decide +kernel
theorem dX11_areDrawn_36 : decode cX11_areDrawn 36 = .ok (.ireturn, 1) := by decide +kernel
theorem dX11_span_0 : decode cX11_span 0 = .ok (.aload_n 0, 1) := by decide +kernel
theorem dX11_span_1 : decode cX11_span 1 = .ok (.invokevirtual 227, 3) := by decide +kernel
theorem dX11_span_4 : decode cX11_span 4 = .ok (.aload_n 0, 1) := by decide +kernel
theorem dX11_span_5 : decode cX11_span 5 = .ok (.iload_n 1, 1) := by decide +kernel
theorem dX11_span_6 : decode cX11_span 6 = .ok (.invokevirtual 297, 3) := by decide +kernel
theorem dX11_span_9 : decode cX11_span 9 = .ok (.ifCond .eq 15, 3) := by decide +kernel
theorem dX11_span_12 : decode cX11_span 12 = .ok (.iload_n 2, 1) := by decide +kernel
theorem dX11_span_13 : decode cX11_span 13 = .ok (.i2l, 1) := by decide +kernel
theorem dX11_span_14 : decode cX11_span 14 = .ok (.lconst 0, 1) := by decide +kernel
theorem dX11_span_15 : decode cX11_span 15 = .ok (.ldc2_w 225, 3) := by decide +kernel
theorem dX11_span_18 : decode cX11_span 18 = .ok (.invokestatic 63, 3) := by decide +kernel
theorem dX11_span_21 : decode cX11_span 21 = .ok (.ifCond .ne 7, 3) := by decide +kernel
theorem dX11_span_24 : decode cX11_span 24 = .ok (.ldc2_w 300, 3) := by decide +kernel
theorem dX11_span_27 : decode cX11_span 27 = .ok (.lreturn, 1) := by decide +kernel
theorem dX11_span_28 : decode cX11_span 28 = .ok (.aload_n 0, 1) := by decide +kernel
theorem dX11_span_29 : decode cX11_span 29 = .ok (.getfield 22, 3) := by decide +kernel
theorem dX11_span_32 : decode cX11_span 32 = .ok (.iconst 0, 1) := by decide +kernel
theorem dX11_span_33 : decode cX11_span 33 = .ok (.iaload, 1) := by decide +kernel
theorem dX11_span_34 : decode cX11_span 34 = .ok (.ifCond .ne 7, 3) := by decide +kernel
theorem dX11_span_37 : decode cX11_span 37 = .ok (.ldc2_w 302, 3) := by decide +kernel
theorem dX11_span_40 : decode cX11_span 40 = .ok (.lreturn, 1) := by decide +kernel
theorem dX11_span_41 : decode cX11_span 41 = .ok (.aload_n 0, 1) := by decide +kernel
theorem dX11_span_42 : decode cX11_span 42 = .ok (.invokevirtual 304, 3) := by decide +kernel
theorem dX11_span_45 : decode cX11_span 45 = .ok (.aload_n 0, 1) := by decide +kernel
theorem dX11_span_46 : decode cX11_span 46 = .ok (.invokevirtual 307, 3) := by decide +kernel
theorem dX11_span_49 : decode cX11_span 49 = .ok (.istore_n 3, 1) := by decide +kernel
theorem dX11_span_50 : decode cX11_span 50 = .ok (.iconst 0, 1) := by decide +kernel
theorem dX11_span_51 : decode cX11_span 51 = .ok (.istore 4, 2) := by decide +kernel
theorem dX11_span_53 : decode cX11_span 53 = .ok (.iload 4, 2) := by decide +kernel
theorem dX11_span_55 : decode cX11_span 55 = .ok (.aload_n 0, 1) := by decide +kernel
theorem dX11_span_56 : decode cX11_span 56 = .ok (.getfield 22, 3) := by decide +kernel
theorem dX11_span_59 : decode cX11_span 59 = .ok (.iconst 0, 1) := by decide +kernel
theorem dX11_span_60 : decode cX11_span 60 = .ok (.iaload, 1) := by decide +kernel
theorem dX11_span_61 : decode cX11_span 61 = .ok (.if_icmp .ge 75, 3) := by decide +kernel
theorem dX11_span_64 : decode cX11_span 64 = .ok (.iload_n 1, 1) := by decide +kernel
theorem dX11_span_65 : decode cX11_span 65 = .ok (.iload 4, 2) := by decide +kernel
theorem dX11_span_67 : decode cX11_span 67 = .ok (.ishr, 1) := by decide +kernel
theorem dX11_span_68 : decode cX11_span 68 = .ok (.iconst 1, 1) := by decide +kernel
theorem dX11_span_69 : decode cX11_span 69 = .ok (.iand, 1) := by decide +kernel
theorem dX11_span_70 : decode cX11_span 70 = .ok (.iconst 1, 1) := by decide +kernel
theorem dX11_span_71 : decode cX11_span 71 = .ok (.if_icmp .ne 40, 3) := by decide +kernel
theorem dX11_span_74 : decode cX11_span 74 = .ok (.aload_n 0, 1) := by decide +kernel
theorem dX11_span_75 : decode cX11_span 75 = .ok (.iconst 0, 1) := by decide +kernel
theorem dX11_span_76 : decode cX11_span 76 = .ok (.iconst 0, 1) := by decide +kernel
theorem dX11_span_77 : decode cX11_span 77 = .ok (.iload 4, 2) := by decide +kernel
theorem dX11_span_79 : decode cX11_span 79 = .ok (.invokevirtual 230, 3) := by decide +kernel
theorem dX11_span_82 : decode cX11_span 82 = .ok (.aload_n 0, 1) := by decide +kernel
theorem dX11_span_83 : decode cX11_span 83 = .ok (.aload_n 0, 1) := by decide +kernel
theorem dX11_span_84 : decode cX11_span 84 = .ok (.getfield 237, 3) := by decide +kernel
theorem dX11_span_87 : decode cX11_span 87 = .ok (.i2l, 1) := by decide +kernel
theorem dX11_span_88 : decode cX11_span 88 = .ok (.aload_n 0, 1) := by decide +kernel
theorem dX11_span_89 : decode cX11_span 89 = .ok (.iload 4, 2) := by decide +kernel
theorem dX11_span_91 : decode cX11_span 91 = .ok (.iconst 0, 1) := by decide +kernel
theorem dX11_span_92 : decode cX11_span 92 = .ok (.invokevirtual 156, 3) := by decide +kernel
theorem dX11_span_95 : decode cX11_span 95 = .ok (.i2l, 1) := by decide +kernel
theorem dX11_span_96 : decode cX11_span 96 = .ok (.lmul, 1) := by decide +kernel
theorem dX11_span_97 : decode cX11_span 97 = .ok (.aload_n 0, 1) := by decide +kernel
theorem dX11_span_98 : decode cX11_span 98 = .ok (.getfield 234, 3) := by decide +kernel
theorem dX11_span_101 : decode cX11_span 101 = .ok (.i2l, 1) := by decide +kernel
theorem dX11_span_102 : decode cX11_span 102 = .ok (.iload_n 3, 1) := by decide +kernel
theorem dX11_span_103 : decode cX11_span 103 = .ok (.i2l, 1) := by decide +kernel
theorem dX11_span_104 : decode cX11_span 104 = .ok (.lmul, 1) := by decide +kernel
theorem dX11_span_105 : decode cX11_span 105 = .ok (.invokevirtual 310, 3) := by decide +kernel
theorem dX11_span_108 : decode cX11_span 108 = .ok (.goto 22, 3) := by decide +kernel
theorem dX11_span_111 : decode cX11_span 111 = .ok (.iload_n 2, 1) := by decide +kernel
theorem dX11_span_112 : decode cX11_span 112 = .ok (.iconst 1, 1) := by decide +kernel
theorem dX11_span_113 : decode cX11_span 113 = .ok (.if_icmp .le 17, 3) := by decide +kernel
theorem dX11_span_116 : decode cX11_span 116 = .ok (.aload_n 0, 1) := by decide +kernel
theorem dX11_span_117 : decode cX11_span 117 = .ok (.aload_n 0, 1) := by decide +kernel
theorem dX11_span_118 : decode cX11_span 118 = .ok (.iload 4, 2) := by decide +kernel
theorem dX11_span_120 : decode cX11_span 120 = .ok (.iconst 0, 1) := by decide +kernel
theorem dX11_span_121 : decode cX11_span 121 = .ok (.invokevirtual 156, 3) := by decide +kernel
theorem dX11_span_124 : decode cX11_span 124 = .ok (.i2l, 1) := by decide +kernel
theorem dX11_span_125 : decode cX11_span 125 = .ok (.iload_n 3, 1) := by decide +kernel
theorem dX11_span_126 : decode cX11_span 126 = .ok (.i2l, 1) := by decide +kernel
theorem dX11_span_127 : decode cX11_span 127 = .ok (.invokevirtual 310, 3) := by decide +kernel
theorem dX11_span_130 : decode cX11_span 130 = .ok (.iinc 4 1, 3) := by decide +kernel
theorem dX11_span_133 : decode cX11_span 133 = .ok (.goto (-80), 3) := by decide +kernel
theorem dX11_span_136 : decode cX11_span 136 = .ok (.iload_n 2, 1) := by decide +kernel
theorem dX11_span_137 : decode cX11_span 137 = .ok (.iconst 2, 1) := by decide +kernel
theorem dX11_span_138 : decode cX11_span 138 = .ok (.irem, 1) := by decide +kernel
theorem dX11_span_139 : decode cX11_span 139 = .ok (.ifCond .ne 10, 3) := by decide +kernel
theorem dX11_span_142 : decode cX11_span 142 = .ok (.aload_n 0, 1) := by decide +kernel
theorem dX11_span_143 : decode cX11_span 143 = .ok (.getfield 287, 3) := by decide +kernel
theorem dX11_span_146 : decode cX11_span 146 = .ok (.goto 7, 3) := by decide +kernel
theorem dX11_span_149 : decode cX11_span 149 = .ok (.aload_n 0, 1) := by decide +kernel
theorem dX11_span_150 : decode cX11_span 150 = .ok (.getfield 291, 3) := by decide +kernel
theorem dX11_span_153 : decode cX11_span 153 = .ok (.lreturn, 1) := by decide +kernel
theorem dX11_next_0 : decode cX11_next 0 = .ok (.aload_n 0, 1) := by decide +kernel
theorem dX11_next_1 : decode cX11_next 1 = .ok (.invokevirtual 227, 3) := by decide +kernel
theorem dX11_next_4 : decode cX11_next 4 = .ok (.aload_n 0, 1) := by decide +kernel
theorem dX11_next_5 : decode cX11_next 5 = .ok (.iload_n 1, 1) := by decide +kernel
theorem dX11_next_6 : decode cX11_next 6 = .ok (.invokevirtual 297, 3) := by decide +kernel
theorem dX11_next_9 : decode cX11_next 9 = .ok (.ifCond .ne 5, 3) := by decide +kernel
theorem dX11_next_12 : decode cX11_next 12 = .ok (.iconst (-1), 1) := by decide +kernel
theorem dX11_next_13 : decode cX11_next 13 = .ok (.ireturn, 1) := by decide +kernel
theorem dX11_next_14 : decode cX11_next 14 = .ok (.aload_n 0, 1) := by decide +kernel
theorem dX11_next_15 : decode cX11_next 15 = .ok (.invokevirtual 294, 3) := by decide +kernel
theorem dX11_next_18 : decode cX11_next 18 = .ok (.iload_n 1, 1) := by decide +kernel
theorem dX11_next_19 : decode cX11_next 19 = .ok (.iconst (-1), 1) := by decide +kernel
theorem dX11_next_20 : decode cX11_next 20 = .ok (.ixor, 1) := by decide +kernel
theorem dX11_next_21 : decode cX11_next 21 = .ok (.iand, 1) := by decide +kernel
theorem dX11_next_22 : decode cX11_next 22 = .ok (.istore_n 2, 1) := by decide +kernel
theorem dX11_next_23 : decode cX11_next 23 = .ok (.bipush (-4), 2) := by decide +kernel
theorem dX11_next_25 : decode cX11_next 25 = .ok (.istore_n 3, 1) := by decide +kernel
theorem dX11_next_26 : decode cX11_next 26 = .ok (.iconst 0, 1) := by decide +kernel
theorem dX11_next_27 : decode cX11_next 27 = .ok (.istore 4, 2) := by decide +kernel
theorem dX11_next_29 : decode cX11_next 29 = .ok (.iload 4, 2) := by decide +kernel
theorem dX11_next_31 : decode cX11_next 31 = .ok (.aload_n 0, 1) := by decide +kernel
theorem dX11_next_32 : decode cX11_next 32 = .ok (.getfield 22, 3) := by decide +kernel
theorem dX11_next_35 : decode cX11_next 35 = .ok (.iconst 0, 1) := by decide +kernel
theorem dX11_next_36 : decode cX11_next 36 = .ok (.iaload, 1) := by decide +kernel
theorem dX11_next_37 : decode cX11_next 37 = .ok (.if_icmp .ge 48, 3) := by decide +kernel
theorem dX11_next_40 : decode cX11_next 40 = .ok (.iload_n 2, 1) := by decide +kernel
theorem dX11_next_41 : decode cX11_next 41 = .ok (.iload 4, 2) := by decide +kernel
theorem dX11_next_43 : decode cX11_next 43 = .ok (.ishr, 1) := by decide +kernel
theorem dX11_next_44 : decode cX11_next 44 = .ok (.iconst 1, 1) := by decide +kernel
theorem dX11_next_45 : decode cX11_next 45 = .ok (.iand, 1) := by decide +kernel
theorem dX11_next_46 : decode cX11_next 46 = .ok (.iconst 1, 1) := by decide +kernel
theorem dX11_next_47 : decode cX11_next 47 = .ok (.if_icmp .ne 30, 3) := by decide +kernel
theorem dX11_next_50 : decode cX11_next 50 = .ok (.iload_n 3, 1) := by decide +kernel
theorem dX11_next_51 : decode cX11_next 51 = .ok (.bipush (-4), 2) := by decide +kernel
theorem dX11_next_53 : decode cX11_next 53 = .ok (.if_icmp .eq 19, 3) := by decide +kernel
theorem dX11_next_56 : decode cX11_next 56 = .ok (.aload_n 0, 1) := by decide +kernel
theorem dX11_next_57 : decode cX11_next 57 = .ok (.iload 4, 2) := by decide +kernel
theorem dX11_next_59 : decode cX11_next 59 = .ok (.iconst 0, 1) := by decide +kernel
theorem dX11_next_60 : decode cX11_next 60 = .ok (.invokevirtual 156, 3) := by decide +kernel
theorem dX11_next_63 : decode cX11_next 63 = .ok (.aload_n 0, 1) := by decide +kernel
theorem dX11_next_64 : decode cX11_next 64 = .ok (.iload_n 3, 1) := by decide +kernel
theorem dX11_next_65 : decode cX11_next 65 = .ok (.iconst 0, 1) := by decide +kernel
theorem dX11_next_66 : decode cX11_next 66 = .ok (.invokevirtual 156, 3) := by decide +kernel
theorem dX11_next_69 : decode cX11_next 69 = .ok (.if_icmp .le 8, 3) := by decide +kernel
theorem dX11_next_72 : decode cX11_next 72 = .ok (.iload 4, 2) := by decide +kernel
theorem dX11_next_74 : decode cX11_next 74 = .ok (.goto 4, 3) := by decide +kernel
theorem dX11_next_77 : decode cX11_next 77 = .ok (.iload_n 3, 1) := by decide +kernel
theorem dX11_next_78 : decode cX11_next 78 = .ok (.istore_n 3, 1) := by decide +kernel
theorem dX11_next_79 : decode cX11_next 79 = .ok (.iinc 4 1, 3) := by decide +kernel
theorem dX11_next_82 : decode cX11_next 82 = .ok (.goto (-53), 3) := by decide +kernel
theorem dX11_next_85 : decode cX11_next 85 = .ok (.iload_n 3, 1) := by decide +kernel
theorem dX11_next_86 : decode cX11_next 86 = .ok (.ireturn, 1) := by decide +kernel
theorem dX11_enough_0 : decode cX11_enough 0 = .ok (.iload_n 2, 1) := by decide +kernel
theorem dX11_enough_1 : decode cX11_enough 1 = .ok (.i2l, 1) := by decide +kernel
theorem dX11_enough_2 : decode cX11_enough 2 = .ok (.lconst 1, 1) := by decide +kernel
theorem dX11_enough_3 : decode cX11_enough 3 = .ok (.ldc2_w 314, 3) := by decide +kernel
theorem dX11_enough_6 : decode cX11_enough 6 = .ok (.invokestatic 63, 3) := by decide +kernel
theorem dX11_enough_9 : decode cX11_enough 9 = .ok (.ifCond .eq 24, 3) := by decide +kernel
theorem dX11_enough_12 : decode cX11_enough 12 = .ok (.iload_n 1, 1) := by decide +kernel
theorem dX11_enough_13 : decode cX11_enough 13 = .ok (.i2l, 1) := by decide +kernel
theorem dX11_enough_14 : decode cX11_enough 14 = .ok (.lconst 0, 1) := by decide +kernel
theorem dX11_enough_15 : decode cX11_enough 15 = .ok (.iload_n 2, 1) := by decide +kernel
theorem dX11_enough_16 : decode cX11_enough 16 = .ok (.i2l, 1) := by decide +kernel
theorem dX11_enough_17 : decode cX11_enough 17 = .ok (.invokestatic 63, 3) := by decide +kernel
theorem dX11_enough_20 : decode cX11_enough 20 = .ok (.ifCond .eq 13, 3) := by decide +kernel
theorem dX11_enough_23 : decode cX11_enough 23 = .ok (.iload_n 3, 1) := by decide +kernel
theorem dX11_enough_24 : decode cX11_enough 24 = .ok (.i2l, 1) := by decide +kernel
theorem dX11_enough_25 : decode cX11_enough 25 = .ok (.lconst 0, 1) := by decide +kernel
theorem dX11_enough_26 : decode cX11_enough 26 = .ok (.lconst 1, 1) := by decide +kernel
theorem dX11_enough_27 : decode cX11_enough 27 = .ok (.invokestatic 63, 3) := by decide +kernel
theorem dX11_enough_30 : decode cX11_enough 30 = .ok (.ifCond .ne 5, 3) := by decide +kernel
theorem dX11_enough_33 : decode cX11_enough 33 = .ok (.iconst (-1), 1) := by decide +kernel
theorem dX11_enough_34 : decode cX11_enough 34 = .ok (.ireturn, 1) := by decide +kernel
theorem dX11_enough_35 : decode cX11_enough 35 = .ok (.aload_n 0, 1) := by decide +kernel
theorem dX11_enough_36 : decode cX11_enough 36 = .ok (.invokevirtual 227, 3) := by decide +kernel
theorem dX11_enough_39 : decode cX11_enough 39 = .ok (.aload_n 0, 1) := by decide +kernel
theorem dX11_enough_40 : decode cX11_enough 40 = .ok (.invokevirtual 294, 3) := by decide +kernel
theorem dX11_enough_43 : decode cX11_enough 43 = .ok (.istore 4, 2) := by decide +kernel
theorem dX11_enough_45 : decode cX11_enough 45 = .ok (.aload_n 0, 1) := by decide +kernel
theorem dX11_enough_46 : decode cX11_enough 46 = .ok (.invokevirtual 307, 3) := by decide +kernel
theorem dX11_enough_49 : decode cX11_enough 49 = .ok (.istore 5, 2) := by decide +kernel
theorem dX11_enough_51 : decode cX11_enough 51 = .ok (.bipush (-4), 2) := by decide +kernel
theorem dX11_enough_53 : decode cX11_enough 53 = .ok (.istore 6, 2) := by decide +kernel
theorem dX11_enough_55 : decode cX11_enough 55 = .ok (.iconst 0, 1) := by decide +kernel
theorem dX11_enough_56 : decode cX11_enough 56 = .ok (.istore 7, 2) := by decide +kernel
theorem dX11_enough_58 : decode cX11_enough 58 = .ok (.iload 7, 2) := by decide +kernel
theorem dX11_enough_60 : decode cX11_enough 60 = .ok (.iconst 1, 1) := by decide +kernel
theorem dX11_enough_61 : decode cX11_enough 61 = .ok (.aload_n 0, 1) := by decide +kernel
theorem dX11_enough_62 : decode cX11_enough 62 = .ok (.getfield 22, 3) := by decide +kernel
theorem dX11_enough_65 : decode cX11_enough 65 = .ok (.iconst 0, 1) := by decide +kernel
theorem dX11_enough_66 : decode cX11_enough 66 = .ok (.iaload, 1) := by decide +kernel
theorem dX11_enough_67 : decode cX11_enough 67 = .ok (.ishl, 1) := by decide +kernel
theorem dX11_enough_68 : decode cX11_enough 68 = .ok (.if_icmp .ge 122, 3) := by decide +kernel
theorem dX11_enough_71 : decode cX11_enough 71 = .ok (.aload_n 0, 1) := by decide +kernel
theorem dX11_enough_72 : decode cX11_enough 72 = .ok (.getfield 22, 3) := by decide +kernel
theorem dX11_enough_75 : decode cX11_enough 75 = .ok (.iconst 0, 1) := by decide +kernel
theorem dX11_enough_76 : decode cX11_enough 76 = .ok (.iaload, 1) := by decide +kernel
theorem dX11_enough_77 : decode cX11_enough 77 = .ok (.ifCond .le 113, 3) := by decide +kernel
theorem dX11_enough_80 : decode cX11_enough 80 = .ok (.iload 7, 2) := by decide +kernel
theorem dX11_enough_82 : decode cX11_enough 82 = .ok (.iload 4, 2) := by decide +kernel
theorem dX11_enough_84 : decode cX11_enough 84 = .ok (.iconst (-1), 1) := by decide +kernel
theorem dX11_enough_85 : decode cX11_enough 85 = .ok (.ixor, 1) := by decide +kernel
theorem dX11_enough_86 : decode cX11_enough 86 = .ok (.iand, 1) := by decide +kernel
theorem dX11_enough_87 : decode cX11_enough 87 = .ok (.ifCond .ne 97, 3) := by decide +kernel
theorem dX11_enough_90 : decode cX11_enough 90 = .ok (.iload 6, 2) := by decide +kernel
theorem dX11_enough_92 : decode cX11_enough 92 = .ok (.bipush (-4), 2) := by decide +kernel
theorem dX11_enough_94 : decode cX11_enough 94 = .ok (.if_icmp .eq 16, 3) := by decide +kernel
theorem dX11_enough_97 : decode cX11_enough 97 = .ok (.iload 7, 2) := by decide +kernel
theorem dX11_enough_99 : decode cX11_enough 99 = .ok (.invokestatic 204, 3) := by decide +kernel
theorem dX11_enough_102 : decode cX11_enough 102 = .ok (.iload 6, 2) := by decide +kernel
theorem dX11_enough_104 : decode cX11_enough 104 = .ok (.invokestatic 204, 3) := by decide +kernel
theorem dX11_enough_107 : decode cX11_enough 107 = .ok (.if_icmp .ge 77, 3) := by decide +kernel
theorem dX11_enough_110 : decode cX11_enough 110 = .ok (.iconst 0, 1) := by decide +kernel
theorem dX11_enough_111 : decode cX11_enough 111 = .ok (.istore 8, 2) := by decide +kernel
theorem dX11_enough_113 : decode cX11_enough 113 = .ok (.iconst 0, 1) := by decide +kernel
theorem dX11_enough_114 : decode cX11_enough 114 = .ok (.istore 9, 2) := by decide +kernel
theorem dX11_enough_116 : decode cX11_enough 116 = .ok (.iload 9, 2) := by decide +kernel
theorem dX11_enough_118 : decode cX11_enough 118 = .ok (.aload_n 0, 1) := by decide +kernel
theorem dX11_enough_119 : decode cX11_enough 119 = .ok (.getfield 22, 3) := by decide +kernel
theorem dX11_enough_122 : decode cX11_enough 122 = .ok (.iconst 0, 1) := by decide +kernel
theorem dX11_enough_123 : decode cX11_enough 123 = .ok (.iaload, 1) := by decide +kernel
theorem dX11_enough_124 : decode cX11_enough 124 = .ok (.if_icmp .ge 35, 3) := by decide +kernel
theorem dX11_enough_127 : decode cX11_enough 127 = .ok (.iload 8, 2) := by decide +kernel
theorem dX11_enough_129 : decode cX11_enough 129 = .ok (.iload 7, 2) := by decide +kernel
theorem dX11_enough_131 : decode cX11_enough 131 = .ok (.iload 9, 2) := by decide +kernel
theorem dX11_enough_133 : decode cX11_enough 133 = .ok (.ishr, 1) := by decide +kernel
theorem dX11_enough_134 : decode cX11_enough 134 = .ok (.iconst 1, 1) := by decide +kernel
theorem dX11_enough_135 : decode cX11_enough 135 = .ok (.iand, 1) := by decide +kernel
theorem dX11_enough_136 : decode cX11_enough 136 = .ok (.ifCond .ne 13, 3) := by decide +kernel
theorem dX11_enough_139 : decode cX11_enough 139 = .ok (.aload_n 0, 1) := by decide +kernel
theorem dX11_enough_140 : decode cX11_enough 140 = .ok (.iload 9, 2) := by decide +kernel
theorem dX11_enough_142 : decode cX11_enough 142 = .ok (.iconst 0, 1) := by decide +kernel
theorem dX11_enough_143 : decode cX11_enough 143 = .ok (.invokevirtual 156, 3) := by decide +kernel
theorem dX11_enough_146 : decode cX11_enough 146 = .ok (.goto 4, 3) := by decide +kernel
theorem dX11_enough_149 : decode cX11_enough 149 = .ok (.iconst 0, 1) := by decide +kernel
theorem dX11_enough_150 : decode cX11_enough 150 = .ok (.iadd, 1) := by decide +kernel
theorem dX11_enough_151 : decode cX11_enough 151 = .ok (.istore 8, 2) := by decide +kernel
theorem dX11_enough_153 : decode cX11_enough 153 = .ok (.iinc 9 1, 3) := by decide +kernel
theorem dX11_enough_156 : decode cX11_enough 156 = .ok (.goto (-40), 3) := by decide +kernel
theorem dX11_enough_159 : decode cX11_enough 159 = .ok (.iload 8, 2) := by decide +kernel
theorem dX11_enough_161 : decode cX11_enough 161 = .ok (.i2l, 1) := by decide +kernel
theorem dX11_enough_162 : decode cX11_enough 162 = .ok (.iload_n 2, 1) := by decide +kernel
theorem dX11_enough_163 : decode cX11_enough 163 = .ok (.i2l, 1) := by decide +kernel
theorem dX11_enough_164 : decode cX11_enough 164 = .ok (.lmul, 1) := by decide +kernel
theorem dX11_enough_165 : decode cX11_enough 165 = .ok (.iload_n 1, 1) := by decide +kernel
theorem dX11_enough_166 : decode cX11_enough 166 = .ok (.i2l, 1) := by decide +kernel
theorem dX11_enough_167 : decode cX11_enough 167 = .ok (.iload 5, 2) := by decide +kernel
theorem dX11_enough_169 : decode cX11_enough 169 = .ok (.i2l, 1) := by decide +kernel
theorem dX11_enough_170 : decode cX11_enough 170 = .ok (.lmul, 1) := by decide +kernel
theorem dX11_enough_171 : decode cX11_enough 171 = .ok (.lcmp, 1) := by decide +kernel
theorem dX11_enough_172 : decode cX11_enough 172 = .ok (.ifCond .gt 8, 3) := by decide +kernel
theorem dX11_enough_175 : decode cX11_enough 175 = .ok (.iload 7, 2) := by decide +kernel
theorem dX11_enough_177 : decode cX11_enough 177 = .ok (.goto 5, 3) := by decide +kernel
theorem dX11_enough_180 : decode cX11_enough 180 = .ok (.iload 6, 2) := by decide +kernel
theorem dX11_enough_182 : decode cX11_enough 182 = .ok (.istore 6, 2) := by decide +kernel
theorem dX11_enough_184 : decode cX11_enough 184 = .ok (.iinc 7 1, 3) := by decide +kernel
theorem dX11_enough_187 : decode cX11_enough 187 = .ok (.goto (-129), 3) := by decide +kernel
theorem dX11_enough_190 : decode cX11_enough 190 = .ok (.iload 6, 2) := by decide +kernel
theorem dX11_enough_192 : decode cX11_enough 192 = .ok (.bipush (-4), 2) := by decide +kernel
theorem dX11_enough_194 : decode cX11_enough 194 = .ok (.if_icmp .eq 8, 3) := by decide +kernel
theorem dX11_enough_197 : decode cX11_enough 197 = .ok (.iload_n 3, 1) := by decide +kernel
theorem dX11_enough_198 : decode cX11_enough 198 = .ok (.iconst 1, 1) := by decide +kernel
theorem dX11_enough_199 : decode cX11_enough 199 = .ok (.if_icmp .ne 8, 3) := by decide +kernel
theorem dX11_enough_202 : decode cX11_enough 202 = .ok (.iload 6, 2) := by decide +kernel
theorem dX11_enough_204 : decode cX11_enough 204 = .ok (.goto 8, 3) := by decide +kernel
theorem dX11_enough_207 : decode cX11_enough 207 = .ok (.iload 6, 2) := by decide +kernel
theorem dX11_enough_209 : decode cX11_enough 209 = .ok (.invokestatic 204, 3) := by decide +kernel
theorem dX11_enough_212 : decode cX11_enough 212 = .ok (.ireturn, 1) := by decide +kernel
theorem dX11_reading_0 : decode cX11_reading 0 = .ok (.iload_n 1, 1) := by decide +kernel
theorem dX11_reading_1 : decode cX11_reading 1 = .ok (.invokestatic 222, 3) := by decide +kernel
theorem dX11_reading_4 : decode cX11_reading 4 = .ok (.ifCond .eq 13, 3) := by decide +kernel
theorem dX11_reading_7 : decode cX11_reading 7 = .ok (.iload_n 2, 1) := by decide +kernel
theorem dX11_reading_8 : decode cX11_reading 8 = .ok (.i2l, 1) := by decide +kernel
theorem dX11_reading_9 : decode cX11_reading 9 = .ok (.lconst 0, 1) := by decide +kernel
theorem dX11_reading_10 : decode cX11_reading 10 = .ok (.lconst 1, 1) := by decide +kernel
theorem dX11_reading_11 : decode cX11_reading 11 = .ok (.invokestatic 63, 3) := by decide +kernel
theorem dX11_reading_14 : decode cX11_reading 14 = .ok (.ifCond .ne 7, 3) := by decide +kernel
theorem dX11_reading_17 : decode cX11_reading 17 = .ok (.ldc2_w 300, 3) := by decide +kernel
theorem dX11_reading_20 : decode cX11_reading 20 = .ok (.lreturn, 1) := by decide +kernel
theorem dX11_reading_21 : decode cX11_reading 21 = .ok (.aload_n 0, 1) := by decide +kernel
theorem dX11_reading_22 : decode cX11_reading 22 = .ok (.invokevirtual 227, 3) := by decide +kernel
theorem dX11_reading_25 : decode cX11_reading 25 = .ok (.aload_n 0, 1) := by decide +kernel
theorem dX11_reading_26 : decode cX11_reading 26 = .ok (.iload_n 1, 1) := by decide +kernel
theorem dX11_reading_27 : decode cX11_reading 27 = .ok (.bipush (-4), 2) := by decide +kernel
theorem dX11_reading_29 : decode cX11_reading 29 = .ok (.iconst 0, 1) := by decide +kernel
theorem dX11_reading_30 : decode cX11_reading 30 = .ok (.invokevirtual 230, 3) := by decide +kernel
theorem dX11_reading_33 : decode cX11_reading 33 = .ok (.iconst 0, 1) := by decide +kernel
theorem dX11_reading_34 : decode cX11_reading 34 = .ok (.istore_n 3, 1) := by decide +kernel
theorem dX11_reading_35 : decode cX11_reading 35 = .ok (.iconst 0, 1) := by decide +kernel
theorem dX11_reading_36 : decode cX11_reading 36 = .ok (.istore 4, 2) := by decide +kernel
theorem dX11_reading_38 : decode cX11_reading 38 = .ok (.iload 4, 2) := by decide +kernel
theorem dX11_reading_40 : decode cX11_reading 40 = .ok (.iconst 2, 1) := by decide +kernel
theorem dX11_reading_41 : decode cX11_reading 41 = .ok (.aload_n 0, 1) := by decide +kernel
theorem dX11_reading_42 : decode cX11_reading 42 = .ok (.invokevirtual 150, 3) := by decide +kernel
theorem dX11_reading_45 : decode cX11_reading 45 = .ok (.imul, 1) := by decide +kernel
theorem dX11_reading_46 : decode cX11_reading 46 = .ok (.if_icmp .ge 39, 3) := by decide +kernel
theorem dX11_reading_49 : decode cX11_reading 49 = .ok (.iload_n 3, 1) := by decide +kernel
theorem dX11_reading_50 : decode cX11_reading 50 = .ok (.aload_n 0, 1) := by decide +kernel
theorem dX11_reading_51 : decode cX11_reading 51 = .ok (.iload_n 1, 1) := by decide +kernel
theorem dX11_reading_52 : decode cX11_reading 52 = .ok (.iload 4, 2) := by decide +kernel
theorem dX11_reading_54 : decode cX11_reading 54 = .ok (.invokevirtual 240, 3) := by decide +kernel
theorem dX11_reading_57 : decode cX11_reading 57 = .ok (.ifCond .eq 19, 3) := by decide +kernel
theorem dX11_reading_60 : decode cX11_reading 60 = .ok (.aload_n 0, 1) := by decide +kernel
theorem dX11_reading_61 : decode cX11_reading 61 = .ok (.iload 4, 2) := by decide +kernel
theorem dX11_reading_63 : decode cX11_reading 63 = .ok (.iconst 2, 1) := by decide +kernel
theorem dX11_reading_64 : decode cX11_reading 64 = .ok (.idiv, 1) := by decide +kernel
theorem dX11_reading_65 : decode cX11_reading 65 = .ok (.iload 4, 2) := by decide +kernel
theorem dX11_reading_67 : decode cX11_reading 67 = .ok (.iconst 2, 1) := by decide +kernel
theorem dX11_reading_68 : decode cX11_reading 68 = .ok (.irem, 1) := by decide +kernel
theorem dX11_reading_69 : decode cX11_reading 69 = .ok (.iconst 0, 1) := by decide +kernel
theorem dX11_reading_70 : decode cX11_reading 70 = .ok (.invokevirtual 198, 3) := by decide +kernel
theorem dX11_reading_73 : decode cX11_reading 73 = .ok (.goto 4, 3) := by decide +kernel
theorem dX11_reading_76 : decode cX11_reading 76 = .ok (.iconst 0, 1) := by decide +kernel
theorem dX11_reading_77 : decode cX11_reading 77 = .ok (.iadd, 1) := by decide +kernel
theorem dX11_reading_78 : decode cX11_reading 78 = .ok (.istore_n 3, 1) := by decide +kernel
theorem dX11_reading_79 : decode cX11_reading 79 = .ok (.iinc 4 1, 3) := by decide +kernel
theorem dX11_reading_82 : decode cX11_reading 82 = .ok (.goto (-44), 3) := by decide +kernel
theorem dX11_reading_85 : decode cX11_reading 85 = .ok (.aload_n 0, 1) := by decide +kernel
theorem dX11_reading_86 : decode cX11_reading 86 = .ok (.getfield 234, 3) := by decide +kernel
theorem dX11_reading_89 : decode cX11_reading 89 = .ok (.ifCond .ne 7, 3) := by decide +kernel
theorem dX11_reading_92 : decode cX11_reading 92 = .ok (.ldc2_w 302, 3) := by decide +kernel
theorem dX11_reading_95 : decode cX11_reading 95 = .ok (.lreturn, 1) := by decide +kernel
theorem dX11_reading_96 : decode cX11_reading 96 = .ok (.aload_n 0, 1) := by decide +kernel
theorem dX11_reading_97 : decode cX11_reading 97 = .ok (.invokevirtual 304, 3) := by decide +kernel
theorem dX11_reading_100 : decode cX11_reading 100 = .ok (.aload_n 0, 1) := by decide +kernel
theorem dX11_reading_101 : decode cX11_reading 101 = .ok (.aload_n 0, 1) := by decide +kernel
theorem dX11_reading_102 : decode cX11_reading 102 = .ok (.getfield 234, 3) := by decide +kernel
theorem dX11_reading_105 : decode cX11_reading 105 = .ok (.iload_n 3, 1) := by decide +kernel
theorem dX11_reading_106 : decode cX11_reading 106 = .ok (.isub, 1) := by decide +kernel
theorem dX11_reading_107 : decode cX11_reading 107 = .ok (.i2l, 1) := by decide +kernel
theorem dX11_reading_108 : decode cX11_reading 108 = .ok (.aload_n 0, 1) := by decide +kernel
theorem dX11_reading_109 : decode cX11_reading 109 = .ok (.getfield 22, 3) := by decide +kernel
theorem dX11_reading_112 : decode cX11_reading 112 = .ok (.bipush 7, 2) := by decide +kernel
theorem dX11_reading_114 : decode cX11_reading 114 = .ok (.iaload, 1) := by decide +kernel
theorem dX11_reading_115 : decode cX11_reading 115 = .ok (.i2l, 1) := by decide +kernel
theorem dX11_reading_116 : decode cX11_reading 116 = .ok (.lmul, 1) := by decide +kernel
theorem dX11_reading_117 : decode cX11_reading 117 = .ok (.aload_n 0, 1) := by decide +kernel
theorem dX11_reading_118 : decode cX11_reading 118 = .ok (.getfield 234, 3) := by decide +kernel
theorem dX11_reading_121 : decode cX11_reading 121 = .ok (.i2l, 1) := by decide +kernel
theorem dX11_reading_122 : decode cX11_reading 122 = .ok (.aload_n 0, 1) := by decide +kernel
theorem dX11_reading_123 : decode cX11_reading 123 = .ok (.getfield 22, 3) := by decide +kernel
theorem dX11_reading_126 : decode cX11_reading 126 = .ok (.bipush 8, 2) := by decide +kernel
theorem dX11_reading_128 : decode cX11_reading 128 = .ok (.iaload, 1) := by decide +kernel
theorem dX11_reading_129 : decode cX11_reading 129 = .ok (.i2l, 1) := by decide +kernel
theorem dX11_reading_130 : decode cX11_reading 130 = .ok (.lmul, 1) := by decide +kernel
theorem dX11_reading_131 : decode cX11_reading 131 = .ok (.invokevirtual 310, 3) := by decide +kernel
theorem dX11_reading_134 : decode cX11_reading 134 = .ok (.aload_n 0, 1) := by decide +kernel
theorem dX11_reading_135 : decode cX11_reading 135 = .ok (.iload_n 3, 1) := by decide +kernel
theorem dX11_reading_136 : decode cX11_reading 136 = .ok (.i2l, 1) := by decide +kernel
theorem dX11_reading_137 : decode cX11_reading 137 = .ok (.aload_n 0, 1) := by decide +kernel
theorem dX11_reading_138 : decode cX11_reading 138 = .ok (.getfield 22, 3) := by decide +kernel
theorem dX11_reading_141 : decode cX11_reading 141 = .ok (.bipush 9, 2) := by decide +kernel
theorem dX11_reading_143 : decode cX11_reading 143 = .ok (.iaload, 1) := by decide +kernel
theorem dX11_reading_144 : decode cX11_reading 144 = .ok (.i2l, 1) := by decide +kernel
theorem dX11_reading_145 : decode cX11_reading 145 = .ok (.lmul, 1) := by decide +kernel
theorem dX11_reading_146 : decode cX11_reading 146 = .ok (.aload_n 0, 1) := by decide +kernel
theorem dX11_reading_147 : decode cX11_reading 147 = .ok (.getfield 234, 3) := by decide +kernel
theorem dX11_reading_150 : decode cX11_reading 150 = .ok (.i2l, 1) := by decide +kernel
theorem dX11_reading_151 : decode cX11_reading 151 = .ok (.aload_n 0, 1) := by decide +kernel
theorem dX11_reading_152 : decode cX11_reading 152 = .ok (.getfield 22, 3) := by decide +kernel
theorem dX11_reading_155 : decode cX11_reading 155 = .ok (.bipush 10, 2) := by decide +kernel
theorem dX11_reading_157 : decode cX11_reading 157 = .ok (.iaload, 1) := by decide +kernel
theorem dX11_reading_158 : decode cX11_reading 158 = .ok (.i2l, 1) := by decide +kernel
theorem dX11_reading_159 : decode cX11_reading 159 = .ok (.lmul, 1) := by decide +kernel
theorem dX11_reading_160 : decode cX11_reading 160 = .ok (.invokevirtual 310, 3) := by decide +kernel
theorem dX11_reading_163 : decode cX11_reading 163 = .ok (.iload_n 2, 1) := by decide +kernel
theorem dX11_reading_164 : decode cX11_reading 164 = .ok (.ifCond .ne 10, 3) := by decide +kernel
theorem dX11_reading_167 : decode cX11_reading 167 = .ok (.aload_n 0, 1) := by decide +kernel
theorem dX11_reading_168 : decode cX11_reading 168 = .ok (.getfield 287, 3) := by decide +kernel
theorem dX11_reading_171 : decode cX11_reading 171 = .ok (.goto 7, 3) := by decide +kernel
theorem dX11_reading_174 : decode cX11_reading 174 = .ok (.aload_n 0, 1) := by decide +kernel
theorem dX11_reading_175 : decode cX11_reading 175 = .ok (.getfield 291, 3) := by decide +kernel
theorem dX11_reading_178 : decode cX11_reading 178 = .ok (.lreturn, 1) := by decide +kernel
theorem dX11_unwed_0 : decode cX11_unwed 0 = .ok (.iload_n 1, 1) := by decide +kernel
theorem dX11_unwed_1 : decode cX11_unwed 1 = .ok (.invokestatic 222, 3) := by decide +kernel
theorem dX11_unwed_4 : decode cX11_unwed 4 = .ok (.ifCond .eq 15, 3) := by decide +kernel
theorem dX11_unwed_7 : decode cX11_unwed 7 = .ok (.iload_n 2, 1) := by decide +kernel
theorem dX11_unwed_8 : decode cX11_unwed 8 = .ok (.i2l, 1) := by decide +kernel
theorem dX11_unwed_9 : decode cX11_unwed 9 = .ok (.lconst 0, 1) := by decide +kernel
theorem dX11_unwed_10 : decode cX11_unwed 10 = .ok (.ldc2_w 225, 3) := by decide +kernel
theorem dX11_unwed_13 : decode cX11_unwed 13 = .ok (.invokestatic 63, 3) := by decide +kernel
theorem dX11_unwed_16 : decode cX11_unwed 16 = .ok (.ifCond .ne 5, 3) := by decide +kernel
theorem dX11_unwed_19 : decode cX11_unwed 19 = .ok (.iconst (-1), 1) := by decide +kernel
theorem dX11_unwed_20 : decode cX11_unwed 20 = .ok (.ireturn, 1) := by decide +kernel
theorem dX11_unwed_21 : decode cX11_unwed 21 = .ok (.aload_n 0, 1) := by decide +kernel
theorem dX11_unwed_22 : decode cX11_unwed 22 = .ok (.invokevirtual 227, 3) := by decide +kernel
theorem dX11_unwed_25 : decode cX11_unwed 25 = .ok (.aload_n 0, 1) := by decide +kernel
theorem dX11_unwed_26 : decode cX11_unwed 26 = .ok (.iload_n 1, 1) := by decide +kernel
theorem dX11_unwed_27 : decode cX11_unwed 27 = .ok (.bipush (-4), 2) := by decide +kernel
theorem dX11_unwed_29 : decode cX11_unwed 29 = .ok (.iconst 0, 1) := by decide +kernel
theorem dX11_unwed_30 : decode cX11_unwed 30 = .ok (.invokevirtual 230, 3) := by decide +kernel
theorem dX11_unwed_33 : decode cX11_unwed 33 = .ok (.aload_n 0, 1) := by decide +kernel
theorem dX11_unwed_34 : decode cX11_unwed 34 = .ok (.getfield 234, 3) := by decide +kernel
theorem dX11_unwed_37 : decode cX11_unwed 37 = .ok (.aload_n 0, 1) := by decide +kernel
theorem dX11_unwed_38 : decode cX11_unwed 38 = .ok (.getfield 22, 3) := by decide +kernel
theorem dX11_unwed_41 : decode cX11_unwed 41 = .ok (.iconst 5, 1) := by decide +kernel
theorem dX11_unwed_42 : decode cX11_unwed 42 = .ok (.iaload, 1) := by decide +kernel
theorem dX11_unwed_43 : decode cX11_unwed 43 = .ok (.iadd, 1) := by decide +kernel
theorem dX11_unwed_44 : decode cX11_unwed 44 = .ok (.istore_n 3, 1) := by decide +kernel
theorem dX11_unwed_45 : decode cX11_unwed 45 = .ok (.iload_n 3, 1) := by decide +kernel
theorem dX11_unwed_46 : decode cX11_unwed 46 = .ok (.ifCond .ne 8, 3) := by decide +kernel
theorem dX11_unwed_49 : decode cX11_unwed 49 = .ok (.bipush (-4), 2) := by decide +kernel
theorem dX11_unwed_51 : decode cX11_unwed 51 = .ok (.goto 31, 3) := by decide +kernel
theorem dX11_unwed_54 : decode cX11_unwed 54 = .ok (.aload_n 0, 1) := by decide +kernel
theorem dX11_unwed_55 : decode cX11_unwed 55 = .ok (.getfield 237, 3) := by decide +kernel
theorem dX11_unwed_58 : decode cX11_unwed 58 = .ok (.iload_n 2, 1) := by decide +kernel
theorem dX11_unwed_59 : decode cX11_unwed 59 = .ok (.iconst 2, 1) := by decide +kernel
theorem dX11_unwed_60 : decode cX11_unwed 60 = .ok (.if_icmp .ge 7, 3) := by decide +kernel
theorem dX11_unwed_63 : decode cX11_unwed 63 = .ok (.iconst 0, 1) := by decide +kernel
theorem dX11_unwed_64 : decode cX11_unwed 64 = .ok (.goto 9, 3) := by decide +kernel
theorem dX11_unwed_67 : decode cX11_unwed 67 = .ok (.aload_n 0, 1) := by decide +kernel
theorem dX11_unwed_68 : decode cX11_unwed 68 = .ok (.getfield 22, 3) := by decide +kernel
theorem dX11_unwed_71 : decode cX11_unwed 71 = .ok (.iconst 5, 1) := by decide +kernel
theorem dX11_unwed_72 : decode cX11_unwed 72 = .ok (.iaload, 1) := by decide +kernel
theorem dX11_unwed_73 : decode cX11_unwed 73 = .ok (.iadd, 1) := by decide +kernel
theorem dX11_unwed_74 : decode cX11_unwed 74 = .ok (.i2l, 1) := by decide +kernel
theorem dX11_unwed_75 : decode cX11_unwed 75 = .ok (.iload_n 3, 1) := by decide +kernel
theorem dX11_unwed_76 : decode cX11_unwed 76 = .ok (.i2l, 1) := by decide +kernel
theorem dX11_unwed_77 : decode cX11_unwed 77 = .ok (.iload_n 2, 1) := by decide +kernel
theorem dX11_unwed_78 : decode cX11_unwed 78 = .ok (.invokestatic 257, 3) := by decide +kernel
theorem dX11_unwed_81 : decode cX11_unwed 81 = .ok (.l2i, 1) := by decide +kernel
theorem dX11_unwed_82 : decode cX11_unwed 82 = .ok (.ireturn, 1) := by decide +kernel
theorem dX11_parts_0 : decode cX11_parts 0 = .ok (.iload_n 1, 1) := by decide +kernel
theorem dX11_parts_1 : decode cX11_parts 1 = .ok (.i2l, 1) := by decide +kernel
theorem dX11_parts_2 : decode cX11_parts 2 = .ok (.lconst 0, 1) := by decide +kernel
theorem dX11_parts_3 : decode cX11_parts 3 = .ok (.ldc2_w 225, 3) := by decide +kernel
theorem dX11_parts_6 : decode cX11_parts 6 = .ok (.invokestatic 63, 3) := by decide +kernel
theorem dX11_parts_9 : decode cX11_parts 9 = .ok (.ifCond .eq 15, 3) := by decide +kernel
theorem dX11_parts_12 : decode cX11_parts 12 = .ok (.iload_n 2, 1) := by decide +kernel
theorem dX11_parts_13 : decode cX11_parts 13 = .ok (.i2l, 1) := by decide +kernel
theorem dX11_parts_14 : decode cX11_parts 14 = .ok (.lconst 0, 1) := by decide +kernel
theorem dX11_parts_15 : decode cX11_parts 15 = .ok (.ldc2_w 162, 3) := by decide +kernel
theorem dX11_parts_18 : decode cX11_parts 18 = .ok (.invokestatic 63, 3) := by decide +kernel
theorem dX11_parts_21 : decode cX11_parts 21 = .ok (.ifCond .ne 7, 3) := by decide +kernel
theorem dX11_parts_24 : decode cX11_parts 24 = .ok (.ldc2_w 300, 3) := by decide +kernel
theorem dX11_parts_27 : decode cX11_parts 27 = .ok (.lreturn, 1) := by decide +kernel
theorem dX11_parts_28 : decode cX11_parts 28 = .ok (.aload_n 0, 1) := by decide +kernel
theorem dX11_parts_29 : decode cX11_parts 29 = .ok (.invokevirtual 227, 3) := by decide +kernel
theorem dX11_parts_32 : decode cX11_parts 32 = .ok (.aload_n 0, 1) := by decide +kernel
theorem dX11_parts_33 : decode cX11_parts 33 = .ok (.iconst 0, 1) := by decide +kernel
theorem dX11_parts_34 : decode cX11_parts 34 = .ok (.bipush (-4), 2) := by decide +kernel
theorem dX11_parts_36 : decode cX11_parts 36 = .ok (.iconst 0, 1) := by decide +kernel
theorem dX11_parts_37 : decode cX11_parts 37 = .ok (.invokevirtual 230, 3) := by decide +kernel
theorem dX11_parts_40 : decode cX11_parts 40 = .ok (.aload_n 0, 1) := by decide +kernel
theorem dX11_parts_41 : decode cX11_parts 41 = .ok (.getfield 234, 3) := by decide +kernel
theorem dX11_parts_44 : decode cX11_parts 44 = .ok (.i2l, 1) := by decide +kernel
theorem dX11_parts_45 : decode cX11_parts 45 = .ok (.lstore_n 3, 1) := by decide +kernel
theorem dX11_parts_46 : decode cX11_parts 46 = .ok (.aload_n 0, 1) := by decide +kernel
theorem dX11_parts_47 : decode cX11_parts 47 = .ok (.iconst 1, 1) := by decide +kernel
theorem dX11_parts_48 : decode cX11_parts 48 = .ok (.bipush (-4), 2) := by decide +kernel
theorem dX11_parts_50 : decode cX11_parts 50 = .ok (.iconst 0, 1) := by decide +kernel
theorem dX11_parts_51 : decode cX11_parts 51 = .ok (.invokevirtual 230, 3) := by decide +kernel
theorem dX11_parts_54 : decode cX11_parts 54 = .ok (.aload_n 0, 1) := by decide +kernel
theorem dX11_parts_55 : decode cX11_parts 55 = .ok (.getfield 234, 3) := by decide +kernel
theorem dX11_parts_58 : decode cX11_parts 58 = .ok (.i2l, 1) := by decide +kernel
theorem dX11_parts_59 : decode cX11_parts 59 = .ok (.lstore 5, 2) := by decide +kernel
theorem dX11_parts_61 : decode cX11_parts 61 = .ok (.lload_n 3, 1) := by decide +kernel
theorem dX11_parts_62 : decode cX11_parts 62 = .ok (.lconst 0, 1) := by decide +kernel
theorem dX11_parts_63 : decode cX11_parts 63 = .ok (.lcmp, 1) := by decide +kernel
theorem dX11_parts_64 : decode cX11_parts 64 = .ok (.ifCond .eq 10, 3) := by decide +kernel
theorem dX11_parts_67 : decode cX11_parts 67 = .ok (.lload 5, 2) := by decide +kernel
theorem dX11_parts_69 : decode cX11_parts 69 = .ok (.lconst 0, 1) := by decide +kernel
theorem dX11_parts_70 : decode cX11_parts 70 = .ok (.lcmp, 1) := by decide +kernel
theorem dX11_parts_71 : decode cX11_parts 71 = .ok (.ifCond .ne 7, 3) := by decide +kernel
theorem dX11_parts_74 : decode cX11_parts 74 = .ok (.ldc2_w 302, 3) := by decide +kernel
theorem dX11_parts_77 : decode cX11_parts 77 = .ok (.lreturn, 1) := by decide +kernel
theorem dX11_parts_78 : decode cX11_parts 78 = .ok (.aload_n 0, 1) := by decide +kernel
theorem dX11_parts_79 : decode cX11_parts 79 = .ok (.invokevirtual 304, 3) := by decide +kernel
theorem dX11_parts_82 : decode cX11_parts 82 = .ok (.iconst 0, 1) := by decide +kernel
theorem dX11_parts_83 : decode cX11_parts 83 = .ok (.istore 7, 2) := by decide +kernel
theorem dX11_parts_85 : decode cX11_parts 85 = .ok (.iload 7, 2) := by decide +kernel
theorem dX11_parts_87 : decode cX11_parts 87 = .ok (.aload_n 0, 1) := by decide +kernel
theorem dX11_parts_88 : decode cX11_parts 88 = .ok (.iload_n 1, 1) := by decide +kernel
theorem dX11_parts_89 : decode cX11_parts 89 = .ok (.invokevirtual 261, 3) := by decide +kernel
theorem dX11_parts_92 : decode cX11_parts 92 = .ok (.if_icmp .ge 222, 3) := by decide +kernel
theorem dX11_parts_95 : decode cX11_parts 95 = .ok (.aload_n 0, 1) := by decide +kernel
theorem dX11_parts_96 : decode cX11_parts 96 = .ok (.iconst 0, 1) := by decide +kernel
theorem dX11_parts_97 : decode cX11_parts 97 = .ok (.iload_n 1, 1) := by decide +kernel
theorem dX11_parts_98 : decode cX11_parts 98 = .ok (.iload 7, 2) := by decide +kernel
theorem dX11_parts_100 : decode cX11_parts 100 = .ok (.invokevirtual 230, 3) := by decide +kernel
theorem dX11_parts_103 : decode cX11_parts 103 = .ok (.aload_n 0, 1) := by decide +kernel
theorem dX11_parts_104 : decode cX11_parts 104 = .ok (.getfield 234, 3) := by decide +kernel
theorem dX11_parts_107 : decode cX11_parts 107 = .ok (.i2l, 1) := by decide +kernel
theorem dX11_parts_108 : decode cX11_parts 108 = .ok (.lstore 8, 2) := by decide +kernel
theorem dX11_parts_110 : decode cX11_parts 110 = .ok (.aload_n 0, 1) := by decide +kernel
theorem dX11_parts_111 : decode cX11_parts 111 = .ok (.getfield 237, 3) := by decide +kernel
theorem dX11_parts_114 : decode cX11_parts 114 = .ok (.i2l, 1) := by decide +kernel
theorem dX11_parts_115 : decode cX11_parts 115 = .ok (.lstore 10, 2) := by decide +kernel
theorem dX11_parts_117 : decode cX11_parts 117 = .ok (.aload_n 0, 1) := by decide +kernel
theorem dX11_parts_118 : decode cX11_parts 118 = .ok (.iconst 1, 1) := by decide +kernel
theorem dX11_parts_119 : decode cX11_parts 119 = .ok (.iload_n 1, 1) := by decide +kernel
theorem dX11_parts_120 : decode cX11_parts 120 = .ok (.iload 7, 2) := by decide +kernel
theorem dX11_parts_122 : decode cX11_parts 122 = .ok (.invokevirtual 230, 3) := by decide +kernel
theorem dX11_parts_125 : decode cX11_parts 125 = .ok (.aload_n 0, 1) := by decide +kernel
theorem dX11_parts_126 : decode cX11_parts 126 = .ok (.getfield 234, 3) := by decide +kernel
theorem dX11_parts_129 : decode cX11_parts 129 = .ok (.i2l, 1) := by decide +kernel
theorem dX11_parts_130 : decode cX11_parts 130 = .ok (.lstore 12, 2) := by decide +kernel
theorem dX11_parts_132 : decode cX11_parts 132 = .ok (.aload_n 0, 1) := by decide +kernel
theorem dX11_parts_133 : decode cX11_parts 133 = .ok (.getfield 237, 3) := by decide +kernel
theorem dX11_parts_136 : decode cX11_parts 136 = .ok (.i2l, 1) := by decide +kernel
theorem dX11_parts_137 : decode cX11_parts 137 = .ok (.lstore 14, 2) := by decide +kernel
theorem dX11_parts_139 : decode cX11_parts 139 = .ok (.lload 8, 2) := by decide +kernel
theorem dX11_parts_141 : decode cX11_parts 141 = .ok (.lconst 0, 1) := by decide +kernel
theorem dX11_parts_142 : decode cX11_parts 142 = .ok (.lcmp, 1) := by decide +kernel
theorem dX11_parts_143 : decode cX11_parts 143 = .ok (.ifCond .le 8, 3) := by decide +kernel
theorem dX11_parts_146 : decode cX11_parts 146 = .ok (.lload 10, 2) := by decide +kernel
theorem dX11_parts_148 : decode cX11_parts 148 = .ok (.goto 5, 3) := by decide +kernel
theorem dX11_parts_151 : decode cX11_parts 151 = .ok (.lload 14, 2) := by decide +kernel
theorem dX11_parts_153 : decode cX11_parts 153 = .ok (.lstore 16, 2) := by decide +kernel
theorem dX11_parts_155 : decode cX11_parts 155 = .ok (.lload 8, 2) := by decide +kernel
theorem dX11_parts_157 : decode cX11_parts 157 = .ok (.lconst 0, 1) := by decide +kernel
theorem dX11_parts_158 : decode cX11_parts 158 = .ok (.lcmp, 1) := by decide +kernel
theorem dX11_parts_159 : decode cX11_parts 159 = .ok (.ifCond .le 8, 3) := by decide +kernel
theorem dX11_parts_162 : decode cX11_parts 162 = .ok (.lload 8, 2) := by decide +kernel
theorem dX11_parts_164 : decode cX11_parts 164 = .ok (.goto 5, 3) := by decide +kernel
theorem dX11_parts_167 : decode cX11_parts 167 = .ok (.lload 12, 2) := by decide +kernel
theorem dX11_parts_169 : decode cX11_parts 169 = .ok (.lstore 18, 2) := by decide +kernel
theorem dX11_parts_171 : decode cX11_parts 171 = .ok (.lload 12, 2) := by decide +kernel
theorem dX11_parts_173 : decode cX11_parts 173 = .ok (.lconst 0, 1) := by decide +kernel
theorem dX11_parts_174 : decode cX11_parts 174 = .ok (.lcmp, 1) := by decide +kernel
theorem dX11_parts_175 : decode cX11_parts 175 = .ok (.ifCond .le 8, 3) := by decide +kernel
theorem dX11_parts_178 : decode cX11_parts 178 = .ok (.lload 14, 2) := by decide +kernel
theorem dX11_parts_180 : decode cX11_parts 180 = .ok (.goto 5, 3) := by decide +kernel
theorem dX11_parts_183 : decode cX11_parts 183 = .ok (.lload 10, 2) := by decide +kernel
theorem dX11_parts_185 : decode cX11_parts 185 = .ok (.lstore 20, 2) := by decide +kernel
theorem dX11_parts_187 : decode cX11_parts 187 = .ok (.lload 12, 2) := by decide +kernel
theorem dX11_parts_189 : decode cX11_parts 189 = .ok (.lconst 0, 1) := by decide +kernel
theorem dX11_parts_190 : decode cX11_parts 190 = .ok (.lcmp, 1) := by decide +kernel
theorem dX11_parts_191 : decode cX11_parts 191 = .ok (.ifCond .le 8, 3) := by decide +kernel
theorem dX11_parts_194 : decode cX11_parts 194 = .ok (.lload 12, 2) := by decide +kernel
theorem dX11_parts_196 : decode cX11_parts 196 = .ok (.goto 5, 3) := by decide +kernel
theorem dX11_parts_199 : decode cX11_parts 199 = .ok (.lload 8, 2) := by decide +kernel
theorem dX11_parts_201 : decode cX11_parts 201 = .ok (.lstore 22, 2) := by decide +kernel
theorem dX11_parts_203 : decode cX11_parts 203 = .ok (.lload 8, 2) := by decide +kernel
theorem dX11_parts_205 : decode cX11_parts 205 = .ok (.lload 12, 2) := by decide +kernel
theorem dX11_parts_207 : decode cX11_parts 207 = .ok (.ladd, 1) := by decide +kernel
theorem dX11_parts_208 : decode cX11_parts 208 = .ok (.lconst 0, 1) := by decide +kernel
theorem dX11_parts_209 : decode cX11_parts 209 = .ok (.lcmp, 1) := by decide +kernel
theorem dX11_parts_210 : decode cX11_parts 210 = .ok (.ifCond .le 98, 3) := by decide +kernel
theorem dX11_parts_213 : decode cX11_parts 213 = .ok (.lload 12, 2) := by decide +kernel
theorem dX11_parts_215 : decode cX11_parts 215 = .ok (.lload_n 3, 1) := by decide +kernel
theorem dX11_parts_216 : decode cX11_parts 216 = .ok (.lmul, 1) := by decide +kernel
theorem dX11_parts_217 : decode cX11_parts 217 = .ok (.lload 8, 2) := by decide +kernel
theorem dX11_parts_219 : decode cX11_parts 219 = .ok (.lload 5, 2) := by decide +kernel
theorem dX11_parts_221 : decode cX11_parts 221 = .ok (.lmul, 1) := by decide +kernel
theorem dX11_parts_222 : decode cX11_parts 222 = .ok (.lsub, 1) := by decide +kernel
theorem dX11_parts_223 : decode cX11_parts 223 = .ok (.lstore 24, 2) := by decide +kernel
theorem dX11_parts_225 : decode cX11_parts 225 = .ok (.lload 12, 2) := by decide +kernel
theorem dX11_parts_227 : decode cX11_parts 227 = .ok (.lload_n 3, 1) := by decide +kernel
theorem dX11_parts_228 : decode cX11_parts 228 = .ok (.lmul, 1) := by decide +kernel
theorem dX11_parts_229 : decode cX11_parts 229 = .ok (.lload 8, 2) := by decide +kernel
theorem dX11_parts_231 : decode cX11_parts 231 = .ok (.lload 5, 2) := by decide +kernel
theorem dX11_parts_233 : decode cX11_parts 233 = .ok (.lmul, 1) := by decide +kernel
theorem dX11_parts_234 : decode cX11_parts 234 = .ok (.ladd, 1) := by decide +kernel
theorem dX11_parts_235 : decode cX11_parts 235 = .ok (.lstore 26, 2) := by decide +kernel
theorem dX11_parts_237 : decode cX11_parts 237 = .ok (.ldc2_w 202, 3) := by decide +kernel
theorem dX11_parts_240 : decode cX11_parts 240 = .ok (.lload_n 3, 1) := by decide +kernel
theorem dX11_parts_241 : decode cX11_parts 241 = .ok (.lmul, 1) := by decide +kernel
theorem dX11_parts_242 : decode cX11_parts 242 = .ok (.lload 5, 2) := by decide +kernel
theorem dX11_parts_244 : decode cX11_parts 244 = .ok (.lmul, 1) := by decide +kernel
theorem dX11_parts_245 : decode cX11_parts 245 = .ok (.lload 18, 2) := by decide +kernel
theorem dX11_parts_247 : decode cX11_parts 247 = .ok (.lmul, 1) := by decide +kernel
theorem dX11_parts_248 : decode cX11_parts 248 = .ok (.lload 22, 2) := by decide +kernel
theorem dX11_parts_250 : decode cX11_parts 250 = .ok (.lmul, 1) := by decide +kernel
theorem dX11_parts_251 : decode cX11_parts 251 = .ok (.lstore 28, 2) := by decide +kernel
theorem dX11_parts_253 : decode cX11_parts 253 = .ok (.iload_n 2, 1) := by decide +kernel
theorem dX11_parts_254 : decode cX11_parts 254 = .ok (.iconst 2, 1) := by decide +kernel
theorem dX11_parts_255 : decode cX11_parts 255 = .ok (.if_icmp .lt 8, 3) := by decide +kernel
theorem dX11_parts_258 : decode cX11_parts 258 = .ok (.iload_n 2, 1) := by decide +kernel
theorem dX11_parts_259 : decode cX11_parts 259 = .ok (.iconst 3, 1) := by decide +kernel
theorem dX11_parts_260 : decode cX11_parts 260 = .ok (.if_icmp .le 23, 3) := by decide +kernel
theorem dX11_parts_263 : decode cX11_parts 263 = .ok (.aload_n 0, 1) := by decide +kernel
theorem dX11_parts_264 : decode cX11_parts 264 = .ok (.lload 24, 2) := by decide +kernel
theorem dX11_parts_266 : decode cX11_parts 266 = .ok (.lload 16, 2) := by decide +kernel
theorem dX11_parts_268 : decode cX11_parts 268 = .ok (.lload 22, 2) := by decide +kernel
theorem dX11_parts_270 : decode cX11_parts 270 = .ok (.lmul, 1) := by decide +kernel
theorem dX11_parts_271 : decode cX11_parts 271 = .ok (.lload 20, 2) := by decide +kernel
theorem dX11_parts_273 : decode cX11_parts 273 = .ok (.lload 18, 2) := by decide +kernel
theorem dX11_parts_275 : decode cX11_parts 275 = .ok (.lmul, 1) := by decide +kernel
theorem dX11_parts_276 : decode cX11_parts 276 = .ok (.ladd, 1) := by decide +kernel
theorem dX11_parts_277 : decode cX11_parts 277 = .ok (.lmul, 1) := by decide +kernel
theorem dX11_parts_278 : decode cX11_parts 278 = .ok (.lload 28, 2) := by decide +kernel
theorem dX11_parts_280 : decode cX11_parts 280 = .ok (.invokevirtual 310, 3) := by decide +kernel
theorem dX11_parts_283 : decode cX11_parts 283 = .ok (.iload_n 2, 1) := by decide +kernel
theorem dX11_parts_284 : decode cX11_parts 284 = .ok (.iconst 1, 1) := by decide +kernel
theorem dX11_parts_285 : decode cX11_parts 285 = .ok (.if_icmp .le 23, 3) := by decide +kernel
theorem dX11_parts_288 : decode cX11_parts 288 = .ok (.aload_n 0, 1) := by decide +kernel
theorem dX11_parts_289 : decode cX11_parts 289 = .ok (.lload 26, 2) := by decide +kernel
theorem dX11_parts_291 : decode cX11_parts 291 = .ok (.lload 20, 2) := by decide +kernel
theorem dX11_parts_293 : decode cX11_parts 293 = .ok (.lload 18, 2) := by decide +kernel
theorem dX11_parts_295 : decode cX11_parts 295 = .ok (.lmul, 1) := by decide +kernel
theorem dX11_parts_296 : decode cX11_parts 296 = .ok (.lload 16, 2) := by decide +kernel
theorem dX11_parts_298 : decode cX11_parts 298 = .ok (.lload 22, 2) := by decide +kernel
theorem dX11_parts_300 : decode cX11_parts 300 = .ok (.lmul, 1) := by decide +kernel
theorem dX11_parts_301 : decode cX11_parts 301 = .ok (.lsub, 1) := by decide +kernel
theorem dX11_parts_302 : decode cX11_parts 302 = .ok (.lmul, 1) := by decide +kernel
theorem dX11_parts_303 : decode cX11_parts 303 = .ok (.lload 28, 2) := by decide +kernel
theorem dX11_parts_305 : decode cX11_parts 305 = .ok (.invokevirtual 310, 3) := by decide +kernel
theorem dX11_parts_308 : decode cX11_parts 308 = .ok (.iinc 7 1, 3) := by decide +kernel
theorem dX11_parts_311 : decode cX11_parts 311 = .ok (.goto (-226), 3) := by decide +kernel
theorem dX11_parts_314 : decode cX11_parts 314 = .ok (.iload_n 2, 1) := by decide +kernel
theorem dX11_parts_315 : decode cX11_parts 315 = .ok (.iconst 2, 1) := by decide +kernel
theorem dX11_parts_316 : decode cX11_parts 316 = .ok (.irem, 1) := by decide +kernel
theorem dX11_parts_317 : decode cX11_parts 317 = .ok (.ifCond .ne 10, 3) := by decide +kernel
theorem dX11_parts_320 : decode cX11_parts 320 = .ok (.aload_n 0, 1) := by decide +kernel
theorem dX11_parts_321 : decode cX11_parts 321 = .ok (.getfield 287, 3) := by decide +kernel
theorem dX11_parts_324 : decode cX11_parts 324 = .ok (.goto 7, 3) := by decide +kernel
theorem dX11_parts_327 : decode cX11_parts 327 = .ok (.aload_n 0, 1) := by decide +kernel
theorem dX11_parts_328 : decode cX11_parts 328 = .ok (.getfield 291, 3) := by decide +kernel
theorem dX11_parts_331 : decode cX11_parts 331 = .ok (.lreturn, 1) := by decide +kernel
theorem dX11_worth_0 : decode cX11_worth 0 = .ok (.iload_n 1, 1) := by decide +kernel
theorem dX11_worth_1 : decode cX11_worth 1 = .ok (.i2l, 1) := by decide +kernel
theorem dX11_worth_2 : decode cX11_worth 2 = .ok (.lconst 0, 1) := by decide +kernel
theorem dX11_worth_3 : decode cX11_worth 3 = .ok (.lconst 1, 1) := by decide +kernel
theorem dX11_worth_4 : decode cX11_worth 4 = .ok (.invokestatic 63, 3) := by decide +kernel
theorem dX11_worth_7 : decode cX11_worth 7 = .ok (.ifCond .eq 25, 3) := by decide +kernel
theorem dX11_worth_10 : decode cX11_worth 10 = .ok (.iload_n 2, 1) := by decide +kernel
theorem dX11_worth_11 : decode cX11_worth 11 = .ok (.i2l, 1) := by decide +kernel
theorem dX11_worth_12 : decode cX11_worth 12 = .ok (.lconst 0, 1) := by decide +kernel
theorem dX11_worth_13 : decode cX11_worth 13 = .ok (.ldc2_w 171, 3) := by decide +kernel
theorem dX11_worth_16 : decode cX11_worth 16 = .ok (.invokestatic 63, 3) := by decide +kernel
theorem dX11_worth_19 : decode cX11_worth 19 = .ok (.ifCond .eq 13, 3) := by decide +kernel
theorem dX11_worth_22 : decode cX11_worth 22 = .ok (.iload_n 3, 1) := by decide +kernel
theorem dX11_worth_23 : decode cX11_worth 23 = .ok (.i2l, 1) := by decide +kernel
theorem dX11_worth_24 : decode cX11_worth 24 = .ok (.lconst 0, 1) := by decide +kernel
theorem dX11_worth_25 : decode cX11_worth 25 = .ok (.lconst 1, 1) := by decide +kernel
theorem dX11_worth_26 : decode cX11_worth 26 = .ok (.invokestatic 63, 3) := by decide +kernel
theorem dX11_worth_29 : decode cX11_worth 29 = .ok (.ifCond .ne 7, 3) := by decide +kernel
theorem dX11_worth_32 : decode cX11_worth 32 = .ok (.ldc_w 316, 3) := by decide +kernel
theorem dX11_worth_35 : decode cX11_worth 35 = .ok (.ireturn, 1) := by decide +kernel
theorem dX11_worth_36 : decode cX11_worth 36 = .ok (.aload_n 0, 1) := by decide +kernel
theorem dX11_worth_37 : decode cX11_worth 37 = .ok (.invokevirtual 227, 3) := by decide +kernel
theorem dX11_worth_40 : decode cX11_worth 40 = .ok (.aload_n 0, 1) := by decide +kernel
theorem dX11_worth_41 : decode cX11_worth 41 = .ok (.invokevirtual 304, 3) := by decide +kernel
theorem dX11_worth_44 : decode cX11_worth 44 = .ok (.iconst 0, 1) := by decide +kernel
theorem dX11_worth_45 : decode cX11_worth 45 = .ok (.istore 4, 2) := by decide +kernel
theorem dX11_worth_47 : decode cX11_worth 47 = .ok (.iconst 0, 1) := by decide +kernel
theorem dX11_worth_48 : decode cX11_worth 48 = .ok (.istore 5, 2) := by decide +kernel
theorem dX11_worth_50 : decode cX11_worth 50 = .ok (.iload 5, 2) := by decide +kernel
theorem dX11_worth_52 : decode cX11_worth 52 = .ok (.iconst 4, 1) := by decide +kernel
theorem dX11_worth_53 : decode cX11_worth 53 = .ok (.if_icmp .ge 229, 3) := by decide +kernel
theorem dX11_worth_56 : decode cX11_worth 56 = .ok (.lconst 0, 1) := by decide +kernel
theorem dX11_worth_57 : decode cX11_worth 57 = .ok (.lstore 6, 2) := by decide +kernel
theorem dX11_worth_59 : decode cX11_worth 59 = .ok (.lconst 0, 1) := by decide +kernel
theorem dX11_worth_60 : decode cX11_worth 60 = .ok (.lstore 8, 2) := by decide +kernel
theorem dX11_worth_62 : decode cX11_worth 62 = .ok (.iconst 0, 1) := by decide +kernel
theorem dX11_worth_63 : decode cX11_worth 63 = .ok (.istore 10, 2) := by decide +kernel
theorem dX11_worth_65 : decode cX11_worth 65 = .ok (.iload 10, 2) := by decide +kernel
theorem dX11_worth_67 : decode cX11_worth 67 = .ok (.iconst 2, 1) := by decide +kernel
theorem dX11_worth_68 : decode cX11_worth 68 = .ok (.aload_n 0, 1) := by decide +kernel
theorem dX11_worth_69 : decode cX11_worth 69 = .ok (.invokevirtual 150, 3) := by decide +kernel
theorem dX11_worth_72 : decode cX11_worth 72 = .ok (.imul, 1) := by decide +kernel
theorem dX11_worth_73 : decode cX11_worth 73 = .ok (.if_icmp .ge 152, 3) := by decide +kernel
theorem dX11_worth_76 : decode cX11_worth 76 = .ok (.aload_n 0, 1) := by decide +kernel
theorem dX11_worth_77 : decode cX11_worth 77 = .ok (.aload_n 0, 1) := by decide +kernel
theorem dX11_worth_78 : decode cX11_worth 78 = .ok (.iload 10, 2) := by decide +kernel
theorem dX11_worth_80 : decode cX11_worth 80 = .ok (.iconst 2, 1) := by decide +kernel
theorem dX11_worth_81 : decode cX11_worth 81 = .ok (.idiv, 1) := by decide +kernel
theorem dX11_worth_82 : decode cX11_worth 82 = .ok (.iconst 0, 1) := by decide +kernel
theorem dX11_worth_83 : decode cX11_worth 83 = .ok (.invokevirtual 153, 3) := by decide +kernel
theorem dX11_worth_86 : decode cX11_worth 86 = .ok (.iconst 2, 1) := by decide +kernel
theorem dX11_worth_87 : decode cX11_worth 87 = .ok (.iload_n 1, 1) := by decide +kernel
theorem dX11_worth_88 : decode cX11_worth 88 = .ok (.iadd, 1) := by decide +kernel
theorem dX11_worth_89 : decode cX11_worth 89 = .ok (.invokevirtual 156, 3) := by decide +kernel
theorem dX11_worth_92 : decode cX11_worth 92 = .ok (.istore 11, 2) := by decide +kernel
theorem dX11_worth_94 : decode cX11_worth 94 = .ok (.iload 11, 2) := by decide +kernel
theorem dX11_worth_96 : decode cX11_worth 96 = .ok (.bipush (-4), 2) := by decide +kernel
theorem dX11_worth_98 : decode cX11_worth 98 = .ok (.if_icmp .eq 13, 3) := by decide +kernel
theorem dX11_worth_101 : decode cX11_worth 101 = .ok (.iload 11, 2) := by decide +kernel
theorem dX11_worth_103 : decode cX11_worth 103 = .ok (.iload_n 2, 1) := by decide +kernel
theorem dX11_worth_104 : decode cX11_worth 104 = .ok (.if_icmp .gt 7, 3) := by decide +kernel
theorem dX11_worth_107 : decode cX11_worth 107 = .ok (.iconst 1, 1) := by decide +kernel
theorem dX11_worth_108 : decode cX11_worth 108 = .ok (.goto 4, 3) := by decide +kernel
theorem dX11_worth_111 : decode cX11_worth 111 = .ok (.iconst 0, 1) := by decide +kernel
theorem dX11_worth_112 : decode cX11_worth 112 = .ok (.istore 12, 2) := by decide +kernel
theorem dX11_worth_114 : decode cX11_worth 114 = .ok (.aload_n 0, 1) := by decide +kernel
theorem dX11_worth_115 : decode cX11_worth 115 = .ok (.iconst 0, 1) := by decide +kernel
theorem dX11_worth_116 : decode cX11_worth 116 = .ok (.iload 10, 2) := by decide +kernel
theorem dX11_worth_118 : decode cX11_worth 118 = .ok (.invokevirtual 240, 3) := by decide +kernel
theorem dX11_worth_121 : decode cX11_worth 121 = .ok (.ifCond .eq 56, 3) := by decide +kernel
theorem dX11_worth_124 : decode cX11_worth 124 = .ok (.iload 12, 2) := by decide +kernel
theorem dX11_worth_126 : decode cX11_worth 126 = .ok (.iload 5, 2) := by decide +kernel
theorem dX11_worth_128 : decode cX11_worth 128 = .ok (.iconst 2, 1) := by decide +kernel
theorem dX11_worth_129 : decode cX11_worth 129 = .ok (.if_icmp .ge 7, 3) := by decide +kernel
theorem dX11_worth_132 : decode cX11_worth 132 = .ok (.iconst 1, 1) := by decide +kernel
theorem dX11_worth_133 : decode cX11_worth 133 = .ok (.goto 4, 3) := by decide +kernel
theorem dX11_worth_136 : decode cX11_worth 136 = .ok (.iconst 0, 1) := by decide +kernel
theorem dX11_worth_137 : decode cX11_worth 137 = .ok (.if_icmp .ne 40, 3) := by decide +kernel
theorem dX11_worth_140 : decode cX11_worth 140 = .ok (.aload_n 0, 1) := by decide +kernel
theorem dX11_worth_141 : decode cX11_worth 141 = .ok (.iload 10, 2) := by decide +kernel
theorem dX11_worth_143 : decode cX11_worth 143 = .ok (.iconst 2, 1) := by decide +kernel
theorem dX11_worth_144 : decode cX11_worth 144 = .ok (.idiv, 1) := by decide +kernel
theorem dX11_worth_145 : decode cX11_worth 145 = .ok (.iconst 1, 1) := by decide +kernel
theorem dX11_worth_146 : decode cX11_worth 146 = .ok (.invokevirtual 153, 3) := by decide +kernel
theorem dX11_worth_149 : decode cX11_worth 149 = .ok (.iload_n 2, 1) := by decide +kernel
theorem dX11_worth_150 : decode cX11_worth 150 = .ok (.if_icmp .lt 7, 3) := by decide +kernel
theorem dX11_worth_153 : decode cX11_worth 153 = .ok (.iconst 1, 1) := by decide +kernel
theorem dX11_worth_154 : decode cX11_worth 154 = .ok (.goto 4, 3) := by decide +kernel
theorem dX11_worth_157 : decode cX11_worth 157 = .ok (.iconst 0, 1) := by decide +kernel
theorem dX11_worth_158 : decode cX11_worth 158 = .ok (.iload 5, 2) := by decide +kernel
theorem dX11_worth_160 : decode cX11_worth 160 = .ok (.iconst 2, 1) := by decide +kernel
theorem dX11_worth_161 : decode cX11_worth 161 = .ok (.irem, 1) := by decide +kernel
theorem dX11_worth_162 : decode cX11_worth 162 = .ok (.ifCond .ne 7, 3) := by decide +kernel
theorem dX11_worth_165 : decode cX11_worth 165 = .ok (.iconst 1, 1) := by decide +kernel
theorem dX11_worth_166 : decode cX11_worth 166 = .ok (.goto 4, 3) := by decide +kernel
theorem dX11_worth_169 : decode cX11_worth 169 = .ok (.iconst 0, 1) := by decide +kernel
theorem dX11_worth_170 : decode cX11_worth 170 = .ok (.if_icmp .ne 7, 3) := by decide +kernel
theorem dX11_worth_173 : decode cX11_worth 173 = .ok (.iconst 1, 1) := by decide +kernel
theorem dX11_worth_174 : decode cX11_worth 174 = .ok (.goto 4, 3) := by decide +kernel
theorem dX11_worth_177 : decode cX11_worth 177 = .ok (.iconst 0, 1) := by decide +kernel
theorem dX11_worth_178 : decode cX11_worth 178 = .ok (.istore 13, 2) := by decide +kernel
theorem dX11_worth_180 : decode cX11_worth 180 = .ok (.lload 6, 2) := by decide +kernel
theorem dX11_worth_182 : decode cX11_worth 182 = .ok (.iload 13, 2) := by decide +kernel
theorem dX11_worth_184 : decode cX11_worth 184 = .ok (.ifCond .eq 7, 3) := by decide +kernel
theorem dX11_worth_187 : decode cX11_worth 187 = .ok (.lconst 1, 1) := by decide +kernel
theorem dX11_worth_188 : decode cX11_worth 188 = .ok (.goto 4, 3) := by decide +kernel
theorem dX11_worth_191 : decode cX11_worth 191 = .ok (.lconst 0, 1) := by decide +kernel
theorem dX11_worth_192 : decode cX11_worth 192 = .ok (.ladd, 1) := by decide +kernel
theorem dX11_worth_193 : decode cX11_worth 193 = .ok (.lstore 6, 2) := by decide +kernel
theorem dX11_worth_195 : decode cX11_worth 195 = .ok (.lload 8, 2) := by decide +kernel
theorem dX11_worth_197 : decode cX11_worth 197 = .ok (.iload 13, 2) := by decide +kernel
theorem dX11_worth_199 : decode cX11_worth 199 = .ok (.ifCond .eq 16, 3) := by decide +kernel
theorem dX11_worth_202 : decode cX11_worth 202 = .ok (.aload_n 0, 1) := by decide +kernel
theorem dX11_worth_203 : decode cX11_worth 203 = .ok (.iload 10, 2) := by decide +kernel
theorem dX11_worth_205 : decode cX11_worth 205 = .ok (.invokevirtual 246, 3) := by decide +kernel
theorem dX11_worth_208 : decode cX11_worth 208 = .ok (.ifCond .eq 7, 3) := by decide +kernel
theorem dX11_worth_211 : decode cX11_worth 211 = .ok (.lconst 1, 1) := by decide +kernel
theorem dX11_worth_212 : decode cX11_worth 212 = .ok (.goto 4, 3) := by decide +kernel
theorem dX11_worth_215 : decode cX11_worth 215 = .ok (.lconst 0, 1) := by decide +kernel
theorem dX11_worth_216 : decode cX11_worth 216 = .ok (.ladd, 1) := by decide +kernel
theorem dX11_worth_217 : decode cX11_worth 217 = .ok (.lstore 8, 2) := by decide +kernel
theorem dX11_worth_219 : decode cX11_worth 219 = .ok (.iinc 10 1, 3) := by decide +kernel
theorem dX11_worth_222 : decode cX11_worth 222 = .ok (.goto (-157), 3) := by decide +kernel
theorem dX11_worth_225 : decode cX11_worth 225 = .ok (.iload 4, 2) := by decide +kernel
theorem dX11_worth_227 : decode cX11_worth 227 = .ok (.ifCond .ne 10, 3) := by decide +kernel
theorem dX11_worth_230 : decode cX11_worth 230 = .ok (.lload 6, 2) := by decide +kernel
theorem dX11_worth_232 : decode cX11_worth 232 = .ok (.lconst 0, 1) := by decide +kernel
theorem dX11_worth_233 : decode cX11_worth 233 = .ok (.lcmp, 1) := by decide +kernel
theorem dX11_worth_234 : decode cX11_worth 234 = .ok (.ifCond .ne 7, 3) := by decide +kernel
theorem dX11_worth_237 : decode cX11_worth 237 = .ok (.iconst 1, 1) := by decide +kernel
theorem dX11_worth_238 : decode cX11_worth 238 = .ok (.goto 4, 3) := by decide +kernel
theorem dX11_worth_241 : decode cX11_worth 241 = .ok (.iconst 0, 1) := by decide +kernel
theorem dX11_worth_242 : decode cX11_worth 242 = .ok (.istore 4, 2) := by decide +kernel
theorem dX11_worth_244 : decode cX11_worth 244 = .ok (.lload 6, 2) := by decide +kernel
theorem dX11_worth_246 : decode cX11_worth 246 = .ok (.lconst 0, 1) := by decide +kernel
theorem dX11_worth_247 : decode cX11_worth 247 = .ok (.lcmp, 1) := by decide +kernel
theorem dX11_worth_248 : decode cX11_worth 248 = .ok (.ifCond .le 28, 3) := by decide +kernel
theorem dX11_worth_251 : decode cX11_worth 251 = .ok (.aload_n 0, 1) := by decide +kernel
theorem dX11_worth_252 : decode cX11_worth 252 = .ok (.iload 5, 2) := by decide +kernel
theorem dX11_worth_254 : decode cX11_worth 254 = .ok (.ifCond .eq 9, 3) := by decide +kernel
theorem dX11_worth_257 : decode cX11_worth 257 = .ok (.iload 5, 2) := by decide +kernel
theorem dX11_worth_259 : decode cX11_worth 259 = .ok (.iconst 3, 1) := by decide +kernel
theorem dX11_worth_260 : decode cX11_worth 260 = .ok (.if_icmp .ne 8, 3) := by decide +kernel
theorem dX11_worth_263 : decode cX11_worth 263 = .ok (.lload 8, 2) := by decide +kernel
theorem dX11_worth_265 : decode cX11_worth 265 = .ok (.goto 6, 3) := by decide +kernel
theorem dX11_worth_268 : decode cX11_worth 268 = .ok (.lload 8, 2) := by decide +kernel
theorem dX11_worth_270 : decode cX11_worth 270 = .ok (.lneg, 1) := by decide +kernel
theorem dX11_worth_271 : decode cX11_worth 271 = .ok (.lload 6, 2) := by decide +kernel
theorem dX11_worth_273 : decode cX11_worth 273 = .ok (.invokevirtual 310, 3) := by decide +kernel
theorem dX11_worth_276 : decode cX11_worth 276 = .ok (.iinc 5 1, 3) := by decide +kernel
theorem dX11_worth_279 : decode cX11_worth 279 = .ok (.goto (-229), 3) := by decide +kernel
theorem dX11_worth_282 : decode cX11_worth 282 = .ok (.iload 4, 2) := by decide +kernel
theorem dX11_worth_284 : decode cX11_worth 284 = .ok (.ifCond .eq 9, 3) := by decide +kernel
theorem dX11_worth_287 : decode cX11_worth 287 = .ok (.ldc_w 317, 3) := by decide +kernel
theorem dX11_worth_290 : decode cX11_worth 290 = .ok (.goto 19, 3) := by decide +kernel
theorem dX11_worth_293 : decode cX11_worth 293 = .ok (.iload_n 3, 1) := by decide +kernel
theorem dX11_worth_294 : decode cX11_worth 294 = .ok (.ifCond .ne 10, 3) := by decide +kernel
theorem dX11_worth_297 : decode cX11_worth 297 = .ok (.aload_n 0, 1) := by decide +kernel
theorem dX11_worth_298 : decode cX11_worth 298 = .ok (.getfield 287, 3) := by decide +kernel
theorem dX11_worth_301 : decode cX11_worth 301 = .ok (.goto 7, 3) := by decide +kernel
theorem dX11_worth_304 : decode cX11_worth 304 = .ok (.aload_n 0, 1) := by decide +kernel
theorem dX11_worth_305 : decode cX11_worth 305 = .ok (.getfield 291, 3) := by decide +kernel
theorem dX11_worth_308 : decode cX11_worth 308 = .ok (.l2i, 1) := by decide +kernel
theorem dX11_worth_309 : decode cX11_worth 309 = .ok (.ireturn, 1) := by decide +kernel
theorem dX11_marksOf_0 : decode cX11_marksOf 0 = .ok (.iconst 0, 1) := by decide +kernel
theorem dX11_marksOf_1 : decode cX11_marksOf 1 = .ok (.istore_n 3, 1) := by decide +kernel
theorem dX11_marksOf_2 : decode cX11_marksOf 2 = .ok (.iconst 0, 1) := by decide +kernel
theorem dX11_marksOf_3 : decode cX11_marksOf 3 = .ok (.istore 4, 2) := by decide +kernel
theorem dX11_marksOf_5 : decode cX11_marksOf 5 = .ok (.iload 4, 2) := by decide +kernel
theorem dX11_marksOf_7 : decode cX11_marksOf 7 = .ok (.iconst 2, 1) := by decide +kernel
theorem dX11_marksOf_8 : decode cX11_marksOf 8 = .ok (.aload_n 0, 1) := by decide +kernel
theorem dX11_marksOf_9 : decode cX11_marksOf 9 = .ok (.invokevirtual 150, 3) := by decide +kernel
theorem dX11_marksOf_12 : decode cX11_marksOf 12 = .ok (.imul, 1) := by decide +kernel
theorem dX11_marksOf_13 : decode cX11_marksOf 13 = .ok (.if_icmp .ge 51, 3) := by decide +kernel
theorem dX11_marksOf_16 : decode cX11_marksOf 16 = .ok (.iload_n 3, 1) := by decide +kernel
theorem dX11_marksOf_17 : decode cX11_marksOf 17 = .ok (.aload_n 0, 1) := by decide +kernel
theorem dX11_marksOf_18 : decode cX11_marksOf 18 = .ok (.iload 4, 2) := by decide +kernel
theorem dX11_marksOf_20 : decode cX11_marksOf 20 = .ok (.iconst 2, 1) := by decide +kernel
theorem dX11_marksOf_21 : decode cX11_marksOf 21 = .ok (.idiv, 1) := by decide +kernel
theorem dX11_marksOf_22 : decode cX11_marksOf 22 = .ok (.iload 4, 2) := by decide +kernel
theorem dX11_marksOf_24 : decode cX11_marksOf 24 = .ok (.iconst 2, 1) := by decide +kernel
theorem dX11_marksOf_25 : decode cX11_marksOf 25 = .ok (.irem, 1) := by decide +kernel
theorem dX11_marksOf_26 : decode cX11_marksOf 26 = .ok (.iconst 3, 1) := by decide +kernel
theorem dX11_marksOf_27 : decode cX11_marksOf 27 = .ok (.invokevirtual 198, 3) := by decide +kernel
theorem dX11_marksOf_30 : decode cX11_marksOf 30 = .ok (.iload_n 1, 1) := by decide +kernel
theorem dX11_marksOf_31 : decode cX11_marksOf 31 = .ok (.if_icmp .ne 24, 3) := by decide +kernel
theorem dX11_marksOf_34 : decode cX11_marksOf 34 = .ok (.aload_n 0, 1) := by decide +kernel
theorem dX11_marksOf_35 : decode cX11_marksOf 35 = .ok (.iload 4, 2) := by decide +kernel
theorem dX11_marksOf_37 : decode cX11_marksOf 37 = .ok (.iconst 2, 1) := by decide +kernel
theorem dX11_marksOf_38 : decode cX11_marksOf 38 = .ok (.idiv, 1) := by decide +kernel
theorem dX11_marksOf_39 : decode cX11_marksOf 39 = .ok (.iload 4, 2) := by decide +kernel
theorem dX11_marksOf_41 : decode cX11_marksOf 41 = .ok (.iconst 2, 1) := by decide +kernel
theorem dX11_marksOf_42 : decode cX11_marksOf 42 = .ok (.irem, 1) := by decide +kernel
theorem dX11_marksOf_43 : decode cX11_marksOf 43 = .ok (.iconst 0, 1) := by decide +kernel
theorem dX11_marksOf_44 : decode cX11_marksOf 44 = .ok (.invokevirtual 198, 3) := by decide +kernel
theorem dX11_marksOf_47 : decode cX11_marksOf 47 = .ok (.iload_n 2, 1) := by decide +kernel
theorem dX11_marksOf_48 : decode cX11_marksOf 48 = .ok (.if_icmp .ne 7, 3) := by decide +kernel
theorem dX11_marksOf_51 : decode cX11_marksOf 51 = .ok (.iconst 1, 1) := by decide +kernel
theorem dX11_marksOf_52 : decode cX11_marksOf 52 = .ok (.goto 4, 3) := by decide +kernel
theorem dX11_marksOf_55 : decode cX11_marksOf 55 = .ok (.iconst 0, 1) := by decide +kernel
theorem dX11_marksOf_56 : decode cX11_marksOf 56 = .ok (.iadd, 1) := by decide +kernel
theorem dX11_marksOf_57 : decode cX11_marksOf 57 = .ok (.istore_n 3, 1) := by decide +kernel
theorem dX11_marksOf_58 : decode cX11_marksOf 58 = .ok (.iinc 4 1, 3) := by decide +kernel
theorem dX11_marksOf_61 : decode cX11_marksOf 61 = .ok (.goto (-56), 3) := by decide +kernel
theorem dX11_marksOf_64 : decode cX11_marksOf 64 = .ok (.iload_n 3, 1) := by decide +kernel
theorem dX11_marksOf_65 : decode cX11_marksOf 65 = .ok (.ireturn, 1) := by decide +kernel
theorem dX11_isLater_0 : decode cX11_isLater 0 = .ok (.iconst 0, 1) := by decide +kernel
theorem dX11_isLater_1 : decode cX11_isLater 1 = .ok (.istore 4, 2) := by decide +kernel
theorem dX11_isLater_3 : decode cX11_isLater 3 = .ok (.iconst 0, 1) := by decide +kernel
theorem dX11_isLater_4 : decode cX11_isLater 4 = .ok (.istore 5, 2) := by decide +kernel
theorem dX11_isLater_6 : decode cX11_isLater 6 = .ok (.iload 5, 2) := by decide +kernel
theorem dX11_isLater_8 : decode cX11_isLater 8 = .ok (.iconst 2, 1) := by decide +kernel
theorem dX11_isLater_9 : decode cX11_isLater 9 = .ok (.aload_n 0, 1) := by decide +kernel
theorem dX11_isLater_10 : decode cX11_isLater 10 = .ok (.invokevirtual 150, 3) := by decide +kernel
theorem dX11_isLater_13 : decode cX11_isLater 13 = .ok (.imul, 1) := by decide +kernel
theorem dX11_isLater_14 : decode cX11_isLater 14 = .ok (.if_icmp .ge 142, 3) := by decide +kernel
theorem dX11_isLater_17 : decode cX11_isLater 17 = .ok (.iconst 0, 1) := by decide +kernel
theorem dX11_isLater_18 : decode cX11_isLater 18 = .ok (.istore 6, 2) := by decide +kernel
theorem dX11_isLater_20 : decode cX11_isLater 20 = .ok (.iload 6, 2) := by decide +kernel
theorem dX11_isLater_22 : decode cX11_isLater 22 = .ok (.iconst 2, 1) := by decide +kernel
theorem dX11_isLater_23 : decode cX11_isLater 23 = .ok (.aload_n 0, 1) := by decide +kernel
theorem dX11_isLater_24 : decode cX11_isLater 24 = .ok (.invokevirtual 150, 3) := by decide +kernel
theorem dX11_isLater_27 : decode cX11_isLater 27 = .ok (.imul, 1) := by decide +kernel
theorem dX11_isLater_28 : decode cX11_isLater 28 = .ok (.if_icmp .ge 122, 3) := by decide +kernel
theorem dX11_isLater_31 : decode cX11_isLater 31 = .ok (.aload_n 0, 1) := by decide +kernel
theorem dX11_isLater_32 : decode cX11_isLater 32 = .ok (.iload 5, 2) := by decide +kernel
theorem dX11_isLater_34 : decode cX11_isLater 34 = .ok (.iconst 2, 1) := by decide +kernel
theorem dX11_isLater_35 : decode cX11_isLater 35 = .ok (.idiv, 1) := by decide +kernel
theorem dX11_isLater_36 : decode cX11_isLater 36 = .ok (.iload 5, 2) := by decide +kernel
theorem dX11_isLater_38 : decode cX11_isLater 38 = .ok (.iconst 2, 1) := by decide +kernel
theorem dX11_isLater_39 : decode cX11_isLater 39 = .ok (.irem, 1) := by decide +kernel
theorem dX11_isLater_40 : decode cX11_isLater 40 = .ok (.iconst 3, 1) := by decide +kernel
theorem dX11_isLater_41 : decode cX11_isLater 41 = .ok (.invokevirtual 198, 3) := by decide +kernel
theorem dX11_isLater_44 : decode cX11_isLater 44 = .ok (.iload_n 1, 1) := by decide +kernel
theorem dX11_isLater_45 : decode cX11_isLater 45 = .ok (.if_icmp .ne 105, 3) := by decide +kernel
theorem dX11_isLater_48 : decode cX11_isLater 48 = .ok (.aload_n 0, 1) := by decide +kernel
theorem dX11_isLater_49 : decode cX11_isLater 49 = .ok (.iload 6, 2) := by decide +kernel
theorem dX11_isLater_51 : decode cX11_isLater 51 = .ok (.iconst 2, 1) := by decide +kernel
theorem dX11_isLater_52 : decode cX11_isLater 52 = .ok (.idiv, 1) := by decide +kernel
theorem dX11_isLater_53 : decode cX11_isLater 53 = .ok (.iload 6, 2) := by decide +kernel
theorem dX11_isLater_55 : decode cX11_isLater 55 = .ok (.iconst 2, 1) := by decide +kernel
theorem dX11_isLater_56 : decode cX11_isLater 56 = .ok (.irem, 1) := by decide +kernel
theorem dX11_isLater_57 : decode cX11_isLater 57 = .ok (.iconst 3, 1) := by decide +kernel
theorem dX11_isLater_58 : decode cX11_isLater 58 = .ok (.invokevirtual 198, 3) := by decide +kernel
theorem dX11_isLater_61 : decode cX11_isLater 61 = .ok (.iload_n 1, 1) := by decide +kernel
theorem dX11_isLater_62 : decode cX11_isLater 62 = .ok (.if_icmp .ne 41, 3) := by decide +kernel
theorem dX11_isLater_65 : decode cX11_isLater 65 = .ok (.aload_n 0, 1) := by decide +kernel
theorem dX11_isLater_66 : decode cX11_isLater 66 = .ok (.iload 5, 2) := by decide +kernel
theorem dX11_isLater_68 : decode cX11_isLater 68 = .ok (.iconst 2, 1) := by decide +kernel
theorem dX11_isLater_69 : decode cX11_isLater 69 = .ok (.idiv, 1) := by decide +kernel
theorem dX11_isLater_70 : decode cX11_isLater 70 = .ok (.iload 5, 2) := by decide +kernel
theorem dX11_isLater_72 : decode cX11_isLater 72 = .ok (.iconst 2, 1) := by decide +kernel
theorem dX11_isLater_73 : decode cX11_isLater 73 = .ok (.irem, 1) := by decide +kernel
theorem dX11_isLater_74 : decode cX11_isLater 74 = .ok (.iconst 0, 1) := by decide +kernel
theorem dX11_isLater_75 : decode cX11_isLater 75 = .ok (.invokevirtual 198, 3) := by decide +kernel
theorem dX11_isLater_78 : decode cX11_isLater 78 = .ok (.iload_n 2, 1) := by decide +kernel
theorem dX11_isLater_79 : decode cX11_isLater 79 = .ok (.if_icmp .ne 24, 3) := by decide +kernel
theorem dX11_isLater_82 : decode cX11_isLater 82 = .ok (.aload_n 0, 1) := by decide +kernel
theorem dX11_isLater_83 : decode cX11_isLater 83 = .ok (.iload 6, 2) := by decide +kernel
theorem dX11_isLater_85 : decode cX11_isLater 85 = .ok (.iconst 2, 1) := by decide +kernel
theorem dX11_isLater_86 : decode cX11_isLater 86 = .ok (.idiv, 1) := by decide +kernel
theorem dX11_isLater_87 : decode cX11_isLater 87 = .ok (.iload 6, 2) := by decide +kernel
theorem dX11_isLater_89 : decode cX11_isLater 89 = .ok (.iconst 2, 1) := by decide +kernel
theorem dX11_isLater_90 : decode cX11_isLater 90 = .ok (.irem, 1) := by decide +kernel
theorem dX11_isLater_91 : decode cX11_isLater 91 = .ok (.iconst 0, 1) := by decide +kernel
theorem dX11_isLater_92 : decode cX11_isLater 92 = .ok (.invokevirtual 198, 3) := by decide +kernel
theorem dX11_isLater_95 : decode cX11_isLater 95 = .ok (.iload_n 3, 1) := by decide +kernel
theorem dX11_isLater_96 : decode cX11_isLater 96 = .ok (.if_icmp .ne 7, 3) := by decide +kernel
theorem dX11_isLater_99 : decode cX11_isLater 99 = .ok (.iconst 1, 1) := by decide +kernel
theorem dX11_isLater_100 : decode cX11_isLater 100 = .ok (.goto 4, 3) := by decide +kernel
theorem dX11_isLater_103 : decode cX11_isLater 103 = .ok (.iconst 0, 1) := by decide +kernel
theorem dX11_isLater_104 : decode cX11_isLater 104 = .ok (.istore 7, 2) := by decide +kernel
theorem dX11_isLater_106 : decode cX11_isLater 106 = .ok (.iload 4, 2) := by decide +kernel
theorem dX11_isLater_108 : decode cX11_isLater 108 = .ok (.ifCond .ne 29, 3) := by decide +kernel
theorem dX11_isLater_111 : decode cX11_isLater 111 = .ok (.iload 7, 2) := by decide +kernel
theorem dX11_isLater_113 : decode cX11_isLater 113 = .ok (.ifCond .eq 28, 3) := by decide +kernel
theorem dX11_isLater_116 : decode cX11_isLater 116 = .ok (.aload_n 0, 1) := by decide +kernel
theorem dX11_isLater_117 : decode cX11_isLater 117 = .ok (.iload 5, 2) := by decide +kernel
theorem dX11_isLater_119 : decode cX11_isLater 119 = .ok (.iconst 2, 1) := by decide +kernel
theorem dX11_isLater_120 : decode cX11_isLater 120 = .ok (.idiv, 1) := by decide +kernel
theorem dX11_isLater_121 : decode cX11_isLater 121 = .ok (.iconst 1, 1) := by decide +kernel
theorem dX11_isLater_122 : decode cX11_isLater 122 = .ok (.invokevirtual 153, 3) := by decide +kernel
theorem dX11_isLater_125 : decode cX11_isLater 125 = .ok (.aload_n 0, 1) := by decide +kernel
theorem dX11_isLater_126 : decode cX11_isLater 126 = .ok (.iload 6, 2) := by decide +kernel
theorem dX11_isLater_128 : decode cX11_isLater 128 = .ok (.iconst 2, 1) := by decide +kernel
theorem dX11_isLater_129 : decode cX11_isLater 129 = .ok (.idiv, 1) := by decide +kernel
theorem dX11_isLater_130 : decode cX11_isLater 130 = .ok (.iconst 1, 1) := by decide +kernel
theorem dX11_isLater_131 : decode cX11_isLater 131 = .ok (.invokevirtual 153, 3) := by decide +kernel
theorem dX11_isLater_134 : decode cX11_isLater 134 = .ok (.if_icmp .ge 7, 3) := by decide +kernel
theorem dX11_isLater_137 : decode cX11_isLater 137 = .ok (.iconst 1, 1) := by decide +kernel
theorem dX11_isLater_138 : decode cX11_isLater 138 = .ok (.goto 4, 3) := by decide +kernel
theorem dX11_isLater_141 : decode cX11_isLater 141 = .ok (.iconst 0, 1) := by decide +kernel
theorem dX11_isLater_142 : decode cX11_isLater 142 = .ok (.istore 4, 2) := by decide +kernel
theorem dX11_isLater_144 : decode cX11_isLater 144 = .ok (.iinc 6 1, 3) := by decide +kernel
theorem dX11_isLater_147 : decode cX11_isLater 147 = .ok (.goto (-127), 3) := by decide +kernel
theorem dX11_isLater_150 : decode cX11_isLater 150 = .ok (.iinc 5 1, 3) := by decide +kernel
theorem dX11_isLater_153 : decode cX11_isLater 153 = .ok (.goto (-147), 3) := by decide +kernel
theorem dX11_isLater_156 : decode cX11_isLater 156 = .ok (.iload 4, 2) := by decide +kernel
theorem dX11_isLater_158 : decode cX11_isLater 158 = .ok (.ireturn, 1) := by decide +kernel
theorem dX11_widest_0 : decode cX11_widest 0 = .ok (.bipush (-4), 2) := by decide +kernel
theorem dX11_widest_2 : decode cX11_widest 2 = .ok (.istore_n 2, 1) := by decide +kernel
theorem dX11_widest_3 : decode cX11_widest 3 = .ok (.iconst 0, 1) := by decide +kernel
theorem dX11_widest_4 : decode cX11_widest 4 = .ok (.istore_n 3, 1) := by decide +kernel
theorem dX11_widest_5 : decode cX11_widest 5 = .ok (.iload_n 3, 1) := by decide +kernel
theorem dX11_widest_6 : decode cX11_widest 6 = .ok (.iconst 2, 1) := by decide +kernel
theorem dX11_widest_7 : decode cX11_widest 7 = .ok (.aload_n 0, 1) := by decide +kernel
theorem dX11_widest_8 : decode cX11_widest 8 = .ok (.invokevirtual 150, 3) := by decide +kernel
theorem dX11_widest_11 : decode cX11_widest 11 = .ok (.imul, 1) := by decide +kernel
theorem dX11_widest_12 : decode cX11_widest 12 = .ok (.if_icmp .ge 143, 3) := by decide +kernel
theorem dX11_widest_15 : decode cX11_widest 15 = .ok (.iconst 0, 1) := by decide +kernel
theorem dX11_widest_16 : decode cX11_widest 16 = .ok (.istore 4, 2) := by decide +kernel
theorem dX11_widest_18 : decode cX11_widest 18 = .ok (.iload 4, 2) := by decide +kernel
theorem dX11_widest_20 : decode cX11_widest 20 = .ok (.iload_n 3, 1) := by decide +kernel
theorem dX11_widest_21 : decode cX11_widest 21 = .ok (.if_icmp .ge 128, 3) := by decide +kernel
theorem dX11_widest_24 : decode cX11_widest 24 = .ok (.aload_n 0, 1) := by decide +kernel
theorem dX11_widest_25 : decode cX11_widest 25 = .ok (.iload_n 3, 1) := by decide +kernel
theorem dX11_widest_26 : decode cX11_widest 26 = .ok (.iconst 2, 1) := by decide +kernel
theorem dX11_widest_27 : decode cX11_widest 27 = .ok (.idiv, 1) := by decide +kernel
theorem dX11_widest_28 : decode cX11_widest 28 = .ok (.iload_n 3, 1) := by decide +kernel
theorem dX11_widest_29 : decode cX11_widest 29 = .ok (.iconst 2, 1) := by decide +kernel
theorem dX11_widest_30 : decode cX11_widest 30 = .ok (.irem, 1) := by decide +kernel
theorem dX11_widest_31 : decode cX11_widest 31 = .ok (.iconst 3, 1) := by decide +kernel
theorem dX11_widest_32 : decode cX11_widest 32 = .ok (.invokevirtual 198, 3) := by decide +kernel
theorem dX11_widest_35 : decode cX11_widest 35 = .ok (.iload_n 1, 1) := by decide +kernel
theorem dX11_widest_36 : decode cX11_widest 36 = .ok (.if_icmp .ne 113, 3) := by decide +kernel
theorem dX11_widest_39 : decode cX11_widest 39 = .ok (.aload_n 0, 1) := by decide +kernel
theorem dX11_widest_40 : decode cX11_widest 40 = .ok (.iload_n 3, 1) := by decide +kernel
theorem dX11_widest_41 : decode cX11_widest 41 = .ok (.iconst 2, 1) := by decide +kernel
theorem dX11_widest_42 : decode cX11_widest 42 = .ok (.idiv, 1) := by decide +kernel
theorem dX11_widest_43 : decode cX11_widest 43 = .ok (.iload_n 3, 1) := by decide +kernel
theorem dX11_widest_44 : decode cX11_widest 44 = .ok (.iconst 2, 1) := by decide +kernel
theorem dX11_widest_45 : decode cX11_widest 45 = .ok (.irem, 1) := by decide +kernel
theorem dX11_widest_46 : decode cX11_widest 46 = .ok (.iconst 0, 1) := by decide +kernel
theorem dX11_widest_47 : decode cX11_widest 47 = .ok (.invokevirtual 198, 3) := by decide +kernel
theorem dX11_widest_50 : decode cX11_widest 50 = .ok (.iconst 1, 1) := by decide +kernel
theorem dX11_widest_51 : decode cX11_widest 51 = .ok (.if_icmp .ne 98, 3) := by decide +kernel
theorem dX11_widest_54 : decode cX11_widest 54 = .ok (.aload_n 0, 1) := by decide +kernel
theorem dX11_widest_55 : decode cX11_widest 55 = .ok (.iload 4, 2) := by decide +kernel
theorem dX11_widest_57 : decode cX11_widest 57 = .ok (.iconst 2, 1) := by decide +kernel
theorem dX11_widest_58 : decode cX11_widest 58 = .ok (.idiv, 1) := by decide +kernel
theorem dX11_widest_59 : decode cX11_widest 59 = .ok (.iload 4, 2) := by decide +kernel
theorem dX11_widest_61 : decode cX11_widest 61 = .ok (.iconst 2, 1) := by decide +kernel
theorem dX11_widest_62 : decode cX11_widest 62 = .ok (.irem, 1) := by decide +kernel
theorem dX11_widest_63 : decode cX11_widest 63 = .ok (.iconst 3, 1) := by decide +kernel
theorem dX11_widest_64 : decode cX11_widest 64 = .ok (.invokevirtual 198, 3) := by decide +kernel
theorem dX11_widest_67 : decode cX11_widest 67 = .ok (.iload_n 1, 1) := by decide +kernel
theorem dX11_widest_68 : decode cX11_widest 68 = .ok (.if_icmp .ne 24, 3) := by decide +kernel
theorem dX11_widest_71 : decode cX11_widest 71 = .ok (.aload_n 0, 1) := by decide +kernel
theorem dX11_widest_72 : decode cX11_widest 72 = .ok (.iload 4, 2) := by decide +kernel
theorem dX11_widest_74 : decode cX11_widest 74 = .ok (.iconst 2, 1) := by decide +kernel
theorem dX11_widest_75 : decode cX11_widest 75 = .ok (.idiv, 1) := by decide +kernel
theorem dX11_widest_76 : decode cX11_widest 76 = .ok (.iload 4, 2) := by decide +kernel
theorem dX11_widest_78 : decode cX11_widest 78 = .ok (.iconst 2, 1) := by decide +kernel
theorem dX11_widest_79 : decode cX11_widest 79 = .ok (.irem, 1) := by decide +kernel
theorem dX11_widest_80 : decode cX11_widest 80 = .ok (.iconst 0, 1) := by decide +kernel
theorem dX11_widest_81 : decode cX11_widest 81 = .ok (.invokevirtual 198, 3) := by decide +kernel
theorem dX11_widest_84 : decode cX11_widest 84 = .ok (.iconst 1, 1) := by decide +kernel
theorem dX11_widest_85 : decode cX11_widest 85 = .ok (.if_icmp .ne 7, 3) := by decide +kernel
theorem dX11_widest_88 : decode cX11_widest 88 = .ok (.iconst 1, 1) := by decide +kernel
theorem dX11_widest_89 : decode cX11_widest 89 = .ok (.goto 4, 3) := by decide +kernel
theorem dX11_widest_92 : decode cX11_widest 92 = .ok (.iconst 0, 1) := by decide +kernel
theorem dX11_widest_93 : decode cX11_widest 93 = .ok (.istore 5, 2) := by decide +kernel
theorem dX11_widest_95 : decode cX11_widest 95 = .ok (.aload_n 0, 1) := by decide +kernel
theorem dX11_widest_96 : decode cX11_widest 96 = .ok (.iload_n 3, 1) := by decide +kernel
theorem dX11_widest_97 : decode cX11_widest 97 = .ok (.iconst 2, 1) := by decide +kernel
theorem dX11_widest_98 : decode cX11_widest 98 = .ok (.idiv, 1) := by decide +kernel
theorem dX11_widest_99 : decode cX11_widest 99 = .ok (.iload_n 3, 1) := by decide +kernel
theorem dX11_widest_100 : decode cX11_widest 100 = .ok (.iconst 2, 1) := by decide +kernel
theorem dX11_widest_101 : decode cX11_widest 101 = .ok (.irem, 1) := by decide +kernel
theorem dX11_widest_102 : decode cX11_widest 102 = .ok (.iconst 2, 1) := by decide +kernel
theorem dX11_widest_103 : decode cX11_widest 103 = .ok (.invokevirtual 198, 3) := by decide +kernel
theorem dX11_widest_106 : decode cX11_widest 106 = .ok (.aload_n 0, 1) := by decide +kernel
theorem dX11_widest_107 : decode cX11_widest 107 = .ok (.iload 4, 2) := by decide +kernel
theorem dX11_widest_109 : decode cX11_widest 109 = .ok (.iconst 2, 1) := by decide +kernel
theorem dX11_widest_110 : decode cX11_widest 110 = .ok (.idiv, 1) := by decide +kernel
theorem dX11_widest_111 : decode cX11_widest 111 = .ok (.iload 4, 2) := by decide +kernel
theorem dX11_widest_113 : decode cX11_widest 113 = .ok (.iconst 2, 1) := by decide +kernel
theorem dX11_widest_114 : decode cX11_widest 114 = .ok (.irem, 1) := by decide +kernel
theorem dX11_widest_115 : decode cX11_widest 115 = .ok (.iconst 2, 1) := by decide +kernel
theorem dX11_widest_116 : decode cX11_widest 116 = .ok (.invokevirtual 198, 3) := by decide +kernel
theorem dX11_widest_119 : decode cX11_widest 119 = .ok (.ixor, 1) := by decide +kernel
theorem dX11_widest_120 : decode cX11_widest 120 = .ok (.invokestatic 204, 3) := by decide +kernel
theorem dX11_widest_123 : decode cX11_widest 123 = .ok (.istore 6, 2) := by decide +kernel
theorem dX11_widest_125 : decode cX11_widest 125 = .ok (.iload 5, 2) := by decide +kernel
theorem dX11_widest_127 : decode cX11_widest 127 = .ok (.ifCond .eq 14, 3) := by decide +kernel
theorem dX11_widest_130 : decode cX11_widest 130 = .ok (.iload 6, 2) := by decide +kernel
theorem dX11_widest_132 : decode cX11_widest 132 = .ok (.iload_n 2, 1) := by decide +kernel
theorem dX11_widest_133 : decode cX11_widest 133 = .ok (.if_icmp .le 8, 3) := by decide +kernel
theorem dX11_widest_136 : decode cX11_widest 136 = .ok (.iload 6, 2) := by decide +kernel
theorem dX11_widest_138 : decode cX11_widest 138 = .ok (.goto 4, 3) := by decide +kernel
theorem dX11_widest_141 : decode cX11_widest 141 = .ok (.iload_n 2, 1) := by decide +kernel
theorem dX11_widest_142 : decode cX11_widest 142 = .ok (.istore_n 2, 1) := by decide +kernel
theorem dX11_widest_143 : decode cX11_widest 143 = .ok (.iinc 4 1, 3) := by decide +kernel
theorem dX11_widest_146 : decode cX11_widest 146 = .ok (.goto (-128), 3) := by decide +kernel
theorem dX11_widest_149 : decode cX11_widest 149 = .ok (.iinc 3 1, 3) := by decide +kernel
theorem dX11_widest_152 : decode cX11_widest 152 = .ok (.goto (-147), 3) := by decide +kernel
theorem dX11_widest_155 : decode cX11_widest 155 = .ok (.iload_n 2, 1) := by decide +kernel
theorem dX11_widest_156 : decode cX11_widest 156 = .ok (.ireturn, 1) := by decide +kernel
theorem dX11_person_0 : decode cX11_person 0 = .ok (.iload_n 1, 1) := by decide +kernel
theorem dX11_person_1 : decode cX11_person 1 = .ok (.i2l, 1) := by decide +kernel
theorem dX11_person_2 : decode cX11_person 2 = .ok (.lconst 1, 1) := by decide +kernel
theorem dX11_person_3 : decode cX11_person 3 = .ok (.ldc2_w 189, 3) := by decide +kernel
theorem dX11_person_6 : decode cX11_person 6 = .ok (.invokestatic 63, 3) := by decide +kernel
theorem dX11_person_9 : decode cX11_person 9 = .ok (.ifCond .ne 5, 3) := by decide +kernel
theorem dX11_person_12 : decode cX11_person 12 = .ok (.iconst (-1), 1) := by decide +kernel
theorem dX11_person_13 : decode cX11_person 13 = .ok (.ireturn, 1) := by decide +kernel
theorem dX11_person_14 : decode cX11_person 14 = .ok (.iload_n 2, 1) := by decide +kernel
theorem dX11_person_15 : decode cX11_person 15 = .ok (.tableswitch 92 0 4 #[33, 47, 54, 70, 86], 33) := by decide +kernel
theorem dX11_person_48 : decode cX11_person 48 = .ok (.aload_n 0, 1) := by decide +kernel
theorem dX11_person_49 : decode cX11_person 49 = .ok (.iload_n 1, 1) := by decide +kernel
theorem dX11_person_50 : decode cX11_person 50 = .ok (.iconst 0, 1) := by decide +kernel
theorem dX11_person_51 : decode cX11_person 51 = .ok (.invokevirtual 318, 3) := by decide +kernel
theorem dX11_person_54 : decode cX11_person 54 = .ok (.aload_n 0, 1) := by decide +kernel
theorem dX11_person_55 : decode cX11_person 55 = .ok (.iload_n 1, 1) := by decide +kernel
theorem dX11_person_56 : decode cX11_person 56 = .ok (.iconst 1, 1) := by decide +kernel
theorem dX11_person_57 : decode cX11_person 57 = .ok (.invokevirtual 318, 3) := by decide +kernel
theorem dX11_person_60 : decode cX11_person 60 = .ok (.iadd, 1) := by decide +kernel
theorem dX11_person_61 : decode cX11_person 61 = .ok (.ireturn, 1) := by decide +kernel
theorem dX11_person_62 : decode cX11_person 62 = .ok (.aload_n 0, 1) := by decide +kernel
theorem dX11_person_63 : decode cX11_person 63 = .ok (.iload_n 1, 1) := by decide +kernel
theorem dX11_person_64 : decode cX11_person 64 = .ok (.iconst 1, 1) := by decide +kernel
theorem dX11_person_65 : decode cX11_person 65 = .ok (.invokevirtual 318, 3) := by decide +kernel
theorem dX11_person_68 : decode cX11_person 68 = .ok (.ireturn, 1) := by decide +kernel
theorem dX11_person_69 : decode cX11_person 69 = .ok (.aload_n 0, 1) := by decide +kernel
theorem dX11_person_70 : decode cX11_person 70 = .ok (.iload_n 1, 1) := by decide +kernel
theorem dX11_person_71 : decode cX11_person 71 = .ok (.iconst 0, 1) := by decide +kernel
theorem dX11_person_72 : decode cX11_person 72 = .ok (.iconst 1, 1) := by decide +kernel
theorem dX11_person_73 : decode cX11_person 73 = .ok (.invokevirtual 321, 3) := by decide +kernel
theorem dX11_person_76 : decode cX11_person 76 = .ok (.ifCond .eq 7, 3) := by decide +kernel
theorem dX11_person_79 : decode cX11_person 79 = .ok (.iconst 1, 1) := by decide +kernel
theorem dX11_person_80 : decode cX11_person 80 = .ok (.goto 4, 3) := by decide +kernel
theorem dX11_person_83 : decode cX11_person 83 = .ok (.iconst 0, 1) := by decide +kernel
theorem dX11_person_84 : decode cX11_person 84 = .ok (.ireturn, 1) := by decide +kernel
theorem dX11_person_85 : decode cX11_person 85 = .ok (.aload_n 0, 1) := by decide +kernel
theorem dX11_person_86 : decode cX11_person 86 = .ok (.iload_n 1, 1) := by decide +kernel
theorem dX11_person_87 : decode cX11_person 87 = .ok (.iconst 1, 1) := by decide +kernel
theorem dX11_person_88 : decode cX11_person 88 = .ok (.iconst 0, 1) := by decide +kernel
theorem dX11_person_89 : decode cX11_person 89 = .ok (.invokevirtual 321, 3) := by decide +kernel
theorem dX11_person_92 : decode cX11_person 92 = .ok (.ifCond .eq 7, 3) := by decide +kernel
theorem dX11_person_95 : decode cX11_person 95 = .ok (.iconst 1, 1) := by decide +kernel
theorem dX11_person_96 : decode cX11_person 96 = .ok (.goto 4, 3) := by decide +kernel
theorem dX11_person_99 : decode cX11_person 99 = .ok (.iconst 0, 1) := by decide +kernel
theorem dX11_person_100 : decode cX11_person 100 = .ok (.ireturn, 1) := by decide +kernel
theorem dX11_person_101 : decode cX11_person 101 = .ok (.aload_n 0, 1) := by decide +kernel
theorem dX11_person_102 : decode cX11_person 102 = .ok (.iload_n 1, 1) := by decide +kernel
theorem dX11_person_103 : decode cX11_person 103 = .ok (.invokevirtual 325, 3) := by decide +kernel
theorem dX11_person_106 : decode cX11_person 106 = .ok (.ireturn, 1) := by decide +kernel
theorem dX11_person_107 : decode cX11_person 107 = .ok (.iconst (-1), 1) := by decide +kernel
theorem dX11_person_108 : decode cX11_person 108 = .ok (.ireturn, 1) := by decide +kernel
theorem dX11_twice_0 : decode cX11_twice 0 = .ok (.iload_n 1, 1) := by decide +kernel
theorem dX11_twice_1 : decode cX11_twice 1 = .ok (.i2l, 1) := by decide +kernel
theorem dX11_twice_2 : decode cX11_twice 2 = .ok (.lconst 0, 1) := by decide +kernel
theorem dX11_twice_3 : decode cX11_twice 3 = .ok (.ldc2_w 202, 3) := by decide +kernel
theorem dX11_twice_6 : decode cX11_twice 6 = .ok (.invokestatic 63, 3) := by decide +kernel
theorem dX11_twice_9 : decode cX11_twice 9 = .ok (.ifCond .ne 5, 3) := by decide +kernel
theorem dX11_twice_12 : decode cX11_twice 12 = .ok (.iconst (-1), 1) := by decide +kernel
theorem dX11_twice_13 : decode cX11_twice 13 = .ok (.ireturn, 1) := by decide +kernel
theorem dX11_twice_14 : decode cX11_twice 14 = .ok (.iconst 0, 1) := by decide +kernel
theorem dX11_twice_15 : decode cX11_twice 15 = .ok (.istore_n 2, 1) := by decide +kernel
theorem dX11_twice_16 : decode cX11_twice 16 = .ok (.bipush (-4), 2) := by decide +kernel
theorem dX11_twice_18 : decode cX11_twice 18 = .ok (.istore_n 3, 1) := by decide +kernel
theorem dX11_twice_19 : decode cX11_twice 19 = .ok (.iconst 0, 1) := by decide +kernel
theorem dX11_twice_20 : decode cX11_twice 20 = .ok (.istore 4, 2) := by decide +kernel
theorem dX11_twice_22 : decode cX11_twice 22 = .ok (.bipush 99, 2) := by decide +kernel
theorem dX11_twice_24 : decode cX11_twice 24 = .ok (.istore 5, 2) := by decide +kernel
theorem dX11_twice_26 : decode cX11_twice 26 = .ok (.iload 5, 2) := by decide +kernel
theorem dX11_twice_28 : decode cX11_twice 28 = .ok (.ifCond .le 62, 3) := by decide +kernel
theorem dX11_twice_31 : decode cX11_twice 31 = .ok (.aload_n 0, 1) := by decide +kernel
theorem dX11_twice_32 : decode cX11_twice 32 = .ok (.iload 5, 2) := by decide +kernel
theorem dX11_twice_34 : decode cX11_twice 34 = .ok (.iconst 0, 1) := by decide +kernel
theorem dX11_twice_35 : decode cX11_twice 35 = .ok (.invokevirtual 318, 3) := by decide +kernel
theorem dX11_twice_38 : decode cX11_twice 38 = .ok (.istore 6, 2) := by decide +kernel
theorem dX11_twice_40 : decode cX11_twice 40 = .ok (.aload_n 0, 1) := by decide +kernel
theorem dX11_twice_41 : decode cX11_twice 41 = .ok (.iload 5, 2) := by decide +kernel
theorem dX11_twice_43 : decode cX11_twice 43 = .ok (.iconst 1, 1) := by decide +kernel
theorem dX11_twice_44 : decode cX11_twice 44 = .ok (.invokevirtual 318, 3) := by decide +kernel
theorem dX11_twice_47 : decode cX11_twice 47 = .ok (.istore 7, 2) := by decide +kernel
theorem dX11_twice_49 : decode cX11_twice 49 = .ok (.iload 6, 2) := by decide +kernel
theorem dX11_twice_51 : decode cX11_twice 51 = .ok (.iload 7, 2) := by decide +kernel
theorem dX11_twice_53 : decode cX11_twice 53 = .ok (.iadd, 1) := by decide +kernel
theorem dX11_twice_54 : decode cX11_twice 54 = .ok (.iconst 1, 1) := by decide +kernel
theorem dX11_twice_55 : decode cX11_twice 55 = .ok (.if_icmp .le 29, 3) := by decide +kernel
theorem dX11_twice_58 : decode cX11_twice 58 = .ok (.iinc 2 1, 3) := by decide +kernel
theorem dX11_twice_61 : decode cX11_twice 61 = .ok (.iload 5, 2) := by decide +kernel
theorem dX11_twice_63 : decode cX11_twice 63 = .ok (.istore_n 3, 1) := by decide +kernel
theorem dX11_twice_64 : decode cX11_twice 64 = .ok (.iload 4, 2) := by decide +kernel
theorem dX11_twice_66 : decode cX11_twice 66 = .ok (.iload 6, 2) := by decide +kernel
theorem dX11_twice_68 : decode cX11_twice 68 = .ok (.ifCond .le 12, 3) := by decide +kernel
theorem dX11_twice_71 : decode cX11_twice 71 = .ok (.iload 7, 2) := by decide +kernel
theorem dX11_twice_73 : decode cX11_twice 73 = .ok (.ifCond .le 7, 3) := by decide +kernel
theorem dX11_twice_76 : decode cX11_twice 76 = .ok (.iconst 1, 1) := by decide +kernel
theorem dX11_twice_77 : decode cX11_twice 77 = .ok (.goto 4, 3) := by decide +kernel
theorem dX11_twice_80 : decode cX11_twice 80 = .ok (.iconst 0, 1) := by decide +kernel
theorem dX11_twice_81 : decode cX11_twice 81 = .ok (.iadd, 1) := by decide +kernel
theorem dX11_twice_82 : decode cX11_twice 82 = .ok (.istore 4, 2) := by decide +kernel
theorem dX11_twice_84 : decode cX11_twice 84 = .ok (.iinc 5 (-1), 3) := by decide +kernel
theorem dX11_twice_87 : decode cX11_twice 87 = .ok (.goto (-61), 3) := by decide +kernel
theorem dX11_twice_90 : decode cX11_twice 90 = .ok (.iload_n 1, 1) := by decide +kernel
theorem dX11_twice_91 : decode cX11_twice 91 = .ok (.ifCond .ne 7, 3) := by decide +kernel
theorem dX11_twice_94 : decode cX11_twice 94 = .ok (.iload_n 2, 1) := by decide +kernel
theorem dX11_twice_95 : decode cX11_twice 95 = .ok (.goto 14, 3) := by decide +kernel
theorem dX11_twice_98 : decode cX11_twice 98 = .ok (.iload_n 1, 1) := by decide +kernel
theorem dX11_twice_99 : decode cX11_twice 99 = .ok (.iconst 1, 1) := by decide +kernel
theorem dX11_twice_100 : decode cX11_twice 100 = .ok (.if_icmp .ne 7, 3) := by decide +kernel
theorem dX11_twice_103 : decode cX11_twice 103 = .ok (.iload_n 3, 1) := by decide +kernel
theorem dX11_twice_104 : decode cX11_twice 104 = .ok (.goto 5, 3) := by decide +kernel
theorem dX11_twice_107 : decode cX11_twice 107 = .ok (.iload 4, 2) := by decide +kernel
theorem dX11_twice_109 : decode cX11_twice 109 = .ok (.ireturn, 1) := by decide +kernel
theorem dX11_find_0 : decode cX11_find 0 = .ok (.aload_n 0, 1) := by decide +kernel
theorem dX11_find_1 : decode cX11_find 1 = .ok (.iload_n 1, 1) := by decide +kernel
theorem dX11_find_2 : decode cX11_find 2 = .ok (.invokevirtual 144, 3) := by decide +kernel
theorem dX11_find_5 : decode cX11_find 5 = .ok (.ifCond .eq 25, 3) := by decide +kernel
theorem dX11_find_8 : decode cX11_find 8 = .ok (.iload_n 2, 1) := by decide +kernel
theorem dX11_find_9 : decode cX11_find 9 = .ok (.i2l, 1) := by decide +kernel
theorem dX11_find_10 : decode cX11_find 10 = .ok (.lconst 0, 1) := by decide +kernel
theorem dX11_find_11 : decode cX11_find 11 = .ok (.ldc2_w 148, 3) := by decide +kernel
theorem dX11_find_14 : decode cX11_find 14 = .ok (.invokestatic 63, 3) := by decide +kernel
theorem dX11_find_17 : decode cX11_find 17 = .ok (.ifCond .eq 13, 3) := by decide +kernel
theorem dX11_find_20 : decode cX11_find 20 = .ok (.iload_n 3, 1) := by decide +kernel
theorem dX11_find_21 : decode cX11_find 21 = .ok (.i2l, 1) := by decide +kernel
theorem dX11_find_22 : decode cX11_find 22 = .ok (.lconst 0, 1) := by decide +kernel
theorem dX11_find_23 : decode cX11_find 23 = .ok (.lconst 1, 1) := by decide +kernel
theorem dX11_find_24 : decode cX11_find 24 = .ok (.invokestatic 63, 3) := by decide +kernel
theorem dX11_find_27 : decode cX11_find 27 = .ok (.ifCond .ne 5, 3) := by decide +kernel
theorem dX11_find_30 : decode cX11_find 30 = .ok (.iconst (-1), 1) := by decide +kernel
theorem dX11_find_31 : decode cX11_find 31 = .ok (.ireturn, 1) := by decide +kernel
theorem dX11_find_32 : decode cX11_find 32 = .ok (.bipush (-4), 2) := by decide +kernel
theorem dX11_find_34 : decode cX11_find 34 = .ok (.istore 4, 2) := by decide +kernel
theorem dX11_find_36 : decode cX11_find 36 = .ok (.iconst 0, 1) := by decide +kernel
theorem dX11_find_37 : decode cX11_find 37 = .ok (.istore 5, 2) := by decide +kernel
theorem dX11_find_39 : decode cX11_find 39 = .ok (.iconst 0, 1) := by decide +kernel
theorem dX11_find_40 : decode cX11_find 40 = .ok (.istore 6, 2) := by decide +kernel
theorem dX11_find_42 : decode cX11_find 42 = .ok (.iload 6, 2) := by decide +kernel
theorem dX11_find_44 : decode cX11_find 44 = .ok (.sipush 256, 3) := by decide +kernel
theorem dX11_find_47 : decode cX11_find 47 = .ok (.if_icmp .ge 139, 3) := by decide +kernel
theorem dX11_find_50 : decode cX11_find 50 = .ok (.iconst 0, 1) := by decide +kernel
theorem dX11_find_51 : decode cX11_find 51 = .ok (.istore 7, 2) := by decide +kernel
theorem dX11_find_53 : decode cX11_find 53 = .ok (.iconst 0, 1) := by decide +kernel
theorem dX11_find_54 : decode cX11_find 54 = .ok (.istore 8, 2) := by decide +kernel
theorem dX11_find_56 : decode cX11_find 56 = .ok (.iload 8, 2) := by decide +kernel
theorem dX11_find_58 : decode cX11_find 58 = .ok (.iconst 2, 1) := by decide +kernel
theorem dX11_find_59 : decode cX11_find 59 = .ok (.aload_n 0, 1) := by decide +kernel
theorem dX11_find_60 : decode cX11_find 60 = .ok (.invokevirtual 150, 3) := by decide +kernel
theorem dX11_find_63 : decode cX11_find 63 = .ok (.imul, 1) := by decide +kernel
theorem dX11_find_64 : decode cX11_find 64 = .ok (.if_icmp .ge 84, 3) := by decide +kernel
theorem dX11_find_67 : decode cX11_find 67 = .ok (.aload_n 0, 1) := by decide +kernel
theorem dX11_find_68 : decode cX11_find 68 = .ok (.iload 8, 2) := by decide +kernel
theorem dX11_find_70 : decode cX11_find 70 = .ok (.iconst 2, 1) := by decide +kernel
theorem dX11_find_71 : decode cX11_find 71 = .ok (.idiv, 1) := by decide +kernel
theorem dX11_find_72 : decode cX11_find 72 = .ok (.iconst 0, 1) := by decide +kernel
theorem dX11_find_73 : decode cX11_find 73 = .ok (.invokevirtual 153, 3) := by decide +kernel
theorem dX11_find_76 : decode cX11_find 76 = .ok (.iload_n 1, 1) := by decide +kernel
theorem dX11_find_77 : decode cX11_find 77 = .ok (.if_icmp .ne 24, 3) := by decide +kernel
theorem dX11_find_80 : decode cX11_find 80 = .ok (.aload_n 0, 1) := by decide +kernel
theorem dX11_find_81 : decode cX11_find 81 = .ok (.iload 8, 2) := by decide +kernel
theorem dX11_find_83 : decode cX11_find 83 = .ok (.iconst 2, 1) := by decide +kernel
theorem dX11_find_84 : decode cX11_find 84 = .ok (.idiv, 1) := by decide +kernel
theorem dX11_find_85 : decode cX11_find 85 = .ok (.iload 8, 2) := by decide +kernel
theorem dX11_find_87 : decode cX11_find 87 = .ok (.iconst 2, 1) := by decide +kernel
theorem dX11_find_88 : decode cX11_find 88 = .ok (.irem, 1) := by decide +kernel
theorem dX11_find_89 : decode cX11_find 89 = .ok (.iconst 0, 1) := by decide +kernel
theorem dX11_find_90 : decode cX11_find 90 = .ok (.invokevirtual 198, 3) := by decide +kernel
theorem dX11_find_93 : decode cX11_find 93 = .ok (.iconst 1, 1) := by decide +kernel
theorem dX11_find_94 : decode cX11_find 94 = .ok (.if_icmp .ne 7, 3) := by decide +kernel
theorem dX11_find_97 : decode cX11_find 97 = .ok (.iconst 1, 1) := by decide +kernel
theorem dX11_find_98 : decode cX11_find 98 = .ok (.goto 4, 3) := by decide +kernel
theorem dX11_find_101 : decode cX11_find 101 = .ok (.iconst 0, 1) := by decide +kernel
theorem dX11_find_102 : decode cX11_find 102 = .ok (.istore 9, 2) := by decide +kernel
theorem dX11_find_104 : decode cX11_find 104 = .ok (.iload 7, 2) := by decide +kernel
theorem dX11_find_106 : decode cX11_find 106 = .ok (.iload 9, 2) := by decide +kernel
theorem dX11_find_108 : decode cX11_find 108 = .ok (.ifCond .eq 30, 3) := by decide +kernel
theorem dX11_find_111 : decode cX11_find 111 = .ok (.iload 6, 2) := by decide +kernel
theorem dX11_find_113 : decode cX11_find 113 = .ok (.aload_n 0, 1) := by decide +kernel
theorem dX11_find_114 : decode cX11_find 114 = .ok (.iload 8, 2) := by decide +kernel
theorem dX11_find_116 : decode cX11_find 116 = .ok (.iconst 2, 1) := by decide +kernel
theorem dX11_find_117 : decode cX11_find 117 = .ok (.idiv, 1) := by decide +kernel
theorem dX11_find_118 : decode cX11_find 118 = .ok (.iload 8, 2) := by decide +kernel
theorem dX11_find_120 : decode cX11_find 120 = .ok (.iconst 2, 1) := by decide +kernel
theorem dX11_find_121 : decode cX11_find 121 = .ok (.irem, 1) := by decide +kernel
theorem dX11_find_122 : decode cX11_find 122 = .ok (.iconst 2, 1) := by decide +kernel
theorem dX11_find_123 : decode cX11_find 123 = .ok (.invokevirtual 198, 3) := by decide +kernel
theorem dX11_find_126 : decode cX11_find 126 = .ok (.ixor, 1) := by decide +kernel
theorem dX11_find_127 : decode cX11_find 127 = .ok (.invokestatic 204, 3) := by decide +kernel
theorem dX11_find_130 : decode cX11_find 130 = .ok (.iload_n 2, 1) := by decide +kernel
theorem dX11_find_131 : decode cX11_find 131 = .ok (.if_icmp .gt 7, 3) := by decide +kernel
theorem dX11_find_134 : decode cX11_find 134 = .ok (.iconst 1, 1) := by decide +kernel
theorem dX11_find_135 : decode cX11_find 135 = .ok (.goto 4, 3) := by decide +kernel
theorem dX11_find_138 : decode cX11_find 138 = .ok (.iconst 0, 1) := by decide +kernel
theorem dX11_find_139 : decode cX11_find 139 = .ok (.iadd, 1) := by decide +kernel
theorem dX11_find_140 : decode cX11_find 140 = .ok (.istore 7, 2) := by decide +kernel
theorem dX11_find_142 : decode cX11_find 142 = .ok (.iinc 8 1, 3) := by decide +kernel
theorem dX11_find_145 : decode cX11_find 145 = .ok (.goto (-89), 3) := by decide +kernel
theorem dX11_find_148 : decode cX11_find 148 = .ok (.iload 7, 2) := by decide +kernel
theorem dX11_find_150 : decode cX11_find 150 = .ok (.iload 5, 2) := by decide +kernel
theorem dX11_find_152 : decode cX11_find 152 = .ok (.if_icmp .le 8, 3) := by decide +kernel
theorem dX11_find_155 : decode cX11_find 155 = .ok (.iload 6, 2) := by decide +kernel
theorem dX11_find_157 : decode cX11_find 157 = .ok (.goto 5, 3) := by decide +kernel
theorem dX11_find_160 : decode cX11_find 160 = .ok (.iload 4, 2) := by decide +kernel
theorem dX11_find_162 : decode cX11_find 162 = .ok (.istore 4, 2) := by decide +kernel
theorem dX11_find_164 : decode cX11_find 164 = .ok (.iload 7, 2) := by decide +kernel
theorem dX11_find_166 : decode cX11_find 166 = .ok (.iload 5, 2) := by decide +kernel
theorem dX11_find_168 : decode cX11_find 168 = .ok (.if_icmp .le 8, 3) := by decide +kernel
theorem dX11_find_171 : decode cX11_find 171 = .ok (.iload 7, 2) := by decide +kernel
theorem dX11_find_173 : decode cX11_find 173 = .ok (.goto 5, 3) := by decide +kernel
theorem dX11_find_176 : decode cX11_find 176 = .ok (.iload 5, 2) := by decide +kernel
theorem dX11_find_178 : decode cX11_find 178 = .ok (.istore 5, 2) := by decide +kernel
theorem dX11_find_180 : decode cX11_find 180 = .ok (.iinc 6 1, 3) := by decide +kernel
theorem dX11_find_183 : decode cX11_find 183 = .ok (.goto (-141), 3) := by decide +kernel
theorem dX11_find_186 : decode cX11_find 186 = .ok (.iload 4, 2) := by decide +kernel
theorem dX11_find_188 : decode cX11_find 188 = .ok (.bipush (-4), 2) := by decide +kernel
theorem dX11_find_190 : decode cX11_find 190 = .ok (.if_icmp .eq 7, 3) := by decide +kernel
theorem dX11_find_193 : decode cX11_find 193 = .ok (.iload_n 3, 1) := by decide +kernel
theorem dX11_find_194 : decode cX11_find 194 = .ok (.ifCond .ne 8, 3) := by decide +kernel
theorem dX11_find_197 : decode cX11_find 197 = .ok (.iload 4, 2) := by decide +kernel
theorem dX11_find_199 : decode cX11_find 199 = .ok (.goto 5, 3) := by decide +kernel
theorem dX11_find_202 : decode cX11_find 202 = .ok (.iload 5, 2) := by decide +kernel
theorem dX11_find_204 : decode cX11_find 204 = .ok (.ireturn, 1) := by decide +kernel
theorem dX11_keep_0 : decode cX11_keep 0 = .ok (.iload_n 1, 1) := by decide +kernel
theorem dX11_keep_1 : decode cX11_keep 1 = .ok (.i2l, 1) := by decide +kernel
theorem dX11_keep_2 : decode cX11_keep 2 = .ok (.lconst 0, 1) := by decide +kernel
theorem dX11_keep_3 : decode cX11_keep 3 = .ok (.lconst 1, 1) := by decide +kernel
theorem dX11_keep_4 : decode cX11_keep 4 = .ok (.invokestatic 63, 3) := by decide +kernel
theorem dX11_keep_7 : decode cX11_keep 7 = .ok (.ifCond .ne 5, 3) := by decide +kernel
theorem dX11_keep_10 : decode cX11_keep 10 = .ok (.iconst (-1), 1) := by decide +kernel
theorem dX11_keep_11 : decode cX11_keep 11 = .ok (.ireturn, 1) := by decide +kernel
theorem dX11_keep_12 : decode cX11_keep 12 = .ok (.aload_n 0, 1) := by decide +kernel
theorem dX11_keep_13 : decode cX11_keep 13 = .ok (.invokevirtual 219, 3) := by decide +kernel
theorem dX11_keep_16 : decode cX11_keep 16 = .ok (.iconst 0, 1) := by decide +kernel
theorem dX11_keep_17 : decode cX11_keep 17 = .ok (.istore_n 2, 1) := by decide +kernel
theorem dX11_keep_18 : decode cX11_keep 18 = .ok (.iload_n 2, 1) := by decide +kernel
theorem dX11_keep_19 : decode cX11_keep 19 = .ok (.sipush 660, 3) := by decide +kernel
theorem dX11_keep_22 : decode cX11_keep 22 = .ok (.if_icmp .ge 29, 3) := by decide +kernel
theorem dX11_keep_25 : decode cX11_keep 25 = .ok (.aload_n 0, 1) := by decide +kernel
theorem dX11_keep_26 : decode cX11_keep 26 = .ok (.getfield 40, 3) := by decide +kernel
theorem dX11_keep_29 : decode cX11_keep 29 = .ok (.sipush 660, 3) := by decide +kernel
theorem dX11_keep_32 : decode cX11_keep 32 = .ok (.iload_n 1, 1) := by decide +kernel
theorem dX11_keep_33 : decode cX11_keep 33 = .ok (.iconst 1, 1) := by decide +kernel
theorem dX11_keep_34 : decode cX11_keep 34 = .ok (.iadd, 1) := by decide +kernel
theorem dX11_keep_35 : decode cX11_keep 35 = .ok (.imul, 1) := by decide +kernel
theorem dX11_keep_36 : decode cX11_keep 36 = .ok (.iload_n 2, 1) := by decide +kernel
theorem dX11_keep_37 : decode cX11_keep 37 = .ok (.iadd, 1) := by decide +kernel
theorem dX11_keep_38 : decode cX11_keep 38 = .ok (.aload_n 0, 1) := by decide +kernel
theorem dX11_keep_39 : decode cX11_keep 39 = .ok (.getfield 40, 3) := by decide +kernel
theorem dX11_keep_42 : decode cX11_keep 42 = .ok (.iload_n 2, 1) := by decide +kernel
theorem dX11_keep_43 : decode cX11_keep 43 = .ok (.iaload, 1) := by decide +kernel
theorem dX11_keep_44 : decode cX11_keep 44 = .ok (.iastore, 1) := by decide +kernel
theorem dX11_keep_45 : decode cX11_keep 45 = .ok (.iinc 2 1, 3) := by decide +kernel
theorem dX11_keep_48 : decode cX11_keep 48 = .ok (.goto (-30), 3) := by decide +kernel
theorem dX11_keep_51 : decode cX11_keep 51 = .ok (.aload_n 0, 1) := by decide +kernel
theorem dX11_keep_52 : decode cX11_keep 52 = .ok (.getfield 46, 3) := by decide +kernel
theorem dX11_keep_55 : decode cX11_keep 55 = .ok (.iload_n 1, 1) := by decide +kernel
theorem dX11_keep_56 : decode cX11_keep 56 = .ok (.baload, 1) := by decide +kernel
theorem dX11_keep_57 : decode cX11_keep 57 = .ok (.ifCond .eq 7, 3) := by decide +kernel
theorem dX11_keep_60 : decode cX11_keep 60 = .ok (.iconst 1, 1) := by decide +kernel
theorem dX11_keep_61 : decode cX11_keep 61 = .ok (.goto 4, 3) := by decide +kernel
theorem dX11_keep_64 : decode cX11_keep 64 = .ok (.iconst 0, 1) := by decide +kernel
theorem dX11_keep_65 : decode cX11_keep 65 = .ok (.istore_n 2, 1) := by decide +kernel
theorem dX11_keep_66 : decode cX11_keep 66 = .ok (.aload_n 0, 1) := by decide +kernel
theorem dX11_keep_67 : decode cX11_keep 67 = .ok (.getfield 46, 3) := by decide +kernel
theorem dX11_keep_70 : decode cX11_keep 70 = .ok (.iload_n 1, 1) := by decide +kernel
theorem dX11_keep_71 : decode cX11_keep 71 = .ok (.iconst 1, 1) := by decide +kernel
theorem dX11_keep_72 : decode cX11_keep 72 = .ok (.bastore, 1) := by decide +kernel
theorem dX11_keep_73 : decode cX11_keep 73 = .ok (.iload_n 2, 1) := by decide +kernel
theorem dX11_keep_74 : decode cX11_keep 74 = .ok (.ireturn, 1) := by decide +kernel
theorem dX11_back_0 : decode cX11_back 0 = .ok (.iload_n 1, 1) := by decide +kernel
theorem dX11_back_1 : decode cX11_back 1 = .ok (.i2l, 1) := by decide +kernel
theorem dX11_back_2 : decode cX11_back 2 = .ok (.lconst 0, 1) := by decide +kernel
theorem dX11_back_3 : decode cX11_back 3 = .ok (.lconst 1, 1) := by decide +kernel
theorem dX11_back_4 : decode cX11_back 4 = .ok (.invokestatic 63, 3) := by decide +kernel
theorem dX11_back_7 : decode cX11_back 7 = .ok (.ifCond .ne 5, 3) := by decide +kernel
theorem dX11_back_10 : decode cX11_back 10 = .ok (.iconst (-1), 1) := by decide +kernel
theorem dX11_back_11 : decode cX11_back 11 = .ok (.ireturn, 1) := by decide +kernel
theorem dX11_back_12 : decode cX11_back 12 = .ok (.aload_n 0, 1) := by decide +kernel
theorem dX11_back_13 : decode cX11_back 13 = .ok (.getfield 46, 3) := by decide +kernel
theorem dX11_back_16 : decode cX11_back 16 = .ok (.iload_n 1, 1) := by decide +kernel
theorem dX11_back_17 : decode cX11_back 17 = .ok (.baload, 1) := by decide +kernel
theorem dX11_back_18 : decode cX11_back 18 = .ok (.istore_n 2, 1) := by decide +kernel
theorem dX11_back_19 : decode cX11_back 19 = .ok (.sipush 660, 3) := by decide +kernel
theorem dX11_back_22 : decode cX11_back 22 = .ok (.iload_n 1, 1) := by decide +kernel
theorem dX11_back_23 : decode cX11_back 23 = .ok (.iconst 1, 1) := by decide +kernel
theorem dX11_back_24 : decode cX11_back 24 = .ok (.iadd, 1) := by decide +kernel
theorem dX11_back_25 : decode cX11_back 25 = .ok (.imul, 1) := by decide +kernel
theorem dX11_back_26 : decode cX11_back 26 = .ok (.istore_n 3, 1) := by decide +kernel
theorem dX11_back_27 : decode cX11_back 27 = .ok (.iconst 0, 1) := by decide +kernel
theorem dX11_back_28 : decode cX11_back 28 = .ok (.istore 4, 2) := by decide +kernel
theorem dX11_back_30 : decode cX11_back 30 = .ok (.iload 4, 2) := by decide +kernel
theorem dX11_back_32 : decode cX11_back 32 = .ok (.aload_n 0, 1) := by decide +kernel
theorem dX11_back_33 : decode cX11_back 33 = .ok (.getfield 40, 3) := by decide +kernel
theorem dX11_back_36 : decode cX11_back 36 = .ok (.iload_n 3, 1) := by decide +kernel
theorem dX11_back_37 : decode cX11_back 37 = .ok (.sipush 650, 3) := by decide +kernel
theorem dX11_back_40 : decode cX11_back 40 = .ok (.iadd, 1) := by decide +kernel
theorem dX11_back_41 : decode cX11_back 41 = .ok (.iaload, 1) := by decide +kernel
theorem dX11_back_42 : decode cX11_back 42 = .ok (.if_icmp .ge 40, 3) := by decide +kernel
theorem dX11_back_45 : decode cX11_back 45 = .ok (.iload_n 2, 1) := by decide +kernel
theorem dX11_back_46 : decode cX11_back 46 = .ok (.ifCond .eq 36, 3) := by decide +kernel
theorem dX11_back_49 : decode cX11_back 49 = .ok (.aload_n 0, 1) := by decide +kernel
theorem dX11_back_50 : decode cX11_back 50 = .ok (.getfield 40, 3) := by decide +kernel
theorem dX11_back_53 : decode cX11_back 53 = .ok (.iload_n 3, 1) := by decide +kernel
theorem dX11_back_54 : decode cX11_back 54 = .ok (.bipush 16, 2) := by decide +kernel
theorem dX11_back_56 : decode cX11_back 56 = .ok (.iload 4, 2) := by decide +kernel
theorem dX11_back_58 : decode cX11_back 58 = .ok (.imul, 1) := by decide +kernel
theorem dX11_back_59 : decode cX11_back 59 = .ok (.iadd, 1) := by decide +kernel
theorem dX11_back_60 : decode cX11_back 60 = .ok (.iaload, 1) := by decide +kernel
theorem dX11_back_61 : decode cX11_back 61 = .ok (.aload_n 0, 1) := by decide +kernel
theorem dX11_back_62 : decode cX11_back 62 = .ok (.getfield 22, 3) := by decide +kernel
theorem dX11_back_65 : decode cX11_back 65 = .ok (.iconst 0, 1) := by decide +kernel
theorem dX11_back_66 : decode cX11_back 66 = .ok (.iaload, 1) := by decide +kernel
theorem dX11_back_67 : decode cX11_back 67 = .ok (.if_icmp .ge 7, 3) := by decide +kernel
theorem dX11_back_70 : decode cX11_back 70 = .ok (.iconst 1, 1) := by decide +kernel
theorem dX11_back_71 : decode cX11_back 71 = .ok (.goto 4, 3) := by decide +kernel
theorem dX11_back_74 : decode cX11_back 74 = .ok (.iconst 0, 1) := by decide +kernel
theorem dX11_back_75 : decode cX11_back 75 = .ok (.istore_n 2, 1) := by decide +kernel
theorem dX11_back_76 : decode cX11_back 76 = .ok (.iinc 4 1, 3) := by decide +kernel
theorem dX11_back_79 : decode cX11_back 79 = .ok (.goto (-49), 3) := by decide +kernel
theorem dX11_back_82 : decode cX11_back 82 = .ok (.iload_n 2, 1) := by decide +kernel
theorem dX11_back_83 : decode cX11_back 83 = .ok (.ifCond .ne 6, 3) := by decide +kernel
theorem dX11_back_86 : decode cX11_back 86 = .ok (.bipush (-2), 2) := by decide +kernel
theorem dX11_back_88 : decode cX11_back 88 = .ok (.ireturn, 1) := by decide +kernel
theorem dX11_back_89 : decode cX11_back 89 = .ok (.iconst 0, 1) := by decide +kernel
theorem dX11_back_90 : decode cX11_back 90 = .ok (.istore 4, 2) := by decide +kernel
theorem dX11_back_92 : decode cX11_back 92 = .ok (.iload 4, 2) := by decide +kernel
theorem dX11_back_94 : decode cX11_back 94 = .ok (.sipush 660, 3) := by decide +kernel
theorem dX11_back_97 : decode cX11_back 97 = .ok (.if_icmp .ge 25, 3) := by decide +kernel
theorem dX11_back_100 : decode cX11_back 100 = .ok (.aload_n 0, 1) := by decide +kernel
theorem dX11_back_101 : decode cX11_back 101 = .ok (.getfield 40, 3) := by decide +kernel
theorem dX11_back_104 : decode cX11_back 104 = .ok (.iload 4, 2) := by decide +kernel
theorem dX11_back_106 : decode cX11_back 106 = .ok (.aload_n 0, 1) := by decide +kernel
theorem dX11_back_107 : decode cX11_back 107 = .ok (.getfield 40, 3) := by decide +kernel
theorem dX11_back_110 : decode cX11_back 110 = .ok (.iload_n 3, 1) := by decide +kernel
theorem dX11_back_111 : decode cX11_back 111 = .ok (.iload 4, 2) := by decide +kernel
theorem dX11_back_113 : decode cX11_back 113 = .ok (.iadd, 1) := by decide +kernel
theorem dX11_back_114 : decode cX11_back 114 = .ok (.iaload, 1) := by decide +kernel
theorem dX11_back_115 : decode cX11_back 115 = .ok (.iastore, 1) := by decide +kernel
theorem dX11_back_116 : decode cX11_back 116 = .ok (.iinc 4 1, 3) := by decide +kernel
theorem dX11_back_119 : decode cX11_back 119 = .ok (.goto (-27), 3) := by decide +kernel
theorem dX11_back_122 : decode cX11_back 122 = .ok (.iconst 0, 1) := by decide +kernel
theorem dX11_back_123 : decode cX11_back 123 = .ok (.istore 4, 2) := by decide +kernel
theorem dX11_back_125 : decode cX11_back 125 = .ok (.iload 4, 2) := by decide +kernel
theorem dX11_back_127 : decode cX11_back 127 = .ok (.iconst 2, 1) := by decide +kernel
theorem dX11_back_128 : decode cX11_back 128 = .ok (.if_icmp .ge 35, 3) := by decide +kernel
theorem dX11_back_131 : decode cX11_back 131 = .ok (.aload_n 0, 1) := by decide +kernel
theorem dX11_back_132 : decode cX11_back 132 = .ok (.getfield 40, 3) := by decide +kernel
theorem dX11_back_135 : decode cX11_back 135 = .ok (.sipush 640, 3) := by decide +kernel
theorem dX11_back_138 : decode cX11_back 138 = .ok (.iconst 5, 1) := by decide +kernel
theorem dX11_back_139 : decode cX11_back 139 = .ok (.iload 4, 2) := by decide +kernel
theorem dX11_back_141 : decode cX11_back 141 = .ok (.imul, 1) := by decide +kernel
theorem dX11_back_142 : decode cX11_back 142 = .ok (.iadd, 1) := by decide +kernel
theorem dX11_back_143 : decode cX11_back 143 = .ok (.dup2, 1) := by decide +kernel
theorem dX11_back_144 : decode cX11_back 144 = .ok (.iaload, 1) := by decide +kernel
theorem dX11_back_145 : decode cX11_back 145 = .ok (.iconst 1, 1) := by decide +kernel
theorem dX11_back_146 : decode cX11_back 146 = .ok (.aload_n 0, 1) := by decide +kernel
theorem dX11_back_147 : decode cX11_back 147 = .ok (.getfield 22, 3) := by decide +kernel
theorem dX11_back_150 : decode cX11_back 150 = .ok (.iconst 0, 1) := by decide +kernel
theorem dX11_back_151 : decode cX11_back 151 = .ok (.iaload, 1) := by decide +kernel
theorem dX11_back_152 : decode cX11_back 152 = .ok (.ishl, 1) := by decide +kernel
theorem dX11_back_153 : decode cX11_back 153 = .ok (.iconst 1, 1) := by decide +kernel
theorem dX11_back_154 : decode cX11_back 154 = .ok (.isub, 1) := by decide +kernel
theorem dX11_back_155 : decode cX11_back 155 = .ok (.iand, 1) := by decide +kernel
theorem dX11_back_156 : decode cX11_back 156 = .ok (.iastore, 1) := by decide +kernel
theorem dX11_back_157 : decode cX11_back 157 = .ok (.iinc 4 1, 3) := by decide +kernel
theorem dX11_back_160 : decode cX11_back 160 = .ok (.goto (-35), 3) := by decide +kernel
theorem dX11_back_163 : decode cX11_back 163 = .ok (.aload_n 0, 1) := by decide +kernel
theorem dX11_back_164 : decode cX11_back 164 = .ok (.iconst 1, 1) := by decide +kernel
theorem dX11_back_165 : decode cX11_back 165 = .ok (.putfield 167, 3) := by decide +kernel
theorem dX11_back_168 : decode cX11_back 168 = .ok (.aload_n 0, 1) := by decide +kernel
theorem dX11_back_169 : decode cX11_back 169 = .ok (.invokevirtual 150, 3) := by decide +kernel
theorem dX11_back_172 : decode cX11_back 172 = .ok (.ireturn, 1) := by decide +kernel
theorem dX11_sheet_0 : decode cX11_sheet 0 = .ok (.iload_n 1, 1) := by decide +kernel
theorem dX11_sheet_1 : decode cX11_sheet 1 = .ok (.i2l, 1) := by decide +kernel
theorem dX11_sheet_2 : decode cX11_sheet 2 = .ok (.lconst 0, 1) := by decide +kernel
theorem dX11_sheet_3 : decode cX11_sheet 3 = .ok (.ldc2_w 225, 3) := by decide +kernel
theorem dX11_sheet_6 : decode cX11_sheet 6 = .ok (.invokestatic 63, 3) := by decide +kernel
theorem dX11_sheet_9 : decode cX11_sheet 9 = .ok (.ifCond .eq 21, 3) := by decide +kernel
theorem dX11_sheet_12 : decode cX11_sheet 12 = .ok (.iload_n 2, 1) := by decide +kernel
theorem dX11_sheet_13 : decode cX11_sheet 13 = .ok (.i2l, 1) := by decide +kernel
theorem dX11_sheet_14 : decode cX11_sheet 14 = .ok (.lconst 0, 1) := by decide +kernel
theorem dX11_sheet_15 : decode cX11_sheet 15 = .ok (.ldc2_w 202, 3) := by decide +kernel
theorem dX11_sheet_18 : decode cX11_sheet 18 = .ok (.invokestatic 63, 3) := by decide +kernel
theorem dX11_sheet_21 : decode cX11_sheet 21 = .ok (.ifCond .eq 9, 3) := by decide +kernel
theorem dX11_sheet_24 : decode cX11_sheet 24 = .ok (.iload_n 3, 1) := by decide +kernel
theorem dX11_sheet_25 : decode cX11_sheet 25 = .ok (.bipush 60, 2) := by decide +kernel
theorem dX11_sheet_27 : decode cX11_sheet 27 = .ok (.if_icmp .le 5, 3) := by decide +kernel
theorem dX11_sheet_30 : decode cX11_sheet 30 = .ok (.iconst (-1), 1) := by decide +kernel
theorem dX11_sheet_31 : decode cX11_sheet 31 = .ok (.ireturn, 1) := by decide +kernel
theorem dX11_sheet_32 : decode cX11_sheet 32 = .ok (.iload_n 3, 1) := by decide +kernel
theorem dX11_sheet_33 : decode cX11_sheet 33 = .ok (.ifCond .ge 6, 3) := by decide +kernel
theorem dX11_sheet_36 : decode cX11_sheet 36 = .ok (.bipush (-14), 2) := by decide +kernel
theorem dX11_sheet_38 : decode cX11_sheet 38 = .ok (.ireturn, 1) := by decide +kernel
theorem dX11_sheet_39 : decode cX11_sheet 39 = .ok (.aload_n 0, 1) := by decide +kernel
theorem dX11_sheet_40 : decode cX11_sheet 40 = .ok (.getfield 50, 3) := by decide +kernel
theorem dX11_sheet_43 : decode cX11_sheet 43 = .ok (.iload_n 1, 1) := by decide +kernel
theorem dX11_sheet_44 : decode cX11_sheet 44 = .ok (.iload_n 2, 1) := by decide +kernel
theorem dX11_sheet_45 : decode cX11_sheet 45 = .ok (.iastore, 1) := by decide +kernel
theorem dX11_sheet_46 : decode cX11_sheet 46 = .ok (.aload_n 0, 1) := by decide +kernel
theorem dX11_sheet_47 : decode cX11_sheet 47 = .ok (.getfield 53, 3) := by decide +kernel
theorem dX11_sheet_50 : decode cX11_sheet 50 = .ok (.iload_n 1, 1) := by decide +kernel
theorem dX11_sheet_51 : decode cX11_sheet 51 = .ok (.iload_n 3, 1) := by decide +kernel
theorem dX11_sheet_52 : decode cX11_sheet 52 = .ok (.iastore, 1) := by decide +kernel
theorem dX11_sheet_53 : decode cX11_sheet 53 = .ok (.iconst 0, 1) := by decide +kernel
theorem dX11_sheet_54 : decode cX11_sheet 54 = .ok (.istore 4, 2) := by decide +kernel
theorem dX11_sheet_56 : decode cX11_sheet 56 = .ok (.iload 4, 2) := by decide +kernel
theorem dX11_sheet_58 : decode cX11_sheet 58 = .ok (.bipush 60, 2) := by decide +kernel
theorem dX11_sheet_60 : decode cX11_sheet 60 = .ok (.if_icmp .ge 22, 3) := by decide +kernel
theorem dX11_sheet_63 : decode cX11_sheet 63 = .ok (.aload_n 0, 1) := by decide +kernel
theorem dX11_sheet_64 : decode cX11_sheet 64 = .ok (.getfield 56, 3) := by decide +kernel
theorem dX11_sheet_67 : decode cX11_sheet 67 = .ok (.bipush 60, 2) := by decide +kernel
theorem dX11_sheet_69 : decode cX11_sheet 69 = .ok (.iload_n 1, 1) := by decide +kernel
theorem dX11_sheet_70 : decode cX11_sheet 70 = .ok (.imul, 1) := by decide +kernel
theorem dX11_sheet_71 : decode cX11_sheet 71 = .ok (.iload 4, 2) := by decide +kernel
theorem dX11_sheet_73 : decode cX11_sheet 73 = .ok (.iadd, 1) := by decide +kernel
theorem dX11_sheet_74 : decode cX11_sheet 74 = .ok (.iconst 0, 1) := by decide +kernel
theorem dX11_sheet_75 : decode cX11_sheet 75 = .ok (.iastore, 1) := by decide +kernel
theorem dX11_sheet_76 : decode cX11_sheet 76 = .ok (.iinc 4 1, 3) := by decide +kernel
theorem dX11_sheet_79 : decode cX11_sheet 79 = .ok (.goto (-23), 3) := by decide +kernel
theorem dX11_sheet_82 : decode cX11_sheet 82 = .ok (.iconst 1, 1) := by decide +kernel
theorem dX11_sheet_83 : decode cX11_sheet 83 = .ok (.ireturn, 1) := by decide +kernel
theorem dX11_lay_0 : decode cX11_lay 0 = .ok (.iload_n 1, 1) := by decide +kernel
theorem dX11_lay_1 : decode cX11_lay 1 = .ok (.i2l, 1) := by decide +kernel
theorem dX11_lay_2 : decode cX11_lay 2 = .ok (.lconst 0, 1) := by decide +kernel
theorem dX11_lay_3 : decode cX11_lay 3 = .ok (.ldc2_w 225, 3) := by decide +kernel
theorem dX11_lay_6 : decode cX11_lay 6 = .ok (.invokestatic 63, 3) := by decide +kernel
theorem dX11_lay_9 : decode cX11_lay 9 = .ok (.ifCond .ne 5, 3) := by decide +kernel
theorem dX11_lay_12 : decode cX11_lay 12 = .ok (.iconst (-1), 1) := by decide +kernel
theorem dX11_lay_13 : decode cX11_lay 13 = .ok (.ireturn, 1) := by decide +kernel
theorem dX11_lay_14 : decode cX11_lay 14 = .ok (.aload_n 0, 1) := by decide +kernel
theorem dX11_lay_15 : decode cX11_lay 15 = .ok (.getfield 50, 3) := by decide +kernel
theorem dX11_lay_18 : decode cX11_lay 18 = .ok (.iload_n 1, 1) := by decide +kernel
theorem dX11_lay_19 : decode cX11_lay 19 = .ok (.iaload, 1) := by decide +kernel
theorem dX11_lay_20 : decode cX11_lay 20 = .ok (.bipush (-4), 2) := by decide +kernel
theorem dX11_lay_22 : decode cX11_lay 22 = .ok (.if_icmp .ne 6, 3) := by decide +kernel
theorem dX11_lay_25 : decode cX11_lay 25 = .ok (.bipush (-11), 2) := by decide +kernel
theorem dX11_lay_27 : decode cX11_lay 27 = .ok (.ireturn, 1) := by decide +kernel
theorem dX11_lay_28 : decode cX11_lay 28 = .ok (.iload_n 2, 1) := by decide +kernel
theorem dX11_lay_29 : decode cX11_lay 29 = .ok (.i2l, 1) := by decide +kernel
theorem dX11_lay_30 : decode cX11_lay 30 = .ok (.lconst 0, 1) := by decide +kernel
theorem dX11_lay_31 : decode cX11_lay 31 = .ok (.aload_n 0, 1) := by decide +kernel
theorem dX11_lay_32 : decode cX11_lay 32 = .ok (.getfield 53, 3) := by decide +kernel
theorem dX11_lay_35 : decode cX11_lay 35 = .ok (.iload_n 1, 1) := by decide +kernel
theorem dX11_lay_36 : decode cX11_lay 36 = .ok (.iaload, 1) := by decide +kernel
theorem dX11_lay_37 : decode cX11_lay 37 = .ok (.iconst 1, 1) := by decide +kernel
theorem dX11_lay_38 : decode cX11_lay 38 = .ok (.isub, 1) := by decide +kernel
theorem dX11_lay_39 : decode cX11_lay 39 = .ok (.i2l, 1) := by decide +kernel
theorem dX11_lay_40 : decode cX11_lay 40 = .ok (.invokestatic 63, 3) := by decide +kernel
theorem dX11_lay_43 : decode cX11_lay 43 = .ok (.ifCond .ne 6, 3) := by decide +kernel
theorem dX11_lay_46 : decode cX11_lay 46 = .ok (.bipush (-12), 2) := by decide +kernel
theorem dX11_lay_48 : decode cX11_lay 48 = .ok (.ireturn, 1) := by decide +kernel
theorem dX11_lay_49 : decode cX11_lay 49 = .ok (.aload_n 0, 1) := by decide +kernel
theorem dX11_lay_50 : decode cX11_lay 50 = .ok (.getfield 56, 3) := by decide +kernel
theorem dX11_lay_53 : decode cX11_lay 53 = .ok (.bipush 60, 2) := by decide +kernel
theorem dX11_lay_55 : decode cX11_lay 55 = .ok (.iload_n 1, 1) := by decide +kernel
theorem dX11_lay_56 : decode cX11_lay 56 = .ok (.imul, 1) := by decide +kernel
theorem dX11_lay_57 : decode cX11_lay 57 = .ok (.iload_n 2, 1) := by decide +kernel
theorem dX11_lay_58 : decode cX11_lay 58 = .ok (.iadd, 1) := by decide +kernel
theorem dX11_lay_59 : decode cX11_lay 59 = .ok (.aload_n 0, 1) := by decide +kernel
theorem dX11_lay_60 : decode cX11_lay 60 = .ok (.getfield 50, 3) := by decide +kernel
theorem dX11_lay_63 : decode cX11_lay 63 = .ok (.iload_n 1, 1) := by decide +kernel
theorem dX11_lay_64 : decode cX11_lay 64 = .ok (.iaload, 1) := by decide +kernel
theorem dX11_lay_65 : decode cX11_lay 65 = .ok (.ifCond .ne 13, 3) := by decide +kernel
theorem dX11_lay_68 : decode cX11_lay 68 = .ok (.iload_n 3, 1) := by decide +kernel
theorem dX11_lay_69 : decode cX11_lay 69 = .ok (.bipush 24, 2) := by decide +kernel
theorem dX11_lay_71 : decode cX11_lay 71 = .ok (.ishl, 1) := by decide +kernel
theorem dX11_lay_72 : decode cX11_lay 72 = .ok (.bipush 24, 2) := by decide +kernel
theorem dX11_lay_74 : decode cX11_lay 74 = .ok (.ishr, 1) := by decide +kernel
theorem dX11_lay_75 : decode cX11_lay 75 = .ok (.goto 24, 3) := by decide +kernel
theorem dX11_lay_78 : decode cX11_lay 78 = .ok (.aload_n 0, 1) := by decide +kernel
theorem dX11_lay_79 : decode cX11_lay 79 = .ok (.getfield 50, 3) := by decide +kernel
theorem dX11_lay_82 : decode cX11_lay 82 = .ok (.iload_n 1, 1) := by decide +kernel
theorem dX11_lay_83 : decode cX11_lay 83 = .ok (.iaload, 1) := by decide +kernel
theorem dX11_lay_84 : decode cX11_lay 84 = .ok (.iconst 1, 1) := by decide +kernel
theorem dX11_lay_85 : decode cX11_lay 85 = .ok (.if_icmp .ne 13, 3) := by decide +kernel
theorem dX11_lay_88 : decode cX11_lay 88 = .ok (.iload_n 3, 1) := by decide +kernel
theorem dX11_lay_89 : decode cX11_lay 89 = .ok (.bipush 16, 2) := by decide +kernel
theorem dX11_lay_91 : decode cX11_lay 91 = .ok (.ishl, 1) := by decide +kernel
theorem dX11_lay_92 : decode cX11_lay 92 = .ok (.bipush 16, 2) := by decide +kernel
theorem dX11_lay_94 : decode cX11_lay 94 = .ok (.ishr, 1) := by decide +kernel
theorem dX11_lay_95 : decode cX11_lay 95 = .ok (.goto 4, 3) := by decide +kernel
theorem dX11_lay_98 : decode cX11_lay 98 = .ok (.iload_n 3, 1) := by decide +kernel
theorem dX11_lay_99 : decode cX11_lay 99 = .ok (.iastore, 1) := by decide +kernel
theorem dX11_lay_100 : decode cX11_lay 100 = .ok (.iconst 1, 1) := by decide +kernel
theorem dX11_lay_101 : decode cX11_lay 101 = .ok (.ireturn, 1) := by decide +kernel
theorem dX11_read_0 : decode cX11_read 0 = .ok (.iload_n 1, 1) := by decide +kernel
theorem dX11_read_1 : decode cX11_read 1 = .ok (.i2l, 1) := by decide +kernel
theorem dX11_read_2 : decode cX11_read 2 = .ok (.lconst 0, 1) := by decide +kernel
theorem dX11_read_3 : decode cX11_read 3 = .ok (.ldc2_w 225, 3) := by decide +kernel
theorem dX11_read_6 : decode cX11_read 6 = .ok (.invokestatic 63, 3) := by decide +kernel
theorem dX11_read_9 : decode cX11_read 9 = .ok (.ifCond .eq 28, 3) := by decide +kernel
theorem dX11_read_12 : decode cX11_read 12 = .ok (.iload_n 2, 1) := by decide +kernel
theorem dX11_read_13 : decode cX11_read 13 = .ok (.i2l, 1) := by decide +kernel
theorem dX11_read_14 : decode cX11_read 14 = .ok (.lconst 0, 1) := by decide +kernel
theorem dX11_read_15 : decode cX11_read 15 = .ok (.ldc2_w 202, 3) := by decide +kernel
theorem dX11_read_18 : decode cX11_read 18 = .ok (.invokestatic 63, 3) := by decide +kernel
theorem dX11_read_21 : decode cX11_read 21 = .ok (.ifCond .eq 16, 3) := by decide +kernel
theorem dX11_read_24 : decode cX11_read 24 = .ok (.iload 4, 2) := by decide +kernel
theorem dX11_read_26 : decode cX11_read 26 = .ok (.i2l, 1) := by decide +kernel
theorem dX11_read_27 : decode cX11_read 27 = .ok (.lconst 0, 1) := by decide +kernel
theorem dX11_read_28 : decode cX11_read 28 = .ok (.ldc2_w 328, 3) := by decide +kernel
theorem dX11_read_31 : decode cX11_read 31 = .ok (.invokestatic 63, 3) := by decide +kernel
theorem dX11_read_34 : decode cX11_read 34 = .ok (.ifCond .ne 5, 3) := by decide +kernel
theorem dX11_read_37 : decode cX11_read 37 = .ok (.iconst (-1), 1) := by decide +kernel
theorem dX11_read_38 : decode cX11_read 38 = .ok (.ireturn, 1) := by decide +kernel
theorem dX11_read_39 : decode cX11_read 39 = .ok (.iconst 0, 1) := by decide +kernel
theorem dX11_read_40 : decode cX11_read 40 = .ok (.istore 5, 2) := by decide +kernel
theorem dX11_read_42 : decode cX11_read 42 = .ok (.iconst 0, 1) := by decide +kernel
theorem dX11_read_43 : decode cX11_read 43 = .ok (.istore 6, 2) := by decide +kernel
theorem dX11_read_45 : decode cX11_read 45 = .ok (.iconst 0, 1) := by decide +kernel
theorem dX11_read_46 : decode cX11_read 46 = .ok (.istore 7, 2) := by decide +kernel
theorem dX11_read_48 : decode cX11_read 48 = .ok (.iload 7, 2) := by decide +kernel
theorem dX11_read_50 : decode cX11_read 50 = .ok (.iconst 5, 1) := by decide +kernel
theorem dX11_read_51 : decode cX11_read 51 = .ok (.iload 4, 2) := by decide +kernel
theorem dX11_read_53 : decode cX11_read 53 = .ok (.imul, 1) := by decide +kernel
theorem dX11_read_54 : decode cX11_read 54 = .ok (.if_icmp .ge 172, 3) := by decide +kernel
theorem dX11_read_57 : decode cX11_read 57 = .ok (.iload 5, 2) := by decide +kernel
theorem dX11_read_59 : decode cX11_read 59 = .ok (.ifCond .ne 167, 3) := by decide +kernel
theorem dX11_read_62 : decode cX11_read 62 = .ok (.aload_n 0, 1) := by decide +kernel
theorem dX11_read_63 : decode cX11_read 63 = .ok (.getfield 50, 3) := by decide +kernel
theorem dX11_read_66 : decode cX11_read 66 = .ok (.iload_n 1, 1) := by decide +kernel
theorem dX11_read_67 : decode cX11_read 67 = .ok (.iaload, 1) := by decide +kernel
theorem dX11_read_68 : decode cX11_read 68 = .ok (.bipush (-4), 2) := by decide +kernel
theorem dX11_read_70 : decode cX11_read 70 = .ok (.if_icmp .ne 7, 3) := by decide +kernel
theorem dX11_read_73 : decode cX11_read 73 = .ok (.iconst 1, 1) := by decide +kernel
theorem dX11_read_74 : decode cX11_read 74 = .ok (.goto 44, 3) := by decide +kernel
theorem dX11_read_77 : decode cX11_read 77 = .ok (.aload_n 0, 1) := by decide +kernel
theorem dX11_read_78 : decode cX11_read 78 = .ok (.getfield 50, 3) := by decide +kernel
theorem dX11_read_81 : decode cX11_read 81 = .ok (.iload_n 1, 1) := by decide +kernel
theorem dX11_read_82 : decode cX11_read 82 = .ok (.iaload, 1) := by decide +kernel
theorem dX11_read_83 : decode cX11_read 83 = .ok (.iload_n 2, 1) := by decide +kernel
theorem dX11_read_84 : decode cX11_read 84 = .ok (.if_icmp .eq 7, 3) := by decide +kernel
theorem dX11_read_87 : decode cX11_read 87 = .ok (.iconst 3, 1) := by decide +kernel
theorem dX11_read_88 : decode cX11_read 88 = .ok (.goto 30, 3) := by decide +kernel
theorem dX11_read_91 : decode cX11_read 91 = .ok (.iload_n 3, 1) := by decide +kernel
theorem dX11_read_92 : decode cX11_read 92 = .ok (.i2l, 1) := by decide +kernel
theorem dX11_read_93 : decode cX11_read 93 = .ok (.iload 7, 2) := by decide +kernel
theorem dX11_read_95 : decode cX11_read 95 = .ok (.i2l, 1) := by decide +kernel
theorem dX11_read_96 : decode cX11_read 96 = .ok (.ladd, 1) := by decide +kernel
theorem dX11_read_97 : decode cX11_read 97 = .ok (.lconst 0, 1) := by decide +kernel
theorem dX11_read_98 : decode cX11_read 98 = .ok (.aload_n 0, 1) := by decide +kernel
theorem dX11_read_99 : decode cX11_read 99 = .ok (.getfield 53, 3) := by decide +kernel
theorem dX11_read_102 : decode cX11_read 102 = .ok (.iload_n 1, 1) := by decide +kernel
theorem dX11_read_103 : decode cX11_read 103 = .ok (.iaload, 1) := by decide +kernel
theorem dX11_read_104 : decode cX11_read 104 = .ok (.iconst 1, 1) := by decide +kernel
theorem dX11_read_105 : decode cX11_read 105 = .ok (.isub, 1) := by decide +kernel
theorem dX11_read_106 : decode cX11_read 106 = .ok (.i2l, 1) := by decide +kernel
theorem dX11_read_107 : decode cX11_read 107 = .ok (.invokestatic 63, 3) := by decide +kernel
theorem dX11_read_110 : decode cX11_read 110 = .ok (.ifCond .ne 7, 3) := by decide +kernel
theorem dX11_read_113 : decode cX11_read 113 = .ok (.iconst 2, 1) := by decide +kernel
theorem dX11_read_114 : decode cX11_read 114 = .ok (.goto 4, 3) := by decide +kernel
theorem dX11_read_117 : decode cX11_read 117 = .ok (.iconst 0, 1) := by decide +kernel
theorem dX11_read_118 : decode cX11_read 118 = .ok (.istore 5, 2) := by decide +kernel
theorem dX11_read_120 : decode cX11_read 120 = .ok (.iload 5, 2) := by decide +kernel
theorem dX11_read_122 : decode cX11_read 122 = .ok (.ifCond .ne 98, 3) := by decide +kernel
theorem dX11_read_125 : decode cX11_read 125 = .ok (.iload 7, 2) := by decide +kernel
theorem dX11_read_127 : decode cX11_read 127 = .ok (.iconst 5, 1) := by decide +kernel
theorem dX11_read_128 : decode cX11_read 128 = .ok (.irem, 1) := by decide +kernel
theorem dX11_read_129 : decode cX11_read 129 = .ok (.iconst 4, 1) := by decide +kernel
theorem dX11_read_130 : decode cX11_read 130 = .ok (.if_icmp .ne 90, 3) := by decide +kernel
theorem dX11_read_133 : decode cX11_read 133 = .ok (.bipush 60, 2) := by decide +kernel
theorem dX11_read_135 : decode cX11_read 135 = .ok (.iload_n 1, 1) := by decide +kernel
theorem dX11_read_136 : decode cX11_read 136 = .ok (.imul, 1) := by decide +kernel
theorem dX11_read_137 : decode cX11_read 137 = .ok (.iload_n 3, 1) := by decide +kernel
theorem dX11_read_138 : decode cX11_read 138 = .ok (.iadd, 1) := by decide +kernel
theorem dX11_read_139 : decode cX11_read 139 = .ok (.iload 7, 2) := by decide +kernel
theorem dX11_read_141 : decode cX11_read 141 = .ok (.iadd, 1) := by decide +kernel
theorem dX11_read_142 : decode cX11_read 142 = .ok (.iconst 4, 1) := by decide +kernel
theorem dX11_read_143 : decode cX11_read 143 = .ok (.isub, 1) := by decide +kernel
theorem dX11_read_144 : decode cX11_read 144 = .ok (.istore 8, 2) := by decide +kernel
theorem dX11_read_146 : decode cX11_read 146 = .ok (.aload_n 0, 1) := by decide +kernel
theorem dX11_read_147 : decode cX11_read 147 = .ok (.aload_n 0, 1) := by decide +kernel
theorem dX11_read_148 : decode cX11_read 148 = .ok (.getfield 56, 3) := by decide +kernel
theorem dX11_read_151 : decode cX11_read 151 = .ok (.iload 8, 2) := by decide +kernel
theorem dX11_read_153 : decode cX11_read 153 = .ok (.iaload, 1) := by decide +kernel
theorem dX11_read_154 : decode cX11_read 154 = .ok (.aload_n 0, 1) := by decide +kernel
theorem dX11_read_155 : decode cX11_read 155 = .ok (.getfield 56, 3) := by decide +kernel
theorem dX11_read_158 : decode cX11_read 158 = .ok (.iload 8, 2) := by decide +kernel
theorem dX11_read_160 : decode cX11_read 160 = .ok (.iconst 1, 1) := by decide +kernel
theorem dX11_read_161 : decode cX11_read 161 = .ok (.iadd, 1) := by decide +kernel
theorem dX11_read_162 : decode cX11_read 162 = .ok (.iaload, 1) := by decide +kernel
theorem dX11_read_163 : decode cX11_read 163 = .ok (.aload_n 0, 1) := by decide +kernel
theorem dX11_read_164 : decode cX11_read 164 = .ok (.getfield 56, 3) := by decide +kernel
theorem dX11_read_167 : decode cX11_read 167 = .ok (.iload 8, 2) := by decide +kernel
theorem dX11_read_169 : decode cX11_read 169 = .ok (.iconst 2, 1) := by decide +kernel
theorem dX11_read_170 : decode cX11_read 170 = .ok (.iadd, 1) := by decide +kernel
theorem dX11_read_171 : decode cX11_read 171 = .ok (.iaload, 1) := by decide +kernel
theorem dX11_read_172 : decode cX11_read 172 = .ok (.aload_n 0, 1) := by decide +kernel
theorem dX11_read_173 : decode cX11_read 173 = .ok (.getfield 56, 3) := by decide +kernel
theorem dX11_read_176 : decode cX11_read 176 = .ok (.iload 8, 2) := by decide +kernel
theorem dX11_read_178 : decode cX11_read 178 = .ok (.iconst 3, 1) := by decide +kernel
theorem dX11_read_179 : decode cX11_read 179 = .ok (.iadd, 1) := by decide +kernel
theorem dX11_read_180 : decode cX11_read 180 = .ok (.iaload, 1) := by decide +kernel
theorem dX11_read_181 : decode cX11_read 181 = .ok (.aload_n 0, 1) := by decide +kernel
theorem dX11_read_182 : decode cX11_read 182 = .ok (.getfield 56, 3) := by decide +kernel
theorem dX11_read_185 : decode cX11_read 185 = .ok (.iload 8, 2) := by decide +kernel
theorem dX11_read_187 : decode cX11_read 187 = .ok (.iconst 4, 1) := by decide +kernel
theorem dX11_read_188 : decode cX11_read 188 = .ok (.iadd, 1) := by decide +kernel
theorem dX11_read_189 : decode cX11_read 189 = .ok (.iaload, 1) := by decide +kernel
theorem dX11_read_190 : decode cX11_read 190 = .ok (.invokevirtual 175, 3) := by decide +kernel
theorem dX11_read_193 : decode cX11_read 193 = .ok (.ifCond .ne 9, 3) := by decide +kernel
theorem dX11_read_196 : decode cX11_read 196 = .ok (.bipush (-20), 2) := by decide +kernel
theorem dX11_read_198 : decode cX11_read 198 = .ok (.iload 6, 2) := by decide +kernel
theorem dX11_read_200 : decode cX11_read 200 = .ok (.isub, 1) := by decide +kernel
theorem dX11_read_201 : decode cX11_read 201 = .ok (.ireturn, 1) := by decide +kernel
theorem dX11_read_202 : decode cX11_read 202 = .ok (.aload_n 0, 1) := by decide +kernel
theorem dX11_read_203 : decode cX11_read 203 = .ok (.invokevirtual 150, 3) := by decide +kernel
theorem dX11_read_206 : decode cX11_read 206 = .ok (.iload 6, 2) := by decide +kernel
theorem dX11_read_208 : decode cX11_read 208 = .ok (.iadd, 1) := by decide +kernel
theorem dX11_read_209 : decode cX11_read 209 = .ok (.bipush 40, 2) := by decide +kernel
theorem dX11_read_211 : decode cX11_read 211 = .ok (.if_icmp .ne 6, 3) := by decide +kernel
theorem dX11_read_214 : decode cX11_read 214 = .ok (.bipush (-3), 2) := by decide +kernel
theorem dX11_read_216 : decode cX11_read 216 = .ok (.ireturn, 1) := by decide +kernel
theorem dX11_read_217 : decode cX11_read 217 = .ok (.iinc 6 1, 3) := by decide +kernel
theorem dX11_read_220 : decode cX11_read 220 = .ok (.iinc 7 1, 3) := by decide +kernel
theorem dX11_read_223 : decode cX11_read 223 = .ok (.goto (-175), 3) := by decide +kernel
theorem dX11_read_226 : decode cX11_read 226 = .ok (.iconst 0, 1) := by decide +kernel
theorem dX11_read_227 : decode cX11_read 227 = .ok (.istore 7, 2) := by decide +kernel
theorem dX11_read_229 : decode cX11_read 229 = .ok (.iload 7, 2) := by decide +kernel
theorem dX11_read_231 : decode cX11_read 231 = .ok (.iload 6, 2) := by decide +kernel
theorem dX11_read_233 : decode cX11_read 233 = .ok (.if_icmp .ge 69, 3) := by decide +kernel
theorem dX11_read_236 : decode cX11_read 236 = .ok (.bipush 60, 2) := by decide +kernel
theorem dX11_read_238 : decode cX11_read 238 = .ok (.iload_n 1, 1) := by decide +kernel
theorem dX11_read_239 : decode cX11_read 239 = .ok (.imul, 1) := by decide +kernel
theorem dX11_read_240 : decode cX11_read 240 = .ok (.iload_n 3, 1) := by decide +kernel
theorem dX11_read_241 : decode cX11_read 241 = .ok (.iadd, 1) := by decide +kernel
theorem dX11_read_242 : decode cX11_read 242 = .ok (.iconst 5, 1) := by decide +kernel
theorem dX11_read_243 : decode cX11_read 243 = .ok (.iload 7, 2) := by decide +kernel
theorem dX11_read_245 : decode cX11_read 245 = .ok (.imul, 1) := by decide +kernel
theorem dX11_read_246 : decode cX11_read 246 = .ok (.iadd, 1) := by decide +kernel
theorem dX11_read_247 : decode cX11_read 247 = .ok (.istore 8, 2) := by decide +kernel
theorem dX11_read_249 : decode cX11_read 249 = .ok (.aload_n 0, 1) := by decide +kernel
theorem dX11_read_250 : decode cX11_read 250 = .ok (.aload_n 0, 1) := by decide +kernel
theorem dX11_read_251 : decode cX11_read 251 = .ok (.getfield 56, 3) := by decide +kernel
theorem dX11_read_254 : decode cX11_read 254 = .ok (.iload 8, 2) := by decide +kernel
theorem dX11_read_256 : decode cX11_read 256 = .ok (.iaload, 1) := by decide +kernel
theorem dX11_read_257 : decode cX11_read 257 = .ok (.aload_n 0, 1) := by decide +kernel
theorem dX11_read_258 : decode cX11_read 258 = .ok (.getfield 56, 3) := by decide +kernel
theorem dX11_read_261 : decode cX11_read 261 = .ok (.iload 8, 2) := by decide +kernel
theorem dX11_read_263 : decode cX11_read 263 = .ok (.iconst 1, 1) := by decide +kernel
theorem dX11_read_264 : decode cX11_read 264 = .ok (.iadd, 1) := by decide +kernel
theorem dX11_read_265 : decode cX11_read 265 = .ok (.iaload, 1) := by decide +kernel
theorem dX11_read_266 : decode cX11_read 266 = .ok (.aload_n 0, 1) := by decide +kernel
theorem dX11_read_267 : decode cX11_read 267 = .ok (.getfield 56, 3) := by decide +kernel
theorem dX11_read_270 : decode cX11_read 270 = .ok (.iload 8, 2) := by decide +kernel
theorem dX11_read_272 : decode cX11_read 272 = .ok (.iconst 2, 1) := by decide +kernel
theorem dX11_read_273 : decode cX11_read 273 = .ok (.iadd, 1) := by decide +kernel
theorem dX11_read_274 : decode cX11_read 274 = .ok (.iaload, 1) := by decide +kernel
theorem dX11_read_275 : decode cX11_read 275 = .ok (.aload_n 0, 1) := by decide +kernel
theorem dX11_read_276 : decode cX11_read 276 = .ok (.getfield 56, 3) := by decide +kernel
theorem dX11_read_279 : decode cX11_read 279 = .ok (.iload 8, 2) := by decide +kernel
theorem dX11_read_281 : decode cX11_read 281 = .ok (.iconst 3, 1) := by decide +kernel
theorem dX11_read_282 : decode cX11_read 282 = .ok (.iadd, 1) := by decide +kernel
theorem dX11_read_283 : decode cX11_read 283 = .ok (.iaload, 1) := by decide +kernel
theorem dX11_read_284 : decode cX11_read 284 = .ok (.aload_n 0, 1) := by decide +kernel
theorem dX11_read_285 : decode cX11_read 285 = .ok (.getfield 56, 3) := by decide +kernel
theorem dX11_read_288 : decode cX11_read 288 = .ok (.iload 8, 2) := by decide +kernel
theorem dX11_read_290 : decode cX11_read 290 = .ok (.iconst 4, 1) := by decide +kernel
theorem dX11_read_291 : decode cX11_read 291 = .ok (.iadd, 1) := by decide +kernel
theorem dX11_read_292 : decode cX11_read 292 = .ok (.iaload, 1) := by decide +kernel
theorem dX11_read_293 : decode cX11_read 293 = .ok (.invokevirtual 179, 3) := by decide +kernel
theorem dX11_read_296 : decode cX11_read 296 = .ok (.iinc 7 1, 3) := by decide +kernel
theorem dX11_read_299 : decode cX11_read 299 = .ok (.goto (-70), 3) := by decide +kernel
theorem dX11_read_302 : decode cX11_read 302 = .ok (.aload_n 0, 1) := by decide +kernel
theorem dX11_read_303 : decode cX11_read 303 = .ok (.iload 5, 2) := by decide +kernel
theorem dX11_read_305 : decode cX11_read 305 = .ok (.putfield 330, 3) := by decide +kernel
theorem dX11_read_308 : decode cX11_read 308 = .ok (.iload 6, 2) := by decide +kernel
theorem dX11_read_310 : decode cX11_read 310 = .ok (.ireturn, 1) := by decide +kernel
theorem dX11_torn_0 : decode cX11_torn 0 = .ok (.aload_n 0, 1) := by decide +kernel
theorem dX11_torn_1 : decode cX11_torn 1 = .ok (.getfield 330, 3) := by decide +kernel
theorem dX11_torn_4 : decode cX11_torn 4 = .ok (.ireturn, 1) := by decide +kernel
theorem dX11_count_0 : decode cX11_count 0 = .ok (.iconst 0, 1) := by decide +kernel
theorem dX11_count_1 : decode cX11_count 1 = .ok (.istore_n 2, 1) := by decide +kernel
theorem dX11_count_2 : decode cX11_count 2 = .ok (.iconst 0, 1) := by decide +kernel
theorem dX11_count_3 : decode cX11_count 3 = .ok (.istore_n 3, 1) := by decide +kernel
theorem dX11_count_4 : decode cX11_count 4 = .ok (.iload_n 3, 1) := by decide +kernel
theorem dX11_count_5 : decode cX11_count 5 = .ok (.aload_n 0, 1) := by decide +kernel
theorem dX11_count_6 : decode cX11_count 6 = .ok (.getfield 22, 3) := by decide +kernel
theorem dX11_count_9 : decode cX11_count 9 = .ok (.iconst 0, 1) := by decide +kernel
theorem dX11_count_10 : decode cX11_count 10 = .ok (.iaload, 1) := by decide +kernel
theorem dX11_count_11 : decode cX11_count 11 = .ok (.if_icmp .ge 18, 3) := by decide +kernel
theorem dX11_count_14 : decode cX11_count 14 = .ok (.iload_n 2, 1) := by decide +kernel
theorem dX11_count_15 : decode cX11_count 15 = .ok (.aload_n 0, 1) := by decide +kernel
theorem dX11_count_16 : decode cX11_count 16 = .ok (.iload_n 3, 1) := by decide +kernel
theorem dX11_count_17 : decode cX11_count 17 = .ok (.iconst 1, 1) := by decide +kernel
theorem dX11_count_18 : decode cX11_count 18 = .ok (.invokevirtual 156, 3) := by decide +kernel
theorem dX11_count_21 : decode cX11_count 21 = .ok (.iadd, 1) := by decide +kernel
theorem dX11_count_22 : decode cX11_count 22 = .ok (.istore_n 2, 1) := by decide +kernel
theorem dX11_count_23 : decode cX11_count 23 = .ok (.iinc 3 1, 3) := by decide +kernel
theorem dX11_count_26 : decode cX11_count 26 = .ok (.goto (-22), 3) := by decide +kernel
theorem dX11_count_29 : decode cX11_count 29 = .ok (.iload_n 1, 1) := by decide +kernel
theorem dX11_count_30 : decode cX11_count 30 = .ok (.tableswitch 99 0 4 #[34, 39, 44, 67, 97], 34) := by decide +kernel
theorem dX11_count_64 : decode cX11_count 64 = .ok (.aload_n 0, 1) := by decide +kernel
theorem dX11_count_65 : decode cX11_count 65 = .ok (.invokevirtual 150, 3) := by decide +kernel
theorem dX11_count_68 : decode cX11_count 68 = .ok (.ireturn, 1) := by decide +kernel
theorem dX11_count_69 : decode cX11_count 69 = .ok (.aload_n 0, 1) := by decide +kernel
theorem dX11_count_70 : decode cX11_count 70 = .ok (.getfield 59, 3) := by decide +kernel
theorem dX11_count_73 : decode cX11_count 73 = .ok (.ireturn, 1) := by decide +kernel
theorem dX11_count_74 : decode cX11_count 74 = .ok (.aload_n 0, 1) := by decide +kernel
theorem dX11_count_75 : decode cX11_count 75 = .ok (.getfield 50, 3) := by decide +kernel
theorem dX11_count_78 : decode cX11_count 78 = .ok (.iconst 0, 1) := by decide +kernel
theorem dX11_count_79 : decode cX11_count 79 = .ok (.iaload, 1) := by decide +kernel
theorem dX11_count_80 : decode cX11_count 80 = .ok (.bipush (-4), 2) := by decide +kernel
theorem dX11_count_82 : decode cX11_count 82 = .ok (.if_icmp .ne 8, 3) := by decide +kernel
theorem dX11_count_85 : decode cX11_count 85 = .ok (.bipush (-4), 2) := by decide +kernel
theorem dX11_count_87 : decode cX11_count 87 = .ok (.goto 9, 3) := by decide +kernel
theorem dX11_count_90 : decode cX11_count 90 = .ok (.aload_n 0, 1) := by decide +kernel
theorem dX11_count_91 : decode cX11_count 91 = .ok (.getfield 53, 3) := by decide +kernel
theorem dX11_count_94 : decode cX11_count 94 = .ok (.iconst 0, 1) := by decide +kernel
theorem dX11_count_95 : decode cX11_count 95 = .ok (.iaload, 1) := by decide +kernel
theorem dX11_count_96 : decode cX11_count 96 = .ok (.ireturn, 1) := by decide +kernel
theorem dX11_count_97 : decode cX11_count 97 = .ok (.aload_n 0, 1) := by decide +kernel
theorem dX11_count_98 : decode cX11_count 98 = .ok (.getfield 46, 3) := by decide +kernel
theorem dX11_count_101 : decode cX11_count 101 = .ok (.iconst 0, 1) := by decide +kernel
theorem dX11_count_102 : decode cX11_count 102 = .ok (.baload, 1) := by decide +kernel
theorem dX11_count_103 : decode cX11_count 103 = .ok (.ifCond .eq 7, 3) := by decide +kernel
theorem dX11_count_106 : decode cX11_count 106 = .ok (.iconst 1, 1) := by decide +kernel
theorem dX11_count_107 : decode cX11_count 107 = .ok (.goto 4, 3) := by decide +kernel
theorem dX11_count_110 : decode cX11_count 110 = .ok (.iconst 0, 1) := by decide +kernel
theorem dX11_count_111 : decode cX11_count 111 = .ok (.aload_n 0, 1) := by decide +kernel
theorem dX11_count_112 : decode cX11_count 112 = .ok (.getfield 46, 3) := by decide +kernel
theorem dX11_count_115 : decode cX11_count 115 = .ok (.iconst 1, 1) := by decide +kernel
theorem dX11_count_116 : decode cX11_count 116 = .ok (.baload, 1) := by decide +kernel
theorem dX11_count_117 : decode cX11_count 117 = .ok (.ifCond .eq 7, 3) := by decide +kernel
theorem dX11_count_120 : decode cX11_count 120 = .ok (.iconst 1, 1) := by decide +kernel
theorem dX11_count_121 : decode cX11_count 121 = .ok (.goto 4, 3) := by decide +kernel
theorem dX11_count_124 : decode cX11_count 124 = .ok (.iconst 0, 1) := by decide +kernel
theorem dX11_count_125 : decode cX11_count 125 = .ok (.iadd, 1) := by decide +kernel
theorem dX11_count_126 : decode cX11_count 126 = .ok (.ireturn, 1) := by decide +kernel
theorem dX11_count_127 : decode cX11_count 127 = .ok (.iload_n 2, 1) := by decide +kernel
theorem dX11_count_128 : decode cX11_count 128 = .ok (.ireturn, 1) := by decide +kernel
theorem dX11_count_129 : decode cX11_count 129 = .ok (.iconst (-1), 1) := by decide +kernel
theorem dX11_count_130 : decode cX11_count 130 = .ok (.ireturn, 1) := by decide +kernel
