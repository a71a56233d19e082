theorem dX6_init_11 : decode cX6_init 11 = .ok (.sipush 200, 3) := by decide +kernel
theorem dX6_init_14 : decode cX6_init 14 = .ok (.iastore, 1) := by decide +kernel
theorem dX6_init_15 : decode cX6_init 15 = .ok (.dup, 1) := by decide +kernel
theorem dX6_init_16 : decode cX6_init 16 = .ok (.iconst 1, 1) := by decide +kernel
theorem dX6_init_17 : decode cX6_init 17 = .ok (.sipush 200, 3) := by decide +kernel
theorem dX6_init_20 : decode cX6_init 20 = .ok (.iastore, 1) := by decide +kernel
theorem dX6_init_21 : decode cX6_init 21 = .ok (.dup, 1) := by decide +kernel
theorem dX6_init_22 : decode cX6_init 22 = .ok (.iconst 2, 1) := by decide +kernel
theorem dX6_init_23 : decode cX6_init 23 = .ok (.sipush 200, 3) := by decide +kernel
theorem dX6_init_26 : decode cX6_init 26 = .ok (.iastore, 1) := by decide +kernel
theorem dX6_init_27 : decode cX6_init 27 = .ok (.dup, 1) := by decide +kernel
theorem dX6_init_28 : decode cX6_init 28 = .ok (.iconst 3, 1) := by decide +kernel
theorem dX6_init_29 : decode cX6_init 29 = .ok (.sipush 200, 3) := by decide +kernel
theorem dX6_init_32 : decode cX6_init 32 = .ok (.iastore, 1) := by decide +kernel
theorem dX6_init_33 : decode cX6_init 33 = .ok (.dup, 1) := by decide +kernel
theorem dX6_init_34 : decode cX6_init 34 = .ok (.iconst 4, 1) := by decide +kernel
theorem dX6_init_35 : decode cX6_init 35 = .ok (.sipush 200, 3) := by decide +kernel
theorem dX6_init_38 : decode cX6_init 38 = .ok (.iastore, 1) := by decide +kernel
theorem dX6_init_39 : decode cX6_init 39 = .ok (.dup, 1) := by decide +kernel
theorem dX6_init_40 : decode cX6_init 40 = .ok (.iconst 5, 1) := by decide +kernel
theorem dX6_init_41 : decode cX6_init 41 = .ok (.sipush 200, 3) := by decide +kernel
theorem dX6_init_44 : decode cX6_init 44 = .ok (.iastore, 1) := by decide +kernel
theorem dX6_init_45 : decode cX6_init 45 = .ok (.dup, 1) := by decide +kernel
theorem dX6_init_46 : decode cX6_init 46 = .ok (.bipush 6, 2) := by decide +kernel
theorem dX6_init_48 : decode cX6_init 48 = .ok (.sipush 200, 3) := by decide +kernel
theorem dX6_init_51 : decode cX6_init 51 = .ok (.iastore, 1) := by decide +kernel
theorem dX6_init_52 : decode cX6_init 52 = .ok (.dup, 1) := by decide +kernel
theorem dX6_init_53 : decode cX6_init 53 = .ok (.bipush 7, 2) := by decide +kernel
theorem dX6_init_55 : decode cX6_init 55 = .ok (.sipush 200, 3) := by decide +kernel
theorem dX6_init_58 : decode cX6_init 58 = .ok (.iastore, 1) := by decide +kernel
theorem dX6_init_59 : decode cX6_init 59 = .ok (.putfield 7, 3) := by decide +kernel
theorem dX6_init_62 : decode cX6_init 62 = .ok (.aload_n 0, 1) := by decide +kernel
theorem dX6_init_63 : decode cX6_init 63 = .ok (.bipush 8, 2) := by decide +kernel
theorem dX6_init_65 : decode cX6_init 65 = .ok (.newarray .int, 2) := by decide +kernel
theorem dX6_init_67 : decode cX6_init 67 = .ok (.dup, 1) := by decide +kernel
theorem dX6_init_68 : decode cX6_init 68 = .ok (.iconst 0, 1) := by decide +kernel
theorem dX6_init_69 : decode cX6_init 69 = .ok (.sipush 600, 3) := by decide +kernel
theorem dX6_init_72 : decode cX6_init 72 = .ok (.iastore, 1) := by decide +kernel
theorem dX6_init_73 : decode cX6_init 73 = .ok (.dup, 1) := by decide +kernel
theorem dX6_init_74 : decode cX6_init 74 = .ok (.iconst 1, 1) := by decide +kernel
theorem dX6_init_75 : decode cX6_init 75 = .ok (.sipush 600, 3) := by decide +kernel
theorem dX6_init_78 : decode cX6_init 78 = .ok (.iastore, 1) := by decide +kernel
theorem dX6_init_79 : decode cX6_init 79 = .ok (.dup, 1) := by decide +kernel
theorem dX6_init_80 : decode cX6_init 80 = .ok (.iconst 2, 1) := by decide +kernel
theorem dX6_init_81 : decode cX6_init 81 = .ok (.sipush 600, 3) := by decide +kernel
theorem dX6_init_84 : decode cX6_init 84 = .ok (.iastore, 1) := by decide +kernel
theorem dX6_init_85 : decode cX6_init 85 = .ok (.dup, 1) := by decide +kernel
theorem dX6_init_86 : decode cX6_init 86 = .ok (.iconst 3, 1) := by decide +kernel
theorem dX6_init_87 : decode cX6_init 87 = .ok (.sipush 600, 3) := by decide +kernel
theorem dX6_init_90 : decode cX6_init 90 = .ok (.iastore, 1) := by decide +kernel
theorem dX6_init_91 : decode cX6_init 91 = .ok (.dup, 1) := by decide +kernel
theorem dX6_init_92 : decode cX6_init 92 = .ok (.iconst 4, 1) := by decide +kernel
theorem dX6_init_93 : decode cX6_init 93 = .ok (.sipush 600, 3) := by decide +kernel
theorem dX6_init_96 : decode cX6_init 96 = .ok (.iastore, 1) := by decide +kernel
theorem dX6_init_97 : decode cX6_init 97 = .ok (.dup, 1) := by decide +kernel
theorem dX6_init_98 : decode cX6_init 98 = .ok (.iconst 5, 1) := by decide +kernel
theorem dX6_init_99 : decode cX6_init 99 = .ok (.sipush 600, 3) := by decide +kernel
theorem dX6_init_102 : decode cX6_init 102 = .ok (.iastore, 1) := by decide +kernel
theorem dX6_init_103 : decode cX6_init 103 = .ok (.dup, 1) := by decide +kernel
theorem dX6_init_104 : decode cX6_init 104 = .ok (.bipush 6, 2) := by decide +kernel
theorem dX6_init_106 : decode cX6_init 106 = .ok (.sipush 600, 3) := by decide +kernel
theorem dX6_init_109 : decode cX6_init 109 = .ok (.iastore, 1) := by decide +kernel
theorem dX6_init_110 : decode cX6_init 110 = .ok (.dup, 1) := by decide +kernel
theorem dX6_init_111 : decode cX6_init 111 = .ok (.bipush 7, 2) := by decide +kernel
theorem dX6_init_113 : decode cX6_init 113 = .ok (.sipush 600, 3) := by decide +kernel
theorem dX6_init_116 : decode cX6_init 116 = .ok (.iastore, 1) := by decide +kernel
theorem dX6_init_117 : decode cX6_init 117 = .ok (.putfield 13, 3) := by decide +kernel
theorem dX6_init_120 : decode cX6_init 120 = .ok (.aload_n 0, 1) := by decide +kernel
theorem dX6_init_121 : decode cX6_init 121 = .ok (.bipush 8, 2) := by decide +kernel
theorem dX6_init_123 : decode cX6_init 123 = .ok (.newarray .int, 2) := by decide +kernel
theorem dX6_init_125 : decode cX6_init 125 = .ok (.dup, 1) := by decide +kernel
theorem dX6_init_126 : decode cX6_init 126 = .ok (.iconst 0, 1) := by decide +kernel
theorem dX6_init_127 : decode cX6_init 127 = .ok (.iconst 1, 1) := by decide +kernel
theorem dX6_init_128 : decode cX6_init 128 = .ok (.iastore, 1) := by decide +kernel
theorem dX6_init_129 : decode cX6_init 129 = .ok (.dup, 1) := by decide +kernel
theorem dX6_init_130 : decode cX6_init 130 = .ok (.iconst 1, 1) := by decide +kernel
theorem dX6_init_131 : decode cX6_init 131 = .ok (.iconst 1, 1) := by decide +kernel
theorem dX6_init_132 : decode cX6_init 132 = .ok (.iastore, 1) := by decide +kernel
theorem dX6_init_133 : decode cX6_init 133 = .ok (.dup, 1) := by decide +kernel
theorem dX6_init_134 : decode cX6_init 134 = .ok (.iconst 2, 1) := by decide +kernel
theorem dX6_init_135 : decode cX6_init 135 = .ok (.iconst 1, 1) := by decide +kernel
theorem dX6_init_136 : decode cX6_init 136 = .ok (.iastore, 1) := by decide +kernel
theorem dX6_init_137 : decode cX6_init 137 = .ok (.dup, 1) := by decide +kernel
theorem dX6_init_138 : decode cX6_init 138 = .ok (.iconst 3, 1) := by decide +kernel
theorem dX6_init_139 : decode cX6_init 139 = .ok (.iconst 1, 1) := by decide +kernel
theorem dX6_init_140 : decode cX6_init 140 = .ok (.iastore, 1) := by decide +kernel
theorem dX6_init_141 : decode cX6_init 141 = .ok (.dup, 1) := by decide +kernel
theorem dX6_init_142 : decode cX6_init 142 = .ok (.iconst 4, 1) := by decide +kernel
theorem dX6_init_143 : decode cX6_init 143 = .ok (.iconst 1, 1) := by decide +kernel
theorem dX6_init_144 : decode cX6_init 144 = .ok (.iastore, 1) := by decide +kernel
theorem dX6_init_145 : decode cX6_init 145 = .ok (.dup, 1) := by decide +kernel
theorem dX6_init_146 : decode cX6_init 146 = .ok (.iconst 5, 1) := by decide +kernel
theorem dX6_init_147 : decode cX6_init 147 = .ok (.iconst 1, 1) := by decide +kernel
theorem dX6_init_148 : decode cX6_init 148 = .ok (.iastore, 1) := by decide +kernel
theorem dX6_init_149 : decode cX6_init 149 = .ok (.dup, 1) := by decide +kernel
theorem dX6_init_150 : decode cX6_init 150 = .ok (.bipush 6, 2) := by decide +kernel
theorem dX6_init_152 : decode cX6_init 152 = .ok (.iconst 1, 1) := by decide +kernel
theorem dX6_init_153 : decode cX6_init 153 = .ok (.iastore, 1) := by decide +kernel
theorem dX6_init_154 : decode cX6_init 154 = .ok (.dup, 1) := by decide +kernel
theorem dX6_init_155 : decode cX6_init 155 = .ok (.bipush 7, 2) := by decide +kernel
theorem dX6_init_157 : decode cX6_init 157 = .ok (.iconst 1, 1) := by decide +kernel
theorem dX6_init_158 : decode cX6_init 158 = .ok (.iastore, 1) := by decide +kernel
theorem dX6_init_159 : decode cX6_init 159 = .ok (.putfield 16, 3) := by decide +kernel
theorem dX6_init_162 : decode cX6_init 162 = .ok (.aload_n 0, 1) := by decide +kernel
theorem dX6_init_163 : decode cX6_init 163 = .ok (.bipush 8, 2) := by decide +kernel
theorem dX6_init_165 : decode cX6_init 165 = .ok (.newarray .int, 2) := by decide +kernel
theorem dX6_init_167 : decode cX6_init 167 = .ok (.dup, 1) := by decide +kernel
theorem dX6_init_168 : decode cX6_init 168 = .ok (.iconst 0, 1) := by decide +kernel
theorem dX6_init_169 : decode cX6_init 169 = .ok (.iconst 2, 1) := by decide +kernel
theorem dX6_init_170 : decode cX6_init 170 = .ok (.iastore, 1) := by decide +kernel
theorem dX6_init_171 : decode cX6_init 171 = .ok (.dup, 1) := by decide +kernel
theorem dX6_init_172 : decode cX6_init 172 = .ok (.iconst 1, 1) := by decide +kernel
theorem dX6_init_173 : decode cX6_init 173 = .ok (.iconst 2, 1) := by decide +kernel
theorem dX6_init_174 : decode cX6_init 174 = .ok (.iastore, 1) := by decide +kernel
theorem dX6_init_175 : decode cX6_init 175 = .ok (.dup, 1) := by decide +kernel
theorem dX6_init_176 : decode cX6_init 176 = .ok (.iconst 2, 1) := by decide +kernel
theorem dX6_init_177 : decode cX6_init 177 = .ok (.iconst 2, 1) := by decide +kernel
theorem dX6_init_178 : decode cX6_init 178 = .ok (.iastore, 1) := by decide +kernel
theorem dX6_init_179 : decode cX6_init 179 = .ok (.dup, 1) := by decide +kernel
theorem dX6_init_180 : decode cX6_init 180 = .ok (.iconst 3, 1) := by decide +kernel
theorem dX6_init_181 : decode cX6_init 181 = .ok (.iconst 2, 1) := by decide +kernel
theorem dX6_init_182 : decode cX6_init 182 = .ok (.iastore, 1) := by decide +kernel
theorem dX6_init_183 : decode cX6_init 183 = .ok (.dup, 1) := by decide +kernel
theorem dX6_init_184 : decode cX6_init 184 = .ok (.iconst 4, 1) := by decide +kernel
theorem dX6_init_185 : decode cX6_init 185 = .ok (.iconst 2, 1) := by decide +kernel
theorem dX6_init_186 : decode cX6_init 186 = .ok (.iastore, 1) := by decide +kernel
theorem dX6_init_187 : decode cX6_init 187 = .ok (.dup, 1) := by decide +kernel
theorem dX6_init_188 : decode cX6_init 188 = .ok (.iconst 5, 1) := by decide +kernel
theorem dX6_init_189 : decode cX6_init 189 = .ok (.iconst 2, 1) := by decide +kernel
theorem dX6_init_190 : decode cX6_init 190 = .ok (.iastore, 1) := by decide +kernel
theorem dX6_init_191 : decode cX6_init 191 = .ok (.dup, 1) := by decide +kernel
theorem dX6_init_192 : decode cX6_init 192 = .ok (.bipush 6, 2) := by decide +kernel
theorem dX6_init_194 : decode cX6_init 194 = .ok (.iconst 2, 1) := by decide +kernel
theorem dX6_init_195 : decode cX6_init 195 = .ok (.iastore, 1) := by decide +kernel
theorem dX6_init_196 : decode cX6_init 196 = .ok (.dup, 1) := by decide +kernel
theorem dX6_init_197 : decode cX6_init 197 = .ok (.bipush 7, 2) := by decide +kernel
theorem dX6_init_199 : decode cX6_init 199 = .ok (.iconst 2, 1) := by decide +kernel
theorem dX6_init_200 : decode cX6_init 200 = .ok (.iastore, 1) := by decide +kernel
theorem dX6_init_201 : decode cX6_init 201 = .ok (.putfield 19, 3) := by decide +kernel
theorem dX6_init_204 : decode cX6_init 204 = .ok (.aload_n 0, 1) := by decide +kernel
theorem dX6_init_205 : decode cX6_init 205 = .ok (.sipush 256, 3) := by decide +kernel
theorem dX6_init_208 : decode cX6_init 208 = .ok (.newarray .int, 2) := by decide +kernel
theorem dX6_init_210 : decode cX6_init 210 = .ok (.putfield 22, 3) := by decide +kernel
theorem dX6_init_213 : decode cX6_init 213 = .ok (.aload_n 0, 1) := by decide +kernel
theorem dX6_init_214 : decode cX6_init 214 = .ok (.bipush 8, 2) := by decide +kernel
theorem dX6_init_216 : decode cX6_init 216 = .ok (.newarray .int, 2) := by decide +kernel
theorem dX6_init_218 : decode cX6_init 218 = .ok (.putfield 25, 3) := by decide +kernel
theorem dX6_init_221 : decode cX6_init 221 = .ok (.aload_n 0, 1) := by decide +kernel
theorem dX6_init_222 : decode cX6_init 222 = .ok (.bipush 64, 2) := by decide +kernel
theorem dX6_init_224 : decode cX6_init 224 = .ok (.newarray .int, 2) := by decide +kernel
theorem dX6_init_226 : decode cX6_init 226 = .ok (.putfield 28, 3) := by decide +kernel
theorem dX6_init_229 : decode cX6_init 229 = .ok (.aload_n 0, 1) := by decide +kernel
theorem dX6_init_230 : decode cX6_init 230 = .ok (.bipush 120, 2) := by decide +kernel
theorem dX6_init_232 : decode cX6_init 232 = .ok (.newarray .int, 2) := by decide +kernel
theorem dX6_init_234 : decode cX6_init 234 = .ok (.putfield 31, 3) := by decide +kernel
theorem dX6_init_237 : decode cX6_init 237 = .ok (.aload_n 0, 1) := by decide +kernel
theorem dX6_init_238 : decode cX6_init 238 = .ok (.bipush 120, 2) := by decide +kernel
theorem dX6_init_240 : decode cX6_init 240 = .ok (.newarray .int, 2) := by decide +kernel
theorem dX6_init_242 : decode cX6_init 242 = .ok (.putfield 34, 3) := by decide +kernel
theorem dX6_init_245 : decode cX6_init 245 = .ok (.aload_n 0, 1) := by decide +kernel
theorem dX6_init_246 : decode cX6_init 246 = .ok (.bipush 120, 2) := by decide +kernel
theorem dX6_init_248 : decode cX6_init 248 = .ok (.newarray .int, 2) := by decide +kernel
theorem dX6_init_250 : decode cX6_init 250 = .ok (.putfield 37, 3) := by decide +kernel
theorem dX6_init_253 : decode cX6_init 253 = .ok (.aload_n 0, 1) := by decide +kernel
theorem dX6_init_254 : decode cX6_init 254 = .ok (.bipush 120, 2) := by decide +kernel
theorem dX6_init_256 : decode cX6_init 256 = .ok (.newarray .int, 2) := by decide +kernel
theorem dX6_init_258 : decode cX6_init 258 = .ok (.putfield 40, 3) := by decide +kernel
theorem dX6_init_261 : decode cX6_init 261 = .ok (.aload_n 0, 1) := by decide +kernel
theorem dX6_init_262 : decode cX6_init 262 = .ok (.bipush 120, 2) := by decide +kernel
theorem dX6_init_264 : decode cX6_init 264 = .ok (.newarray .int, 2) := by decide +kernel
theorem dX6_init_266 : decode cX6_init 266 = .ok (.putfield 43, 3) := by decide +kernel
theorem dX6_init_269 : decode cX6_init 269 = .ok (.aload_n 0, 1) := by decide +kernel
theorem dX6_init_270 : decode cX6_init 270 = .ok (.bipush 120, 2) := by decide +kernel
theorem dX6_init_272 : decode cX6_init 272 = .ok (.newarray .int, 2) := by decide +kernel
theorem dX6_init_274 : decode cX6_init 274 = .ok (.putfield 46, 3) := by decide +kernel
theorem dX6_init_277 : decode cX6_init 277 = .ok (.aload_n 0, 1) := by decide +kernel
theorem dX6_init_278 : decode cX6_init 278 = .ok (.bipush 120, 2) := by decide +kernel
theorem dX6_init_280 : decode cX6_init 280 = .ok (.newarray .int, 2) := by decide +kernel
theorem dX6_init_282 : decode cX6_init 282 = .ok (.putfield 49, 3) := by decide +kernel
theorem dX6_init_285 : decode cX6_init 285 = .ok (.aload_n 0, 1) := by decide +kernel
theorem dX6_init_286 : decode cX6_init 286 = .ok (.bipush 120, 2) := by decide +kernel
theorem dX6_init_288 : decode cX6_init 288 = .ok (.newarray .int, 2) := by decide +kernel
theorem dX6_init_290 : decode cX6_init 290 = .ok (.putfield 52, 3) := by decide +kernel
theorem dX6_init_293 : decode cX6_init 293 = .ok (.aload_n 0, 1) := by decide +kernel
theorem dX6_init_294 : decode cX6_init 294 = .ok (.bipush 120, 2) := by decide +kernel
theorem dX6_init_296 : decode cX6_init 296 = .ok (.newarray .int, 2) := by decide +kernel
theorem dX6_init_298 : decode cX6_init 298 = .ok (.putfield 55, 3) := by decide +kernel
theorem dX6_init_301 : decode cX6_init 301 = .ok (.aload_n 0, 1) := by decide +kernel
theorem dX6_init_302 : decode cX6_init 302 = .ok (.bipush 60, 2) := by decide +kernel
theorem dX6_init_304 : decode cX6_init 304 = .ok (.newarray .int, 2) := by decide +kernel
theorem dX6_init_306 : decode cX6_init 306 = .ok (.putfield 58, 3) := by decide +kernel
theorem dX6_init_309 : decode cX6_init 309 = .ok (.aload_n 0, 1) := by decide +kernel
theorem dX6_init_310 : decode cX6_init 310 = .ok (.bipush 60, 2) := by decide +kernel
theorem dX6_init_312 : decode cX6_init 312 = .ok (.newarray .int, 2) := by decide +kernel
theorem dX6_init_314 : decode cX6_init 314 = .ok (.putfield 61, 3) := by decide +kernel
theorem dX6_init_317 : decode cX6_init 317 = .ok (.aload_n 0, 1) := by decide +kernel
theorem dX6_init_318 : decode cX6_init 318 = .ok (.bipush 60, 2) := by decide +kernel
theorem dX6_init_320 : decode cX6_init 320 = .ok (.newarray .int, 2) := by decide +kernel
theorem dX6_init_322 : decode cX6_init 322 = .ok (.putfield 64, 3) := by decide +kernel
theorem dX6_init_325 : decode cX6_init 325 = .ok (.aload_n 0, 1) := by decide +kernel
theorem dX6_init_326 : decode cX6_init 326 = .ok (.bipush 60, 2) := by decide +kernel
theorem dX6_init_328 : decode cX6_init 328 = .ok (.newarray .int, 2) := by decide +kernel
theorem dX6_init_330 : decode cX6_init 330 = .ok (.putfield 67, 3) := by decide +kernel
theorem dX6_init_333 : decode cX6_init 333 = .ok (.iconst 0, 1) := by decide +kernel
theorem dX6_init_334 : decode cX6_init 334 = .ok (.istore_n 1, 1) := by decide +kernel
theorem dX6_init_335 : decode cX6_init 335 = .ok (.iload_n 1, 1) := by decide +kernel
theorem dX6_init_336 : decode cX6_init 336 = .ok (.sipush 256, 3) := by decide +kernel
theorem dX6_init_339 : decode cX6_init 339 = .ok (.if_icmp .ge 16, 3) := by decide +kernel
theorem dX6_init_342 : decode cX6_init 342 = .ok (.aload_n 0, 1) := by decide +kernel
theorem dX6_init_343 : decode cX6_init 343 = .ok (.getfield 22, 3) := by decide +kernel
theorem dX6_init_346 : decode cX6_init 346 = .ok (.iload_n 1, 1) := by decide +kernel
theorem dX6_init_347 : decode cX6_init 347 = .ok (.iconst 1, 1) := by decide +kernel
theorem dX6_init_348 : decode cX6_init 348 = .ok (.iastore, 1) := by decide +kernel
theorem dX6_init_349 : decode cX6_init 349 = .ok (.iinc 1 1, 3) := by decide +kernel
theorem dX6_init_352 : decode cX6_init 352 = .ok (.goto (-17), 3) := by decide +kernel
theorem dX6_init_355 : decode cX6_init 355 = .ok (.return_, 1) := by decide +kernel
theorem dX6_thrown_0 : decode cX6_thrown 0 = .ok (.aload_n 0, 1) := by decide +kernel
theorem dX6_thrown_1 : decode cX6_thrown 1 = .ok (.getfield 70, 3) := by decide +kernel
theorem dX6_thrown_4 : decode cX6_thrown 4 = .ok (.ireturn, 1) := by decide +kernel
theorem dX6_throwing_0 : decode cX6_throwing 0 = .ok (.aload_n 0, 1) := by decide +kernel
theorem dX6_throwing_1 : decode cX6_throwing 1 = .ok (.iload_n 1, 1) := by decide +kernel
theorem dX6_throwing_2 : decode cX6_throwing 2 = .ok (.ifCond .eq 7, 3) := by decide +kernel
theorem dX6_throwing_5 : decode cX6_throwing 5 = .ok (.iconst 1, 1) := by decide +kernel
theorem dX6_throwing_6 : decode cX6_throwing 6 = .ok (.goto 20, 3) := by decide +kernel
theorem dX6_throwing_9 : decode cX6_throwing 9 = .ok (.iload_n 2, 1) := by decide +kernel
theorem dX6_throwing_10 : decode cX6_throwing 10 = .ok (.ifCond .eq 7, 3) := by decide +kernel
theorem dX6_throwing_13 : decode cX6_throwing 13 = .ok (.iconst 2, 1) := by decide +kernel
theorem dX6_throwing_14 : decode cX6_throwing 14 = .ok (.goto 12, 3) := by decide +kernel
theorem dX6_throwing_17 : decode cX6_throwing 17 = .ok (.iload_n 3, 1) := by decide +kernel
theorem dX6_throwing_18 : decode cX6_throwing 18 = .ok (.ifCond .eq 7, 3) := by decide +kernel
theorem dX6_throwing_21 : decode cX6_throwing 21 = .ok (.iconst 3, 1) := by decide +kernel
theorem dX6_throwing_22 : decode cX6_throwing 22 = .ok (.goto 4, 3) := by decide +kernel
theorem dX6_throwing_25 : decode cX6_throwing 25 = .ok (.iconst 0, 1) := by decide +kernel
theorem dX6_throwing_26 : decode cX6_throwing 26 = .ok (.putfield 70, 3) := by decide +kernel
theorem dX6_throwing_29 : decode cX6_throwing 29 = .ok (.aload_n 0, 1) := by decide +kernel
theorem dX6_throwing_30 : decode cX6_throwing 30 = .ok (.getfield 70, 3) := by decide +kernel
theorem dX6_throwing_33 : decode cX6_throwing 33 = .ok (.ifCond .le 7, 3) := by decide +kernel
theorem dX6_throwing_36 : decode cX6_throwing 36 = .ok (.iconst 1, 1) := by decide +kernel
theorem dX6_throwing_37 : decode cX6_throwing 37 = .ok (.goto 4, 3) := by decide +kernel
theorem dX6_throwing_40 : decode cX6_throwing 40 = .ok (.iconst 0, 1) := by decide +kernel
theorem dX6_throwing_41 : decode cX6_throwing 41 = .ok (.ireturn, 1) := by decide +kernel
theorem dX6_in_0 : decode cX6_in 0 = .ok (.iload_n 0, 1) := by decide +kernel
theorem dX6_in_1 : decode cX6_in 1 = .ok (.iload_n 1, 1) := by decide +kernel
theorem dX6_in_2 : decode cX6_in 2 = .ok (.if_icmp .lt 12, 3) := by decide +kernel
theorem dX6_in_5 : decode cX6_in 5 = .ok (.iload_n 0, 1) := by decide +kernel
theorem dX6_in_6 : decode cX6_in 6 = .ok (.iload_n 2, 1) := by decide +kernel
theorem dX6_in_7 : decode cX6_in 7 = .ok (.if_icmp .gt 7, 3) := by decide +kernel
theorem dX6_in_10 : decode cX6_in 10 = .ok (.iconst 1, 1) := by decide +kernel
theorem dX6_in_11 : decode cX6_in 11 = .ok (.goto 4, 3) := by decide +kernel
theorem dX6_in_14 : decode cX6_in 14 = .ok (.iconst 0, 1) := by decide +kernel
theorem dX6_in_15 : decode cX6_in 15 = .ok (.ireturn, 1) := by decide +kernel
theorem dX6_isKind_0 : decode cX6_isKind 0 = .ok (.iload_n 0, 1) := by decide +kernel
theorem dX6_isKind_1 : decode cX6_isKind 1 = .ok (.iconst 0, 1) := by decide +kernel
theorem dX6_isKind_2 : decode cX6_isKind 2 = .ok (.bipush 7, 2) := by decide +kernel
theorem dX6_isKind_4 : decode cX6_isKind 4 = .ok (.invokestatic 74, 3) := by decide +kernel
theorem dX6_isKind_7 : decode cX6_isKind 7 = .ok (.ireturn, 1) := by decide +kernel
theorem dX6_isRoad_0 : decode cX6_isRoad 0 = .ok (.iload_n 0, 1) := by decide +kernel
theorem dX6_isRoad_1 : decode cX6_isRoad 1 = .ok (.iconst 0, 1) := by decide +kernel
theorem dX6_isRoad_2 : decode cX6_isRoad 2 = .ok (.bipush 7, 2) := by decide +kernel
theorem dX6_isRoad_4 : decode cX6_isRoad 4 = .ok (.invokestatic 74, 3) := by decide +kernel
theorem dX6_isRoad_7 : decode cX6_isRoad 7 = .ok (.ireturn, 1) := by decide +kernel
theorem dX6_isCall_0 : decode cX6_isCall 0 = .ok (.iload_n 1, 1) := by decide +kernel
theorem dX6_isCall_1 : decode cX6_isCall 1 = .ok (.iconst 0, 1) := by decide +kernel
theorem dX6_isCall_2 : decode cX6_isCall 2 = .ok (.aload_n 0, 1) := by decide +kernel
theorem dX6_isCall_3 : decode cX6_isCall 3 = .ok (.getfield 78, 3) := by decide +kernel
theorem dX6_isCall_6 : decode cX6_isCall 6 = .ok (.iconst 1, 1) := by decide +kernel
theorem dX6_isCall_7 : decode cX6_isCall 7 = .ok (.isub, 1) := by decide +kernel
theorem dX6_isCall_8 : decode cX6_isCall 8 = .ok (.invokestatic 74, 3) := by decide +kernel
theorem dX6_isCall_11 : decode cX6_isCall 11 = .ok (.ireturn, 1) := by decide +kernel
theorem dX6_isEvent_0 : decode cX6_isEvent 0 = .ok (.iload_n 1, 1) := by decide +kernel
theorem dX6_isEvent_1 : decode cX6_isEvent 1 = .ok (.iconst 0, 1) := by decide +kernel
theorem dX6_isEvent_2 : decode cX6_isEvent 2 = .ok (.aload_n 0, 1) := by decide +kernel
theorem dX6_isEvent_3 : decode cX6_isEvent 3 = .ok (.getfield 81, 3) := by decide +kernel
theorem dX6_isEvent_6 : decode cX6_isEvent 6 = .ok (.iconst 1, 1) := by decide +kernel
theorem dX6_isEvent_7 : decode cX6_isEvent 7 = .ok (.isub, 1) := by decide +kernel
theorem dX6_isEvent_8 : decode cX6_isEvent 8 = .ok (.invokestatic 74, 3) := by decide +kernel
theorem dX6_isEvent_11 : decode cX6_isEvent 11 = .ok (.ireturn, 1) := by decide +kernel
theorem dX6_isPoint_0 : decode cX6_isPoint 0 = .ok (.iload_n 0, 1) := by decide +kernel
theorem dX6_isPoint_1 : decode cX6_isPoint 1 = .ok (.iconst 0, 1) := by decide +kernel
theorem dX6_isPoint_2 : decode cX6_isPoint 2 = .ok (.ldc 84, 2) := by decide +kernel
theorem dX6_isPoint_4 : decode cX6_isPoint 4 = .ok (.invokestatic 74, 3) := by decide +kernel
theorem dX6_isPoint_7 : decode cX6_isPoint 7 = .ok (.ireturn, 1) := by decide +kernel
theorem dX6_rule_0 : decode cX6_rule 0 = .ok (.iload_n 2, 1) := by decide +kernel
theorem dX6_rule_1 : decode cX6_rule 1 = .ok (.iconst 0, 1) := by decide +kernel
theorem dX6_rule_2 : decode cX6_rule 2 = .ok (.sipush 20000, 3) := by decide +kernel
theorem dX6_rule_5 : decode cX6_rule 5 = .ok (.invokestatic 74, 3) := by decide +kernel
theorem dX6_rule_8 : decode cX6_rule 8 = .ok (.ifCond .eq 35, 3) := by decide +kernel
theorem dX6_rule_11 : decode cX6_rule 11 = .ok (.iload_n 3, 1) := by decide +kernel
theorem dX6_rule_12 : decode cX6_rule 12 = .ok (.iconst 0, 1) := by decide +kernel
theorem dX6_rule_13 : decode cX6_rule 13 = .ok (.ldc 85, 2) := by decide +kernel
theorem dX6_rule_15 : decode cX6_rule 15 = .ok (.invokestatic 74, 3) := by decide +kernel
theorem dX6_rule_18 : decode cX6_rule 18 = .ok (.ifCond .eq 25, 3) := by decide +kernel
theorem dX6_rule_21 : decode cX6_rule 21 = .ok (.iload 4, 2) := by decide +kernel
theorem dX6_rule_23 : decode cX6_rule 23 = .ok (.iconst 0, 1) := by decide +kernel
theorem dX6_rule_24 : decode cX6_rule 24 = .ok (.bipush 100, 2) := by decide +kernel
theorem dX6_rule_26 : decode cX6_rule 26 = .ok (.invokestatic 74, 3) := by decide +kernel
theorem dX6_rule_29 : decode cX6_rule 29 = .ok (.ifCond .eq 14, 3) := by decide +kernel
theorem dX6_rule_32 : decode cX6_rule 32 = .ok (.iload 5, 2) := by decide +kernel
theorem dX6_rule_34 : decode cX6_rule 34 = .ok (.iconst 1, 1) := by decide +kernel
theorem dX6_rule_35 : decode cX6_rule 35 = .ok (.bipush 100, 2) := by decide +kernel
theorem dX6_rule_37 : decode cX6_rule 37 = .ok (.invokestatic 74, 3) := by decide +kernel
theorem dX6_rule_40 : decode cX6_rule 40 = .ok (.ifCond .ne 7, 3) := by decide +kernel
theorem dX6_rule_43 : decode cX6_rule 43 = .ok (.iconst 1, 1) := by decide +kernel
theorem dX6_rule_44 : decode cX6_rule 44 = .ok (.goto 4, 3) := by decide +kernel
theorem dX6_rule_47 : decode cX6_rule 47 = .ok (.iconst 0, 1) := by decide +kernel
theorem dX6_rule_48 : decode cX6_rule 48 = .ok (.istore 6, 2) := by decide +kernel
theorem dX6_rule_50 : decode cX6_rule 50 = .ok (.aload_n 0, 1) := by decide +kernel
theorem dX6_rule_51 : decode cX6_rule 51 = .ok (.iload_n 1, 1) := by decide +kernel
theorem dX6_rule_52 : decode cX6_rule 52 = .ok (.invokestatic 86, 3) := by decide +kernel
theorem dX6_rule_55 : decode cX6_rule 55 = .ok (.ifCond .ne 7, 3) := by decide +kernel
theorem dX6_rule_58 : decode cX6_rule 58 = .ok (.iconst 1, 1) := by decide +kernel
theorem dX6_rule_59 : decode cX6_rule 59 = .ok (.goto 4, 3) := by decide +kernel
theorem dX6_rule_62 : decode cX6_rule 62 = .ok (.iconst 0, 1) := by decide +kernel
theorem dX6_rule_63 : decode cX6_rule 63 = .ok (.iload 6, 2) := by decide +kernel
theorem dX6_rule_65 : decode cX6_rule 65 = .ok (.iconst 0, 1) := by decide +kernel
theorem dX6_rule_66 : decode cX6_rule 66 = .ok (.invokevirtual 90, 3) := by decide +kernel
theorem dX6_rule_69 : decode cX6_rule 69 = .ok (.ifCond .eq 4, 3) := by decide +kernel
theorem dX6_rule_72 : decode cX6_rule 72 = .ok (.return_, 1) := by decide +kernel
theorem dX6_rule_73 : decode cX6_rule 73 = .ok (.aload_n 0, 1) := by decide +kernel
theorem dX6_rule_74 : decode cX6_rule 74 = .ok (.getfield 7, 3) := by decide +kernel
theorem dX6_rule_77 : decode cX6_rule 77 = .ok (.iload_n 1, 1) := by decide +kernel
theorem dX6_rule_78 : decode cX6_rule 78 = .ok (.iload_n 2, 1) := by decide +kernel
theorem dX6_rule_79 : decode cX6_rule 79 = .ok (.iastore, 1) := by decide +kernel
theorem dX6_rule_80 : decode cX6_rule 80 = .ok (.aload_n 0, 1) := by decide +kernel
theorem dX6_rule_81 : decode cX6_rule 81 = .ok (.getfield 13, 3) := by decide +kernel
theorem dX6_rule_84 : decode cX6_rule 84 = .ok (.iload_n 1, 1) := by decide +kernel
theorem dX6_rule_85 : decode cX6_rule 85 = .ok (.iload_n 3, 1) := by decide +kernel
theorem dX6_rule_86 : decode cX6_rule 86 = .ok (.iastore, 1) := by decide +kernel
theorem dX6_rule_87 : decode cX6_rule 87 = .ok (.aload_n 0, 1) := by decide +kernel
theorem dX6_rule_88 : decode cX6_rule 88 = .ok (.getfield 16, 3) := by decide +kernel
theorem dX6_rule_91 : decode cX6_rule 91 = .ok (.iload_n 1, 1) := by decide +kernel
theorem dX6_rule_92 : decode cX6_rule 92 = .ok (.iload 4, 2) := by decide +kernel
theorem dX6_rule_94 : decode cX6_rule 94 = .ok (.iastore, 1) := by decide +kernel
theorem dX6_rule_95 : decode cX6_rule 95 = .ok (.aload_n 0, 1) := by decide +kernel
theorem dX6_rule_96 : decode cX6_rule 96 = .ok (.getfield 19, 3) := by decide +kernel
theorem dX6_rule_99 : decode cX6_rule 99 = .ok (.iload_n 1, 1) := by decide +kernel
theorem dX6_rule_100 : decode cX6_rule 100 = .ok (.iload 5, 2) := by decide +kernel
theorem dX6_rule_102 : decode cX6_rule 102 = .ok (.iastore, 1) := by decide +kernel
theorem dX6_rule_103 : decode cX6_rule 103 = .ok (.return_, 1) := by decide +kernel
theorem dX6_weight_0 : decode cX6_weight 0 = .ok (.aload_n 0, 1) := by decide +kernel
theorem dX6_weight_1 : decode cX6_weight 1 = .ok (.iload_n 1, 1) := by decide +kernel
theorem dX6_weight_2 : decode cX6_weight 2 = .ok (.invokestatic 86, 3) := by decide +kernel
theorem dX6_weight_5 : decode cX6_weight 5 = .ok (.ifCond .eq 13, 3) := by decide +kernel
theorem dX6_weight_8 : decode cX6_weight 8 = .ok (.iload_n 2, 1) := by decide +kernel
theorem dX6_weight_9 : decode cX6_weight 9 = .ok (.iconst 0, 1) := by decide +kernel
theorem dX6_weight_10 : decode cX6_weight 10 = .ok (.bipush 31, 2) := by decide +kernel
theorem dX6_weight_12 : decode cX6_weight 12 = .ok (.invokestatic 74, 3) := by decide +kernel
theorem dX6_weight_15 : decode cX6_weight 15 = .ok (.ifCond .ne 7, 3) := by decide +kernel
theorem dX6_weight_18 : decode cX6_weight 18 = .ok (.iconst 1, 1) := by decide +kernel
theorem dX6_weight_19 : decode cX6_weight 19 = .ok (.goto 4, 3) := by decide +kernel
theorem dX6_weight_22 : decode cX6_weight 22 = .ok (.iconst 0, 1) := by decide +kernel
theorem dX6_weight_23 : decode cX6_weight 23 = .ok (.iload_n 3, 1) := by decide +kernel
theorem dX6_weight_24 : decode cX6_weight 24 = .ok (.iconst 0, 1) := by decide +kernel
theorem dX6_weight_25 : decode cX6_weight 25 = .ok (.bipush 100, 2) := by decide +kernel
theorem dX6_weight_27 : decode cX6_weight 27 = .ok (.invokestatic 74, 3) := by decide +kernel
theorem dX6_weight_30 : decode cX6_weight 30 = .ok (.ifCond .ne 7, 3) := by decide +kernel
theorem dX6_weight_33 : decode cX6_weight 33 = .ok (.iconst 1, 1) := by decide +kernel
theorem dX6_weight_34 : decode cX6_weight 34 = .ok (.goto 4, 3) := by decide +kernel
theorem dX6_weight_37 : decode cX6_weight 37 = .ok (.iconst 0, 1) := by decide +kernel
theorem dX6_weight_38 : decode cX6_weight 38 = .ok (.iconst 0, 1) := by decide +kernel
theorem dX6_weight_39 : decode cX6_weight 39 = .ok (.invokevirtual 90, 3) := by decide +kernel
theorem dX6_weight_42 : decode cX6_weight 42 = .ok (.ifCond .eq 4, 3) := by decide +kernel
theorem dX6_weight_45 : decode cX6_weight 45 = .ok (.return_, 1) := by decide +kernel
theorem dX6_weight_46 : decode cX6_weight 46 = .ok (.aload_n 0, 1) := by decide +kernel
theorem dX6_weight_47 : decode cX6_weight 47 = .ok (.getfield 22, 3) := by decide +kernel
theorem dX6_weight_50 : decode cX6_weight 50 = .ok (.bipush 32, 2) := by decide +kernel
theorem dX6_weight_52 : decode cX6_weight 52 = .ok (.iload_n 1, 1) := by decide +kernel
theorem dX6_weight_53 : decode cX6_weight 53 = .ok (.imul, 1) := by decide +kernel
theorem dX6_weight_54 : decode cX6_weight 54 = .ok (.iload_n 2, 1) := by decide +kernel
theorem dX6_weight_55 : decode cX6_weight 55 = .ok (.iadd, 1) := by decide +kernel
theorem dX6_weight_56 : decode cX6_weight 56 = .ok (.iload_n 3, 1) := by decide +kernel
theorem dX6_weight_57 : decode cX6_weight 57 = .ok (.iastore, 1) := by decide +kernel
theorem dX6_weight_58 : decode cX6_weight 58 = .ok (.return_, 1) := by decide +kernel
theorem dX6_point_0 : decode cX6_point 0 = .ok (.aload_n 0, 1) := by decide +kernel
theorem dX6_point_1 : decode cX6_point 1 = .ok (.iload_n 1, 1) := by decide +kernel
theorem dX6_point_2 : decode cX6_point 2 = .ok (.invokestatic 94, 3) := by decide +kernel
theorem dX6_point_5 : decode cX6_point 5 = .ok (.ifCond .ne 7, 3) := by decide +kernel
theorem dX6_point_8 : decode cX6_point 8 = .ok (.iconst 1, 1) := by decide +kernel
theorem dX6_point_9 : decode cX6_point 9 = .ok (.goto 4, 3) := by decide +kernel
theorem dX6_point_12 : decode cX6_point 12 = .ok (.iconst 0, 1) := by decide +kernel
theorem dX6_point_13 : decode cX6_point 13 = .ok (.iload_n 2, 1) := by decide +kernel
theorem dX6_point_14 : decode cX6_point 14 = .ok (.invokestatic 97, 3) := by decide +kernel
theorem dX6_point_17 : decode cX6_point 17 = .ok (.ifCond .ne 7, 3) := by decide +kernel
theorem dX6_point_20 : decode cX6_point 20 = .ok (.iconst 1, 1) := by decide +kernel
theorem dX6_point_21 : decode cX6_point 21 = .ok (.goto 4, 3) := by decide +kernel
theorem dX6_point_24 : decode cX6_point 24 = .ok (.iconst 0, 1) := by decide +kernel
theorem dX6_point_25 : decode cX6_point 25 = .ok (.iload_n 1, 1) := by decide +kernel
theorem dX6_point_26 : decode cX6_point 26 = .ok (.invokestatic 94, 3) := by decide +kernel
theorem dX6_point_29 : decode cX6_point 29 = .ok (.ifCond .eq 29, 3) := by decide +kernel
theorem dX6_point_32 : decode cX6_point 32 = .ok (.aload_n 0, 1) := by decide +kernel
theorem dX6_point_33 : decode cX6_point 33 = .ok (.getfield 25, 3) := by decide +kernel
theorem dX6_point_36 : decode cX6_point 36 = .ok (.iload_n 1, 1) := by decide +kernel
theorem dX6_point_37 : decode cX6_point 37 = .ok (.invokestatic 94, 3) := by decide +kernel
theorem dX6_point_40 : decode cX6_point 40 = .ok (.ifCond .eq 7, 3) := by decide +kernel
theorem dX6_point_43 : decode cX6_point 43 = .ok (.iload_n 1, 1) := by decide +kernel
theorem dX6_point_44 : decode cX6_point 44 = .ok (.goto 4, 3) := by decide +kernel
theorem dX6_point_47 : decode cX6_point 47 = .ok (.iconst 0, 1) := by decide +kernel
theorem dX6_point_48 : decode cX6_point 48 = .ok (.iaload, 1) := by decide +kernel
theorem dX6_point_49 : decode cX6_point 49 = .ok (.bipush 8, 2) := by decide +kernel
theorem dX6_point_51 : decode cX6_point 51 = .ok (.if_icmp .ne 7, 3) := by decide +kernel
theorem dX6_point_54 : decode cX6_point 54 = .ok (.iconst 1, 1) := by decide +kernel
theorem dX6_point_55 : decode cX6_point 55 = .ok (.goto 4, 3) := by decide +kernel
theorem dX6_point_58 : decode cX6_point 58 = .ok (.iconst 0, 1) := by decide +kernel
theorem dX6_point_59 : decode cX6_point 59 = .ok (.invokevirtual 90, 3) := by decide +kernel
theorem dX6_point_62 : decode cX6_point 62 = .ok (.ifCond .eq 5, 3) := by decide +kernel
theorem dX6_point_65 : decode cX6_point 65 = .ok (.iconst 0, 1) := by decide +kernel
theorem dX6_point_66 : decode cX6_point 66 = .ok (.ireturn, 1) := by decide +kernel
theorem dX6_point_67 : decode cX6_point 67 = .ok (.aload_n 0, 1) := by decide +kernel
theorem dX6_point_68 : decode cX6_point 68 = .ok (.getfield 28, 3) := by decide +kernel
theorem dX6_point_71 : decode cX6_point 71 = .ok (.bipush 8, 2) := by decide +kernel
theorem dX6_point_73 : decode cX6_point 73 = .ok (.iload_n 1, 1) := by decide +kernel
theorem dX6_point_74 : decode cX6_point 74 = .ok (.imul, 1) := by decide +kernel
theorem dX6_point_75 : decode cX6_point 75 = .ok (.aload_n 0, 1) := by decide +kernel
theorem dX6_point_76 : decode cX6_point 76 = .ok (.getfield 25, 3) := by decide +kernel
theorem dX6_point_79 : decode cX6_point 79 = .ok (.iload_n 1, 1) := by decide +kernel
theorem dX6_point_80 : decode cX6_point 80 = .ok (.iaload, 1) := by decide +kernel
theorem dX6_point_81 : decode cX6_point 81 = .ok (.iadd, 1) := by decide +kernel
theorem dX6_point_82 : decode cX6_point 82 = .ok (.iload_n 2, 1) := by decide +kernel
theorem dX6_point_83 : decode cX6_point 83 = .ok (.iastore, 1) := by decide +kernel
theorem dX6_point_84 : decode cX6_point 84 = .ok (.aload_n 0, 1) := by decide +kernel
theorem dX6_point_85 : decode cX6_point 85 = .ok (.getfield 25, 3) := by decide +kernel
theorem dX6_point_88 : decode cX6_point 88 = .ok (.iload_n 1, 1) := by decide +kernel
theorem dX6_point_89 : decode cX6_point 89 = .ok (.dup2, 1) := by decide +kernel
theorem dX6_point_90 : decode cX6_point 90 = .ok (.iaload, 1) := by decide +kernel
theorem dX6_point_91 : decode cX6_point 91 = .ok (.iconst 1, 1) := by decide +kernel
theorem dX6_point_92 : decode cX6_point 92 = .ok (.iadd, 1) := by decide +kernel
theorem dX6_point_93 : decode cX6_point 93 = .ok (.iastore, 1) := by decide +kernel
theorem dX6_point_94 : decode cX6_point 94 = .ok (.aload_n 0, 1) := by decide +kernel
theorem dX6_point_95 : decode cX6_point 95 = .ok (.getfield 25, 3) := by decide +kernel
theorem dX6_point_98 : decode cX6_point 98 = .ok (.iload_n 1, 1) := by decide +kernel
theorem dX6_point_99 : decode cX6_point 99 = .ok (.iaload, 1) := by decide +kernel
theorem dX6_point_100 : decode cX6_point 100 = .ok (.ireturn, 1) := by decide +kernel
theorem dX6_squareOf_0 : decode cX6_squareOf 0 = .ok (.iload_n 0, 1) := by decide +kernel
theorem dX6_squareOf_1 : decode cX6_squareOf 1 = .ok (.sipush 10000, 3) := by decide +kernel
theorem dX6_squareOf_4 : decode cX6_squareOf 4 = .ok (.idiv, 1) := by decide +kernel
theorem dX6_squareOf_5 : decode cX6_squareOf 5 = .ok (.iload_n 1, 1) := by decide +kernel
theorem dX6_squareOf_6 : decode cX6_squareOf 6 = .ok (.sipush 10000, 3) := by decide +kernel
theorem dX6_squareOf_9 : decode cX6_squareOf 9 = .ok (.idiv, 1) := by decide +kernel
theorem dX6_squareOf_10 : decode cX6_squareOf 10 = .ok (.isub, 1) := by decide +kernel
theorem dX6_squareOf_11 : decode cX6_squareOf 11 = .ok (.i2l, 1) := by decide +kernel
theorem dX6_squareOf_12 : decode cX6_squareOf 12 = .ok (.lstore_n 2, 1) := by decide +kernel
theorem dX6_squareOf_13 : decode cX6_squareOf 13 = .ok (.iload_n 0, 1) := by decide +kernel
theorem dX6_squareOf_14 : decode cX6_squareOf 14 = .ok (.sipush 10000, 3) := by decide +kernel
theorem dX6_squareOf_17 : decode cX6_squareOf 17 = .ok (.irem, 1) := by decide +kernel
theorem dX6_squareOf_18 : decode cX6_squareOf 18 = .ok (.iload_n 1, 1) := by decide +kernel
theorem dX6_squareOf_19 : decode cX6_squareOf 19 = .ok (.sipush 10000, 3) := by decide +kernel
theorem dX6_squareOf_22 : decode cX6_squareOf 22 = .ok (.irem, 1) := by decide +kernel
theorem dX6_squareOf_23 : decode cX6_squareOf 23 = .ok (.isub, 1) := by decide +kernel
theorem dX6_squareOf_24 : decode cX6_squareOf 24 = .ok (.i2l, 1) := by decide +kernel
theorem dX6_squareOf_25 : decode cX6_squareOf 25 = .ok (.lstore 4, 2) := by decide +kernel
