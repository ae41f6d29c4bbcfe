theorem dX12_init_0 : decode cX12_init 0 = .ok (.aload_n 0, 1) := by decide +kernel
theorem dX12_init_1 : decode cX12_init 1 = .ok (.invokespecial 1, 3) := by decide +kernel
theorem dX12_init_4 : decode cX12_init 4 = .ok (.aload_n 0, 1) := by decide +kernel
theorem dX12_init_5 : decode cX12_init 5 = .ok (.sipush 5530, 3) := by decide +kernel
theorem dX12_init_8 : decode cX12_init 8 = .ok (.newarray .int, 2) := by decide +kernel
theorem dX12_init_10 : decode cX12_init 10 = .ok (.putfield 7, 3) := by decide +kernel
theorem dX12_init_13 : decode cX12_init 13 = .ok (.aload_n 0, 1) := by decide +kernel
theorem dX12_init_14 : decode cX12_init 14 = .ok (.sipush 5530, 3) := by decide +kernel
theorem dX12_init_17 : decode cX12_init 17 = .ok (.newarray .int, 2) := by decide +kernel
theorem dX12_init_19 : decode cX12_init 19 = .ok (.putfield 13, 3) := by decide +kernel
theorem dX12_init_22 : decode cX12_init 22 = .ok (.aload_n 0, 1) := by decide +kernel
theorem dX12_init_23 : decode cX12_init 23 = .ok (.sipush 5530, 3) := by decide +kernel
theorem dX12_init_26 : decode cX12_init 26 = .ok (.newarray .int, 2) := by decide +kernel
theorem dX12_init_28 : decode cX12_init 28 = .ok (.putfield 16, 3) := by decide +kernel
theorem dX12_init_31 : decode cX12_init 31 = .ok (.aload_n 0, 1) := by decide +kernel
theorem dX12_init_32 : decode cX12_init 32 = .ok (.iconst 4, 1) := by decide +kernel
theorem dX12_init_33 : decode cX12_init 33 = .ok (.newarray .int, 2) := by decide +kernel
theorem dX12_init_35 : decode cX12_init 35 = .ok (.putfield 19, 3) := by decide +kernel
theorem dX12_init_38 : decode cX12_init 38 = .ok (.aload_n 0, 1) := by decide +kernel
theorem dX12_init_39 : decode cX12_init 39 = .ok (.iconst 4, 1) := by decide +kernel
theorem dX12_init_40 : decode cX12_init 40 = .ok (.newarray .int, 2) := by decide +kernel
theorem dX12_init_42 : decode cX12_init 42 = .ok (.putfield 22, 3) := by decide +kernel
theorem dX12_init_45 : decode cX12_init 45 = .ok (.aload_n 0, 1) := by decide +kernel
theorem dX12_init_46 : decode cX12_init 46 = .ok (.bipush 96, 2) := by decide +kernel
theorem dX12_init_48 : decode cX12_init 48 = .ok (.newarray .int, 2) := by decide +kernel
theorem dX12_init_50 : decode cX12_init 50 = .ok (.putfield 25, 3) := by decide +kernel
theorem dX12_init_53 : decode cX12_init 53 = .ok (.aload_n 0, 1) := by decide +kernel
theorem dX12_init_54 : decode cX12_init 54 = .ok (.iconst 4, 1) := by decide +kernel
theorem dX12_init_55 : decode cX12_init 55 = .ok (.newarray .int, 2) := by decide +kernel
theorem dX12_init_57 : decode cX12_init 57 = .ok (.dup, 1) := by decide +kernel
theorem dX12_init_58 : decode cX12_init 58 = .ok (.iconst 0, 1) := by decide +kernel
theorem dX12_init_59 : decode cX12_init 59 = .ok (.iconst 1, 1) := by decide +kernel
theorem dX12_init_60 : decode cX12_init 60 = .ok (.iastore, 1) := by decide +kernel
theorem dX12_init_61 : decode cX12_init 61 = .ok (.dup, 1) := by decide +kernel
theorem dX12_init_62 : decode cX12_init 62 = .ok (.iconst 1, 1) := by decide +kernel
theorem dX12_init_63 : decode cX12_init 63 = .ok (.iconst 3, 1) := by decide +kernel
theorem dX12_init_64 : decode cX12_init 64 = .ok (.iastore, 1) := by decide +kernel
theorem dX12_init_65 : decode cX12_init 65 = .ok (.dup, 1) := by decide +kernel
theorem dX12_init_66 : decode cX12_init 66 = .ok (.iconst 2, 1) := by decide +kernel
theorem dX12_init_67 : decode cX12_init 67 = .ok (.iconst 2, 1) := by decide +kernel
theorem dX12_init_68 : decode cX12_init 68 = .ok (.iastore, 1) := by decide +kernel
theorem dX12_init_69 : decode cX12_init 69 = .ok (.dup, 1) := by decide +kernel
theorem dX12_init_70 : decode cX12_init 70 = .ok (.iconst 3, 1) := by decide +kernel
theorem dX12_init_71 : decode cX12_init 71 = .ok (.iconst 3, 1) := by decide +kernel
theorem dX12_init_72 : decode cX12_init 72 = .ok (.iastore, 1) := by decide +kernel
theorem dX12_init_73 : decode cX12_init 73 = .ok (.putfield 28, 3) := by decide +kernel
theorem dX12_init_76 : decode cX12_init 76 = .ok (.aload_n 0, 1) := by decide +kernel
theorem dX12_init_77 : decode cX12_init 77 = .ok (.iconst 4, 1) := by decide +kernel
theorem dX12_init_78 : decode cX12_init 78 = .ok (.newarray .int, 2) := by decide +kernel
theorem dX12_init_80 : decode cX12_init 80 = .ok (.dup, 1) := by decide +kernel
theorem dX12_init_81 : decode cX12_init 81 = .ok (.iconst 0, 1) := by decide +kernel
theorem dX12_init_82 : decode cX12_init 82 = .ok (.bipush 99, 2) := by decide +kernel
theorem dX12_init_84 : decode cX12_init 84 = .ok (.iastore, 1) := by decide +kernel
theorem dX12_init_85 : decode cX12_init 85 = .ok (.dup, 1) := by decide +kernel
theorem dX12_init_86 : decode cX12_init 86 = .ok (.iconst 1, 1) := by decide +kernel
theorem dX12_init_87 : decode cX12_init 87 = .ok (.bipush 20, 2) := by decide +kernel
theorem dX12_init_89 : decode cX12_init 89 = .ok (.iastore, 1) := by decide +kernel
theorem dX12_init_90 : decode cX12_init 90 = .ok (.dup, 1) := by decide +kernel
theorem dX12_init_91 : decode cX12_init 91 = .ok (.iconst 2, 1) := by decide +kernel
theorem dX12_init_92 : decode cX12_init 92 = .ok (.bipush 8, 2) := by decide +kernel
theorem dX12_init_94 : decode cX12_init 94 = .ok (.iastore, 1) := by decide +kernel
theorem dX12_init_95 : decode cX12_init 95 = .ok (.dup, 1) := by decide +kernel
theorem dX12_init_96 : decode cX12_init 96 = .ok (.iconst 3, 1) := by decide +kernel
theorem dX12_init_97 : decode cX12_init 97 = .ok (.bipush 12, 2) := by decide +kernel
theorem dX12_init_99 : decode cX12_init 99 = .ok (.iastore, 1) := by decide +kernel
theorem dX12_init_100 : decode cX12_init 100 = .ok (.putfield 31, 3) := by decide +kernel
theorem dX12_init_103 : decode cX12_init 103 = .ok (.aload_n 0, 1) := by decide +kernel
theorem dX12_init_104 : decode cX12_init 104 = .ok (.bipush 6, 2) := by decide +kernel
theorem dX12_init_106 : decode cX12_init 106 = .ok (.newarray .int, 2) := by decide +kernel
theorem dX12_init_108 : decode cX12_init 108 = .ok (.dup, 1) := by decide +kernel
theorem dX12_init_109 : decode cX12_init 109 = .ok (.iconst 0, 1) := by decide +kernel
theorem dX12_init_110 : decode cX12_init 110 = .ok (.bipush 9, 2) := by decide +kernel
theorem dX12_init_112 : decode cX12_init 112 = .ok (.iastore, 1) := by decide +kernel
theorem dX12_init_113 : decode cX12_init 113 = .ok (.dup, 1) := by decide +kernel
theorem dX12_init_114 : decode cX12_init 114 = .ok (.iconst 1, 1) := by decide +kernel
theorem dX12_init_115 : decode cX12_init 115 = .ok (.bipush 9, 2) := by decide +kernel
theorem dX12_init_117 : decode cX12_init 117 = .ok (.iastore, 1) := by decide +kernel
theorem dX12_init_118 : decode cX12_init 118 = .ok (.dup, 1) := by decide +kernel
theorem dX12_init_119 : decode cX12_init 119 = .ok (.iconst 2, 1) := by decide +kernel
theorem dX12_init_120 : decode cX12_init 120 = .ok (.bipush 9, 2) := by decide +kernel
theorem dX12_init_122 : decode cX12_init 122 = .ok (.iastore, 1) := by decide +kernel
theorem dX12_init_123 : decode cX12_init 123 = .ok (.dup, 1) := by decide +kernel
theorem dX12_init_124 : decode cX12_init 124 = .ok (.iconst 3, 1) := by decide +kernel
theorem dX12_init_125 : decode cX12_init 125 = .ok (.bipush 99, 2) := by decide +kernel
theorem dX12_init_127 : decode cX12_init 127 = .ok (.iastore, 1) := by decide +kernel
theorem dX12_init_128 : decode cX12_init 128 = .ok (.dup, 1) := by decide +kernel
theorem dX12_init_129 : decode cX12_init 129 = .ok (.iconst 4, 1) := by decide +kernel
theorem dX12_init_130 : decode cX12_init 130 = .ok (.bipush 99, 2) := by decide +kernel
theorem dX12_init_132 : decode cX12_init 132 = .ok (.iastore, 1) := by decide +kernel
theorem dX12_init_133 : decode cX12_init 133 = .ok (.dup, 1) := by decide +kernel
theorem dX12_init_134 : decode cX12_init 134 = .ok (.iconst 5, 1) := by decide +kernel
theorem dX12_init_135 : decode cX12_init 135 = .ok (.sipush 1999, 3) := by decide +kernel
theorem dX12_init_138 : decode cX12_init 138 = .ok (.iastore, 1) := by decide +kernel
theorem dX12_init_139 : decode cX12_init 139 = .ok (.putfield 34, 3) := by decide +kernel
theorem dX12_init_142 : decode cX12_init 142 = .ok (.aload_n 0, 1) := by decide +kernel
theorem dX12_init_143 : decode cX12_init 143 = .ok (.sipush 2400, 3) := by decide +kernel
theorem dX12_init_146 : decode cX12_init 146 = .ok (.newarray .int, 2) := by decide +kernel
theorem dX12_init_148 : decode cX12_init 148 = .ok (.putfield 37, 3) := by decide +kernel
theorem dX12_init_151 : decode cX12_init 151 = .ok (.aload_n 0, 1) := by decide +kernel
theorem dX12_init_152 : decode cX12_init 152 = .ok (.bipush 24, 2) := by decide +kernel
theorem dX12_init_154 : decode cX12_init 154 = .ok (.newarray .int, 2) := by decide +kernel
theorem dX12_init_156 : decode cX12_init 156 = .ok (.putfield 40, 3) := by decide +kernel
theorem dX12_init_159 : decode cX12_init 159 = .ok (.aload_n 0, 1) := by decide +kernel
theorem dX12_init_160 : decode cX12_init 160 = .ok (.sipush 4801, 3) := by decide +kernel
theorem dX12_init_163 : decode cX12_init 163 = .ok (.newarray .int, 2) := by decide +kernel
theorem dX12_init_165 : decode cX12_init 165 = .ok (.putfield 43, 3) := by decide +kernel
theorem dX12_init_168 : decode cX12_init 168 = .ok (.aload_n 0, 1) := by decide +kernel
theorem dX12_init_169 : decode cX12_init 169 = .ok (.sipush 4801, 3) := by decide +kernel
theorem dX12_init_172 : decode cX12_init 172 = .ok (.newarray .int, 2) := by decide +kernel
theorem dX12_init_174 : decode cX12_init 174 = .ok (.putfield 46, 3) := by decide +kernel
theorem dX12_init_177 : decode cX12_init 177 = .ok (.aload_n 0, 1) := by decide +kernel
theorem dX12_init_178 : decode cX12_init 178 = .ok (.bipush 96, 2) := by decide +kernel
theorem dX12_init_180 : decode cX12_init 180 = .ok (.newarray .int, 2) := by decide +kernel
theorem dX12_init_182 : decode cX12_init 182 = .ok (.putfield 49, 3) := by decide +kernel
theorem dX12_init_185 : decode cX12_init 185 = .ok (.aload_n 0, 1) := by decide +kernel
theorem dX12_init_186 : decode cX12_init 186 = .ok (.sipush 128, 3) := by decide +kernel
theorem dX12_init_189 : decode cX12_init 189 = .ok (.newarray .int, 2) := by decide +kernel
theorem dX12_init_191 : decode cX12_init 191 = .ok (.putfield 52, 3) := by decide +kernel
theorem dX12_init_194 : decode cX12_init 194 = .ok (.aload_n 0, 1) := by decide +kernel
theorem dX12_init_195 : decode cX12_init 195 = .ok (.bipush 100, 2) := by decide +kernel
theorem dX12_init_197 : decode cX12_init 197 = .ok (.newarray .int, 2) := by decide +kernel
theorem dX12_init_199 : decode cX12_init 199 = .ok (.putfield 55, 3) := by decide +kernel
theorem dX12_init_202 : decode cX12_init 202 = .ok (.aload_n 0, 1) := by decide +kernel
theorem dX12_init_203 : decode cX12_init 203 = .ok (.sipush 2000, 3) := by decide +kernel
theorem dX12_init_206 : decode cX12_init 206 = .ok (.newarray .boolean, 2) := by decide +kernel
theorem dX12_init_208 : decode cX12_init 208 = .ok (.putfield 58, 3) := by decide +kernel
theorem dX12_init_211 : decode cX12_init 211 = .ok (.aload_n 0, 1) := by decide +kernel
theorem dX12_init_212 : decode cX12_init 212 = .ok (.bipush 20, 2) := by decide +kernel
theorem dX12_init_214 : decode cX12_init 214 = .ok (.newarray .int, 2) := by decide +kernel
theorem dX12_init_216 : decode cX12_init 216 = .ok (.putfield 62, 3) := by decide +kernel
theorem dX12_init_219 : decode cX12_init 219 = .ok (.aload_n 0, 1) := by decide +kernel
theorem dX12_init_220 : decode cX12_init 220 = .ok (.sipush 256, 3) := by decide +kernel
theorem dX12_init_223 : decode cX12_init 223 = .ok (.newarray .boolean, 2) := by decide +kernel
theorem dX12_init_225 : decode cX12_init 225 = .ok (.putfield 65, 3) := by decide +kernel
theorem dX12_init_228 : decode cX12_init 228 = .ok (.aload_n 0, 1) := by decide +kernel
theorem dX12_init_229 : decode cX12_init 229 = .ok (.bipush 24, 2) := by decide +kernel
theorem dX12_init_231 : decode cX12_init 231 = .ok (.newarray .int, 2) := by decide +kernel
theorem dX12_init_233 : decode cX12_init 233 = .ok (.putfield 68, 3) := by decide +kernel
theorem dX12_init_236 : decode cX12_init 236 = .ok (.aload_n 0, 1) := by decide +kernel
theorem dX12_init_237 : decode cX12_init 237 = .ok (.bipush 24, 2) := by decide +kernel
theorem dX12_init_239 : decode cX12_init 239 = .ok (.newarray .int, 2) := by decide +kernel
theorem dX12_init_241 : decode cX12_init 241 = .ok (.putfield 71, 3) := by decide +kernel
theorem dX12_init_244 : decode cX12_init 244 = .ok (.aload_n 0, 1) := by decide +kernel
theorem dX12_init_245 : decode cX12_init 245 = .ok (.bipush 60, 2) := by decide +kernel
theorem dX12_init_247 : decode cX12_init 247 = .ok (.newarray .int, 2) := by decide +kernel
theorem dX12_init_249 : decode cX12_init 249 = .ok (.putfield 74, 3) := by decide +kernel
theorem dX12_init_252 : decode cX12_init 252 = .ok (.aload_n 0, 1) := by decide +kernel
theorem dX12_init_253 : decode cX12_init 253 = .ok (.bipush 60, 2) := by decide +kernel
theorem dX12_init_255 : decode cX12_init 255 = .ok (.newarray .int, 2) := by decide +kernel
theorem dX12_init_257 : decode cX12_init 257 = .ok (.putfield 77, 3) := by decide +kernel
theorem dX12_init_260 : decode cX12_init 260 = .ok (.aload_n 0, 1) := by decide +kernel
theorem dX12_init_261 : decode cX12_init 261 = .ok (.bipush 8, 2) := by decide +kernel
theorem dX12_init_263 : decode cX12_init 263 = .ok (.invokevirtual 80, 3) := by decide +kernel
theorem dX12_init_266 : decode cX12_init 266 = .ok (.aload_n 0, 1) := by decide +kernel
theorem dX12_init_267 : decode cX12_init 267 = .ok (.getfield 7, 3) := by decide +kernel
theorem dX12_init_270 : decode cX12_init 270 = .ok (.bipush 11, 2) := by decide +kernel
theorem dX12_init_272 : decode cX12_init 272 = .ok (.iconst 2, 1) := by decide +kernel
theorem dX12_init_273 : decode cX12_init 273 = .ok (.iastore, 1) := by decide +kernel
theorem dX12_init_274 : decode cX12_init 274 = .ok (.aload_n 0, 1) := by decide +kernel
theorem dX12_init_275 : decode cX12_init 275 = .ok (.getfield 7, 3) := by decide +kernel
theorem dX12_init_278 : decode cX12_init 278 = .ok (.bipush 12, 2) := by decide +kernel
theorem dX12_init_280 : decode cX12_init 280 = .ok (.iconst 2, 1) := by decide +kernel
theorem dX12_init_281 : decode cX12_init 281 = .ok (.iastore, 1) := by decide +kernel
theorem dX12_init_282 : decode cX12_init 282 = .ok (.aload_n 0, 1) := by decide +kernel
theorem dX12_init_283 : decode cX12_init 283 = .ok (.getfield 7, 3) := by decide +kernel
theorem dX12_init_286 : decode cX12_init 286 = .ok (.bipush 13, 2) := by decide +kernel
theorem dX12_init_288 : decode cX12_init 288 = .ok (.iconst 3, 1) := by decide +kernel
theorem dX12_init_289 : decode cX12_init 289 = .ok (.iastore, 1) := by decide +kernel
theorem dX12_init_290 : decode cX12_init 290 = .ok (.aload_n 0, 1) := by decide +kernel
theorem dX12_init_291 : decode cX12_init 291 = .ok (.getfield 7, 3) := by decide +kernel
theorem dX12_init_294 : decode cX12_init 294 = .ok (.bipush 14, 2) := by decide +kernel
theorem dX12_init_296 : decode cX12_init 296 = .ok (.bipush 9, 2) := by decide +kernel
theorem dX12_init_298 : decode cX12_init 298 = .ok (.iastore, 1) := by decide +kernel
theorem dX12_init_299 : decode cX12_init 299 = .ok (.aload_n 0, 1) := by decide +kernel
theorem dX12_init_300 : decode cX12_init 300 = .ok (.getfield 7, 3) := by decide +kernel
theorem dX12_init_303 : decode cX12_init 303 = .ok (.bipush 15, 2) := by decide +kernel
theorem dX12_init_305 : decode cX12_init 305 = .ok (.iconst 5, 1) := by decide +kernel
theorem dX12_init_306 : decode cX12_init 306 = .ok (.iastore, 1) := by decide +kernel
theorem dX12_init_307 : decode cX12_init 307 = .ok (.aload_n 0, 1) := by decide +kernel
theorem dX12_init_308 : decode cX12_init 308 = .ok (.getfield 7, 3) := by decide +kernel
theorem dX12_init_311 : decode cX12_init 311 = .ok (.bipush 16, 2) := by decide +kernel
theorem dX12_init_313 : decode cX12_init 313 = .ok (.sipush 999, 3) := by decide +kernel
theorem dX12_init_316 : decode cX12_init 316 = .ok (.iastore, 1) := by decide +kernel
theorem dX12_init_317 : decode cX12_init 317 = .ok (.iconst 0, 1) := by decide +kernel
theorem dX12_init_318 : decode cX12_init 318 = .ok (.istore_n 1, 1) := by decide +kernel
theorem dX12_init_319 : decode cX12_init 319 = .ok (.iload_n 1, 1) := by decide +kernel
theorem dX12_init_320 : decode cX12_init 320 = .ok (.iconst 4, 1) := by decide +kernel
theorem dX12_init_321 : decode cX12_init 321 = .ok (.if_icmp .ge 16, 3) := by decide +kernel
theorem dX12_init_324 : decode cX12_init 324 = .ok (.aload_n 0, 1) := by decide +kernel
theorem dX12_init_325 : decode cX12_init 325 = .ok (.getfield 19, 3) := by decide +kernel
theorem dX12_init_328 : decode cX12_init 328 = .ok (.iload_n 1, 1) := by decide +kernel
theorem dX12_init_329 : decode cX12_init 329 = .ok (.iconst (-1), 1) := by decide +kernel
theorem dX12_init_330 : decode cX12_init 330 = .ok (.iastore, 1) := by decide +kernel
theorem dX12_init_331 : decode cX12_init 331 = .ok (.iinc 1 1, 3) := by decide +kernel
theorem dX12_init_334 : decode cX12_init 334 = .ok (.goto (-15), 3) := by decide +kernel
theorem dX12_init_337 : decode cX12_init 337 = .ok (.return_, 1) := by decide +kernel
theorem dX12_begins_0 : decode cX12_begins 0 = .ok (.aload_n 0, 1) := by decide +kernel
theorem dX12_begins_1 : decode cX12_begins 1 = .ok (.getfield 7, 3) := by decide +kernel
theorem dX12_begins_4 : decode cX12_begins 4 = .ok (.iconst 0, 1) := by decide +kernel
theorem dX12_begins_5 : decode cX12_begins 5 = .ok (.iload_n 1, 1) := by decide +kernel
theorem dX12_begins_6 : decode cX12_begins 6 = .ok (.iastore, 1) := by decide +kernel
theorem dX12_begins_7 : decode cX12_begins 7 = .ok (.iconst 0, 1) := by decide +kernel
theorem dX12_begins_8 : decode cX12_begins 8 = .ok (.istore_n 2, 1) := by decide +kernel
theorem dX12_begins_9 : decode cX12_begins 9 = .ok (.iload_n 2, 1) := by decide +kernel
theorem dX12_begins_10 : decode cX12_begins 10 = .ok (.iload_n 1, 1) := by decide +kernel
theorem dX12_begins_11 : decode cX12_begins 11 = .ok (.if_icmp .ge 63, 3) := by decide +kernel
theorem dX12_begins_14 : decode cX12_begins 14 = .ok (.aload_n 0, 1) := by decide +kernel
theorem dX12_begins_15 : decode cX12_begins 15 = .ok (.getfield 7, 3) := by decide +kernel
theorem dX12_begins_18 : decode cX12_begins 18 = .ok (.aload_n 0, 1) := by decide +kernel
theorem dX12_begins_19 : decode cX12_begins 19 = .ok (.iload_n 2, 1) := by decide +kernel
theorem dX12_begins_20 : decode cX12_begins 20 = .ok (.invokevirtual 84, 3) := by decide +kernel
theorem dX12_begins_23 : decode cX12_begins 23 = .ok (.iconst 0, 1) := by decide +kernel
theorem dX12_begins_24 : decode cX12_begins 24 = .ok (.iadd, 1) := by decide +kernel
theorem dX12_begins_25 : decode cX12_begins 25 = .ok (.bipush 50, 2) := by decide +kernel
theorem dX12_begins_27 : decode cX12_begins 27 = .ok (.iastore, 1) := by decide +kernel
theorem dX12_begins_28 : decode cX12_begins 28 = .ok (.aload_n 0, 1) := by decide +kernel
theorem dX12_begins_29 : decode cX12_begins 29 = .ok (.getfield 7, 3) := by decide +kernel
theorem dX12_begins_32 : decode cX12_begins 32 = .ok (.aload_n 0, 1) := by decide +kernel
theorem dX12_begins_33 : decode cX12_begins 33 = .ok (.iload_n 2, 1) := by decide +kernel
theorem dX12_begins_34 : decode cX12_begins 34 = .ok (.invokevirtual 84, 3) := by decide +kernel
theorem dX12_begins_37 : decode cX12_begins 37 = .ok (.iconst 1, 1) := by decide +kernel
theorem dX12_begins_38 : decode cX12_begins 38 = .ok (.iadd, 1) := by decide +kernel
theorem dX12_begins_39 : decode cX12_begins 39 = .ok (.bipush 50, 2) := by decide +kernel
theorem dX12_begins_41 : decode cX12_begins 41 = .ok (.iastore, 1) := by decide +kernel
theorem dX12_begins_42 : decode cX12_begins 42 = .ok (.aload_n 0, 1) := by decide +kernel
theorem dX12_begins_43 : decode cX12_begins 43 = .ok (.getfield 7, 3) := by decide +kernel
theorem dX12_begins_46 : decode cX12_begins 46 = .ok (.aload_n 0, 1) := by decide +kernel
theorem dX12_begins_47 : decode cX12_begins 47 = .ok (.iload_n 2, 1) := by decide +kernel
theorem dX12_begins_48 : decode cX12_begins 48 = .ok (.invokevirtual 84, 3) := by decide +kernel
theorem dX12_begins_51 : decode cX12_begins 51 = .ok (.iconst 2, 1) := by decide +kernel
theorem dX12_begins_52 : decode cX12_begins 52 = .ok (.iadd, 1) := by decide +kernel
theorem dX12_begins_53 : decode cX12_begins 53 = .ok (.iconst 0, 1) := by decide +kernel
theorem dX12_begins_54 : decode cX12_begins 54 = .ok (.iastore, 1) := by decide +kernel
theorem dX12_begins_55 : decode cX12_begins 55 = .ok (.aload_n 0, 1) := by decide +kernel
theorem dX12_begins_56 : decode cX12_begins 56 = .ok (.getfield 7, 3) := by decide +kernel
theorem dX12_begins_59 : decode cX12_begins 59 = .ok (.aload_n 0, 1) := by decide +kernel
theorem dX12_begins_60 : decode cX12_begins 60 = .ok (.iload_n 2, 1) := by decide +kernel
theorem dX12_begins_61 : decode cX12_begins 61 = .ok (.invokevirtual 84, 3) := by decide +kernel
theorem dX12_begins_64 : decode cX12_begins 64 = .ok (.iconst 3, 1) := by decide +kernel
theorem dX12_begins_65 : decode cX12_begins 65 = .ok (.iadd, 1) := by decide +kernel
theorem dX12_begins_66 : decode cX12_begins 66 = .ok (.iconst (-1), 1) := by decide +kernel
theorem dX12_begins_67 : decode cX12_begins 67 = .ok (.iastore, 1) := by decide +kernel
theorem dX12_begins_68 : decode cX12_begins 68 = .ok (.iinc 2 1, 3) := by decide +kernel
theorem dX12_begins_71 : decode cX12_begins 71 = .ok (.goto (-62), 3) := by decide +kernel
theorem dX12_begins_74 : decode cX12_begins 74 = .ok (.return_, 1) := by decide +kernel
theorem dX12_isIn_0 : decode cX12_isIn 0 = .ok (.lload_n 0, 1) := by decide +kernel
theorem dX12_isIn_1 : decode cX12_isIn 1 = .ok (.lload_n 2, 1) := by decide +kernel
theorem dX12_isIn_2 : decode cX12_isIn 2 = .ok (.lcmp, 1) := by decide +kernel
theorem dX12_isIn_3 : decode cX12_isIn 3 = .ok (.ifCond .lt 14, 3) := by decide +kernel
theorem dX12_isIn_6 : decode cX12_isIn 6 = .ok (.lload_n 0, 1) := by decide +kernel
theorem dX12_isIn_7 : decode cX12_isIn 7 = .ok (.lload 4, 2) := by decide +kernel
theorem dX12_isIn_9 : decode cX12_isIn 9 = .ok (.lcmp, 1) := by decide +kernel
theorem dX12_isIn_10 : decode cX12_isIn 10 = .ok (.ifCond .gt 7, 3) := by decide +kernel
theorem dX12_isIn_13 : decode cX12_isIn 13 = .ok (.iconst 1, 1) := by decide +kernel
theorem dX12_isIn_14 : decode cX12_isIn 14 = .ok (.goto 4, 3) := by decide +kernel
theorem dX12_isIn_17 : decode cX12_isIn 17 = .ok (.iconst 0, 1) := by decide +kernel
theorem dX12_isIn_18 : decode cX12_isIn 18 = .ok (.ireturn, 1) := by decide +kernel
theorem dX12_orNone_0 : decode cX12_orNone 0 = .ok (.iload_n 0, 1) := by decide +kernel
theorem dX12_orNone_1 : decode cX12_orNone 1 = .ok (.ifCond .ge 8, 3) := by decide +kernel
theorem dX12_orNone_4 : decode cX12_orNone 4 = .ok (.ldc 88, 2) := by decide +kernel
theorem dX12_orNone_6 : decode cX12_orNone 6 = .ok (.goto 4, 3) := by decide +kernel
theorem dX12_orNone_9 : decode cX12_orNone 9 = .ok (.iload_n 0, 1) := by decide +kernel
theorem dX12_orNone_10 : decode cX12_orNone 10 = .ok (.ireturn, 1) := by decide +kernel
theorem dX12_least_0 : decode cX12_least 0 = .ok (.iload_n 0, 1) := by decide +kernel
theorem dX12_least_1 : decode cX12_least 1 = .ok (.iload_n 1, 1) := by decide +kernel
theorem dX12_least_2 : decode cX12_least 2 = .ok (.if_icmp .ge 7, 3) := by decide +kernel
theorem dX12_least_5 : decode cX12_least 5 = .ok (.iload_n 0, 1) := by decide +kernel
theorem dX12_least_6 : decode cX12_least 6 = .ok (.goto 4, 3) := by decide +kernel
theorem dX12_least_9 : decode cX12_least 9 = .ok (.iload_n 1, 1) := by decide +kernel
theorem dX12_least_10 : decode cX12_least 10 = .ok (.ireturn, 1) := by decide +kernel
theorem dX12_size_0 : decode cX12_size 0 = .ok (.iload_n 0, 1) := by decide +kernel
theorem dX12_size_1 : decode cX12_size 1 = .ok (.ifCond .ge 8, 3) := by decide +kernel
theorem dX12_size_4 : decode cX12_size 4 = .ok (.iload_n 0, 1) := by decide +kernel
theorem dX12_size_5 : decode cX12_size 5 = .ok (.ineg, 1) := by decide +kernel
theorem dX12_size_6 : decode cX12_size 6 = .ok (.goto 4, 3) := by decide +kernel
theorem dX12_size_9 : decode cX12_size 9 = .ok (.iload_n 0, 1) := by decide +kernel
theorem dX12_size_10 : decode cX12_size 10 = .ok (.ireturn, 1) := by decide +kernel
theorem dX12_becomes_0 : decode cX12_becomes 0 = .ok (.aload_n 0, 1) := by decide +kernel
theorem dX12_becomes_1 : decode cX12_becomes 1 = .ok (.getfield 7, 3) := by decide +kernel
theorem dX12_becomes_4 : decode cX12_becomes 4 = .ok (.iload_n 1, 1) := by decide +kernel
theorem dX12_becomes_5 : decode cX12_becomes 5 = .ok (.iaload, 1) := by decide +kernel
theorem dX12_becomes_6 : decode cX12_becomes 6 = .ok (.istore_n 3, 1) := by decide +kernel
theorem dX12_becomes_7 : decode cX12_becomes 7 = .ok (.aload_n 0, 1) := by decide +kernel
theorem dX12_becomes_8 : decode cX12_becomes 8 = .ok (.getfield 7, 3) := by decide +kernel
theorem dX12_becomes_11 : decode cX12_becomes 11 = .ok (.iload_n 1, 1) := by decide +kernel
theorem dX12_becomes_12 : decode cX12_becomes 12 = .ok (.iload_n 2, 1) := by decide +kernel
theorem dX12_becomes_13 : decode cX12_becomes 13 = .ok (.iastore, 1) := by decide +kernel
theorem dX12_becomes_14 : decode cX12_becomes 14 = .ok (.iload_n 3, 1) := by decide +kernel
theorem dX12_becomes_15 : decode cX12_becomes 15 = .ok (.ireturn, 1) := by decide +kernel
theorem dX12_chainAt_0 : decode cX12_chainAt 0 = .ok (.bipush 20, 2) := by decide +kernel
theorem dX12_chainAt_2 : decode cX12_chainAt 2 = .ok (.iconst 4, 1) := by decide +kernel
theorem dX12_chainAt_3 : decode cX12_chainAt 3 = .ok (.iload_n 1, 1) := by decide +kernel
theorem dX12_chainAt_4 : decode cX12_chainAt 4 = .ok (.imul, 1) := by decide +kernel
theorem dX12_chainAt_5 : decode cX12_chainAt 5 = .ok (.iadd, 1) := by decide +kernel
theorem dX12_chainAt_6 : decode cX12_chainAt 6 = .ok (.ireturn, 1) := by decide +kernel
theorem dX12_workAt_0 : decode cX12_workAt 0 = .ok (.bipush 120, 2) := by decide +kernel
theorem dX12_workAt_2 : decode cX12_workAt 2 = .ok (.bipush 10, 2) := by decide +kernel
theorem dX12_workAt_4 : decode cX12_workAt 4 = .ok (.iload_n 1, 1) := by decide +kernel
theorem dX12_workAt_5 : decode cX12_workAt 5 = .ok (.imul, 1) := by decide +kernel
theorem dX12_workAt_6 : decode cX12_workAt 6 = .ok (.iadd, 1) := by decide +kernel
theorem dX12_workAt_7 : decode cX12_workAt 7 = .ok (.ireturn, 1) := by decide +kernel
theorem dX12_gangAt_0 : decode cX12_gangAt 0 = .ok (.sipush 360, 3) := by decide +kernel
theorem dX12_gangAt_3 : decode cX12_gangAt 3 = .ok (.iconst 2, 1) := by decide +kernel
theorem dX12_gangAt_4 : decode cX12_gangAt 4 = .ok (.iload_n 1, 1) := by decide +kernel
theorem dX12_gangAt_5 : decode cX12_gangAt 5 = .ok (.imul, 1) := by decide +kernel
theorem dX12_gangAt_6 : decode cX12_gangAt 6 = .ok (.iadd, 1) := by decide +kernel
theorem dX12_gangAt_7 : decode cX12_gangAt 7 = .ok (.ireturn, 1) := by decide +kernel
theorem dX12_textAt_0 : decode cX12_textAt 0 = .ok (.sipush 2520, 3) := by decide +kernel
theorem dX12_textAt_3 : decode cX12_textAt 3 = .ok (.sipush 200, 3) := by decide +kernel
theorem dX12_textAt_6 : decode cX12_textAt 6 = .ok (.iload_n 1, 1) := by decide +kernel
theorem dX12_textAt_7 : decode cX12_textAt 7 = .ok (.imul, 1) := by decide +kernel
theorem dX12_textAt_8 : decode cX12_textAt 8 = .ok (.iadd, 1) := by decide +kernel
theorem dX12_textAt_9 : decode cX12_textAt 9 = .ok (.ireturn, 1) := by decide +kernel
theorem dX12_isChain_0 : decode cX12_isChain 0 = .ok (.iload_n 1, 1) := by decide +kernel
theorem dX12_isChain_1 : decode cX12_isChain 1 = .ok (.i2l, 1) := by decide +kernel
theorem dX12_isChain_2 : decode cX12_isChain 2 = .ok (.lconst 0, 1) := by decide +kernel
theorem dX12_isChain_3 : decode cX12_isChain 3 = .ok (.aload_n 0, 1) := by decide +kernel
theorem dX12_isChain_4 : decode cX12_isChain 4 = .ok (.getfield 7, 3) := by decide +kernel
theorem dX12_isChain_7 : decode cX12_isChain 7 = .ok (.iconst 0, 1) := by decide +kernel
theorem dX12_isChain_8 : decode cX12_isChain 8 = .ok (.iaload, 1) := by decide +kernel
theorem dX12_isChain_9 : decode cX12_isChain 9 = .ok (.iconst 1, 1) := by decide +kernel
theorem dX12_isChain_10 : decode cX12_isChain 10 = .ok (.isub, 1) := by decide +kernel
theorem dX12_isChain_11 : decode cX12_isChain 11 = .ok (.i2l, 1) := by decide +kernel
theorem dX12_isChain_12 : decode cX12_isChain 12 = .ok (.invokestatic 89, 3) := by decide +kernel
theorem dX12_isChain_15 : decode cX12_isChain 15 = .ok (.ireturn, 1) := by decide +kernel
theorem dX12_isWork_0 : decode cX12_isWork 0 = .ok (.iload_n 1, 1) := by decide +kernel
theorem dX12_isWork_1 : decode cX12_isWork 1 = .ok (.i2l, 1) := by decide +kernel
theorem dX12_isWork_2 : decode cX12_isWork 2 = .ok (.lconst 0, 1) := by decide +kernel
theorem dX12_isWork_3 : decode cX12_isWork 3 = .ok (.aload_n 0, 1) := by decide +kernel
theorem dX12_isWork_4 : decode cX12_isWork 4 = .ok (.getfield 7, 3) := by decide +kernel
theorem dX12_isWork_7 : decode cX12_isWork 7 = .ok (.iconst 1, 1) := by decide +kernel
theorem dX12_isWork_8 : decode cX12_isWork 8 = .ok (.iaload, 1) := by decide +kernel
theorem dX12_isWork_9 : decode cX12_isWork 9 = .ok (.iconst 1, 1) := by decide +kernel
theorem dX12_isWork_10 : decode cX12_isWork 10 = .ok (.isub, 1) := by decide +kernel
theorem dX12_isWork_11 : decode cX12_isWork 11 = .ok (.i2l, 1) := by decide +kernel
theorem dX12_isWork_12 : decode cX12_isWork 12 = .ok (.invokestatic 89, 3) := by decide +kernel
theorem dX12_isWork_15 : decode cX12_isWork 15 = .ok (.ireturn, 1) := by decide +kernel
theorem dX12_isText_0 : decode cX12_isText 0 = .ok (.iload_n 1, 1) := by decide +kernel
theorem dX12_isText_1 : decode cX12_isText 1 = .ok (.i2l, 1) := by decide +kernel
theorem dX12_isText_2 : decode cX12_isText 2 = .ok (.lconst 0, 1) := by decide +kernel
theorem dX12_isText_3 : decode cX12_isText 3 = .ok (.aload_n 0, 1) := by decide +kernel
theorem dX12_isText_4 : decode cX12_isText 4 = .ok (.getfield 7, 3) := by decide +kernel
theorem dX12_isText_7 : decode cX12_isText 7 = .ok (.iconst 3, 1) := by decide +kernel
theorem dX12_isText_8 : decode cX12_isText 8 = .ok (.iaload, 1) := by decide +kernel
theorem dX12_isText_9 : decode cX12_isText 9 = .ok (.iconst 1, 1) := by decide +kernel
theorem dX12_isText_10 : decode cX12_isText 10 = .ok (.isub, 1) := by decide +kernel
theorem dX12_isText_11 : decode cX12_isText 11 = .ok (.i2l, 1) := by decide +kernel
theorem dX12_isText_12 : decode cX12_isText 12 = .ok (.invokestatic 89, 3) := by decide +kernel
theorem dX12_isText_15 : decode cX12_isText 15 = .ok (.ireturn, 1) := by decide +kernel
theorem dX12_kindOf_0 : decode cX12_kindOf 0 = .ok (.aload_n 0, 1) := by decide +kernel
theorem dX12_kindOf_1 : decode cX12_kindOf 1 = .ok (.getfield 7, 3) := by decide +kernel
theorem dX12_kindOf_4 : decode cX12_kindOf 4 = .ok (.aload_n 0, 1) := by decide +kernel
theorem dX12_kindOf_5 : decode cX12_kindOf 5 = .ok (.iload_n 1, 1) := by decide +kernel
theorem dX12_kindOf_6 : decode cX12_kindOf 6 = .ok (.invokevirtual 93, 3) := by decide +kernel
theorem dX12_kindOf_9 : decode cX12_kindOf 9 = .ok (.iaload, 1) := by decide +kernel
theorem dX12_kindOf_10 : decode cX12_kindOf 10 = .ok (.ireturn, 1) := by decide +kernel
theorem dX12_depth_0 : decode cX12_depth 0 = .ok (.aload_n 0, 1) := by decide +kernel
theorem dX12_depth_1 : decode cX12_depth 1 = .ok (.getfield 7, 3) := by decide +kernel
theorem dX12_depth_4 : decode cX12_depth 4 = .ok (.aload_n 0, 1) := by decide +kernel
theorem dX12_depth_5 : decode cX12_depth 5 = .ok (.iload_n 1, 1) := by decide +kernel
theorem dX12_depth_6 : decode cX12_depth 6 = .ok (.invokevirtual 84, 3) := by decide +kernel
theorem dX12_depth_9 : decode cX12_depth 9 = .ok (.iconst 0, 1) := by decide +kernel
theorem dX12_depth_10 : decode cX12_depth 10 = .ok (.iadd, 1) := by decide +kernel
theorem dX12_depth_11 : decode cX12_depth 11 = .ok (.iaload, 1) := by decide +kernel
theorem dX12_depth_12 : decode cX12_depth 12 = .ok (.aload_n 0, 1) := by decide +kernel
theorem dX12_depth_13 : decode cX12_depth 13 = .ok (.getfield 7, 3) := by decide +kernel
theorem dX12_depth_16 : decode cX12_depth 16 = .ok (.aload_n 0, 1) := by decide +kernel
theorem dX12_depth_17 : decode cX12_depth 17 = .ok (.iload_n 1, 1) := by decide +kernel
theorem dX12_depth_18 : decode cX12_depth 18 = .ok (.invokevirtual 84, 3) := by decide +kernel
theorem dX12_depth_21 : decode cX12_depth 21 = .ok (.iconst 1, 1) := by decide +kernel
theorem dX12_depth_22 : decode cX12_depth 22 = .ok (.iadd, 1) := by decide +kernel
theorem dX12_depth_23 : decode cX12_depth 23 = .ok (.iaload, 1) := by decide +kernel
theorem dX12_depth_24 : decode cX12_depth 24 = .ok (.isub, 1) := by decide +kernel
theorem dX12_depth_25 : decode cX12_depth 25 = .ok (.ireturn, 1) := by decide +kernel
theorem dX12_wetOn_0 : decode cX12_wetOn 0 = .ok (.iload_n 1, 1) := by decide +kernel
theorem dX12_wetOn_1 : decode cX12_wetOn 1 = .ok (.sipush 1999, 3) := by decide +kernel
theorem dX12_wetOn_4 : decode cX12_wetOn 4 = .ok (.if_icmp .le 7, 3) := by decide +kernel
theorem dX12_wetOn_7 : decode cX12_wetOn 7 = .ok (.iconst 0, 1) := by decide +kernel
theorem dX12_wetOn_8 : decode cX12_wetOn 8 = .ok (.goto 13, 3) := by decide +kernel
theorem dX12_wetOn_11 : decode cX12_wetOn 11 = .ok (.aload_n 0, 1) := by decide +kernel
theorem dX12_wetOn_12 : decode cX12_wetOn 12 = .ok (.getfield 7, 3) := by decide +kernel
theorem dX12_wetOn_15 : decode cX12_wetOn 15 = .ok (.sipush 510, 3) := by decide +kernel
theorem dX12_wetOn_18 : decode cX12_wetOn 18 = .ok (.iload_n 1, 1) := by decide +kernel
theorem dX12_wetOn_19 : decode cX12_wetOn 19 = .ok (.iadd, 1) := by decide +kernel
theorem dX12_wetOn_20 : decode cX12_wetOn 20 = .ok (.iaload, 1) := by decide +kernel
theorem dX12_wetOn_21 : decode cX12_wetOn 21 = .ok (.ireturn, 1) := by decide +kernel
theorem dX12_chains_0 : decode cX12_chains 0 = .ok (.iload_n 1, 1) := by decide +kernel
theorem dX12_chains_1 : decode cX12_chains 1 = .ok (.i2l, 1) := by decide +kernel
theorem dX12_chains_2 : decode cX12_chains 2 = .ok (.ldc2_w 96, 3) := by decide +kernel
theorem dX12_chains_5 : decode cX12_chains 5 = .ok (.ldc2_w 98, 3) := by decide +kernel
theorem dX12_chains_8 : decode cX12_chains 8 = .ok (.invokestatic 89, 3) := by decide +kernel
theorem dX12_chains_11 : decode cX12_chains 11 = .ok (.ifCond .ne 6, 3) := by decide +kernel
theorem dX12_chains_14 : decode cX12_chains 14 = .ok (.ldc 100, 2) := by decide +kernel
theorem dX12_chains_16 : decode cX12_chains 16 = .ok (.ireturn, 1) := by decide +kernel
theorem dX12_chains_17 : decode cX12_chains 17 = .ok (.aload_n 0, 1) := by decide +kernel
theorem dX12_chains_18 : decode cX12_chains 18 = .ok (.getfield 7, 3) := by decide +kernel
theorem dX12_chains_21 : decode cX12_chains 21 = .ok (.iconst 1, 1) := by decide +kernel
theorem dX12_chains_22 : decode cX12_chains 22 = .ok (.iaload, 1) := by decide +kernel
theorem dX12_chains_23 : decode cX12_chains 23 = .ok (.ifCond .le 6, 3) := by decide +kernel
theorem dX12_chains_26 : decode cX12_chains 26 = .ok (.ldc 101, 2) := by decide +kernel
theorem dX12_chains_28 : decode cX12_chains 28 = .ok (.ireturn, 1) := by decide +kernel
theorem dX12_chains_29 : decode cX12_chains 29 = .ok (.aload_n 0, 1) := by decide +kernel
theorem dX12_chains_30 : decode cX12_chains 30 = .ok (.getfield 7, 3) := by decide +kernel
theorem dX12_chains_33 : decode cX12_chains 33 = .ok (.iconst 0, 1) := by decide +kernel
theorem dX12_chains_34 : decode cX12_chains 34 = .ok (.iaload, 1) := by decide +kernel
theorem dX12_chains_35 : decode cX12_chains 35 = .ok (.istore_n 2, 1) := by decide +kernel
theorem dX12_chains_36 : decode cX12_chains 36 = .ok (.aload_n 0, 1) := by decide +kernel
theorem dX12_chains_37 : decode cX12_chains 37 = .ok (.iload_n 1, 1) := by decide +kernel
theorem dX12_chains_38 : decode cX12_chains 38 = .ok (.invokevirtual 80, 3) := by decide +kernel
theorem dX12_chains_41 : decode cX12_chains 41 = .ok (.iload_n 2, 1) := by decide +kernel
theorem dX12_chains_42 : decode cX12_chains 42 = .ok (.ireturn, 1) := by decide +kernel
theorem dX12_set_0 : decode cX12_set 0 = .ok (.aload_n 0, 1) := by decide +kernel
theorem dX12_set_1 : decode cX12_set 1 = .ok (.iload_n 1, 1) := by decide +kernel
theorem dX12_set_2 : decode cX12_set 2 = .ok (.invokevirtual 102, 3) := by decide +kernel
theorem dX12_set_5 : decode cX12_set 5 = .ok (.ifCond .eq 38, 3) := by decide +kernel
theorem dX12_set_8 : decode cX12_set 8 = .ok (.iload_n 2, 1) := by decide +kernel
theorem dX12_set_9 : decode cX12_set 9 = .ok (.i2l, 1) := by decide +kernel
theorem dX12_set_10 : decode cX12_set 10 = .ok (.lconst 0, 1) := by decide +kernel
theorem dX12_set_11 : decode cX12_set 11 = .ok (.ldc2_w 96, 3) := by decide +kernel
theorem dX12_set_14 : decode cX12_set 14 = .ok (.invokestatic 89, 3) := by decide +kernel
theorem dX12_set_17 : decode cX12_set 17 = .ok (.ifCond .eq 26, 3) := by decide +kernel
theorem dX12_set_20 : decode cX12_set 20 = .ok (.iload_n 3, 1) := by decide +kernel
theorem dX12_set_21 : decode cX12_set 21 = .ok (.i2l, 1) := by decide +kernel
theorem dX12_set_22 : decode cX12_set 22 = .ok (.lconst 0, 1) := by decide +kernel
theorem dX12_set_23 : decode cX12_set 23 = .ok (.iload_n 2, 1) := by decide +kernel
theorem dX12_set_24 : decode cX12_set 24 = .ok (.iconst 2, 1) := by decide +kernel
theorem dX12_set_25 : decode cX12_set 25 = .ok (.if_icmp .ne 9, 3) := by decide +kernel
theorem dX12_set_28 : decode cX12_set 28 = .ok (.ldc2_w 106, 3) := by decide +kernel
theorem dX12_set_31 : decode cX12_set 31 = .ok (.goto 6, 3) := by decide +kernel
theorem dX12_set_34 : decode cX12_set 34 = .ok (.ldc2_w 108, 3) := by decide +kernel
theorem dX12_set_37 : decode cX12_set 37 = .ok (.invokestatic 89, 3) := by decide +kernel
theorem dX12_set_40 : decode cX12_set 40 = .ok (.ifCond .ne 6, 3) := by decide +kernel
theorem dX12_set_43 : decode cX12_set 43 = .ok (.ldc 100, 2) := by decide +kernel
theorem dX12_set_45 : decode cX12_set 45 = .ok (.ireturn, 1) := by decide +kernel
theorem dX12_set_46 : decode cX12_set 46 = .ok (.aload_n 0, 1) := by decide +kernel
theorem dX12_set_47 : decode cX12_set 47 = .ok (.aload_n 0, 1) := by decide +kernel
theorem dX12_set_48 : decode cX12_set 48 = .ok (.iload_n 1, 1) := by decide +kernel
theorem dX12_set_49 : decode cX12_set 49 = .ok (.invokevirtual 84, 3) := by decide +kernel
theorem dX12_set_52 : decode cX12_set 52 = .ok (.iload_n 2, 1) := by decide +kernel
theorem dX12_set_53 : decode cX12_set 53 = .ok (.iadd, 1) := by decide +kernel
theorem dX12_set_54 : decode cX12_set 54 = .ok (.iload_n 3, 1) := by decide +kernel
theorem dX12_set_55 : decode cX12_set 55 = .ok (.invokevirtual 110, 3) := by decide +kernel
theorem dX12_set_58 : decode cX12_set 58 = .ok (.ireturn, 1) := by decide +kernel
theorem dX12_bore_0 : decode cX12_bore 0 = .ok (.aload_n 0, 1) := by decide +kernel
theorem dX12_bore_1 : decode cX12_bore 1 = .ok (.iload_n 1, 1) := by decide +kernel
theorem dX12_bore_2 : decode cX12_bore 2 = .ok (.invokevirtual 102, 3) := by decide +kernel
theorem dX12_bore_5 : decode cX12_bore 5 = .ok (.ifCond .ne 6, 3) := by decide +kernel
theorem dX12_bore_8 : decode cX12_bore 8 = .ok (.ldc 100, 2) := by decide +kernel
theorem dX12_bore_10 : decode cX12_bore 10 = .ok (.ireturn, 1) := by decide +kernel
theorem dX12_bore_11 : decode cX12_bore 11 = .ok (.aload_n 0, 1) := by decide +kernel
theorem dX12_bore_12 : decode cX12_bore 12 = .ok (.getfield 7, 3) := by decide +kernel
theorem dX12_bore_15 : decode cX12_bore 15 = .ok (.aload_n 0, 1) := by decide +kernel
theorem dX12_bore_16 : decode cX12_bore 16 = .ok (.iload_n 1, 1) := by decide +kernel
theorem dX12_bore_17 : decode cX12_bore 17 = .ok (.invokevirtual 84, 3) := by decide +kernel
theorem dX12_bore_20 : decode cX12_bore 20 = .ok (.iconst 3, 1) := by decide +kernel
theorem dX12_bore_21 : decode cX12_bore 21 = .ok (.iadd, 1) := by decide +kernel
theorem dX12_bore_22 : decode cX12_bore 22 = .ok (.aload_n 0, 1) := by decide +kernel
theorem dX12_bore_23 : decode cX12_bore 23 = .ok (.getfield 7, 3) := by decide +kernel
theorem dX12_bore_26 : decode cX12_bore 26 = .ok (.aload_n 0, 1) := by decide +kernel
theorem dX12_bore_27 : decode cX12_bore 27 = .ok (.iload_n 1, 1) := by decide +kernel
theorem dX12_bore_28 : decode cX12_bore 28 = .ok (.invokevirtual 84, 3) := by decide +kernel
theorem dX12_bore_31 : decode cX12_bore 31 = .ok (.iconst 2, 1) := by decide +kernel
theorem dX12_bore_32 : decode cX12_bore 32 = .ok (.iadd, 1) := by decide +kernel
theorem dX12_bore_33 : decode cX12_bore 33 = .ok (.iaload, 1) := by decide +kernel
theorem dX12_bore_34 : decode cX12_bore 34 = .ok (.iastore, 1) := by decide +kernel
theorem dX12_bore_35 : decode cX12_bore 35 = .ok (.aload_n 0, 1) := by decide +kernel
theorem dX12_bore_36 : decode cX12_bore 36 = .ok (.getfield 7, 3) := by decide +kernel
theorem dX12_bore_39 : decode cX12_bore 39 = .ok (.aload_n 0, 1) := by decide +kernel
theorem dX12_bore_40 : decode cX12_bore 40 = .ok (.iload_n 1, 1) := by decide +kernel
theorem dX12_bore_41 : decode cX12_bore 41 = .ok (.invokevirtual 84, 3) := by decide +kernel
theorem dX12_bore_44 : decode cX12_bore 44 = .ok (.iconst 2, 1) := by decide +kernel
theorem dX12_bore_45 : decode cX12_bore 45 = .ok (.iadd, 1) := by decide +kernel
theorem dX12_bore_46 : decode cX12_bore 46 = .ok (.iaload, 1) := by decide +kernel
theorem dX12_bore_47 : decode cX12_bore 47 = .ok (.ireturn, 1) := by decide +kernel
theorem dX12_worksAt_0 : decode cX12_worksAt 0 = .ok (.iconst 0, 1) := by decide +kernel
theorem dX12_worksAt_1 : decode cX12_worksAt 1 = .ok (.istore_n 3, 1) := by decide +kernel
theorem dX12_worksAt_2 : decode cX12_worksAt 2 = .ok (.iconst 0, 1) := by decide +kernel
theorem dX12_worksAt_3 : decode cX12_worksAt 3 = .ok (.istore 4, 2) := by decide +kernel
theorem dX12_worksAt_5 : decode cX12_worksAt 5 = .ok (.iload 4, 2) := by decide +kernel
theorem dX12_worksAt_7 : decode cX12_worksAt 7 = .ok (.aload_n 0, 1) := by decide +kernel
theorem dX12_worksAt_8 : decode cX12_worksAt 8 = .ok (.getfield 7, 3) := by decide +kernel
theorem dX12_worksAt_11 : decode cX12_worksAt 11 = .ok (.iconst 1, 1) := by decide +kernel
theorem dX12_worksAt_12 : decode cX12_worksAt 12 = .ok (.iaload, 1) := by decide +kernel
theorem dX12_worksAt_13 : decode cX12_worksAt 13 = .ok (.if_icmp .ge 48, 3) := by decide +kernel
theorem dX12_worksAt_16 : decode cX12_worksAt 16 = .ok (.iload_n 3, 1) := by decide +kernel
theorem dX12_worksAt_17 : decode cX12_worksAt 17 = .ok (.aload_n 0, 1) := by decide +kernel
theorem dX12_worksAt_18 : decode cX12_worksAt 18 = .ok (.getfield 7, 3) := by decide +kernel
theorem dX12_worksAt_21 : decode cX12_worksAt 21 = .ok (.aload_n 0, 1) := by decide +kernel
theorem dX12_worksAt_22 : decode cX12_worksAt 22 = .ok (.iload 4, 2) := by decide +kernel
theorem dX12_worksAt_24 : decode cX12_worksAt 24 = .ok (.invokevirtual 93, 3) := by decide +kernel
theorem dX12_worksAt_27 : decode cX12_worksAt 27 = .ok (.iconst 1, 1) := by decide +kernel
theorem dX12_worksAt_28 : decode cX12_worksAt 28 = .ok (.iadd, 1) := by decide +kernel
theorem dX12_worksAt_29 : decode cX12_worksAt 29 = .ok (.iaload, 1) := by decide +kernel
theorem dX12_worksAt_30 : decode cX12_worksAt 30 = .ok (.iload_n 1, 1) := by decide +kernel
theorem dX12_worksAt_31 : decode cX12_worksAt 31 = .ok (.if_icmp .ne 21, 3) := by decide +kernel
theorem dX12_worksAt_34 : decode cX12_worksAt 34 = .ok (.iload_n 2, 1) := by decide +kernel
theorem dX12_worksAt_35 : decode cX12_worksAt 35 = .ok (.ifCond .lt 13, 3) := by decide +kernel
theorem dX12_worksAt_38 : decode cX12_worksAt 38 = .ok (.aload_n 0, 1) := by decide +kernel
theorem dX12_worksAt_39 : decode cX12_worksAt 39 = .ok (.iload 4, 2) := by decide +kernel
theorem dX12_worksAt_41 : decode cX12_worksAt 41 = .ok (.invokevirtual 114, 3) := by decide +kernel
theorem dX12_worksAt_44 : decode cX12_worksAt 44 = .ok (.iload_n 2, 1) := by decide +kernel
theorem dX12_worksAt_45 : decode cX12_worksAt 45 = .ok (.if_icmp .ne 7, 3) := by decide +kernel
theorem dX12_worksAt_48 : decode cX12_worksAt 48 = .ok (.iconst 1, 1) := by decide +kernel
theorem dX12_worksAt_49 : decode cX12_worksAt 49 = .ok (.goto 4, 3) := by decide +kernel
theorem dX12_worksAt_52 : decode cX12_worksAt 52 = .ok (.iconst 0, 1) := by decide +kernel
theorem dX12_worksAt_53 : decode cX12_worksAt 53 = .ok (.iadd, 1) := by decide +kernel
theorem dX12_worksAt_54 : decode cX12_worksAt 54 = .ok (.istore_n 3, 1) := by decide +kernel
theorem dX12_worksAt_55 : decode cX12_worksAt 55 = .ok (.iinc 4 1, 3) := by decide +kernel
theorem dX12_worksAt_58 : decode cX12_worksAt 58 = .ok (.goto (-53), 3) := by decide +kernel
theorem dX12_worksAt_61 : decode cX12_worksAt 61 = .ok (.iload_n 3, 1) := by decide +kernel
theorem dX12_worksAt_62 : decode cX12_worksAt 62 = .ok (.ireturn, 1) := by decide +kernel
theorem dX12_at_0 : decode cX12_at 0 = .ok (.aload_n 0, 1) := by decide +kernel
theorem dX12_at_1 : decode cX12_at 1 = .ok (.iload_n 1, 1) := by decide +kernel
theorem dX12_at_2 : decode cX12_at 2 = .ok (.invokevirtual 102, 3) := by decide +kernel
theorem dX12_at_5 : decode cX12_at 5 = .ok (.ifCond .ne 6, 3) := by decide +kernel
theorem dX12_at_8 : decode cX12_at 8 = .ok (.ldc 100, 2) := by decide +kernel
theorem dX12_at_10 : decode cX12_at 10 = .ok (.ireturn, 1) := by decide +kernel
theorem dX12_at_11 : decode cX12_at 11 = .ok (.iload_n 2, 1) := by decide +kernel
theorem dX12_at_12 : decode cX12_at 12 = .ok (.tableswitch 114 0 5 #[40, 40, 53, 86, 92, 99], 40) := by decide +kernel
theorem dX12_at_52 : decode cX12_at 52 = .ok (.aload_n 0, 1) := by decide +kernel
theorem dX12_at_53 : decode cX12_at 53 = .ok (.getfield 7, 3) := by decide +kernel
theorem dX12_at_56 : decode cX12_at 56 = .ok (.aload_n 0, 1) := by decide +kernel
theorem dX12_at_57 : decode cX12_at 57 = .ok (.iload_n 1, 1) := by decide +kernel
theorem dX12_at_58 : decode cX12_at 58 = .ok (.invokevirtual 84, 3) := by decide +kernel
theorem dX12_at_61 : decode cX12_at 61 = .ok (.iload_n 2, 1) := by decide +kernel
theorem dX12_at_62 : decode cX12_at 62 = .ok (.iadd, 1) := by decide +kernel
theorem dX12_at_63 : decode cX12_at 63 = .ok (.iaload, 1) := by decide +kernel
theorem dX12_at_64 : decode cX12_at 64 = .ok (.ireturn, 1) := by decide +kernel
theorem dX12_at_65 : decode cX12_at 65 = .ok (.aload_n 0, 1) := by decide +kernel
theorem dX12_at_66 : decode cX12_at 66 = .ok (.getfield 7, 3) := by decide +kernel
theorem dX12_at_69 : decode cX12_at 69 = .ok (.aload_n 0, 1) := by decide +kernel
theorem dX12_at_70 : decode cX12_at 70 = .ok (.iload_n 1, 1) := by decide +kernel
theorem dX12_at_71 : decode cX12_at 71 = .ok (.invokevirtual 84, 3) := by decide +kernel
theorem dX12_at_74 : decode cX12_at 74 = .ok (.iconst 3, 1) := by decide +kernel
theorem dX12_at_75 : decode cX12_at 75 = .ok (.iadd, 1) := by decide +kernel
theorem dX12_at_76 : decode cX12_at 76 = .ok (.iaload, 1) := by decide +kernel
theorem dX12_at_77 : decode cX12_at 77 = .ok (.ifCond .ge 8, 3) := by decide +kernel
theorem dX12_at_80 : decode cX12_at 80 = .ok (.ldc 88, 2) := by decide +kernel
theorem dX12_at_82 : decode cX12_at 82 = .ok (.goto 15, 3) := by decide +kernel
theorem dX12_at_85 : decode cX12_at 85 = .ok (.aload_n 0, 1) := by decide +kernel
theorem dX12_at_86 : decode cX12_at 86 = .ok (.getfield 7, 3) := by decide +kernel
theorem dX12_at_89 : decode cX12_at 89 = .ok (.aload_n 0, 1) := by decide +kernel
theorem dX12_at_90 : decode cX12_at 90 = .ok (.iload_n 1, 1) := by decide +kernel
theorem dX12_at_91 : decode cX12_at 91 = .ok (.invokevirtual 84, 3) := by decide +kernel
theorem dX12_at_94 : decode cX12_at 94 = .ok (.iconst 2, 1) := by decide +kernel
theorem dX12_at_95 : decode cX12_at 95 = .ok (.iadd, 1) := by decide +kernel
theorem dX12_at_96 : decode cX12_at 96 = .ok (.iaload, 1) := by decide +kernel
theorem dX12_at_97 : decode cX12_at 97 = .ok (.ireturn, 1) := by decide +kernel
theorem dX12_at_98 : decode cX12_at 98 = .ok (.aload_n 0, 1) := by decide +kernel
theorem dX12_at_99 : decode cX12_at 99 = .ok (.iload_n 1, 1) := by decide +kernel
theorem dX12_at_100 : decode cX12_at 100 = .ok (.invokevirtual 117, 3) := by decide +kernel
theorem dX12_at_103 : decode cX12_at 103 = .ok (.ireturn, 1) := by decide +kernel
theorem dX12_at_104 : decode cX12_at 104 = .ok (.aload_n 0, 1) := by decide +kernel
theorem dX12_at_105 : decode cX12_at 105 = .ok (.iload_n 1, 1) := by decide +kernel
theorem dX12_at_106 : decode cX12_at 106 = .ok (.iconst (-1), 1) := by decide +kernel
theorem dX12_at_107 : decode cX12_at 107 = .ok (.invokevirtual 120, 3) := by decide +kernel
theorem dX12_at_110 : decode cX12_at 110 = .ok (.ireturn, 1) := by decide +kernel
theorem dX12_at_111 : decode cX12_at 111 = .ok (.aload_n 0, 1) := by decide +kernel
theorem dX12_at_112 : decode cX12_at 112 = .ok (.iload_n 1, 1) := by decide +kernel
theorem dX12_at_113 : decode cX12_at 113 = .ok (.iconst 5, 1) := by decide +kernel
theorem dX12_at_114 : decode cX12_at 114 = .ok (.invokevirtual 120, 3) := by decide +kernel
theorem dX12_at_117 : decode cX12_at 117 = .ok (.ifCond .le 7, 3) := by decide +kernel
theorem dX12_at_120 : decode cX12_at 120 = .ok (.iconst 1, 1) := by decide +kernel
theorem dX12_at_121 : decode cX12_at 121 = .ok (.goto 4, 3) := by decide +kernel
theorem dX12_at_124 : decode cX12_at 124 = .ok (.iconst 0, 1) := by decide +kernel
theorem dX12_at_125 : decode cX12_at 125 = .ok (.ireturn, 1) := by decide +kernel
theorem dX12_at_126 : decode cX12_at 126 = .ok (.ldc 100, 2) := by decide +kernel
theorem dX12_at_128 : decode cX12_at 128 = .ok (.ireturn, 1) := by decide +kernel
theorem dX12_rule_0 : decode cX12_rule 0 = .ok (.iload_n 1, 1) := by decide +kernel
theorem dX12_rule_1 : decode cX12_rule 1 = .ok (.i2l, 1) := by decide +kernel
theorem dX12_rule_2 : decode cX12_rule 2 = .ok (.lconst 0, 1) := by decide +kernel
theorem dX12_rule_3 : decode cX12_rule 3 = .ok (.ldc2_w 123, 3) := by decide +kernel
theorem dX12_rule_6 : decode cX12_rule 6 = .ok (.invokestatic 89, 3) := by decide +kernel
theorem dX12_rule_9 : decode cX12_rule 9 = .ok (.ifCond .eq 31, 3) := by decide +kernel
theorem dX12_rule_12 : decode cX12_rule 12 = .ok (.iload_n 2, 1) := by decide +kernel
theorem dX12_rule_13 : decode cX12_rule 13 = .ok (.i2l, 1) := by decide +kernel
theorem dX12_rule_14 : decode cX12_rule 14 = .ok (.lconst 0, 1) := by decide +kernel
theorem dX12_rule_15 : decode cX12_rule 15 = .ok (.aload_n 0, 1) := by decide +kernel
theorem dX12_rule_16 : decode cX12_rule 16 = .ok (.getfield 34, 3) := by decide +kernel
theorem dX12_rule_19 : decode cX12_rule 19 = .ok (.iload_n 1, 1) := by decide +kernel
theorem dX12_rule_20 : decode cX12_rule 20 = .ok (.iaload, 1) := by decide +kernel
theorem dX12_rule_21 : decode cX12_rule 21 = .ok (.i2l, 1) := by decide +kernel
theorem dX12_rule_22 : decode cX12_rule 22 = .ok (.invokestatic 89, 3) := by decide +kernel
theorem dX12_rule_25 : decode cX12_rule 25 = .ok (.ifCond .eq 15, 3) := by decide +kernel
theorem dX12_rule_28 : decode cX12_rule 28 = .ok (.aload_n 0, 1) := by decide +kernel
theorem dX12_rule_29 : decode cX12_rule 29 = .ok (.bipush 11, 2) := by decide +kernel
theorem dX12_rule_31 : decode cX12_rule 31 = .ok (.iload_n 1, 1) := by decide +kernel
theorem dX12_rule_32 : decode cX12_rule 32 = .ok (.iadd, 1) := by decide +kernel
theorem dX12_rule_33 : decode cX12_rule 33 = .ok (.iload_n 2, 1) := by decide +kernel
theorem dX12_rule_34 : decode cX12_rule 34 = .ok (.invokevirtual 110, 3) := by decide +kernel
theorem dX12_rule_37 : decode cX12_rule 37 = .ok (.goto 5, 3) := by decide +kernel
theorem dX12_rule_40 : decode cX12_rule 40 = .ok (.ldc 100, 2) := by decide +kernel
theorem dX12_rule_42 : decode cX12_rule 42 = .ok (.ireturn, 1) := by decide +kernel
theorem dX12_steep_0 : decode cX12_steep 0 = .ok (.iconst 0, 1) := by decide +kernel
theorem dX12_steep_1 : decode cX12_steep 1 = .ok (.istore_n 1, 1) := by decide +kernel
theorem dX12_steep_2 : decode cX12_steep 2 = .ok (.iconst 1, 1) := by decide +kernel
theorem dX12_steep_3 : decode cX12_steep 3 = .ok (.istore_n 2, 1) := by decide +kernel
theorem dX12_steep_4 : decode cX12_steep 4 = .ok (.iload_n 2, 1) := by decide +kernel
theorem dX12_steep_5 : decode cX12_steep 5 = .ok (.aload_n 0, 1) := by decide +kernel
theorem dX12_steep_6 : decode cX12_steep 6 = .ok (.getfield 7, 3) := by decide +kernel
theorem dX12_steep_9 : decode cX12_steep 9 = .ok (.iconst 0, 1) := by decide +kernel
theorem dX12_steep_10 : decode cX12_steep 10 = .ok (.iaload, 1) := by decide +kernel
theorem dX12_steep_11 : decode cX12_steep 11 = .ok (.if_icmp .ge 57, 3) := by decide +kernel
theorem dX12_steep_14 : decode cX12_steep 14 = .ok (.iload_n 1, 1) := by decide +kernel
theorem dX12_steep_15 : decode cX12_steep 15 = .ok (.aload_n 0, 1) := by decide +kernel
theorem dX12_steep_16 : decode cX12_steep 16 = .ok (.getfield 7, 3) := by decide +kernel
theorem dX12_steep_19 : decode cX12_steep 19 = .ok (.aload_n 0, 1) := by decide +kernel
theorem dX12_steep_20 : decode cX12_steep 20 = .ok (.iload_n 2, 1) := by decide +kernel
theorem dX12_steep_21 : decode cX12_steep 21 = .ok (.invokevirtual 84, 3) := by decide +kernel
theorem dX12_steep_24 : decode cX12_steep 24 = .ok (.iconst 1, 1) := by decide +kernel
theorem dX12_steep_25 : decode cX12_steep 25 = .ok (.iadd, 1) := by decide +kernel
theorem dX12_steep_26 : decode cX12_steep 26 = .ok (.iaload, 1) := by decide +kernel
theorem dX12_steep_27 : decode cX12_steep 27 = .ok (.aload_n 0, 1) := by decide +kernel
theorem dX12_steep_28 : decode cX12_steep 28 = .ok (.getfield 7, 3) := by decide +kernel
theorem dX12_steep_31 : decode cX12_steep 31 = .ok (.aload_n 0, 1) := by decide +kernel
theorem dX12_steep_32 : decode cX12_steep 32 = .ok (.iload_n 2, 1) := by decide +kernel
theorem dX12_steep_33 : decode cX12_steep 33 = .ok (.iconst 1, 1) := by decide +kernel
theorem dX12_steep_34 : decode cX12_steep 34 = .ok (.isub, 1) := by decide +kernel
theorem dX12_steep_35 : decode cX12_steep 35 = .ok (.invokevirtual 84, 3) := by decide +kernel
theorem dX12_steep_38 : decode cX12_steep 38 = .ok (.iconst 1, 1) := by decide +kernel
theorem dX12_steep_39 : decode cX12_steep 39 = .ok (.iadd, 1) := by decide +kernel
theorem dX12_steep_40 : decode cX12_steep 40 = .ok (.iaload, 1) := by decide +kernel
theorem dX12_steep_41 : decode cX12_steep 41 = .ok (.isub, 1) := by decide +kernel
theorem dX12_steep_42 : decode cX12_steep 42 = .ok (.invokestatic 125, 3) := by decide +kernel
theorem dX12_steep_45 : decode cX12_steep 45 = .ok (.aload_n 0, 1) := by decide +kernel
theorem dX12_steep_46 : decode cX12_steep 46 = .ok (.getfield 7, 3) := by decide +kernel
theorem dX12_steep_49 : decode cX12_steep 49 = .ok (.bipush 11, 2) := by decide +kernel
theorem dX12_steep_51 : decode cX12_steep 51 = .ok (.iaload, 1) := by decide +kernel
theorem dX12_steep_52 : decode cX12_steep 52 = .ok (.if_icmp .le 7, 3) := by decide +kernel
theorem dX12_steep_55 : decode cX12_steep 55 = .ok (.iconst 1, 1) := by decide +kernel
theorem dX12_steep_56 : decode cX12_steep 56 = .ok (.goto 4, 3) := by decide +kernel
theorem dX12_steep_59 : decode cX12_steep 59 = .ok (.iconst 0, 1) := by decide +kernel
theorem dX12_steep_60 : decode cX12_steep 60 = .ok (.iadd, 1) := by decide +kernel
theorem dX12_steep_61 : decode cX12_steep 61 = .ok (.istore_n 1, 1) := by decide +kernel
theorem dX12_steep_62 : decode cX12_steep 62 = .ok (.iinc 2 1, 3) := by decide +kernel
theorem dX12_steep_65 : decode cX12_steep 65 = .ok (.goto (-61), 3) := by decide +kernel
theorem dX12_steep_68 : decode cX12_steep 68 = .ok (.iload_n 1, 1) := by decide +kernel
theorem dX12_steep_69 : decode cX12_steep 69 = .ok (.ireturn, 1) := by decide +kernel
theorem dX12_costAt_0 : decode cX12_costAt 0 = .ok (.aload_n 0, 1) := by decide +kernel
theorem dX12_costAt_1 : decode cX12_costAt 1 = .ok (.getfield 7, 3) := by decide +kernel
theorem dX12_costAt_4 : decode cX12_costAt 4 = .ok (.aload_n 0, 1) := by decide +kernel
theorem dX12_costAt_5 : decode cX12_costAt 5 = .ok (.iload_n 1, 1) := by decide +kernel
theorem dX12_costAt_6 : decode cX12_costAt 6 = .ok (.invokevirtual 84, 3) := by decide +kernel
theorem dX12_costAt_9 : decode cX12_costAt 9 = .ok (.iconst 0, 1) := by decide +kernel
theorem dX12_costAt_10 : decode cX12_costAt 10 = .ok (.iadd, 1) := by decide +kernel
theorem dX12_costAt_11 : decode cX12_costAt 11 = .ok (.iaload, 1) := by decide +kernel
theorem dX12_costAt_12 : decode cX12_costAt 12 = .ok (.iload_n 2, 1) := by decide +kernel
theorem dX12_costAt_13 : decode cX12_costAt 13 = .ok (.isub, 1) := by decide +kernel
theorem dX12_costAt_14 : decode cX12_costAt 14 = .ok (.istore_n 3, 1) := by decide +kernel
theorem dX12_costAt_15 : decode cX12_costAt 15 = .ok (.iload_n 3, 1) := by decide +kernel
theorem dX12_costAt_16 : decode cX12_costAt 16 = .ok (.ifCond .le 15, 3) := by decide +kernel
theorem dX12_costAt_19 : decode cX12_costAt 19 = .ok (.aload_n 0, 1) := by decide +kernel
theorem dX12_costAt_20 : decode cX12_costAt 20 = .ok (.getfield 7, 3) := by decide +kernel
theorem dX12_costAt_23 : decode cX12_costAt 23 = .ok (.bipush 12, 2) := by decide +kernel
theorem dX12_costAt_25 : decode cX12_costAt 25 = .ok (.iaload, 1) := by decide +kernel
theorem dX12_costAt_26 : decode cX12_costAt 26 = .ok (.iload_n 3, 1) := by decide +kernel
theorem dX12_costAt_27 : decode cX12_costAt 27 = .ok (.imul, 1) := by decide +kernel
theorem dX12_costAt_28 : decode cX12_costAt 28 = .ok (.goto 13, 3) := by decide +kernel
theorem dX12_costAt_31 : decode cX12_costAt 31 = .ok (.aload_n 0, 1) := by decide +kernel
theorem dX12_costAt_32 : decode cX12_costAt 32 = .ok (.getfield 7, 3) := by decide +kernel
theorem dX12_costAt_35 : decode cX12_costAt 35 = .ok (.bipush 13, 2) := by decide +kernel
theorem dX12_costAt_37 : decode cX12_costAt 37 = .ok (.iaload, 1) := by decide +kernel
theorem dX12_costAt_38 : decode cX12_costAt 38 = .ok (.iload_n 3, 1) := by decide +kernel
theorem dX12_costAt_39 : decode cX12_costAt 39 = .ok (.ineg, 1) := by decide +kernel
theorem dX12_costAt_40 : decode cX12_costAt 40 = .ok (.imul, 1) := by decide +kernel
theorem dX12_costAt_41 : decode cX12_costAt 41 = .ok (.ireturn, 1) := by decide +kernel
theorem dX12_cheapest_0 : decode cX12_cheapest 0 = .ok (.iconst (-1), 1) := by decide +kernel
theorem dX12_cheapest_1 : decode cX12_cheapest 1 = .ok (.istore 4, 2) := by decide +kernel
theorem dX12_cheapest_3 : decode cX12_cheapest 3 = .ok (.iconst 0, 1) := by decide +kernel
theorem dX12_cheapest_4 : decode cX12_cheapest 4 = .ok (.istore 5, 2) := by decide +kernel
theorem dX12_cheapest_6 : decode cX12_cheapest 6 = .ok (.iload 5, 2) := by decide +kernel
theorem dX12_cheapest_8 : decode cX12_cheapest 8 = .ok (.bipush 100, 2) := by decide +kernel
theorem dX12_cheapest_10 : decode cX12_cheapest 10 = .ok (.if_icmp .ge 56, 3) := by decide +kernel
theorem dX12_cheapest_13 : decode cX12_cheapest 13 = .ok (.iload 5, 2) := by decide +kernel
theorem dX12_cheapest_15 : decode cX12_cheapest 15 = .ok (.iload_n 2, 1) := by decide +kernel
theorem dX12_cheapest_16 : decode cX12_cheapest 16 = .ok (.isub, 1) := by decide +kernel
theorem dX12_cheapest_17 : decode cX12_cheapest 17 = .ok (.invokestatic 125, 3) := by decide +kernel
theorem dX12_cheapest_20 : decode cX12_cheapest 20 = .ok (.iload_n 3, 1) := by decide +kernel
theorem dX12_cheapest_21 : decode cX12_cheapest 21 = .ok (.if_icmp .gt 39, 3) := by decide +kernel
theorem dX12_cheapest_24 : decode cX12_cheapest 24 = .ok (.iload 4, 2) := by decide +kernel
theorem dX12_cheapest_26 : decode cX12_cheapest 26 = .ok (.ifCond .lt 30, 3) := by decide +kernel
theorem dX12_cheapest_29 : decode cX12_cheapest 29 = .ok (.aload_n 0, 1) := by decide +kernel
theorem dX12_cheapest_30 : decode cX12_cheapest 30 = .ok (.getfield 37, 3) := by decide +kernel
theorem dX12_cheapest_33 : decode cX12_cheapest 33 = .ok (.bipush 100, 2) := by decide +kernel
theorem dX12_cheapest_35 : decode cX12_cheapest 35 = .ok (.iload_n 1, 1) := by decide +kernel
theorem dX12_cheapest_36 : decode cX12_cheapest 36 = .ok (.imul, 1) := by decide +kernel
theorem dX12_cheapest_37 : decode cX12_cheapest 37 = .ok (.iload 5, 2) := by decide +kernel
theorem dX12_cheapest_39 : decode cX12_cheapest 39 = .ok (.iadd, 1) := by decide +kernel
theorem dX12_cheapest_40 : decode cX12_cheapest 40 = .ok (.iaload, 1) := by decide +kernel
theorem dX12_cheapest_41 : decode cX12_cheapest 41 = .ok (.aload_n 0, 1) := by decide +kernel
theorem dX12_cheapest_42 : decode cX12_cheapest 42 = .ok (.getfield 37, 3) := by decide +kernel
theorem dX12_cheapest_45 : decode cX12_cheapest 45 = .ok (.bipush 100, 2) := by decide +kernel
theorem dX12_cheapest_47 : decode cX12_cheapest 47 = .ok (.iload_n 1, 1) := by decide +kernel
theorem dX12_cheapest_48 : decode cX12_cheapest 48 = .ok (.imul, 1) := by decide +kernel
theorem dX12_cheapest_49 : decode cX12_cheapest 49 = .ok (.iload 4, 2) := by decide +kernel
theorem dX12_cheapest_51 : decode cX12_cheapest 51 = .ok (.iadd, 1) := by decide +kernel
theorem dX12_cheapest_52 : decode cX12_cheapest 52 = .ok (.iaload, 1) := by decide +kernel
theorem dX12_cheapest_53 : decode cX12_cheapest 53 = .ok (.if_icmp .ge 7, 3) := by decide +kernel
theorem dX12_cheapest_56 : decode cX12_cheapest 56 = .ok (.iload 5, 2) := by decide +kernel
theorem dX12_cheapest_58 : decode cX12_cheapest 58 = .ok (.istore 4, 2) := by decide +kernel
theorem dX12_cheapest_60 : decode cX12_cheapest 60 = .ok (.iinc 5 1, 3) := by decide +kernel
theorem dX12_cheapest_63 : decode cX12_cheapest 63 = .ok (.goto (-57), 3) := by decide +kernel
theorem dX12_cheapest_66 : decode cX12_cheapest 66 = .ok (.iload 4, 2) := by decide +kernel
theorem dX12_cheapest_68 : decode cX12_cheapest 68 = .ok (.ireturn, 1) := by decide +kernel
theorem dX12_findLevels_0 : decode cX12_findLevels 0 = .ok (.aload_n 0, 1) := by decide +kernel
theorem dX12_findLevels_1 : decode cX12_findLevels 1 = .ok (.getfield 7, 3) := by decide +kernel
theorem dX12_findLevels_4 : decode cX12_findLevels 4 = .ok (.iconst 0, 1) := by decide +kernel
theorem dX12_findLevels_5 : decode cX12_findLevels 5 = .ok (.iaload, 1) := by decide +kernel
theorem dX12_findLevels_6 : decode cX12_findLevels 6 = .ok (.iconst 1, 1) := by decide +kernel
theorem dX12_findLevels_7 : decode cX12_findLevels 7 = .ok (.isub, 1) := by decide +kernel
theorem dX12_findLevels_8 : decode cX12_findLevels 8 = .ok (.istore_n 1, 1) := by decide +kernel
theorem dX12_findLevels_9 : decode cX12_findLevels 9 = .ok (.iload_n 1, 1) := by decide +kernel
theorem dX12_findLevels_10 : decode cX12_findLevels 10 = .ok (.istore_n 2, 1) := by decide +kernel
theorem dX12_findLevels_11 : decode cX12_findLevels 11 = .ok (.iload_n 2, 1) := by decide +kernel
theorem dX12_findLevels_12 : decode cX12_findLevels 12 = .ok (.ifCond .lt 77, 3) := by decide +kernel
theorem dX12_findLevels_15 : decode cX12_findLevels 15 = .ok (.iconst 0, 1) := by decide +kernel
theorem dX12_findLevels_16 : decode cX12_findLevels 16 = .ok (.istore_n 3, 1) := by decide +kernel
theorem dX12_findLevels_17 : decode cX12_findLevels 17 = .ok (.iload_n 3, 1) := by decide +kernel
theorem dX12_findLevels_18 : decode cX12_findLevels 18 = .ok (.bipush 100, 2) := by decide +kernel
theorem dX12_findLevels_20 : decode cX12_findLevels 20 = .ok (.if_icmp .ge 63, 3) := by decide +kernel
theorem dX12_findLevels_23 : decode cX12_findLevels 23 = .ok (.aload_n 0, 1) := by decide +kernel
theorem dX12_findLevels_24 : decode cX12_findLevels 24 = .ok (.getfield 37, 3) := by decide +kernel
theorem dX12_findLevels_27 : decode cX12_findLevels 27 = .ok (.bipush 100, 2) := by decide +kernel
theorem dX12_findLevels_29 : decode cX12_findLevels 29 = .ok (.iload_n 2, 1) := by decide +kernel
theorem dX12_findLevels_30 : decode cX12_findLevels 30 = .ok (.imul, 1) := by decide +kernel
theorem dX12_findLevels_31 : decode cX12_findLevels 31 = .ok (.iload_n 3, 1) := by decide +kernel
theorem dX12_findLevels_32 : decode cX12_findLevels 32 = .ok (.iadd, 1) := by decide +kernel
theorem dX12_findLevels_33 : decode cX12_findLevels 33 = .ok (.aload_n 0, 1) := by decide +kernel
theorem dX12_findLevels_34 : decode cX12_findLevels 34 = .ok (.iload_n 2, 1) := by decide +kernel
theorem dX12_findLevels_35 : decode cX12_findLevels 35 = .ok (.iload_n 3, 1) := by decide +kernel
theorem dX12_findLevels_36 : decode cX12_findLevels 36 = .ok (.invokevirtual 128, 3) := by decide +kernel
theorem dX12_findLevels_39 : decode cX12_findLevels 39 = .ok (.iload_n 2, 1) := by decide +kernel
theorem dX12_findLevels_40 : decode cX12_findLevels 40 = .ok (.iload_n 1, 1) := by decide +kernel
theorem dX12_findLevels_41 : decode cX12_findLevels 41 = .ok (.if_icmp .ne 7, 3) := by decide +kernel
theorem dX12_findLevels_44 : decode cX12_findLevels 44 = .ok (.iconst 0, 1) := by decide +kernel
theorem dX12_findLevels_45 : decode cX12_findLevels 45 = .ok (.goto 30, 3) := by decide +kernel
theorem dX12_findLevels_48 : decode cX12_findLevels 48 = .ok (.aload_n 0, 1) := by decide +kernel
theorem dX12_findLevels_49 : decode cX12_findLevels 49 = .ok (.getfield 37, 3) := by decide +kernel
theorem dX12_findLevels_52 : decode cX12_findLevels 52 = .ok (.bipush 100, 2) := by decide +kernel
theorem dX12_findLevels_54 : decode cX12_findLevels 54 = .ok (.iload_n 2, 1) := by decide +kernel
theorem dX12_findLevels_55 : decode cX12_findLevels 55 = .ok (.iconst 1, 1) := by decide +kernel
theorem dX12_findLevels_56 : decode cX12_findLevels 56 = .ok (.iadd, 1) := by decide +kernel
theorem dX12_findLevels_57 : decode cX12_findLevels 57 = .ok (.imul, 1) := by decide +kernel
theorem dX12_findLevels_58 : decode cX12_findLevels 58 = .ok (.aload_n 0, 1) := by decide +kernel
theorem dX12_findLevels_59 : decode cX12_findLevels 59 = .ok (.iload_n 2, 1) := by decide +kernel
theorem dX12_findLevels_60 : decode cX12_findLevels 60 = .ok (.iconst 1, 1) := by decide +kernel
theorem dX12_findLevels_61 : decode cX12_findLevels 61 = .ok (.iadd, 1) := by decide +kernel
theorem dX12_findLevels_62 : decode cX12_findLevels 62 = .ok (.iload_n 3, 1) := by decide +kernel
theorem dX12_findLevels_63 : decode cX12_findLevels 63 = .ok (.aload_n 0, 1) := by decide +kernel
theorem dX12_findLevels_64 : decode cX12_findLevels 64 = .ok (.getfield 7, 3) := by decide +kernel
theorem dX12_findLevels_67 : decode cX12_findLevels 67 = .ok (.bipush 11, 2) := by decide +kernel
theorem dX12_findLevels_69 : decode cX12_findLevels 69 = .ok (.iaload, 1) := by decide +kernel
theorem dX12_findLevels_70 : decode cX12_findLevels 70 = .ok (.invokevirtual 131, 3) := by decide +kernel
theorem dX12_findLevels_73 : decode cX12_findLevels 73 = .ok (.iadd, 1) := by decide +kernel
theorem dX12_findLevels_74 : decode cX12_findLevels 74 = .ok (.iaload, 1) := by decide +kernel
theorem dX12_findLevels_75 : decode cX12_findLevels 75 = .ok (.iadd, 1) := by decide +kernel
theorem dX12_findLevels_76 : decode cX12_findLevels 76 = .ok (.iastore, 1) := by decide +kernel
theorem dX12_findLevels_77 : decode cX12_findLevels 77 = .ok (.iinc 3 1, 3) := by decide +kernel
theorem dX12_findLevels_80 : decode cX12_findLevels 80 = .ok (.goto (-63), 3) := by decide +kernel
theorem dX12_findLevels_83 : decode cX12_findLevels 83 = .ok (.iinc 2 (-1), 3) := by decide +kernel
theorem dX12_findLevels_86 : decode cX12_findLevels 86 = .ok (.goto (-75), 3) := by decide +kernel
theorem dX12_findLevels_89 : decode cX12_findLevels 89 = .ok (.aload_n 0, 1) := by decide +kernel
theorem dX12_findLevels_90 : decode cX12_findLevels 90 = .ok (.getfield 40, 3) := by decide +kernel
theorem dX12_findLevels_93 : decode cX12_findLevels 93 = .ok (.iconst 0, 1) := by decide +kernel
theorem dX12_findLevels_94 : decode cX12_findLevels 94 = .ok (.aload_n 0, 1) := by decide +kernel
theorem dX12_findLevels_95 : decode cX12_findLevels 95 = .ok (.iconst 0, 1) := by decide +kernel
theorem dX12_findLevels_96 : decode cX12_findLevels 96 = .ok (.iconst 0, 1) := by decide +kernel
theorem dX12_findLevels_97 : decode cX12_findLevels 97 = .ok (.bipush 99, 2) := by decide +kernel
theorem dX12_findLevels_99 : decode cX12_findLevels 99 = .ok (.invokevirtual 131, 3) := by decide +kernel
theorem dX12_findLevels_102 : decode cX12_findLevels 102 = .ok (.iastore, 1) := by decide +kernel
theorem dX12_findLevels_103 : decode cX12_findLevels 103 = .ok (.iconst 1, 1) := by decide +kernel
theorem dX12_findLevels_104 : decode cX12_findLevels 104 = .ok (.istore_n 2, 1) := by decide +kernel
theorem dX12_findLevels_105 : decode cX12_findLevels 105 = .ok (.iload_n 2, 1) := by decide +kernel
theorem dX12_findLevels_106 : decode cX12_findLevels 106 = .ok (.iload_n 1, 1) := by decide +kernel
theorem dX12_findLevels_107 : decode cX12_findLevels 107 = .ok (.if_icmp .gt 35, 3) := by decide +kernel
theorem dX12_findLevels_110 : decode cX12_findLevels 110 = .ok (.aload_n 0, 1) := by decide +kernel
theorem dX12_findLevels_111 : decode cX12_findLevels 111 = .ok (.getfield 40, 3) := by decide +kernel
theorem dX12_findLevels_114 : decode cX12_findLevels 114 = .ok (.iload_n 2, 1) := by decide +kernel
theorem dX12_findLevels_115 : decode cX12_findLevels 115 = .ok (.aload_n 0, 1) := by decide +kernel
theorem dX12_findLevels_116 : decode cX12_findLevels 116 = .ok (.iload_n 2, 1) := by decide +kernel
theorem dX12_findLevels_117 : decode cX12_findLevels 117 = .ok (.aload_n 0, 1) := by decide +kernel
theorem dX12_findLevels_118 : decode cX12_findLevels 118 = .ok (.getfield 40, 3) := by decide +kernel
theorem dX12_findLevels_121 : decode cX12_findLevels 121 = .ok (.iload_n 2, 1) := by decide +kernel
theorem dX12_findLevels_122 : decode cX12_findLevels 122 = .ok (.iconst 1, 1) := by decide +kernel
theorem dX12_findLevels_123 : decode cX12_findLevels 123 = .ok (.isub, 1) := by decide +kernel
theorem dX12_findLevels_124 : decode cX12_findLevels 124 = .ok (.iaload, 1) := by decide +kernel
theorem dX12_findLevels_125 : decode cX12_findLevels 125 = .ok (.aload_n 0, 1) := by decide +kernel
theorem dX12_findLevels_126 : decode cX12_findLevels 126 = .ok (.getfield 7, 3) := by decide +kernel
theorem dX12_findLevels_129 : decode cX12_findLevels 129 = .ok (.bipush 11, 2) := by decide +kernel
theorem dX12_findLevels_131 : decode cX12_findLevels 131 = .ok (.iaload, 1) := by decide +kernel
theorem dX12_findLevels_132 : decode cX12_findLevels 132 = .ok (.invokevirtual 131, 3) := by decide +kernel
theorem dX12_findLevels_135 : decode cX12_findLevels 135 = .ok (.iastore, 1) := by decide +kernel
theorem dX12_findLevels_136 : decode cX12_findLevels 136 = .ok (.iinc 2 1, 3) := by decide +kernel
theorem dX12_findLevels_139 : decode cX12_findLevels 139 = .ok (.goto (-34), 3) := by decide +kernel
theorem dX12_findLevels_142 : decode cX12_findLevels 142 = .ok (.aload_n 0, 1) := by decide +kernel
theorem dX12_findLevels_143 : decode cX12_findLevels 143 = .ok (.getfield 37, 3) := by decide +kernel
theorem dX12_findLevels_146 : decode cX12_findLevels 146 = .ok (.aload_n 0, 1) := by decide +kernel
theorem dX12_findLevels_147 : decode cX12_findLevels 147 = .ok (.getfield 40, 3) := by decide +kernel
theorem dX12_findLevels_150 : decode cX12_findLevels 150 = .ok (.iconst 0, 1) := by decide +kernel
theorem dX12_findLevels_151 : decode cX12_findLevels 151 = .ok (.iaload, 1) := by decide +kernel
theorem dX12_findLevels_152 : decode cX12_findLevels 152 = .ok (.iaload, 1) := by decide +kernel
theorem dX12_findLevels_153 : decode cX12_findLevels 153 = .ok (.ireturn, 1) := by decide +kernel
theorem dX12_best_0 : decode cX12_best 0 = .ok (.iload_n 1, 1) := by decide +kernel
theorem dX12_best_1 : decode cX12_best 1 = .ok (.iconst (-1), 1) := by decide +kernel
theorem dX12_best_2 : decode cX12_best 2 = .ok (.if_icmp .eq 14, 3) := by decide +kernel
theorem dX12_best_5 : decode cX12_best 5 = .ok (.aload_n 0, 1) := by decide +kernel
theorem dX12_best_6 : decode cX12_best 6 = .ok (.iload_n 1, 1) := by decide +kernel
theorem dX12_best_7 : decode cX12_best 7 = .ok (.invokevirtual 102, 3) := by decide +kernel
theorem dX12_best_10 : decode cX12_best 10 = .ok (.ifCond .ne 6, 3) := by decide +kernel
theorem dX12_best_13 : decode cX12_best 13 = .ok (.ldc 100, 2) := by decide +kernel
theorem dX12_best_15 : decode cX12_best 15 = .ok (.ireturn, 1) := by decide +kernel
theorem dX12_best_16 : decode cX12_best 16 = .ok (.aload_n 0, 1) := by decide +kernel
theorem dX12_best_17 : decode cX12_best 17 = .ok (.invokevirtual 135, 3) := by decide +kernel
theorem dX12_best_20 : decode cX12_best 20 = .ok (.istore_n 2, 1) := by decide +kernel
theorem dX12_best_21 : decode cX12_best 21 = .ok (.iload_n 1, 1) := by decide +kernel
theorem dX12_best_22 : decode cX12_best 22 = .ok (.iconst (-1), 1) := by decide +kernel
theorem dX12_best_23 : decode cX12_best 23 = .ok (.if_icmp .ne 7, 3) := by decide +kernel
theorem dX12_best_26 : decode cX12_best 26 = .ok (.iload_n 2, 1) := by decide +kernel
theorem dX12_best_27 : decode cX12_best 27 = .ok (.goto 9, 3) := by decide +kernel
theorem dX12_best_30 : decode cX12_best 30 = .ok (.aload_n 0, 1) := by decide +kernel
theorem dX12_best_31 : decode cX12_best 31 = .ok (.getfield 40, 3) := by decide +kernel
theorem dX12_best_34 : decode cX12_best 34 = .ok (.iload_n 1, 1) := by decide +kernel
theorem dX12_best_35 : decode cX12_best 35 = .ok (.iaload, 1) := by decide +kernel
theorem dX12_best_36 : decode cX12_best 36 = .ok (.ireturn, 1) := by decide +kernel
theorem dX12_lay_0 : decode cX12_lay 0 = .ok (.aload_n 0, 1) := by decide +kernel
theorem dX12_lay_1 : decode cX12_lay 1 = .ok (.invokevirtual 135, 3) := by decide +kernel
theorem dX12_lay_4 : decode cX12_lay 4 = .ok (.istore_n 1, 1) := by decide +kernel
theorem dX12_lay_5 : decode cX12_lay 5 = .ok (.iconst 0, 1) := by decide +kernel
theorem dX12_lay_6 : decode cX12_lay 6 = .ok (.istore_n 2, 1) := by decide +kernel
theorem dX12_lay_7 : decode cX12_lay 7 = .ok (.iload_n 2, 1) := by decide +kernel
theorem dX12_lay_8 : decode cX12_lay 8 = .ok (.aload_n 0, 1) := by decide +kernel
theorem dX12_lay_9 : decode cX12_lay 9 = .ok (.getfield 7, 3) := by decide +kernel
theorem dX12_lay_12 : decode cX12_lay 12 = .ok (.iconst 0, 1) := by decide +kernel
theorem dX12_lay_13 : decode cX12_lay 13 = .ok (.iaload, 1) := by decide +kernel
theorem dX12_lay_14 : decode cX12_lay 14 = .ok (.if_icmp .ge 27, 3) := by decide +kernel
theorem dX12_lay_17 : decode cX12_lay 17 = .ok (.aload_n 0, 1) := by decide +kernel
theorem dX12_lay_18 : decode cX12_lay 18 = .ok (.getfield 7, 3) := by decide +kernel
theorem dX12_lay_21 : decode cX12_lay 21 = .ok (.aload_n 0, 1) := by decide +kernel
theorem dX12_lay_22 : decode cX12_lay 22 = .ok (.iload_n 2, 1) := by decide +kernel
theorem dX12_lay_23 : decode cX12_lay 23 = .ok (.invokevirtual 84, 3) := by decide +kernel
theorem dX12_lay_26 : decode cX12_lay 26 = .ok (.iconst 1, 1) := by decide +kernel
theorem dX12_lay_27 : decode cX12_lay 27 = .ok (.iadd, 1) := by decide +kernel
theorem dX12_lay_28 : decode cX12_lay 28 = .ok (.aload_n 0, 1) := by decide +kernel
theorem dX12_lay_29 : decode cX12_lay 29 = .ok (.getfield 40, 3) := by decide +kernel
theorem dX12_lay_32 : decode cX12_lay 32 = .ok (.iload_n 2, 1) := by decide +kernel
theorem dX12_lay_33 : decode cX12_lay 33 = .ok (.iaload, 1) := by decide +kernel
theorem dX12_lay_34 : decode cX12_lay 34 = .ok (.iastore, 1) := by decide +kernel
theorem dX12_lay_35 : decode cX12_lay 35 = .ok (.iinc 2 1, 3) := by decide +kernel
theorem dX12_lay_38 : decode cX12_lay 38 = .ok (.goto (-31), 3) := by decide +kernel
theorem dX12_lay_41 : decode cX12_lay 41 = .ok (.iload_n 1, 1) := by decide +kernel
theorem dX12_lay_42 : decode cX12_lay 42 = .ok (.ireturn, 1) := by decide +kernel
theorem dX12_haul_0 : decode cX12_haul 0 = .ok (.iconst 0, 1) := by decide +kernel
theorem dX12_haul_1 : decode cX12_haul 1 = .ok (.istore_n 1, 1) := by decide +kernel
theorem dX12_haul_2 : decode cX12_haul 2 = .ok (.iload_n 1, 1) := by decide +kernel
theorem dX12_haul_3 : decode cX12_haul 3 = .ok (.sipush 4800, 3) := by decide +kernel
theorem dX12_haul_6 : decode cX12_haul 6 = .ok (.if_icmp .gt 28, 3) := by decide +kernel
theorem dX12_haul_9 : decode cX12_haul 9 = .ok (.aload_n 0, 1) := by decide +kernel
theorem dX12_haul_10 : decode cX12_haul 10 = .ok (.getfield 43, 3) := by decide +kernel
theorem dX12_haul_13 : decode cX12_haul 13 = .ok (.iload_n 1, 1) := by decide +kernel
theorem dX12_haul_14 : decode cX12_haul 14 = .ok (.iload_n 1, 1) := by decide +kernel
theorem dX12_haul_15 : decode cX12_haul 15 = .ok (.sipush 2400, 3) := by decide +kernel
theorem dX12_haul_18 : decode cX12_haul 18 = .ok (.if_icmp .ne 7, 3) := by decide +kernel
theorem dX12_haul_21 : decode cX12_haul 21 = .ok (.iconst 0, 1) := by decide +kernel
theorem dX12_haul_22 : decode cX12_haul 22 = .ok (.goto 5, 3) := by decide +kernel
theorem dX12_haul_25 : decode cX12_haul 25 = .ok (.ldc 139, 2) := by decide +kernel
theorem dX12_haul_27 : decode cX12_haul 27 = .ok (.iastore, 1) := by decide +kernel
theorem dX12_haul_28 : decode cX12_haul 28 = .ok (.iinc 1 1, 3) := by decide +kernel
theorem dX12_haul_31 : decode cX12_haul 31 = .ok (.goto (-29), 3) := by decide +kernel
theorem dX12_haul_34 : decode cX12_haul 34 = .ok (.iconst 0, 1) := by decide +kernel
theorem dX12_haul_35 : decode cX12_haul 35 = .ok (.istore_n 1, 1) := by decide +kernel
theorem dX12_haul_36 : decode cX12_haul 36 = .ok (.iload_n 1, 1) := by decide +kernel
theorem dX12_haul_37 : decode cX12_haul 37 = .ok (.aload_n 0, 1) := by decide +kernel
theorem dX12_haul_38 : decode cX12_haul 38 = .ok (.getfield 7, 3) := by decide +kernel
theorem dX12_haul_41 : decode cX12_haul 41 = .ok (.iconst 0, 1) := by decide +kernel
theorem dX12_haul_42 : decode cX12_haul 42 = .ok (.iaload, 1) := by decide +kernel
theorem dX12_haul_43 : decode cX12_haul 43 = .ok (.if_icmp .ge 190, 3) := by decide +kernel
theorem dX12_haul_46 : decode cX12_haul 46 = .ok (.aload_n 0, 1) := by decide +kernel
theorem dX12_haul_47 : decode cX12_haul 47 = .ok (.iload_n 1, 1) := by decide +kernel
theorem dX12_haul_48 : decode cX12_haul 48 = .ok (.invokevirtual 117, 3) := by decide +kernel
theorem dX12_haul_51 : decode cX12_haul 51 = .ok (.istore_n 2, 1) := by decide +kernel
theorem dX12_haul_52 : decode cX12_haul 52 = .ok (.iconst 0, 1) := by decide +kernel
theorem dX12_haul_53 : decode cX12_haul 53 = .ok (.istore_n 3, 1) := by decide +kernel
theorem dX12_haul_54 : decode cX12_haul 54 = .ok (.iload_n 3, 1) := by decide +kernel
theorem dX12_haul_55 : decode cX12_haul 55 = .ok (.sipush 4800, 3) := by decide +kernel
theorem dX12_haul_58 : decode cX12_haul 58 = .ok (.if_icmp .gt 30, 3) := by decide +kernel
theorem dX12_haul_61 : decode cX12_haul 61 = .ok (.aload_n 0, 1) := by decide +kernel
theorem dX12_haul_62 : decode cX12_haul 62 = .ok (.getfield 46, 3) := by decide +kernel
theorem dX12_haul_65 : decode cX12_haul 65 = .ok (.iload_n 3, 1) := by decide +kernel
theorem dX12_haul_66 : decode cX12_haul 66 = .ok (.aload_n 0, 1) := by decide +kernel
theorem dX12_haul_67 : decode cX12_haul 67 = .ok (.getfield 43, 3) := by decide +kernel
theorem dX12_haul_70 : decode cX12_haul 70 = .ok (.iload_n 3, 1) := by decide +kernel
theorem dX12_haul_71 : decode cX12_haul 71 = .ok (.iaload, 1) := by decide +kernel
theorem dX12_haul_72 : decode cX12_haul 72 = .ok (.iload_n 3, 1) := by decide +kernel
theorem dX12_haul_73 : decode cX12_haul 73 = .ok (.sipush 2400, 3) := by decide +kernel
theorem dX12_haul_76 : decode cX12_haul 76 = .ok (.isub, 1) := by decide +kernel
theorem dX12_haul_77 : decode cX12_haul 77 = .ok (.invokestatic 125, 3) := by decide +kernel
theorem dX12_haul_80 : decode cX12_haul 80 = .ok (.iadd, 1) := by decide +kernel
theorem dX12_haul_81 : decode cX12_haul 81 = .ok (.iastore, 1) := by decide +kernel
theorem dX12_haul_82 : decode cX12_haul 82 = .ok (.iinc 3 1, 3) := by decide +kernel
theorem dX12_haul_85 : decode cX12_haul 85 = .ok (.goto (-31), 3) := by decide +kernel
theorem dX12_haul_88 : decode cX12_haul 88 = .ok (.iconst 0, 1) := by decide +kernel
theorem dX12_haul_89 : decode cX12_haul 89 = .ok (.istore_n 3, 1) := by decide +kernel
theorem dX12_haul_90 : decode cX12_haul 90 = .ok (.iload_n 3, 1) := by decide +kernel
theorem dX12_haul_91 : decode cX12_haul 91 = .ok (.sipush 4800, 3) := by decide +kernel
theorem dX12_haul_94 : decode cX12_haul 94 = .ok (.if_icmp .gt 42, 3) := by decide +kernel
theorem dX12_haul_97 : decode cX12_haul 97 = .ok (.aload_n 0, 1) := by decide +kernel
theorem dX12_haul_98 : decode cX12_haul 98 = .ok (.getfield 43, 3) := by decide +kernel
theorem dX12_haul_101 : decode cX12_haul 101 = .ok (.iload_n 3, 1) := by decide +kernel
theorem dX12_haul_102 : decode cX12_haul 102 = .ok (.iload_n 3, 1) := by decide +kernel
theorem dX12_haul_103 : decode cX12_haul 103 = .ok (.iload_n 2, 1) := by decide +kernel
theorem dX12_haul_104 : decode cX12_haul 104 = .ok (.isub, 1) := by decide +kernel
theorem dX12_haul_105 : decode cX12_haul 105 = .ok (.i2l, 1) := by decide +kernel
theorem dX12_haul_106 : decode cX12_haul 106 = .ok (.lconst 0, 1) := by decide +kernel
theorem dX12_haul_107 : decode cX12_haul 107 = .ok (.ldc2_w 140, 3) := by decide +kernel
theorem dX12_haul_110 : decode cX12_haul 110 = .ok (.invokestatic 89, 3) := by decide +kernel
theorem dX12_haul_113 : decode cX12_haul 113 = .ok (.ifCond .eq 14, 3) := by decide +kernel
theorem dX12_haul_116 : decode cX12_haul 116 = .ok (.aload_n 0, 1) := by decide +kernel
theorem dX12_haul_117 : decode cX12_haul 117 = .ok (.getfield 46, 3) := by decide +kernel
theorem dX12_haul_120 : decode cX12_haul 120 = .ok (.iload_n 3, 1) := by decide +kernel
theorem dX12_haul_121 : decode cX12_haul 121 = .ok (.iload_n 2, 1) := by decide +kernel
theorem dX12_haul_122 : decode cX12_haul 122 = .ok (.isub, 1) := by decide +kernel
theorem dX12_haul_123 : decode cX12_haul 123 = .ok (.iaload, 1) := by decide +kernel
theorem dX12_haul_124 : decode cX12_haul 124 = .ok (.goto 5, 3) := by decide +kernel
theorem dX12_haul_127 : decode cX12_haul 127 = .ok (.ldc 139, 2) := by decide +kernel
theorem dX12_haul_129 : decode cX12_haul 129 = .ok (.iastore, 1) := by decide +kernel
theorem dX12_haul_130 : decode cX12_haul 130 = .ok (.iinc 3 1, 3) := by decide +kernel
theorem dX12_haul_133 : decode cX12_haul 133 = .ok (.goto (-43), 3) := by decide +kernel
theorem dX12_haul_136 : decode cX12_haul 136 = .ok (.iconst 1, 1) := by decide +kernel
theorem dX12_haul_137 : decode cX12_haul 137 = .ok (.istore_n 3, 1) := by decide +kernel
theorem dX12_haul_138 : decode cX12_haul 138 = .ok (.iload_n 3, 1) := by decide +kernel
theorem dX12_haul_139 : decode cX12_haul 139 = .ok (.sipush 4800, 3) := by decide +kernel
theorem dX12_haul_142 : decode cX12_haul 142 = .ok (.if_icmp .gt 40, 3) := by decide +kernel
theorem dX12_haul_145 : decode cX12_haul 145 = .ok (.aload_n 0, 1) := by decide +kernel
theorem dX12_haul_146 : decode cX12_haul 146 = .ok (.getfield 43, 3) := by decide +kernel
theorem dX12_haul_149 : decode cX12_haul 149 = .ok (.iload_n 3, 1) := by decide +kernel
theorem dX12_haul_150 : decode cX12_haul 150 = .ok (.aload_n 0, 1) := by decide +kernel
theorem dX12_haul_151 : decode cX12_haul 151 = .ok (.getfield 43, 3) := by decide +kernel
theorem dX12_haul_154 : decode cX12_haul 154 = .ok (.iload_n 3, 1) := by decide +kernel
theorem dX12_haul_155 : decode cX12_haul 155 = .ok (.iaload, 1) := by decide +kernel
theorem dX12_haul_156 : decode cX12_haul 156 = .ok (.aload_n 0, 1) := by decide +kernel
theorem dX12_haul_157 : decode cX12_haul 157 = .ok (.getfield 43, 3) := by decide +kernel
theorem dX12_haul_160 : decode cX12_haul 160 = .ok (.iload_n 3, 1) := by decide +kernel
theorem dX12_haul_161 : decode cX12_haul 161 = .ok (.iconst 1, 1) := by decide +kernel
theorem dX12_haul_162 : decode cX12_haul 162 = .ok (.isub, 1) := by decide +kernel
theorem dX12_haul_163 : decode cX12_haul 163 = .ok (.iaload, 1) := by decide +kernel
theorem dX12_haul_164 : decode cX12_haul 164 = .ok (.aload_n 0, 1) := by decide +kernel
theorem dX12_haul_165 : decode cX12_haul 165 = .ok (.getfield 7, 3) := by decide +kernel
theorem dX12_haul_168 : decode cX12_haul 168 = .ok (.bipush 14, 2) := by decide +kernel
theorem dX12_haul_170 : decode cX12_haul 170 = .ok (.iaload, 1) := by decide +kernel
theorem dX12_haul_171 : decode cX12_haul 171 = .ok (.iadd, 1) := by decide +kernel
theorem dX12_haul_172 : decode cX12_haul 172 = .ok (.invokestatic 142, 3) := by decide +kernel
theorem dX12_haul_175 : decode cX12_haul 175 = .ok (.iastore, 1) := by decide +kernel
theorem dX12_haul_176 : decode cX12_haul 176 = .ok (.iinc 3 1, 3) := by decide +kernel
theorem dX12_haul_179 : decode cX12_haul 179 = .ok (.goto (-41), 3) := by decide +kernel
theorem dX12_haul_182 : decode cX12_haul 182 = .ok (.sipush 4799, 3) := by decide +kernel
theorem dX12_haul_185 : decode cX12_haul 185 = .ok (.istore_n 3, 1) := by decide +kernel
theorem dX12_haul_186 : decode cX12_haul 186 = .ok (.iload_n 3, 1) := by decide +kernel
theorem dX12_haul_187 : decode cX12_haul 187 = .ok (.ifCond .lt 40, 3) := by decide +kernel
theorem dX12_haul_190 : decode cX12_haul 190 = .ok (.aload_n 0, 1) := by decide +kernel
theorem dX12_haul_191 : decode cX12_haul 191 = .ok (.getfield 43, 3) := by decide +kernel
theorem dX12_haul_194 : decode cX12_haul 194 = .ok (.iload_n 3, 1) := by decide +kernel
theorem dX12_haul_195 : decode cX12_haul 195 = .ok (.aload_n 0, 1) := by decide +kernel
theorem dX12_haul_196 : decode cX12_haul 196 = .ok (.getfield 43, 3) := by decide +kernel
theorem dX12_haul_199 : decode cX12_haul 199 = .ok (.iload_n 3, 1) := by decide +kernel
theorem dX12_haul_200 : decode cX12_haul 200 = .ok (.iaload, 1) := by decide +kernel
theorem dX12_haul_201 : decode cX12_haul 201 = .ok (.aload_n 0, 1) := by decide +kernel
theorem dX12_haul_202 : decode cX12_haul 202 = .ok (.getfield 43, 3) := by decide +kernel
theorem dX12_haul_205 : decode cX12_haul 205 = .ok (.iload_n 3, 1) := by decide +kernel
theorem dX12_haul_206 : decode cX12_haul 206 = .ok (.iconst 1, 1) := by decide +kernel
theorem dX12_haul_207 : decode cX12_haul 207 = .ok (.iadd, 1) := by decide +kernel
theorem dX12_haul_208 : decode cX12_haul 208 = .ok (.iaload, 1) := by decide +kernel
theorem dX12_haul_209 : decode cX12_haul 209 = .ok (.aload_n 0, 1) := by decide +kernel
theorem dX12_haul_210 : decode cX12_haul 210 = .ok (.getfield 7, 3) := by decide +kernel
theorem dX12_haul_213 : decode cX12_haul 213 = .ok (.bipush 15, 2) := by decide +kernel
theorem dX12_haul_215 : decode cX12_haul 215 = .ok (.iaload, 1) := by decide +kernel
theorem dX12_haul_216 : decode cX12_haul 216 = .ok (.iadd, 1) := by decide +kernel
theorem dX12_haul_217 : decode cX12_haul 217 = .ok (.invokestatic 142, 3) := by decide +kernel
theorem dX12_haul_220 : decode cX12_haul 220 = .ok (.iastore, 1) := by decide +kernel
theorem dX12_haul_221 : decode cX12_haul 221 = .ok (.iinc 3 (-1), 3) := by decide +kernel
theorem dX12_haul_224 : decode cX12_haul 224 = .ok (.goto (-38), 3) := by decide +kernel
theorem dX12_haul_227 : decode cX12_haul 227 = .ok (.iinc 1 1, 3) := by decide +kernel
theorem dX12_haul_230 : decode cX12_haul 230 = .ok (.goto (-194), 3) := by decide +kernel
theorem dX12_haul_233 : decode cX12_haul 233 = .ok (.aload_n 0, 1) := by decide +kernel
theorem dX12_haul_234 : decode cX12_haul 234 = .ok (.getfield 43, 3) := by decide +kernel
theorem dX12_haul_237 : decode cX12_haul 237 = .ok (.sipush 2400, 3) := by decide +kernel
theorem dX12_haul_240 : decode cX12_haul 240 = .ok (.iaload, 1) := by decide +kernel
theorem dX12_haul_241 : decode cX12_haul 241 = .ok (.ireturn, 1) := by decide +kernel
theorem dX12_newWork_0 : decode cX12_newWork 0 = .ok (.aload_n 0, 1) := by decide +kernel
theorem dX12_newWork_1 : decode cX12_newWork 1 = .ok (.aload_n 0, 1) := by decide +kernel
theorem dX12_newWork_2 : decode cX12_newWork 2 = .ok (.getfield 7, 3) := by decide +kernel
theorem dX12_newWork_5 : decode cX12_newWork 5 = .ok (.iconst 1, 1) := by decide +kernel
theorem dX12_newWork_6 : decode cX12_newWork 6 = .ok (.iaload, 1) := by decide +kernel
theorem dX12_newWork_7 : decode cX12_newWork 7 = .ok (.invokevirtual 93, 3) := by decide +kernel
theorem dX12_newWork_10 : decode cX12_newWork 10 = .ok (.istore 4, 2) := by decide +kernel
theorem dX12_newWork_12 : decode cX12_newWork 12 = .ok (.iconst 0, 1) := by decide +kernel
theorem dX12_newWork_13 : decode cX12_newWork 13 = .ok (.istore 5, 2) := by decide +kernel
theorem dX12_newWork_15 : decode cX12_newWork 15 = .ok (.iload 5, 2) := by decide +kernel
theorem dX12_newWork_17 : decode cX12_newWork 17 = .ok (.bipush 10, 2) := by decide +kernel
theorem dX12_newWork_19 : decode cX12_newWork 19 = .ok (.if_icmp .ge 20, 3) := by decide +kernel
theorem dX12_newWork_22 : decode cX12_newWork 22 = .ok (.aload_n 0, 1) := by decide +kernel
theorem dX12_newWork_23 : decode cX12_newWork 23 = .ok (.getfield 7, 3) := by decide +kernel
theorem dX12_newWork_26 : decode cX12_newWork 26 = .ok (.iload 4, 2) := by decide +kernel
theorem dX12_newWork_28 : decode cX12_newWork 28 = .ok (.iload 5, 2) := by decide +kernel
theorem dX12_newWork_30 : decode cX12_newWork 30 = .ok (.iadd, 1) := by decide +kernel
theorem dX12_newWork_31 : decode cX12_newWork 31 = .ok (.iconst 0, 1) := by decide +kernel
theorem dX12_newWork_32 : decode cX12_newWork 32 = .ok (.iastore, 1) := by decide +kernel
theorem dX12_newWork_33 : decode cX12_newWork 33 = .ok (.iinc 5 1, 3) := by decide +kernel
theorem dX12_newWork_36 : decode cX12_newWork 36 = .ok (.goto (-21), 3) := by decide +kernel
theorem dX12_newWork_39 : decode cX12_newWork 39 = .ok (.aload_n 0, 1) := by decide +kernel
theorem dX12_newWork_40 : decode cX12_newWork 40 = .ok (.getfield 7, 3) := by decide +kernel
theorem dX12_newWork_43 : decode cX12_newWork 43 = .ok (.iload 4, 2) := by decide +kernel
theorem dX12_newWork_45 : decode cX12_newWork 45 = .ok (.iload_n 1, 1) := by decide +kernel
theorem dX12_newWork_46 : decode cX12_newWork 46 = .ok (.iastore, 1) := by decide +kernel
theorem dX12_newWork_47 : decode cX12_newWork 47 = .ok (.aload_n 0, 1) := by decide +kernel
theorem dX12_newWork_48 : decode cX12_newWork 48 = .ok (.getfield 7, 3) := by decide +kernel
theorem dX12_newWork_51 : decode cX12_newWork 51 = .ok (.iload 4, 2) := by decide +kernel
theorem dX12_newWork_53 : decode cX12_newWork 53 = .ok (.iconst 1, 1) := by decide +kernel
theorem dX12_newWork_54 : decode cX12_newWork 54 = .ok (.iadd, 1) := by decide +kernel
theorem dX12_newWork_55 : decode cX12_newWork 55 = .ok (.iload_n 2, 1) := by decide +kernel
theorem dX12_newWork_56 : decode cX12_newWork 56 = .ok (.iastore, 1) := by decide +kernel
theorem dX12_newWork_57 : decode cX12_newWork 57 = .ok (.aload_n 0, 1) := by decide +kernel
theorem dX12_newWork_58 : decode cX12_newWork 58 = .ok (.getfield 7, 3) := by decide +kernel
theorem dX12_newWork_61 : decode cX12_newWork 61 = .ok (.iload 4, 2) := by decide +kernel
theorem dX12_newWork_63 : decode cX12_newWork 63 = .ok (.iconst 2, 1) := by decide +kernel
theorem dX12_newWork_64 : decode cX12_newWork 64 = .ok (.iadd, 1) := by decide +kernel
theorem dX12_newWork_65 : decode cX12_newWork 65 = .ok (.iload_n 3, 1) := by decide +kernel
theorem dX12_newWork_66 : decode cX12_newWork 66 = .ok (.iastore, 1) := by decide +kernel
theorem dX12_newWork_67 : decode cX12_newWork 67 = .ok (.aload_n 0, 1) := by decide +kernel
theorem dX12_newWork_68 : decode cX12_newWork 68 = .ok (.getfield 7, 3) := by decide +kernel
theorem dX12_newWork_71 : decode cX12_newWork 71 = .ok (.iload 4, 2) := by decide +kernel
theorem dX12_newWork_73 : decode cX12_newWork 73 = .ok (.iconst 4, 1) := by decide +kernel
theorem dX12_newWork_74 : decode cX12_newWork 74 = .ok (.iadd, 1) := by decide +kernel
theorem dX12_newWork_75 : decode cX12_newWork 75 = .ok (.iconst (-1), 1) := by decide +kernel
theorem dX12_newWork_76 : decode cX12_newWork 76 = .ok (.iastore, 1) := by decide +kernel
theorem dX12_newWork_77 : decode cX12_newWork 77 = .ok (.aload_n 0, 1) := by decide +kernel
theorem dX12_newWork_78 : decode cX12_newWork 78 = .ok (.getfield 7, 3) := by decide +kernel
theorem dX12_newWork_81 : decode cX12_newWork 81 = .ok (.iload 4, 2) := by decide +kernel
theorem dX12_newWork_83 : decode cX12_newWork 83 = .ok (.bipush 6, 2) := by decide +kernel
theorem dX12_newWork_85 : decode cX12_newWork 85 = .ok (.iadd, 1) := by decide +kernel
theorem dX12_newWork_86 : decode cX12_newWork 86 = .ok (.iconst 1, 1) := by decide +kernel
theorem dX12_newWork_87 : decode cX12_newWork 87 = .ok (.iastore, 1) := by decide +kernel
theorem dX12_newWork_88 : decode cX12_newWork 88 = .ok (.aload_n 0, 1) := by decide +kernel
theorem dX12_newWork_89 : decode cX12_newWork 89 = .ok (.getfield 7, 3) := by decide +kernel
theorem dX12_newWork_92 : decode cX12_newWork 92 = .ok (.iconst 1, 1) := by decide +kernel
theorem dX12_newWork_93 : decode cX12_newWork 93 = .ok (.dup2, 1) := by decide +kernel
theorem dX12_newWork_94 : decode cX12_newWork 94 = .ok (.iaload, 1) := by decide +kernel
theorem dX12_newWork_95 : decode cX12_newWork 95 = .ok (.iconst 1, 1) := by decide +kernel
theorem dX12_newWork_96 : decode cX12_newWork 96 = .ok (.iadd, 1) := by decide +kernel
theorem dX12_newWork_97 : decode cX12_newWork 97 = .ok (.iastore, 1) := by decide +kernel
theorem dX12_newWork_98 : decode cX12_newWork 98 = .ok (.aload_n 0, 1) := by decide +kernel
theorem dX12_newWork_99 : decode cX12_newWork 99 = .ok (.getfield 7, 3) := by decide +kernel
theorem dX12_newWork_102 : decode cX12_newWork 102 = .ok (.iconst 1, 1) := by decide +kernel
theorem dX12_newWork_103 : decode cX12_newWork 103 = .ok (.iaload, 1) := by decide +kernel
theorem dX12_newWork_104 : decode cX12_newWork 104 = .ok (.iconst 1, 1) := by decide +kernel
theorem dX12_newWork_105 : decode cX12_newWork 105 = .ok (.isub, 1) := by decide +kernel
theorem dX12_newWork_106 : decode cX12_newWork 106 = .ok (.ireturn, 1) := by decide +kernel
theorem dX12_work_0 : decode cX12_work 0 = .ok (.iload_n 1, 1) := by decide +kernel
theorem dX12_work_1 : decode cX12_work 1 = .ok (.i2l, 1) := by decide +kernel
theorem dX12_work_2 : decode cX12_work 2 = .ok (.lconst 0, 1) := by decide +kernel
theorem dX12_work_3 : decode cX12_work 3 = .ok (.ldc2_w 145, 3) := by decide +kernel
theorem dX12_work_6 : decode cX12_work 6 = .ok (.invokestatic 89, 3) := by decide +kernel
theorem dX12_work_9 : decode cX12_work 9 = .ok (.ifCond .eq 28, 3) := by decide +kernel
theorem dX12_work_12 : decode cX12_work 12 = .ok (.iload_n 1, 1) := by decide +kernel
theorem dX12_work_13 : decode cX12_work 13 = .ok (.iconst 5, 1) := by decide +kernel
theorem dX12_work_14 : decode cX12_work 14 = .ok (.if_icmp .eq 23, 3) := by decide +kernel
theorem dX12_work_17 : decode cX12_work 17 = .ok (.aload_n 0, 1) := by decide +kernel
theorem dX12_work_18 : decode cX12_work 18 = .ok (.iload_n 2, 1) := by decide +kernel
theorem dX12_work_19 : decode cX12_work 19 = .ok (.invokevirtual 102, 3) := by decide +kernel
theorem dX12_work_22 : decode cX12_work 22 = .ok (.ifCond .eq 15, 3) := by decide +kernel
theorem dX12_work_25 : decode cX12_work 25 = .ok (.iload_n 3, 1) := by decide +kernel
theorem dX12_work_26 : decode cX12_work 26 = .ok (.i2l, 1) := by decide +kernel
theorem dX12_work_27 : decode cX12_work 27 = .ok (.lconst 1, 1) := by decide +kernel
theorem dX12_work_28 : decode cX12_work 28 = .ok (.ldc2_w 147, 3) := by decide +kernel
theorem dX12_work_31 : decode cX12_work 31 = .ok (.invokestatic 89, 3) := by decide +kernel
theorem dX12_work_34 : decode cX12_work 34 = .ok (.ifCond .ne 6, 3) := by decide +kernel
theorem dX12_work_37 : decode cX12_work 37 = .ok (.ldc 100, 2) := by decide +kernel
theorem dX12_work_39 : decode cX12_work 39 = .ok (.ireturn, 1) := by decide +kernel
theorem dX12_work_40 : decode cX12_work 40 = .ok (.aload_n 0, 1) := by decide +kernel
theorem dX12_work_41 : decode cX12_work 41 = .ok (.getfield 7, 3) := by decide +kernel
theorem dX12_work_44 : decode cX12_work 44 = .ok (.iconst 1, 1) := by decide +kernel
theorem dX12_work_45 : decode cX12_work 45 = .ok (.iaload, 1) := by decide +kernel
theorem dX12_work_46 : decode cX12_work 46 = .ok (.bipush 24, 2) := by decide +kernel
theorem dX12_work_48 : decode cX12_work 48 = .ok (.if_icmp .ne 8, 3) := by decide +kernel
theorem dX12_work_51 : decode cX12_work 51 = .ok (.ldc 149, 2) := by decide +kernel
theorem dX12_work_53 : decode cX12_work 53 = .ok (.goto 10, 3) := by decide +kernel
theorem dX12_work_56 : decode cX12_work 56 = .ok (.aload_n 0, 1) := by decide +kernel
theorem dX12_work_57 : decode cX12_work 57 = .ok (.iload_n 1, 1) := by decide +kernel
theorem dX12_work_58 : decode cX12_work 58 = .ok (.iload_n 2, 1) := by decide +kernel
theorem dX12_work_59 : decode cX12_work 59 = .ok (.iload_n 3, 1) := by decide +kernel
theorem dX12_work_60 : decode cX12_work 60 = .ok (.invokevirtual 150, 3) := by decide +kernel
theorem dX12_work_63 : decode cX12_work 63 = .ok (.ireturn, 1) := by decide +kernel
theorem dX12_stratumOf_0 : decode cX12_stratumOf 0 = .ok (.aload_n 0, 1) := by decide +kernel
theorem dX12_stratumOf_1 : decode cX12_stratumOf 1 = .ok (.getfield 7, 3) := by decide +kernel
theorem dX12_stratumOf_4 : decode cX12_stratumOf 4 = .ok (.aload_n 0, 1) := by decide +kernel
theorem dX12_stratumOf_5 : decode cX12_stratumOf 5 = .ok (.aload_n 0, 1) := by decide +kernel
theorem dX12_stratumOf_6 : decode cX12_stratumOf 6 = .ok (.getfield 7, 3) := by decide +kernel
theorem dX12_stratumOf_9 : decode cX12_stratumOf 9 = .ok (.aload_n 0, 1) := by decide +kernel
theorem dX12_stratumOf_10 : decode cX12_stratumOf 10 = .ok (.iload_n 1, 1) := by decide +kernel
theorem dX12_stratumOf_11 : decode cX12_stratumOf 11 = .ok (.invokevirtual 93, 3) := by decide +kernel
theorem dX12_stratumOf_14 : decode cX12_stratumOf 14 = .ok (.iconst 1, 1) := by decide +kernel
theorem dX12_stratumOf_15 : decode cX12_stratumOf 15 = .ok (.iadd, 1) := by decide +kernel
theorem dX12_stratumOf_16 : decode cX12_stratumOf 16 = .ok (.iaload, 1) := by decide +kernel
theorem dX12_stratumOf_17 : decode cX12_stratumOf 17 = .ok (.invokevirtual 84, 3) := by decide +kernel
theorem dX12_stratumOf_20 : decode cX12_stratumOf 20 = .ok (.iconst 2, 1) := by decide +kernel
theorem dX12_stratumOf_21 : decode cX12_stratumOf 21 = .ok (.iadd, 1) := by decide +kernel
theorem dX12_stratumOf_22 : decode cX12_stratumOf 22 = .ok (.iaload, 1) := by decide +kernel
theorem dX12_stratumOf_23 : decode cX12_stratumOf 23 = .ok (.ireturn, 1) := by decide +kernel
theorem dX12_rateOf_0 : decode cX12_rateOf 0 = .ok (.aload_n 0, 1) := by decide +kernel
theorem dX12_rateOf_1 : decode cX12_rateOf 1 = .ok (.iload_n 1, 1) := by decide +kernel
theorem dX12_rateOf_2 : decode cX12_rateOf 2 = .ok (.invokevirtual 153, 3) := by decide +kernel
theorem dX12_rateOf_5 : decode cX12_rateOf 5 = .ok (.istore_n 3, 1) := by decide +kernel
theorem dX12_rateOf_6 : decode cX12_rateOf 6 = .ok (.iload_n 3, 1) := by decide +kernel
theorem dX12_rateOf_7 : decode cX12_rateOf 7 = .ok (.iconst 2, 1) := by decide +kernel
theorem dX12_rateOf_8 : decode cX12_rateOf 8 = .ok (.if_icmp .ne 13, 3) := by decide +kernel
theorem dX12_rateOf_11 : decode cX12_rateOf 11 = .ok (.iload_n 2, 1) := by decide +kernel
theorem dX12_rateOf_12 : decode cX12_rateOf 12 = .ok (.bipush 6, 2) := by decide +kernel
theorem dX12_rateOf_14 : decode cX12_rateOf 14 = .ok (.if_icmp .le 7, 3) := by decide +kernel
theorem dX12_rateOf_17 : decode cX12_rateOf 17 = .ok (.iconst 0, 1) := by decide +kernel
theorem dX12_rateOf_18 : decode cX12_rateOf 18 = .ok (.goto 9, 3) := by decide +kernel
theorem dX12_rateOf_21 : decode cX12_rateOf 21 = .ok (.aload_n 0, 1) := by decide +kernel
theorem dX12_rateOf_22 : decode cX12_rateOf 22 = .ok (.getfield 28, 3) := by decide +kernel
theorem dX12_rateOf_25 : decode cX12_rateOf 25 = .ok (.iload_n 3, 1) := by decide +kernel
theorem dX12_rateOf_26 : decode cX12_rateOf 26 = .ok (.iaload, 1) := by decide +kernel
theorem dX12_rateOf_27 : decode cX12_rateOf 27 = .ok (.istore 4, 2) := by decide +kernel
theorem dX12_rateOf_29 : decode cX12_rateOf 29 = .ok (.aload_n 0, 1) := by decide +kernel
theorem dX12_rateOf_30 : decode cX12_rateOf 30 = .ok (.iload_n 1, 1) := by decide +kernel
theorem dX12_rateOf_31 : decode cX12_rateOf 31 = .ok (.invokevirtual 114, 3) := by decide +kernel
theorem dX12_rateOf_34 : decode cX12_rateOf 34 = .ok (.tableswitch 78 1 6 #[38, 41, 52, 59, 71, 76], 38) := by decide +kernel
theorem dX12_rateOf_72 : decode cX12_rateOf 72 = .ok (.iload 4, 2) := by decide +kernel
theorem dX12_rateOf_74 : decode cX12_rateOf 74 = .ok (.ireturn, 1) := by decide +kernel
theorem dX12_rateOf_75 : decode cX12_rateOf 75 = .ok (.iload_n 2, 1) := by decide +kernel
theorem dX12_rateOf_76 : decode cX12_rateOf 76 = .ok (.iconst 4, 1) := by decide +kernel
theorem dX12_rateOf_77 : decode cX12_rateOf 77 = .ok (.if_icmp .le 7, 3) := by decide +kernel
theorem dX12_rateOf_80 : decode cX12_rateOf 80 = .ok (.iconst 1, 1) := by decide +kernel
theorem dX12_rateOf_81 : decode cX12_rateOf 81 = .ok (.goto 4, 3) := by decide +kernel
theorem dX12_rateOf_84 : decode cX12_rateOf 84 = .ok (.iconst 2, 1) := by decide +kernel
theorem dX12_rateOf_85 : decode cX12_rateOf 85 = .ok (.ireturn, 1) := by decide +kernel
theorem dX12_rateOf_86 : decode cX12_rateOf 86 = .ok (.iload 4, 2) := by decide +kernel
theorem dX12_rateOf_88 : decode cX12_rateOf 88 = .ok (.iconst 1, 1) := by decide +kernel
theorem dX12_rateOf_89 : decode cX12_rateOf 89 = .ok (.iadd, 1) := by decide +kernel
theorem dX12_rateOf_90 : decode cX12_rateOf 90 = .ok (.iconst 2, 1) := by decide +kernel
theorem dX12_rateOf_91 : decode cX12_rateOf 91 = .ok (.idiv, 1) := by decide +kernel
theorem dX12_rateOf_92 : decode cX12_rateOf 92 = .ok (.ireturn, 1) := by decide +kernel
theorem dX12_rateOf_93 : decode cX12_rateOf 93 = .ok (.iload_n 2, 1) := by decide +kernel
theorem dX12_rateOf_94 : decode cX12_rateOf 94 = .ok (.bipush 7, 2) := by decide +kernel
theorem dX12_rateOf_96 : decode cX12_rateOf 96 = .ok (.if_icmp .le 7, 3) := by decide +kernel
theorem dX12_rateOf_99 : decode cX12_rateOf 99 = .ok (.iconst 0, 1) := by decide +kernel
theorem dX12_rateOf_100 : decode cX12_rateOf 100 = .ok (.goto 4, 3) := by decide +kernel
theorem dX12_rateOf_103 : decode cX12_rateOf 103 = .ok (.iconst 1, 1) := by decide +kernel
theorem dX12_rateOf_104 : decode cX12_rateOf 104 = .ok (.ireturn, 1) := by decide +kernel
theorem dX12_rateOf_105 : decode cX12_rateOf 105 = .ok (.iload 4, 2) := by decide +kernel
theorem dX12_rateOf_107 : decode cX12_rateOf 107 = .ok (.iconst 1, 1) := by decide +kernel
theorem dX12_rateOf_108 : decode cX12_rateOf 108 = .ok (.iadd, 1) := by decide +kernel
theorem dX12_rateOf_109 : decode cX12_rateOf 109 = .ok (.ireturn, 1) := by decide +kernel
theorem dX12_rateOf_110 : decode cX12_rateOf 110 = .ok (.iconst 4, 1) := by decide +kernel
theorem dX12_rateOf_111 : decode cX12_rateOf 111 = .ok (.ireturn, 1) := by decide +kernel
theorem dX12_rateOf_112 : decode cX12_rateOf 112 = .ok (.iconst 2, 1) := by decide +kernel
theorem dX12_rateOf_113 : decode cX12_rateOf 113 = .ok (.ireturn, 1) := by decide +kernel
theorem dX12_worthOf_0 : decode cX12_worthOf 0 = .ok (.aload_n 0, 1) := by decide +kernel
theorem dX12_worthOf_1 : decode cX12_worthOf 1 = .ok (.iload_n 1, 1) := by decide +kernel
theorem dX12_worthOf_2 : decode cX12_worthOf 2 = .ok (.invokevirtual 153, 3) := by decide +kernel
theorem dX12_worthOf_5 : decode cX12_worthOf 5 = .ok (.ifCond .ne 8, 3) := by decide +kernel
theorem dX12_worthOf_8 : decode cX12_worthOf 8 = .ok (.bipush 10, 2) := by decide +kernel
theorem dX12_worthOf_10 : decode cX12_worthOf 10 = .ok (.goto 4, 3) := by decide +kernel
theorem dX12_worthOf_13 : decode cX12_worthOf 13 = .ok (.iconst 5, 1) := by decide +kernel
theorem dX12_worthOf_14 : decode cX12_worthOf 14 = .ok (.istore_n 2, 1) := by decide +kernel
theorem dX12_worthOf_15 : decode cX12_worthOf 15 = .ok (.aload_n 0, 1) := by decide +kernel
theorem dX12_worthOf_16 : decode cX12_worthOf 16 = .ok (.iload_n 1, 1) := by decide +kernel
theorem dX12_worthOf_17 : decode cX12_worthOf 17 = .ok (.invokevirtual 114, 3) := by decide +kernel
theorem dX12_worthOf_20 : decode cX12_worthOf 20 = .ok (.tableswitch 55 1 6 #[40, 55, 42, 46, 49, 53], 40) := by decide +kernel
theorem dX12_worthOf_60 : decode cX12_worthOf 60 = .ok (.iload_n 2, 1) := by decide +kernel
theorem dX12_worthOf_61 : decode cX12_worthOf 61 = .ok (.ireturn, 1) := by decide +kernel
theorem dX12_worthOf_62 : decode cX12_worthOf 62 = .ok (.iconst 4, 1) := by decide +kernel
theorem dX12_worthOf_63 : decode cX12_worthOf 63 = .ok (.iload_n 2, 1) := by decide +kernel
theorem dX12_worthOf_64 : decode cX12_worthOf 64 = .ok (.imul, 1) := by decide +kernel
theorem dX12_worthOf_65 : decode cX12_worthOf 65 = .ok (.ireturn, 1) := by decide +kernel
theorem dX12_worthOf_66 : decode cX12_worthOf 66 = .ok (.bipush 9, 2) := by decide +kernel
theorem dX12_worthOf_68 : decode cX12_worthOf 68 = .ok (.ireturn, 1) := by decide +kernel
theorem dX12_worthOf_69 : decode cX12_worthOf 69 = .ok (.iload_n 2, 1) := by decide +kernel
theorem dX12_worthOf_70 : decode cX12_worthOf 70 = .ok (.iconst 2, 1) := by decide +kernel
theorem dX12_worthOf_71 : decode cX12_worthOf 71 = .ok (.idiv, 1) := by decide +kernel
theorem dX12_worthOf_72 : decode cX12_worthOf 72 = .ok (.ireturn, 1) := by decide +kernel
theorem dX12_worthOf_73 : decode cX12_worthOf 73 = .ok (.iconst 2, 1) := by decide +kernel
theorem dX12_worthOf_74 : decode cX12_worthOf 74 = .ok (.ireturn, 1) := by decide +kernel
theorem dX12_worthOf_75 : decode cX12_worthOf 75 = .ok (.iconst 5, 1) := by decide +kernel
theorem dX12_worthOf_76 : decode cX12_worthOf 76 = .ok (.ireturn, 1) := by decide +kernel
theorem dX12_joinedOf_0 : decode cX12_joinedOf 0 = .ok (.aload_n 0, 1) := by decide +kernel
theorem dX12_joinedOf_1 : decode cX12_joinedOf 1 = .ok (.iload_n 1, 1) := by decide +kernel
theorem dX12_joinedOf_2 : decode cX12_joinedOf 2 = .ok (.invokevirtual 93, 3) := by decide +kernel
theorem dX12_joinedOf_5 : decode cX12_joinedOf 5 = .ok (.istore_n 2, 1) := by decide +kernel
theorem dX12_joinedOf_6 : decode cX12_joinedOf 6 = .ok (.aload_n 0, 1) := by decide +kernel
theorem dX12_joinedOf_7 : decode cX12_joinedOf 7 = .ok (.getfield 7, 3) := by decide +kernel
theorem dX12_joinedOf_10 : decode cX12_joinedOf 10 = .ok (.iload_n 2, 1) := by decide +kernel
theorem dX12_joinedOf_11 : decode cX12_joinedOf 11 = .ok (.iconst 3, 1) := by decide +kernel
theorem dX12_joinedOf_12 : decode cX12_joinedOf 12 = .ok (.iadd, 1) := by decide +kernel
theorem dX12_joinedOf_13 : decode cX12_joinedOf 13 = .ok (.iaload, 1) := by decide +kernel
theorem dX12_joinedOf_14 : decode cX12_joinedOf 14 = .ok (.aload_n 0, 1) := by decide +kernel
theorem dX12_joinedOf_15 : decode cX12_joinedOf 15 = .ok (.getfield 7, 3) := by decide +kernel
theorem dX12_joinedOf_18 : decode cX12_joinedOf 18 = .ok (.iload_n 2, 1) := by decide +kernel
theorem dX12_joinedOf_19 : decode cX12_joinedOf 19 = .ok (.bipush 7, 2) := by decide +kernel
theorem dX12_joinedOf_21 : decode cX12_joinedOf 21 = .ok (.iadd, 1) := by decide +kernel
theorem dX12_joinedOf_22 : decode cX12_joinedOf 22 = .ok (.iaload, 1) := by decide +kernel
theorem dX12_joinedOf_23 : decode cX12_joinedOf 23 = .ok (.aload_n 0, 1) := by decide +kernel
theorem dX12_joinedOf_24 : decode cX12_joinedOf 24 = .ok (.getfield 7, 3) := by decide +kernel
theorem dX12_joinedOf_27 : decode cX12_joinedOf 27 = .ok (.iload_n 2, 1) := by decide +kernel
theorem dX12_joinedOf_28 : decode cX12_joinedOf 28 = .ok (.bipush 7, 2) := by decide +kernel
theorem dX12_joinedOf_30 : decode cX12_joinedOf 30 = .ok (.iadd, 1) := by decide +kernel
theorem dX12_joinedOf_31 : decode cX12_joinedOf 31 = .ok (.iconst 1, 1) := by decide +kernel
theorem dX12_joinedOf_32 : decode cX12_joinedOf 32 = .ok (.iadd, 1) := by decide +kernel
theorem dX12_joinedOf_33 : decode cX12_joinedOf 33 = .ok (.iaload, 1) := by decide +kernel
theorem dX12_joinedOf_34 : decode cX12_joinedOf 34 = .ok (.invokestatic 142, 3) := by decide +kernel
theorem dX12_joinedOf_37 : decode cX12_joinedOf 37 = .ok (.invokestatic 142, 3) := by decide +kernel
theorem dX12_joinedOf_40 : decode cX12_joinedOf 40 = .ok (.ireturn, 1) := by decide +kernel
theorem dX12_told_0 : decode cX12_told 0 = .ok (.aload_n 0, 1) := by decide +kernel
theorem dX12_told_1 : decode cX12_told 1 = .ok (.iload_n 1, 1) := by decide +kernel
theorem dX12_told_2 : decode cX12_told 2 = .ok (.invokevirtual 156, 3) := by decide +kernel
theorem dX12_told_5 : decode cX12_told 5 = .ok (.ifCond .ne 6, 3) := by decide +kernel
theorem dX12_told_8 : decode cX12_told 8 = .ok (.ldc 100, 2) := by decide +kernel
theorem dX12_told_10 : decode cX12_told 10 = .ok (.ireturn, 1) := by decide +kernel
theorem dX12_told_11 : decode cX12_told 11 = .ok (.aload_n 0, 1) := by decide +kernel
theorem dX12_told_12 : decode cX12_told 12 = .ok (.iload_n 1, 1) := by decide +kernel
theorem dX12_told_13 : decode cX12_told 13 = .ok (.invokevirtual 93, 3) := by decide +kernel
theorem dX12_told_16 : decode cX12_told 16 = .ok (.istore_n 3, 1) := by decide +kernel
theorem dX12_told_17 : decode cX12_told 17 = .ok (.iload_n 2, 1) := by decide +kernel
theorem dX12_told_18 : decode cX12_told 18 = .ok (.tableswitch 141 0 12 #[66, 66, 66, 66, 75, 66, 66, 87, 104, 110, 110, 125, 131], 66) := by decide +kernel
theorem dX12_told_84 : decode cX12_told 84 = .ok (.aload_n 0, 1) := by decide +kernel
theorem dX12_told_85 : decode cX12_told 85 = .ok (.getfield 7, 3) := by decide +kernel
theorem dX12_told_88 : decode cX12_told 88 = .ok (.iload_n 3, 1) := by decide +kernel
theorem dX12_told_89 : decode cX12_told 89 = .ok (.iload_n 2, 1) := by decide +kernel
theorem dX12_told_90 : decode cX12_told 90 = .ok (.iadd, 1) := by decide +kernel
theorem dX12_told_91 : decode cX12_told 91 = .ok (.iaload, 1) := by decide +kernel
theorem dX12_told_92 : decode cX12_told 92 = .ok (.ireturn, 1) := by decide +kernel
theorem dX12_told_93 : decode cX12_told 93 = .ok (.aload_n 0, 1) := by decide +kernel
theorem dX12_told_94 : decode cX12_told 94 = .ok (.getfield 7, 3) := by decide +kernel
theorem dX12_told_97 : decode cX12_told 97 = .ok (.iload_n 3, 1) := by decide +kernel
theorem dX12_told_98 : decode cX12_told 98 = .ok (.iconst 4, 1) := by decide +kernel
theorem dX12_told_99 : decode cX12_told 99 = .ok (.iadd, 1) := by decide +kernel
theorem dX12_told_100 : decode cX12_told 100 = .ok (.iaload, 1) := by decide +kernel
theorem dX12_told_101 : decode cX12_told 101 = .ok (.invokestatic 159, 3) := by decide +kernel
theorem dX12_told_104 : decode cX12_told 104 = .ok (.ireturn, 1) := by decide +kernel
theorem dX12_told_105 : decode cX12_told 105 = .ok (.aload_n 0, 1) := by decide +kernel
theorem dX12_told_106 : decode cX12_told 106 = .ok (.iload_n 1, 1) := by decide +kernel
theorem dX12_told_107 : decode cX12_told 107 = .ok (.aload_n 0, 1) := by decide +kernel
theorem dX12_told_108 : decode cX12_told 108 = .ok (.aload_n 0, 1) := by decide +kernel
theorem dX12_told_109 : decode cX12_told 109 = .ok (.getfield 7, 3) := by decide +kernel
theorem dX12_told_112 : decode cX12_told 112 = .ok (.bipush 8, 2) := by decide +kernel
theorem dX12_told_114 : decode cX12_told 114 = .ok (.iaload, 1) := by decide +kernel
theorem dX12_told_115 : decode cX12_told 115 = .ok (.invokevirtual 162, 3) := by decide +kernel
theorem dX12_told_118 : decode cX12_told 118 = .ok (.invokevirtual 165, 3) := by decide +kernel
theorem dX12_told_121 : decode cX12_told 121 = .ok (.ireturn, 1) := by decide +kernel
theorem dX12_told_122 : decode cX12_told 122 = .ok (.aload_n 0, 1) := by decide +kernel
theorem dX12_told_123 : decode cX12_told 123 = .ok (.iload_n 1, 1) := by decide +kernel
theorem dX12_told_124 : decode cX12_told 124 = .ok (.invokevirtual 168, 3) := by decide +kernel
theorem dX12_told_127 : decode cX12_told 127 = .ok (.ireturn, 1) := by decide +kernel
theorem dX12_told_128 : decode cX12_told 128 = .ok (.aload_n 0, 1) := by decide +kernel
theorem dX12_told_129 : decode cX12_told 129 = .ok (.getfield 7, 3) := by decide +kernel
theorem dX12_told_132 : decode cX12_told 132 = .ok (.iload_n 3, 1) := by decide +kernel
theorem dX12_told_133 : decode cX12_told 133 = .ok (.bipush 7, 2) := by decide +kernel
theorem dX12_told_135 : decode cX12_told 135 = .ok (.iadd, 1) := by decide +kernel
theorem dX12_told_136 : decode cX12_told 136 = .ok (.iload_n 2, 1) := by decide +kernel
theorem dX12_told_137 : decode cX12_told 137 = .ok (.iadd, 1) := by decide +kernel
theorem dX12_told_138 : decode cX12_told 138 = .ok (.bipush 9, 2) := by decide +kernel
theorem dX12_told_140 : decode cX12_told 140 = .ok (.isub, 1) := by decide +kernel
theorem dX12_told_141 : decode cX12_told 141 = .ok (.iaload, 1) := by decide +kernel
theorem dX12_told_142 : decode cX12_told 142 = .ok (.ireturn, 1) := by decide +kernel
theorem dX12_told_143 : decode cX12_told 143 = .ok (.aload_n 0, 1) := by decide +kernel
theorem dX12_told_144 : decode cX12_told 144 = .ok (.iload_n 1, 1) := by decide +kernel
theorem dX12_told_145 : decode cX12_told 145 = .ok (.invokevirtual 171, 3) := by decide +kernel
theorem dX12_told_148 : decode cX12_told 148 = .ok (.ireturn, 1) := by decide +kernel
theorem dX12_told_149 : decode cX12_told 149 = .ok (.aload_n 0, 1) := by decide +kernel
theorem dX12_told_150 : decode cX12_told 150 = .ok (.getfield 7, 3) := by decide +kernel
theorem dX12_told_153 : decode cX12_told 153 = .ok (.iload_n 3, 1) := by decide +kernel
theorem dX12_told_154 : decode cX12_told 154 = .ok (.bipush 9, 2) := by decide +kernel
theorem dX12_told_156 : decode cX12_told 156 = .ok (.iadd, 1) := by decide +kernel
theorem dX12_told_157 : decode cX12_told 157 = .ok (.iaload, 1) := by decide +kernel
theorem dX12_told_158 : decode cX12_told 158 = .ok (.ireturn, 1) := by decide +kernel
theorem dX12_told_159 : decode cX12_told 159 = .ok (.ldc 100, 2) := by decide +kernel
theorem dX12_told_161 : decode cX12_told 161 = .ok (.ireturn, 1) := by decide +kernel
theorem dX12_as_0 : decode cX12_as 0 = .ok (.aload_n 0, 1) := by decide +kernel
theorem dX12_as_1 : decode cX12_as 1 = .ok (.iload_n 1, 1) := by decide +kernel
theorem dX12_as_2 : decode cX12_as 2 = .ok (.invokevirtual 156, 3) := by decide +kernel
theorem dX12_as_5 : decode cX12_as 5 = .ok (.ifCond .eq 15, 3) := by decide +kernel
theorem dX12_as_8 : decode cX12_as 8 = .ok (.iload_n 2, 1) := by decide +kernel
theorem dX12_as_9 : decode cX12_as 9 = .ok (.i2l, 1) := by decide +kernel
theorem dX12_as_10 : decode cX12_as 10 = .ok (.lconst 0, 1) := by decide +kernel
theorem dX12_as_11 : decode cX12_as 11 = .ok (.ldc2_w 145, 3) := by decide +kernel
theorem dX12_as_14 : decode cX12_as 14 = .ok (.invokestatic 89, 3) := by decide +kernel
theorem dX12_as_17 : decode cX12_as 17 = .ok (.ifCond .ne 6, 3) := by decide +kernel
theorem dX12_as_20 : decode cX12_as 20 = .ok (.ldc 100, 2) := by decide +kernel
theorem dX12_as_22 : decode cX12_as 22 = .ok (.ireturn, 1) := by decide +kernel
theorem dX12_as_23 : decode cX12_as 23 = .ok (.aload_n 0, 1) := by decide +kernel
theorem dX12_as_24 : decode cX12_as 24 = .ok (.iload_n 1, 1) := by decide +kernel
theorem dX12_as_25 : decode cX12_as 25 = .ok (.invokevirtual 114, 3) := by decide +kernel
theorem dX12_as_28 : decode cX12_as 28 = .ok (.istore_n 3, 1) := by decide +kernel
theorem dX12_as_29 : decode cX12_as 29 = .ok (.iload_n 2, 1) := by decide +kernel
theorem dX12_as_30 : decode cX12_as 30 = .ok (.ifCond .eq 23, 3) := by decide +kernel
theorem dX12_as_33 : decode cX12_as 33 = .ok (.iload_n 2, 1) := by decide +kernel
theorem dX12_as_34 : decode cX12_as 34 = .ok (.iload_n 3, 1) := by decide +kernel
theorem dX12_as_35 : decode cX12_as 35 = .ok (.if_icmp .eq 18, 3) := by decide +kernel
theorem dX12_as_38 : decode cX12_as 38 = .ok (.iload_n 2, 1) := by decide +kernel
theorem dX12_as_39 : decode cX12_as 39 = .ok (.iconst 1, 1) := by decide +kernel
theorem dX12_as_40 : decode cX12_as 40 = .ok (.if_icmp .ne 28, 3) := by decide +kernel
theorem dX12_as_43 : decode cX12_as 43 = .ok (.iload_n 3, 1) := by decide +kernel
theorem dX12_as_44 : decode cX12_as 44 = .ok (.iconst 3, 1) := by decide +kernel
theorem dX12_as_45 : decode cX12_as 45 = .ok (.if_icmp .eq 8, 3) := by decide +kernel
theorem dX12_as_48 : decode cX12_as 48 = .ok (.iload_n 3, 1) := by decide +kernel
theorem dX12_as_49 : decode cX12_as 49 = .ok (.iconst 5, 1) := by decide +kernel
theorem dX12_as_50 : decode cX12_as 50 = .ok (.if_icmp .ne 18, 3) := by decide +kernel
theorem dX12_as_53 : decode cX12_as 53 = .ok (.aload_n 0, 1) := by decide +kernel
theorem dX12_as_54 : decode cX12_as 54 = .ok (.getfield 7, 3) := by decide +kernel
theorem dX12_as_57 : decode cX12_as 57 = .ok (.aload_n 0, 1) := by decide +kernel
theorem dX12_as_58 : decode cX12_as 58 = .ok (.iload_n 1, 1) := by decide +kernel
theorem dX12_as_59 : decode cX12_as 59 = .ok (.invokevirtual 93, 3) := by decide +kernel
theorem dX12_as_62 : decode cX12_as 62 = .ok (.iconst 2, 1) := by decide +kernel
theorem dX12_as_63 : decode cX12_as 63 = .ok (.iadd, 1) := by decide +kernel
theorem dX12_as_64 : decode cX12_as 64 = .ok (.iaload, 1) := by decide +kernel
theorem dX12_as_65 : decode cX12_as 65 = .ok (.goto 5, 3) := by decide +kernel
theorem dX12_as_68 : decode cX12_as 68 = .ok (.ldc 174, 2) := by decide +kernel
theorem dX12_as_70 : decode cX12_as 70 = .ok (.ireturn, 1) := by decide +kernel
theorem dX12_ahead_0 : decode cX12_ahead 0 = .ok (.aload_n 0, 1) := by decide +kernel
theorem dX12_ahead_1 : decode cX12_ahead 1 = .ok (.iload_n 1, 1) := by decide +kernel
theorem dX12_ahead_2 : decode cX12_ahead 2 = .ok (.invokevirtual 156, 3) := by decide +kernel
theorem dX12_ahead_5 : decode cX12_ahead 5 = .ok (.ifCond .eq 30, 3) := by decide +kernel
theorem dX12_ahead_8 : decode cX12_ahead 8 = .ok (.iload_n 2, 1) := by decide +kernel
theorem dX12_ahead_9 : decode cX12_ahead 9 = .ok (.i2l, 1) := by decide +kernel
theorem dX12_ahead_10 : decode cX12_ahead 10 = .ok (.lconst 0, 1) := by decide +kernel
theorem dX12_ahead_11 : decode cX12_ahead 11 = .ok (.ldc2_w 175, 3) := by decide +kernel
theorem dX12_ahead_14 : decode cX12_ahead 14 = .ok (.invokestatic 89, 3) := by decide +kernel
theorem dX12_ahead_17 : decode cX12_ahead 17 = .ok (.ifCond .eq 18, 3) := by decide +kernel
theorem dX12_ahead_20 : decode cX12_ahead 20 = .ok (.aload_n 0, 1) := by decide +kernel
theorem dX12_ahead_21 : decode cX12_ahead 21 = .ok (.aload_n 0, 1) := by decide +kernel
theorem dX12_ahead_22 : decode cX12_ahead 22 = .ok (.iload_n 1, 1) := by decide +kernel
theorem dX12_ahead_23 : decode cX12_ahead 23 = .ok (.invokevirtual 93, 3) := by decide +kernel
theorem dX12_ahead_26 : decode cX12_ahead 26 = .ok (.iconst 5, 1) := by decide +kernel
theorem dX12_ahead_27 : decode cX12_ahead 27 = .ok (.iadd, 1) := by decide +kernel
theorem dX12_ahead_28 : decode cX12_ahead 28 = .ok (.iload_n 2, 1) := by decide +kernel
theorem dX12_ahead_29 : decode cX12_ahead 29 = .ok (.invokevirtual 110, 3) := by decide +kernel
theorem dX12_ahead_32 : decode cX12_ahead 32 = .ok (.goto 5, 3) := by decide +kernel
theorem dX12_ahead_35 : decode cX12_ahead 35 = .ok (.ldc 100, 2) := by decide +kernel
theorem dX12_ahead_37 : decode cX12_ahead 37 = .ok (.ireturn, 1) := by decide +kernel
theorem dX12_days_0 : decode cX12_days 0 = .ok (.aload_n 0, 1) := by decide +kernel
theorem dX12_days_1 : decode cX12_days 1 = .ok (.iload_n 1, 1) := by decide +kernel
theorem dX12_days_2 : decode cX12_days 2 = .ok (.invokevirtual 156, 3) := by decide +kernel
theorem dX12_days_5 : decode cX12_days 5 = .ok (.ifCond .eq 31, 3) := by decide +kernel
theorem dX12_days_8 : decode cX12_days 8 = .ok (.iload_n 2, 1) := by decide +kernel
theorem dX12_days_9 : decode cX12_days 9 = .ok (.i2l, 1) := by decide +kernel
theorem dX12_days_10 : decode cX12_days 10 = .ok (.lconst 1, 1) := by decide +kernel
theorem dX12_days_11 : decode cX12_days 11 = .ok (.ldc2_w 108, 3) := by decide +kernel
theorem dX12_days_14 : decode cX12_days 14 = .ok (.invokestatic 89, 3) := by decide +kernel
theorem dX12_days_17 : decode cX12_days 17 = .ok (.ifCond .eq 19, 3) := by decide +kernel
theorem dX12_days_20 : decode cX12_days 20 = .ok (.aload_n 0, 1) := by decide +kernel
theorem dX12_days_21 : decode cX12_days 21 = .ok (.aload_n 0, 1) := by decide +kernel
theorem dX12_days_22 : decode cX12_days 22 = .ok (.iload_n 1, 1) := by decide +kernel
theorem dX12_days_23 : decode cX12_days 23 = .ok (.invokevirtual 93, 3) := by decide +kernel
theorem dX12_days_26 : decode cX12_days 26 = .ok (.bipush 6, 2) := by decide +kernel
theorem dX12_days_28 : decode cX12_days 28 = .ok (.iadd, 1) := by decide +kernel
theorem dX12_days_29 : decode cX12_days 29 = .ok (.iload_n 2, 1) := by decide +kernel
theorem dX12_days_30 : decode cX12_days 30 = .ok (.invokevirtual 110, 3) := by decide +kernel
theorem dX12_days_33 : decode cX12_days 33 = .ok (.goto 5, 3) := by decide +kernel
theorem dX12_days_36 : decode cX12_days 36 = .ok (.ldc 100, 2) := by decide +kernel
theorem dX12_days_38 : decode cX12_days 38 = .ok (.ireturn, 1) := by decide +kernel
theorem dX12_gang_0 : decode cX12_gang 0 = .ok (.iload_n 1, 1) := by decide +kernel
theorem dX12_gang_1 : decode cX12_gang 1 = .ok (.i2l, 1) := by decide +kernel
theorem dX12_gang_2 : decode cX12_gang 2 = .ok (.lconst 1, 1) := by decide +kernel
theorem dX12_gang_3 : decode cX12_gang 3 = .ok (.ldc2_w 108, 3) := by decide +kernel
theorem dX12_gang_6 : decode cX12_gang 6 = .ok (.invokestatic 89, 3) := by decide +kernel
theorem dX12_gang_9 : decode cX12_gang 9 = .ok (.ifCond .ne 6, 3) := by decide +kernel
theorem dX12_gang_12 : decode cX12_gang 12 = .ok (.ldc 100, 2) := by decide +kernel
theorem dX12_gang_14 : decode cX12_gang 14 = .ok (.ireturn, 1) := by decide +kernel
theorem dX12_gang_15 : decode cX12_gang 15 = .ok (.aload_n 0, 1) := by decide +kernel
theorem dX12_gang_16 : decode cX12_gang 16 = .ok (.getfield 7, 3) := by decide +kernel
theorem dX12_gang_19 : decode cX12_gang 19 = .ok (.iconst 2, 1) := by decide +kernel
theorem dX12_gang_20 : decode cX12_gang 20 = .ok (.iaload, 1) := by decide +kernel
theorem dX12_gang_21 : decode cX12_gang 21 = .ok (.bipush 8, 2) := by decide +kernel
theorem dX12_gang_23 : decode cX12_gang 23 = .ok (.if_icmp .ne 6, 3) := by decide +kernel
theorem dX12_gang_26 : decode cX12_gang 26 = .ok (.ldc 149, 2) := by decide +kernel
theorem dX12_gang_28 : decode cX12_gang 28 = .ok (.ireturn, 1) := by decide +kernel
theorem dX12_gang_29 : decode cX12_gang 29 = .ok (.aload_n 0, 1) := by decide +kernel
theorem dX12_gang_30 : decode cX12_gang 30 = .ok (.getfield 7, 3) := by decide +kernel
theorem dX12_gang_33 : decode cX12_gang 33 = .ok (.aload_n 0, 1) := by decide +kernel
theorem dX12_gang_34 : decode cX12_gang 34 = .ok (.aload_n 0, 1) := by decide +kernel
theorem dX12_gang_35 : decode cX12_gang 35 = .ok (.getfield 7, 3) := by decide +kernel
theorem dX12_gang_38 : decode cX12_gang 38 = .ok (.iconst 2, 1) := by decide +kernel
theorem dX12_gang_39 : decode cX12_gang 39 = .ok (.iaload, 1) := by decide +kernel
theorem dX12_gang_40 : decode cX12_gang 40 = .ok (.invokevirtual 177, 3) := by decide +kernel
theorem dX12_gang_43 : decode cX12_gang 43 = .ok (.iload_n 1, 1) := by decide +kernel
theorem dX12_gang_44 : decode cX12_gang 44 = .ok (.iastore, 1) := by decide +kernel
theorem dX12_gang_45 : decode cX12_gang 45 = .ok (.aload_n 0, 1) := by decide +kernel
theorem dX12_gang_46 : decode cX12_gang 46 = .ok (.getfield 7, 3) := by decide +kernel
theorem dX12_gang_49 : decode cX12_gang 49 = .ok (.aload_n 0, 1) := by decide +kernel
theorem dX12_gang_50 : decode cX12_gang 50 = .ok (.aload_n 0, 1) := by decide +kernel
theorem dX12_gang_51 : decode cX12_gang 51 = .ok (.getfield 7, 3) := by decide +kernel
theorem dX12_gang_54 : decode cX12_gang 54 = .ok (.iconst 2, 1) := by decide +kernel
theorem dX12_gang_55 : decode cX12_gang 55 = .ok (.iaload, 1) := by decide +kernel
theorem dX12_gang_56 : decode cX12_gang 56 = .ok (.invokevirtual 177, 3) := by decide +kernel
theorem dX12_gang_59 : decode cX12_gang 59 = .ok (.iconst 1, 1) := by decide +kernel
theorem dX12_gang_60 : decode cX12_gang 60 = .ok (.iadd, 1) := by decide +kernel
theorem dX12_gang_61 : decode cX12_gang 61 = .ok (.iconst (-1), 1) := by decide +kernel
theorem dX12_gang_62 : decode cX12_gang 62 = .ok (.iastore, 1) := by decide +kernel
theorem dX12_gang_63 : decode cX12_gang 63 = .ok (.aload_n 0, 1) := by decide +kernel
theorem dX12_gang_64 : decode cX12_gang 64 = .ok (.getfield 7, 3) := by decide +kernel
theorem dX12_gang_67 : decode cX12_gang 67 = .ok (.iconst 2, 1) := by decide +kernel
theorem dX12_gang_68 : decode cX12_gang 68 = .ok (.dup2, 1) := by decide +kernel
theorem dX12_gang_69 : decode cX12_gang 69 = .ok (.iaload, 1) := by decide +kernel
theorem dX12_gang_70 : decode cX12_gang 70 = .ok (.iconst 1, 1) := by decide +kernel
theorem dX12_gang_71 : decode cX12_gang 71 = .ok (.iadd, 1) := by decide +kernel
theorem dX12_gang_72 : decode cX12_gang 72 = .ok (.iastore, 1) := by decide +kernel
theorem dX12_gang_73 : decode cX12_gang 73 = .ok (.aload_n 0, 1) := by decide +kernel
theorem dX12_gang_74 : decode cX12_gang 74 = .ok (.getfield 7, 3) := by decide +kernel
theorem dX12_gang_77 : decode cX12_gang 77 = .ok (.iconst 2, 1) := by decide +kernel
theorem dX12_gang_78 : decode cX12_gang 78 = .ok (.iaload, 1) := by decide +kernel
theorem dX12_gang_79 : decode cX12_gang 79 = .ok (.iconst 1, 1) := by decide +kernel
theorem dX12_gang_80 : decode cX12_gang 80 = .ok (.isub, 1) := by decide +kernel
theorem dX12_gang_81 : decode cX12_gang 81 = .ok (.ireturn, 1) := by decide +kernel
theorem dX12_goes_0 : decode cX12_goes 0 = .ok (.iload_n 1, 1) := by decide +kernel
theorem dX12_goes_1 : decode cX12_goes 1 = .ok (.i2l, 1) := by decide +kernel
theorem dX12_goes_2 : decode cX12_goes 2 = .ok (.lconst 0, 1) := by decide +kernel
theorem dX12_goes_3 : decode cX12_goes 3 = .ok (.aload_n 0, 1) := by decide +kernel
theorem dX12_goes_4 : decode cX12_goes 4 = .ok (.getfield 7, 3) := by decide +kernel
theorem dX12_goes_7 : decode cX12_goes 7 = .ok (.iconst 2, 1) := by decide +kernel
theorem dX12_goes_8 : decode cX12_goes 8 = .ok (.iaload, 1) := by decide +kernel
theorem dX12_goes_9 : decode cX12_goes 9 = .ok (.iconst 1, 1) := by decide +kernel
theorem dX12_goes_10 : decode cX12_goes 10 = .ok (.isub, 1) := by decide +kernel
theorem dX12_goes_11 : decode cX12_goes 11 = .ok (.i2l, 1) := by decide +kernel
theorem dX12_goes_12 : decode cX12_goes 12 = .ok (.invokestatic 89, 3) := by decide +kernel
theorem dX12_goes_15 : decode cX12_goes 15 = .ok (.ifCond .eq 17, 3) := by decide +kernel
theorem dX12_goes_18 : decode cX12_goes 18 = .ok (.iload_n 2, 1) := by decide +kernel
theorem dX12_goes_19 : decode cX12_goes 19 = .ok (.ldc 88, 2) := by decide +kernel
theorem dX12_goes_21 : decode cX12_goes 21 = .ok (.if_icmp .eq 14, 3) := by decide +kernel
theorem dX12_goes_24 : decode cX12_goes 24 = .ok (.aload_n 0, 1) := by decide +kernel
theorem dX12_goes_25 : decode cX12_goes 25 = .ok (.iload_n 2, 1) := by decide +kernel
theorem dX12_goes_26 : decode cX12_goes 26 = .ok (.invokevirtual 156, 3) := by decide +kernel
theorem dX12_goes_29 : decode cX12_goes 29 = .ok (.ifCond .ne 6, 3) := by decide +kernel
theorem dX12_goes_32 : decode cX12_goes 32 = .ok (.ldc 100, 2) := by decide +kernel
theorem dX12_goes_34 : decode cX12_goes 34 = .ok (.ireturn, 1) := by decide +kernel
theorem dX12_goes_35 : decode cX12_goes 35 = .ok (.iload_n 2, 1) := by decide +kernel
theorem dX12_goes_36 : decode cX12_goes 36 = .ok (.ldc 88, 2) := by decide +kernel
theorem dX12_goes_38 : decode cX12_goes 38 = .ok (.if_icmp .ne 7, 3) := by decide +kernel
theorem dX12_goes_41 : decode cX12_goes 41 = .ok (.iconst (-1), 1) := by decide +kernel
theorem dX12_goes_42 : decode cX12_goes 42 = .ok (.goto 15, 3) := by decide +kernel
theorem dX12_goes_45 : decode cX12_goes 45 = .ok (.aload_n 0, 1) := by decide +kernel
theorem dX12_goes_46 : decode cX12_goes 46 = .ok (.getfield 7, 3) := by decide +kernel
theorem dX12_goes_49 : decode cX12_goes 49 = .ok (.aload_n 0, 1) := by decide +kernel
theorem dX12_goes_50 : decode cX12_goes 50 = .ok (.iload_n 2, 1) := by decide +kernel
theorem dX12_goes_51 : decode cX12_goes 51 = .ok (.invokevirtual 93, 3) := by decide +kernel
theorem dX12_goes_54 : decode cX12_goes 54 = .ok (.iconst 4, 1) := by decide +kernel
theorem dX12_goes_55 : decode cX12_goes 55 = .ok (.iadd, 1) := by decide +kernel
theorem dX12_goes_56 : decode cX12_goes 56 = .ok (.iaload, 1) := by decide +kernel
theorem dX12_goes_57 : decode cX12_goes 57 = .ok (.istore_n 3, 1) := by decide +kernel
theorem dX12_goes_58 : decode cX12_goes 58 = .ok (.iload_n 3, 1) := by decide +kernel
theorem dX12_goes_59 : decode cX12_goes 59 = .ok (.ifCond .lt 11, 3) := by decide +kernel
theorem dX12_goes_62 : decode cX12_goes 62 = .ok (.iload_n 3, 1) := by decide +kernel
theorem dX12_goes_63 : decode cX12_goes 63 = .ok (.iload_n 1, 1) := by decide +kernel
theorem dX12_goes_64 : decode cX12_goes 64 = .ok (.if_icmp .eq 6, 3) := by decide +kernel
theorem dX12_goes_67 : decode cX12_goes 67 = .ok (.ldc 101, 2) := by decide +kernel
theorem dX12_goes_69 : decode cX12_goes 69 = .ok (.ireturn, 1) := by decide +kernel
theorem dX12_goes_70 : decode cX12_goes 70 = .ok (.aload_n 0, 1) := by decide +kernel
theorem dX12_goes_71 : decode cX12_goes 71 = .ok (.getfield 7, 3) := by decide +kernel
theorem dX12_goes_74 : decode cX12_goes 74 = .ok (.aload_n 0, 1) := by decide +kernel
theorem dX12_goes_75 : decode cX12_goes 75 = .ok (.iload_n 1, 1) := by decide +kernel
theorem dX12_goes_76 : decode cX12_goes 76 = .ok (.invokevirtual 177, 3) := by decide +kernel
theorem dX12_goes_79 : decode cX12_goes 79 = .ok (.iconst 1, 1) := by decide +kernel
theorem dX12_goes_80 : decode cX12_goes 80 = .ok (.iadd, 1) := by decide +kernel
theorem dX12_goes_81 : decode cX12_goes 81 = .ok (.iaload, 1) := by decide +kernel
theorem dX12_goes_82 : decode cX12_goes 82 = .ok (.istore 4, 2) := by decide +kernel
theorem dX12_goes_84 : decode cX12_goes 84 = .ok (.iload 4, 2) := by decide +kernel
theorem dX12_goes_86 : decode cX12_goes 86 = .ok (.ifCond .lt 17, 3) := by decide +kernel
theorem dX12_goes_89 : decode cX12_goes 89 = .ok (.aload_n 0, 1) := by decide +kernel
theorem dX12_goes_90 : decode cX12_goes 90 = .ok (.getfield 7, 3) := by decide +kernel
theorem dX12_goes_93 : decode cX12_goes 93 = .ok (.aload_n 0, 1) := by decide +kernel
theorem dX12_goes_94 : decode cX12_goes 94 = .ok (.iload 4, 2) := by decide +kernel
theorem dX12_goes_96 : decode cX12_goes 96 = .ok (.invokevirtual 93, 3) := by decide +kernel
theorem dX12_goes_99 : decode cX12_goes 99 = .ok (.iconst 4, 1) := by decide +kernel
theorem dX12_goes_100 : decode cX12_goes 100 = .ok (.iadd, 1) := by decide +kernel
theorem dX12_goes_101 : decode cX12_goes 101 = .ok (.iconst (-1), 1) := by decide +kernel
theorem dX12_goes_102 : decode cX12_goes 102 = .ok (.iastore, 1) := by decide +kernel
theorem dX12_goes_103 : decode cX12_goes 103 = .ok (.aload_n 0, 1) := by decide +kernel
theorem dX12_goes_104 : decode cX12_goes 104 = .ok (.getfield 7, 3) := by decide +kernel
theorem dX12_goes_107 : decode cX12_goes 107 = .ok (.aload_n 0, 1) := by decide +kernel
theorem dX12_goes_108 : decode cX12_goes 108 = .ok (.iload_n 1, 1) := by decide +kernel
theorem dX12_goes_109 : decode cX12_goes 109 = .ok (.invokevirtual 177, 3) := by decide +kernel
theorem dX12_goes_112 : decode cX12_goes 112 = .ok (.iconst 1, 1) := by decide +kernel
theorem dX12_goes_113 : decode cX12_goes 113 = .ok (.iadd, 1) := by decide +kernel
theorem dX12_goes_114 : decode cX12_goes 114 = .ok (.iload_n 2, 1) := by decide +kernel
theorem dX12_goes_115 : decode cX12_goes 115 = .ok (.ldc 88, 2) := by decide +kernel
theorem dX12_goes_117 : decode cX12_goes 117 = .ok (.if_icmp .ne 7, 3) := by decide +kernel
theorem dX12_goes_120 : decode cX12_goes 120 = .ok (.iconst (-1), 1) := by decide +kernel
theorem dX12_goes_121 : decode cX12_goes 121 = .ok (.goto 4, 3) := by decide +kernel
theorem dX12_goes_124 : decode cX12_goes 124 = .ok (.iload_n 2, 1) := by decide +kernel
theorem dX12_goes_125 : decode cX12_goes 125 = .ok (.iastore, 1) := by decide +kernel
theorem dX12_goes_126 : decode cX12_goes 126 = .ok (.iload_n 2, 1) := by decide +kernel
theorem dX12_goes_127 : decode cX12_goes 127 = .ok (.ldc 88, 2) := by decide +kernel
theorem dX12_goes_129 : decode cX12_goes 129 = .ok (.if_icmp .eq 16, 3) := by decide +kernel
theorem dX12_goes_132 : decode cX12_goes 132 = .ok (.aload_n 0, 1) := by decide +kernel
theorem dX12_goes_133 : decode cX12_goes 133 = .ok (.getfield 7, 3) := by decide +kernel
theorem dX12_goes_136 : decode cX12_goes 136 = .ok (.aload_n 0, 1) := by decide +kernel
theorem dX12_goes_137 : decode cX12_goes 137 = .ok (.iload_n 2, 1) := by decide +kernel
theorem dX12_goes_138 : decode cX12_goes 138 = .ok (.invokevirtual 93, 3) := by decide +kernel
theorem dX12_goes_141 : decode cX12_goes 141 = .ok (.iconst 4, 1) := by decide +kernel
theorem dX12_goes_142 : decode cX12_goes 142 = .ok (.iadd, 1) := by decide +kernel
theorem dX12_goes_143 : decode cX12_goes 143 = .ok (.iload_n 1, 1) := by decide +kernel
theorem dX12_goes_144 : decode cX12_goes 144 = .ok (.iastore, 1) := by decide +kernel
theorem dX12_goes_145 : decode cX12_goes 145 = .ok (.iload 4, 2) := by decide +kernel
theorem dX12_goes_147 : decode cX12_goes 147 = .ok (.invokestatic 159, 3) := by decide +kernel
theorem dX12_goes_150 : decode cX12_goes 150 = .ok (.ireturn, 1) := by decide +kernel
theorem dX12_wet_0 : decode cX12_wet 0 = .ok (.iload_n 1, 1) := by decide +kernel
theorem dX12_wet_1 : decode cX12_wet 1 = .ok (.i2l, 1) := by decide +kernel
theorem dX12_wet_2 : decode cX12_wet 2 = .ok (.lconst 0, 1) := by decide +kernel
theorem dX12_wet_3 : decode cX12_wet 3 = .ok (.ldc2_w 180, 3) := by decide +kernel
theorem dX12_wet_6 : decode cX12_wet 6 = .ok (.invokestatic 89, 3) := by decide +kernel
theorem dX12_wet_9 : decode cX12_wet 9 = .ok (.ifCond .eq 28, 3) := by decide +kernel
theorem dX12_wet_12 : decode cX12_wet 12 = .ok (.iload_n 2, 1) := by decide +kernel
theorem dX12_wet_13 : decode cX12_wet 13 = .ok (.i2l, 1) := by decide +kernel
theorem dX12_wet_14 : decode cX12_wet 14 = .ok (.lconst 0, 1) := by decide +kernel
theorem dX12_wet_15 : decode cX12_wet 15 = .ok (.ldc2_w 182, 3) := by decide +kernel
theorem dX12_wet_18 : decode cX12_wet 18 = .ok (.invokestatic 89, 3) := by decide +kernel
theorem dX12_wet_21 : decode cX12_wet 21 = .ok (.ifCond .eq 16, 3) := by decide +kernel
theorem dX12_wet_24 : decode cX12_wet 24 = .ok (.aload_n 0, 1) := by decide +kernel
theorem dX12_wet_25 : decode cX12_wet 25 = .ok (.sipush 510, 3) := by decide +kernel
theorem dX12_wet_28 : decode cX12_wet 28 = .ok (.iload_n 1, 1) := by decide +kernel
theorem dX12_wet_29 : decode cX12_wet 29 = .ok (.iadd, 1) := by decide +kernel
theorem dX12_wet_30 : decode cX12_wet 30 = .ok (.iload_n 2, 1) := by decide +kernel
theorem dX12_wet_31 : decode cX12_wet 31 = .ok (.invokevirtual 110, 3) := by decide +kernel
theorem dX12_wet_34 : decode cX12_wet 34 = .ok (.goto 5, 3) := by decide +kernel
theorem dX12_wet_37 : decode cX12_wet 37 = .ok (.ldc 100, 2) := by decide +kernel
theorem dX12_wet_39 : decode cX12_wet 39 = .ok (.ireturn, 1) := by decide +kernel
theorem dX12_isThrough_0 : decode cX12_isThrough 0 = .ok (.aload_n 0, 1) := by decide +kernel
theorem dX12_isThrough_1 : decode cX12_isThrough 1 = .ok (.iload_n 1, 1) := by decide +kernel
theorem dX12_isThrough_2 : decode cX12_isThrough 2 = .ok (.invokevirtual 156, 3) := by decide +kernel
theorem dX12_isThrough_5 : decode cX12_isThrough 5 = .ok (.ifCond .eq 34, 3) := by decide +kernel
theorem dX12_isThrough_8 : decode cX12_isThrough 8 = .ok (.aload_n 0, 1) := by decide +kernel
theorem dX12_isThrough_9 : decode cX12_isThrough 9 = .ok (.getfield 7, 3) := by decide +kernel
theorem dX12_isThrough_12 : decode cX12_isThrough 12 = .ok (.aload_n 0, 1) := by decide +kernel
theorem dX12_isThrough_13 : decode cX12_isThrough 13 = .ok (.iload_n 1, 1) := by decide +kernel
theorem dX12_isThrough_14 : decode cX12_isThrough 14 = .ok (.invokevirtual 93, 3) := by decide +kernel
theorem dX12_isThrough_17 : decode cX12_isThrough 17 = .ok (.iconst 3, 1) := by decide +kernel
theorem dX12_isThrough_18 : decode cX12_isThrough 18 = .ok (.iadd, 1) := by decide +kernel
theorem dX12_isThrough_19 : decode cX12_isThrough 19 = .ok (.iaload, 1) := by decide +kernel
theorem dX12_isThrough_20 : decode cX12_isThrough 20 = .ok (.aload_n 0, 1) := by decide +kernel
theorem dX12_isThrough_21 : decode cX12_isThrough 21 = .ok (.getfield 7, 3) := by decide +kernel
theorem dX12_isThrough_24 : decode cX12_isThrough 24 = .ok (.aload_n 0, 1) := by decide +kernel
theorem dX12_isThrough_25 : decode cX12_isThrough 25 = .ok (.iload_n 1, 1) := by decide +kernel
theorem dX12_isThrough_26 : decode cX12_isThrough 26 = .ok (.invokevirtual 93, 3) := by decide +kernel
theorem dX12_isThrough_29 : decode cX12_isThrough 29 = .ok (.iconst 2, 1) := by decide +kernel
theorem dX12_isThrough_30 : decode cX12_isThrough 30 = .ok (.iadd, 1) := by decide +kernel
theorem dX12_isThrough_31 : decode cX12_isThrough 31 = .ok (.iaload, 1) := by decide +kernel
theorem dX12_isThrough_32 : decode cX12_isThrough 32 = .ok (.if_icmp .ne 7, 3) := by decide +kernel
theorem dX12_isThrough_35 : decode cX12_isThrough 35 = .ok (.iconst 1, 1) := by decide +kernel
theorem dX12_isThrough_36 : decode cX12_isThrough 36 = .ok (.goto 4, 3) := by decide +kernel
theorem dX12_isThrough_39 : decode cX12_isThrough 39 = .ok (.iconst 0, 1) := by decide +kernel
theorem dX12_isThrough_40 : decode cX12_isThrough 40 = .ok (.ireturn, 1) := by decide +kernel
theorem dX12_isSlipping_0 : decode cX12_isSlipping 0 = .ok (.aload_n 0, 1) := by decide +kernel
theorem dX12_isSlipping_1 : decode cX12_isSlipping 1 = .ok (.iload_n 1, 1) := by decide +kernel
theorem dX12_isSlipping_2 : decode cX12_isSlipping 2 = .ok (.invokevirtual 117, 3) := by decide +kernel
theorem dX12_isSlipping_5 : decode cX12_isSlipping 5 = .ok (.aload_n 0, 1) := by decide +kernel
theorem dX12_isSlipping_6 : decode cX12_isSlipping 6 = .ok (.getfield 31, 3) := by decide +kernel
theorem dX12_isSlipping_9 : decode cX12_isSlipping 9 = .ok (.aload_n 0, 1) := by decide +kernel
theorem dX12_isSlipping_10 : decode cX12_isSlipping 10 = .ok (.getfield 7, 3) := by decide +kernel
theorem dX12_isSlipping_13 : decode cX12_isSlipping 13 = .ok (.aload_n 0, 1) := by decide +kernel
theorem dX12_isSlipping_14 : decode cX12_isSlipping 14 = .ok (.iload_n 1, 1) := by decide +kernel
theorem dX12_isSlipping_15 : decode cX12_isSlipping 15 = .ok (.invokevirtual 84, 3) := by decide +kernel
theorem dX12_isSlipping_18 : decode cX12_isSlipping 18 = .ok (.iconst 2, 1) := by decide +kernel
theorem dX12_isSlipping_19 : decode cX12_isSlipping 19 = .ok (.iadd, 1) := by decide +kernel
theorem dX12_isSlipping_20 : decode cX12_isSlipping 20 = .ok (.iaload, 1) := by decide +kernel
theorem dX12_isSlipping_21 : decode cX12_isSlipping 21 = .ok (.iaload, 1) := by decide +kernel
theorem dX12_isSlipping_22 : decode cX12_isSlipping 22 = .ok (.if_icmp .le 16, 3) := by decide +kernel
theorem dX12_isSlipping_25 : decode cX12_isSlipping 25 = .ok (.aload_n 0, 1) := by decide +kernel
theorem dX12_isSlipping_26 : decode cX12_isSlipping 26 = .ok (.iload_n 1, 1) := by decide +kernel
theorem dX12_isSlipping_27 : decode cX12_isSlipping 27 = .ok (.iconst 5, 1) := by decide +kernel
theorem dX12_isSlipping_28 : decode cX12_isSlipping 28 = .ok (.invokevirtual 120, 3) := by decide +kernel
theorem dX12_isSlipping_31 : decode cX12_isSlipping 31 = .ok (.ifCond .ne 7, 3) := by decide +kernel
theorem dX12_isSlipping_34 : decode cX12_isSlipping 34 = .ok (.iconst 1, 1) := by decide +kernel
theorem dX12_isSlipping_35 : decode cX12_isSlipping 35 = .ok (.goto 4, 3) := by decide +kernel
theorem dX12_isSlipping_38 : decode cX12_isSlipping 38 = .ok (.iconst 0, 1) := by decide +kernel
theorem dX12_isSlipping_39 : decode cX12_isSlipping 39 = .ok (.ireturn, 1) := by decide +kernel
theorem dX12_foretold_0 : decode cX12_foretold 0 = .ok (.iconst 0, 1) := by decide +kernel
theorem dX12_foretold_1 : decode cX12_foretold 1 = .ok (.istore_n 1, 1) := by decide +kernel
theorem dX12_foretold_2 : decode cX12_foretold 2 = .ok (.iconst 0, 1) := by decide +kernel
theorem dX12_foretold_3 : decode cX12_foretold 3 = .ok (.istore_n 2, 1) := by decide +kernel
theorem dX12_foretold_4 : decode cX12_foretold 4 = .ok (.iload_n 2, 1) := by decide +kernel
theorem dX12_foretold_5 : decode cX12_foretold 5 = .ok (.aload_n 0, 1) := by decide +kernel
theorem dX12_foretold_6 : decode cX12_foretold 6 = .ok (.getfield 7, 3) := by decide +kernel
theorem dX12_foretold_9 : decode cX12_foretold 9 = .ok (.iconst 0, 1) := by decide +kernel
theorem dX12_foretold_10 : decode cX12_foretold 10 = .ok (.iaload, 1) := by decide +kernel
theorem dX12_foretold_11 : decode cX12_foretold 11 = .ok (.if_icmp .ge 51, 3) := by decide +kernel
theorem dX12_foretold_14 : decode cX12_foretold 14 = .ok (.iload_n 1, 1) := by decide +kernel
theorem dX12_foretold_15 : decode cX12_foretold 15 = .ok (.aload_n 0, 1) := by decide +kernel
theorem dX12_foretold_16 : decode cX12_foretold 16 = .ok (.getfield 7, 3) := by decide +kernel
theorem dX12_foretold_19 : decode cX12_foretold 19 = .ok (.aload_n 0, 1) := by decide +kernel
theorem dX12_foretold_20 : decode cX12_foretold 20 = .ok (.iload_n 2, 1) := by decide +kernel
theorem dX12_foretold_21 : decode cX12_foretold 21 = .ok (.invokevirtual 84, 3) := by decide +kernel
theorem dX12_foretold_24 : decode cX12_foretold 24 = .ok (.iconst 3, 1) := by decide +kernel
theorem dX12_foretold_25 : decode cX12_foretold 25 = .ok (.iadd, 1) := by decide +kernel
theorem dX12_foretold_26 : decode cX12_foretold 26 = .ok (.iaload, 1) := by decide +kernel
theorem dX12_foretold_27 : decode cX12_foretold 27 = .ok (.ifCond .lt 26, 3) := by decide +kernel
theorem dX12_foretold_30 : decode cX12_foretold 30 = .ok (.aload_n 0, 1) := by decide +kernel
theorem dX12_foretold_31 : decode cX12_foretold 31 = .ok (.iload_n 2, 1) := by decide +kernel
theorem dX12_foretold_32 : decode cX12_foretold 32 = .ok (.iconst 1, 1) := by decide +kernel
theorem dX12_foretold_33 : decode cX12_foretold 33 = .ok (.invokevirtual 120, 3) := by decide +kernel
theorem dX12_foretold_36 : decode cX12_foretold 36 = .ok (.ifCond .le 17, 3) := by decide +kernel
theorem dX12_foretold_39 : decode cX12_foretold 39 = .ok (.aload_n 0, 1) := by decide +kernel
theorem dX12_foretold_40 : decode cX12_foretold 40 = .ok (.iload_n 2, 1) := by decide +kernel
theorem dX12_foretold_41 : decode cX12_foretold 41 = .ok (.invokevirtual 184, 3) := by decide +kernel
theorem dX12_foretold_44 : decode cX12_foretold 44 = .ok (.ifCond .eq 9, 3) := by decide +kernel
theorem dX12_foretold_47 : decode cX12_foretold 47 = .ok (.iconst 1, 1) := by decide +kernel
theorem dX12_foretold_48 : decode cX12_foretold 48 = .ok (.iload_n 2, 1) := by decide +kernel
theorem dX12_foretold_49 : decode cX12_foretold 49 = .ok (.ishl, 1) := by decide +kernel
theorem dX12_foretold_50 : decode cX12_foretold 50 = .ok (.goto 4, 3) := by decide +kernel
theorem dX12_foretold_53 : decode cX12_foretold 53 = .ok (.iconst 0, 1) := by decide +kernel
theorem dX12_foretold_54 : decode cX12_foretold 54 = .ok (.ior, 1) := by decide +kernel
theorem dX12_foretold_55 : decode cX12_foretold 55 = .ok (.istore_n 1, 1) := by decide +kernel
theorem dX12_foretold_56 : decode cX12_foretold 56 = .ok (.iinc 2 1, 3) := by decide +kernel
theorem dX12_foretold_59 : decode cX12_foretold 59 = .ok (.goto (-55), 3) := by decide +kernel
theorem dX12_foretold_62 : decode cX12_foretold 62 = .ok (.iload_n 1, 1) := by decide +kernel
theorem dX12_foretold_63 : decode cX12_foretold 63 = .ok (.ireturn, 1) := by decide +kernel
theorem dX12_works_0 : decode cX12_works 0 = .ok (.aload_n 0, 1) := by decide +kernel
theorem dX12_works_1 : decode cX12_works 1 = .ok (.getfield 7, 3) := by decide +kernel
theorem dX12_works_4 : decode cX12_works 4 = .ok (.aload_n 0, 1) := by decide +kernel
theorem dX12_works_5 : decode cX12_works 5 = .ok (.iload_n 1, 1) := by decide +kernel
theorem dX12_works_6 : decode cX12_works 6 = .ok (.invokevirtual 177, 3) := by decide +kernel
theorem dX12_works_9 : decode cX12_works 9 = .ok (.iconst 1, 1) := by decide +kernel
theorem dX12_works_10 : decode cX12_works 10 = .ok (.iadd, 1) := by decide +kernel
theorem dX12_works_11 : decode cX12_works 11 = .ok (.iaload, 1) := by decide +kernel
theorem dX12_works_12 : decode cX12_works 12 = .ok (.istore_n 2, 1) := by decide +kernel
theorem dX12_works_13 : decode cX12_works 13 = .ok (.iload_n 2, 1) := by decide +kernel
theorem dX12_works_14 : decode cX12_works 14 = .ok (.ifCond .ge 4, 3) := by decide +kernel
theorem dX12_works_17 : decode cX12_works 17 = .ok (.return_, 1) := by decide +kernel
theorem dX12_works_18 : decode cX12_works 18 = .ok (.aload_n 0, 1) := by decide +kernel
theorem dX12_works_19 : decode cX12_works 19 = .ok (.iload_n 2, 1) := by decide +kernel
theorem dX12_works_20 : decode cX12_works 20 = .ok (.invokevirtual 93, 3) := by decide +kernel
theorem dX12_works_23 : decode cX12_works 23 = .ok (.istore_n 3, 1) := by decide +kernel
theorem dX12_works_24 : decode cX12_works 24 = .ok (.iconst 0, 1) := by decide +kernel
theorem dX12_works_25 : decode cX12_works 25 = .ok (.istore 4, 2) := by decide +kernel
theorem dX12_works_27 : decode cX12_works 27 = .ok (.iload 4, 2) := by decide +kernel
theorem dX12_works_29 : decode cX12_works 29 = .ok (.bipush 24, 2) := by decide +kernel
theorem dX12_works_31 : decode cX12_works 31 = .ok (.if_icmp .ge 36, 3) := by decide +kernel
theorem dX12_works_34 : decode cX12_works 34 = .ok (.aload_n 0, 1) := by decide +kernel
theorem dX12_works_35 : decode cX12_works 35 = .ok (.getfield 7, 3) := by decide +kernel
theorem dX12_works_38 : decode cX12_works 38 = .ok (.iload_n 3, 1) := by decide +kernel
theorem dX12_works_39 : decode cX12_works 39 = .ok (.iconst 5, 1) := by decide +kernel
theorem dX12_works_40 : decode cX12_works 40 = .ok (.iadd, 1) := by decide +kernel
theorem dX12_works_41 : decode cX12_works 41 = .ok (.iaload, 1) := by decide +kernel
theorem dX12_works_42 : decode cX12_works 42 = .ok (.iload 4, 2) := by decide +kernel
theorem dX12_works_44 : decode cX12_works 44 = .ok (.ishr, 1) := by decide +kernel
theorem dX12_works_45 : decode cX12_works 45 = .ok (.iconst 1, 1) := by decide +kernel
theorem dX12_works_46 : decode cX12_works 46 = .ok (.iand, 1) := by decide +kernel
theorem dX12_works_47 : decode cX12_works 47 = .ok (.iconst 1, 1) := by decide +kernel
theorem dX12_works_48 : decode cX12_works 48 = .ok (.if_icmp .ne 13, 3) := by decide +kernel
theorem dX12_works_51 : decode cX12_works 51 = .ok (.aload_n 0, 1) := by decide +kernel
theorem dX12_works_52 : decode cX12_works 52 = .ok (.iload 4, 2) := by decide +kernel
theorem dX12_works_54 : decode cX12_works 54 = .ok (.invokevirtual 187, 3) := by decide +kernel
theorem dX12_works_57 : decode cX12_works 57 = .ok (.ifCond .ne 4, 3) := by decide +kernel
theorem dX12_works_60 : decode cX12_works 60 = .ok (.return_, 1) := by decide +kernel
theorem dX12_works_61 : decode cX12_works 61 = .ok (.iinc 4 1, 3) := by decide +kernel
theorem dX12_works_64 : decode cX12_works 64 = .ok (.goto (-37), 3) := by decide +kernel
theorem dX12_works_67 : decode cX12_works 67 = .ok (.aload_n 0, 1) := by decide +kernel
theorem dX12_works_68 : decode cX12_works 68 = .ok (.getfield 7, 3) := by decide +kernel
theorem dX12_works_71 : decode cX12_works 71 = .ok (.iload_n 3, 1) := by decide +kernel
theorem dX12_works_72 : decode cX12_works 72 = .ok (.iconst 3, 1) := by decide +kernel
theorem dX12_works_73 : decode cX12_works 73 = .ok (.iadd, 1) := by decide +kernel
theorem dX12_works_74 : decode cX12_works 74 = .ok (.aload_n 0, 1) := by decide +kernel
theorem dX12_works_75 : decode cX12_works 75 = .ok (.getfield 7, 3) := by decide +kernel
theorem dX12_works_78 : decode cX12_works 78 = .ok (.iload_n 3, 1) := by decide +kernel
theorem dX12_works_79 : decode cX12_works 79 = .ok (.iconst 2, 1) := by decide +kernel
theorem dX12_works_80 : decode cX12_works 80 = .ok (.iadd, 1) := by decide +kernel
theorem dX12_works_81 : decode cX12_works 81 = .ok (.iaload, 1) := by decide +kernel
theorem dX12_works_82 : decode cX12_works 82 = .ok (.aload_n 0, 1) := by decide +kernel
theorem dX12_works_83 : decode cX12_works 83 = .ok (.getfield 7, 3) := by decide +kernel
theorem dX12_works_86 : decode cX12_works 86 = .ok (.iload_n 3, 1) := by decide +kernel
theorem dX12_works_87 : decode cX12_works 87 = .ok (.iconst 3, 1) := by decide +kernel
theorem dX12_works_88 : decode cX12_works 88 = .ok (.iadd, 1) := by decide +kernel
theorem dX12_works_89 : decode cX12_works 89 = .ok (.iaload, 1) := by decide +kernel
theorem dX12_works_90 : decode cX12_works 90 = .ok (.aload_n 0, 1) := by decide +kernel
theorem dX12_works_91 : decode cX12_works 91 = .ok (.getfield 7, 3) := by decide +kernel
theorem dX12_works_94 : decode cX12_works 94 = .ok (.aload_n 0, 1) := by decide +kernel
theorem dX12_works_95 : decode cX12_works 95 = .ok (.iload_n 1, 1) := by decide +kernel
theorem dX12_works_96 : decode cX12_works 96 = .ok (.invokevirtual 177, 3) := by decide +kernel
theorem dX12_works_99 : decode cX12_works 99 = .ok (.iaload, 1) := by decide +kernel
theorem dX12_works_100 : decode cX12_works 100 = .ok (.aload_n 0, 1) := by decide +kernel
theorem dX12_works_101 : decode cX12_works 101 = .ok (.iload_n 2, 1) := by decide +kernel
theorem dX12_works_102 : decode cX12_works 102 = .ok (.aload_n 0, 1) := by decide +kernel
theorem dX12_works_103 : decode cX12_works 103 = .ok (.aload_n 0, 1) := by decide +kernel
theorem dX12_works_104 : decode cX12_works 104 = .ok (.getfield 7, 3) := by decide +kernel
theorem dX12_works_107 : decode cX12_works 107 = .ok (.bipush 8, 2) := by decide +kernel
theorem dX12_works_109 : decode cX12_works 109 = .ok (.iaload, 1) := by decide +kernel
theorem dX12_works_110 : decode cX12_works 110 = .ok (.invokevirtual 162, 3) := by decide +kernel
theorem dX12_works_113 : decode cX12_works 113 = .ok (.invokevirtual 165, 3) := by decide +kernel
theorem dX12_works_116 : decode cX12_works 116 = .ok (.imul, 1) := by decide +kernel
theorem dX12_works_117 : decode cX12_works 117 = .ok (.bipush 10, 2) := by decide +kernel
theorem dX12_works_119 : decode cX12_works 119 = .ok (.idiv, 1) := by decide +kernel
theorem dX12_works_120 : decode cX12_works 120 = .ok (.iadd, 1) := by decide +kernel
theorem dX12_works_121 : decode cX12_works 121 = .ok (.invokestatic 142, 3) := by decide +kernel
theorem dX12_works_124 : decode cX12_works 124 = .ok (.iastore, 1) := by decide +kernel
theorem dX12_works_125 : decode cX12_works 125 = .ok (.return_, 1) := by decide +kernel
theorem dX12_slips_0 : decode cX12_slips 0 = .ok (.iconst 0, 1) := by decide +kernel
theorem dX12_slips_1 : decode cX12_slips 1 = .ok (.istore_n 2, 1) := by decide +kernel
theorem dX12_slips_2 : decode cX12_slips 2 = .ok (.iconst 0, 1) := by decide +kernel
theorem dX12_slips_3 : decode cX12_slips 3 = .ok (.istore_n 3, 1) := by decide +kernel
theorem dX12_slips_4 : decode cX12_slips 4 = .ok (.iload_n 3, 1) := by decide +kernel
theorem dX12_slips_5 : decode cX12_slips 5 = .ok (.aload_n 0, 1) := by decide +kernel
