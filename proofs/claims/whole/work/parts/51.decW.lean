def M_W_law : MethodName × ByteArray × Nat × Option FieldType := (⟨"LiftedTileLaw", "law", "([I)Z"⟩, code, 4, ret)
theorem d_W_law_0 : decode M_W_law.2.1 0 = .ok (.new 7, 3) := by decide +kernel
theorem d_W_law_3 : decode M_W_law.2.1 3 = .ok (.dup, 1) := by decide +kernel
theorem d_W_law_4 : decode M_W_law.2.1 4 = .ok (.invokespecial 9, 3) := by decide +kernel
theorem d_W_law_7 : decode M_W_law.2.1 7 = .ok (.astore_n 1, 1) := by decide +kernel
theorem d_W_law_8 : decode M_W_law.2.1 8 = .ok (.new 10, 3) := by decide +kernel
theorem d_W_law_11 : decode M_W_law.2.1 11 = .ok (.dup, 1) := by decide +kernel
theorem d_W_law_12 : decode M_W_law.2.1 12 = .ok (.invokespecial 12, 3) := by decide +kernel
theorem d_W_law_15 : decode M_W_law.2.1 15 = .ok (.astore_n 2, 1) := by decide +kernel
theorem d_W_law_16 : decode M_W_law.2.1 16 = .ok (.iconst 0, 1) := by decide +kernel
theorem d_W_law_17 : decode M_W_law.2.1 17 = .ok (.istore_n 3, 1) := by decide +kernel
theorem d_W_law_18 : decode M_W_law.2.1 18 = .ok (.iload_n 3, 1) := by decide +kernel
theorem d_W_law_19 : decode M_W_law.2.1 19 = .ok (.aload_n 0, 1) := by decide +kernel
theorem d_W_law_20 : decode M_W_law.2.1 20 = .ok (.arraylength, 1) := by decide +kernel
theorem d_W_law_21 : decode M_W_law.2.1 21 = .ok (.bipush (6), 2) := by decide +kernel
theorem d_W_law_23 : decode M_W_law.2.1 23 = .ok (.isub, 1) := by decide +kernel
theorem d_W_law_24 : decode M_W_law.2.1 24 = .ok (.if_icmp .gt (618), 3) := by decide +kernel
theorem d_W_law_27 : decode M_W_law.2.1 27 = .ok (.aload_n 0, 1) := by decide +kernel
theorem d_W_law_28 : decode M_W_law.2.1 28 = .ok (.iload_n 3, 1) := by decide +kernel
theorem d_W_law_29 : decode M_W_law.2.1 29 = .ok (.iaload, 1) := by decide +kernel
theorem d_W_law_30 : decode M_W_law.2.1 30 = .ok (.bipush (15), 2) := by decide +kernel
theorem d_W_law_32 : decode M_W_law.2.1 32 = .ok (.iand, 1) := by decide +kernel
theorem d_W_law_33 : decode M_W_law.2.1 33 = .ok (.tableswitch (603) (0) (14) #[(75), (128), (181), (224), (237), (250), (263), (286), (299), (312), (335), (394), (453), (516), (559)], 75) := by decide +kernel
theorem d_W_law_108 : decode M_W_law.2.1 108 = .ok (.aload_n 1, 1) := by decide +kernel
theorem d_W_law_109 : decode M_W_law.2.1 109 = .ok (.aload_n 0, 1) := by decide +kernel
theorem d_W_law_110 : decode M_W_law.2.1 110 = .ok (.iload_n 3, 1) := by decide +kernel
theorem d_W_law_111 : decode M_W_law.2.1 111 = .ok (.iconst 1, 1) := by decide +kernel
theorem d_W_law_112 : decode M_W_law.2.1 112 = .ok (.iadd, 1) := by decide +kernel
theorem d_W_law_113 : decode M_W_law.2.1 113 = .ok (.iaload, 1) := by decide +kernel
theorem d_W_law_114 : decode M_W_law.2.1 114 = .ok (.aload_n 0, 1) := by decide +kernel
theorem d_W_law_115 : decode M_W_law.2.1 115 = .ok (.iload_n 3, 1) := by decide +kernel
theorem d_W_law_116 : decode M_W_law.2.1 116 = .ok (.iconst 2, 1) := by decide +kernel
theorem d_W_law_117 : decode M_W_law.2.1 117 = .ok (.iadd, 1) := by decide +kernel
theorem d_W_law_118 : decode M_W_law.2.1 118 = .ok (.iaload, 1) := by decide +kernel
theorem d_W_law_119 : decode M_W_law.2.1 119 = .ok (.aload_n 0, 1) := by decide +kernel
theorem d_W_law_120 : decode M_W_law.2.1 120 = .ok (.iload_n 3, 1) := by decide +kernel
theorem d_W_law_121 : decode M_W_law.2.1 121 = .ok (.iconst 3, 1) := by decide +kernel
theorem d_W_law_122 : decode M_W_law.2.1 122 = .ok (.iadd, 1) := by decide +kernel
theorem d_W_law_123 : decode M_W_law.2.1 123 = .ok (.iaload, 1) := by decide +kernel
theorem d_W_law_124 : decode M_W_law.2.1 124 = .ok (.aload_n 0, 1) := by decide +kernel
theorem d_W_law_125 : decode M_W_law.2.1 125 = .ok (.iload_n 3, 1) := by decide +kernel
theorem d_W_law_126 : decode M_W_law.2.1 126 = .ok (.iconst 4, 1) := by decide +kernel
theorem d_W_law_127 : decode M_W_law.2.1 127 = .ok (.iadd, 1) := by decide +kernel
theorem d_W_law_128 : decode M_W_law.2.1 128 = .ok (.iaload, 1) := by decide +kernel
theorem d_W_law_129 : decode M_W_law.2.1 129 = .ok (.invokevirtual 13, 3) := by decide +kernel
theorem d_W_law_132 : decode M_W_law.2.1 132 = .ok (.aload_n 2, 1) := by decide +kernel
theorem d_W_law_133 : decode M_W_law.2.1 133 = .ok (.aload_n 0, 1) := by decide +kernel
theorem d_W_law_134 : decode M_W_law.2.1 134 = .ok (.iload_n 3, 1) := by decide +kernel
theorem d_W_law_135 : decode M_W_law.2.1 135 = .ok (.iconst 1, 1) := by decide +kernel
theorem d_W_law_136 : decode M_W_law.2.1 136 = .ok (.iadd, 1) := by decide +kernel
theorem d_W_law_137 : decode M_W_law.2.1 137 = .ok (.iaload, 1) := by decide +kernel
theorem d_W_law_138 : decode M_W_law.2.1 138 = .ok (.aload_n 0, 1) := by decide +kernel
theorem d_W_law_139 : decode M_W_law.2.1 139 = .ok (.iload_n 3, 1) := by decide +kernel
theorem d_W_law_140 : decode M_W_law.2.1 140 = .ok (.iconst 2, 1) := by decide +kernel
theorem d_W_law_141 : decode M_W_law.2.1 141 = .ok (.iadd, 1) := by decide +kernel
theorem d_W_law_142 : decode M_W_law.2.1 142 = .ok (.iaload, 1) := by decide +kernel
theorem d_W_law_143 : decode M_W_law.2.1 143 = .ok (.aload_n 0, 1) := by decide +kernel
theorem d_W_law_144 : decode M_W_law.2.1 144 = .ok (.iload_n 3, 1) := by decide +kernel
theorem d_W_law_145 : decode M_W_law.2.1 145 = .ok (.iconst 3, 1) := by decide +kernel
theorem d_W_law_146 : decode M_W_law.2.1 146 = .ok (.iadd, 1) := by decide +kernel
theorem d_W_law_147 : decode M_W_law.2.1 147 = .ok (.iaload, 1) := by decide +kernel
theorem d_W_law_148 : decode M_W_law.2.1 148 = .ok (.aload_n 0, 1) := by decide +kernel
theorem d_W_law_149 : decode M_W_law.2.1 149 = .ok (.iload_n 3, 1) := by decide +kernel
theorem d_W_law_150 : decode M_W_law.2.1 150 = .ok (.iconst 4, 1) := by decide +kernel
theorem d_W_law_151 : decode M_W_law.2.1 151 = .ok (.iadd, 1) := by decide +kernel
theorem d_W_law_152 : decode M_W_law.2.1 152 = .ok (.iaload, 1) := by decide +kernel
theorem d_W_law_153 : decode M_W_law.2.1 153 = .ok (.invokevirtual 17, 3) := by decide +kernel
theorem d_W_law_156 : decode M_W_law.2.1 156 = .ok (.if_icmp .eq (480), 3) := by decide +kernel
theorem d_W_law_159 : decode M_W_law.2.1 159 = .ok (.iconst 0, 1) := by decide +kernel
theorem d_W_law_160 : decode M_W_law.2.1 160 = .ok (.ireturn, 1) := by decide +kernel
theorem d_W_law_161 : decode M_W_law.2.1 161 = .ok (.aload_n 1, 1) := by decide +kernel
theorem d_W_law_162 : decode M_W_law.2.1 162 = .ok (.aload_n 0, 1) := by decide +kernel
theorem d_W_law_163 : decode M_W_law.2.1 163 = .ok (.iload_n 3, 1) := by decide +kernel
theorem d_W_law_164 : decode M_W_law.2.1 164 = .ok (.iconst 1, 1) := by decide +kernel
theorem d_W_law_165 : decode M_W_law.2.1 165 = .ok (.iadd, 1) := by decide +kernel
theorem d_W_law_166 : decode M_W_law.2.1 166 = .ok (.iaload, 1) := by decide +kernel
theorem d_W_law_167 : decode M_W_law.2.1 167 = .ok (.aload_n 0, 1) := by decide +kernel
theorem d_W_law_168 : decode M_W_law.2.1 168 = .ok (.iload_n 3, 1) := by decide +kernel
theorem d_W_law_169 : decode M_W_law.2.1 169 = .ok (.iconst 2, 1) := by decide +kernel
theorem d_W_law_170 : decode M_W_law.2.1 170 = .ok (.iadd, 1) := by decide +kernel
theorem d_W_law_171 : decode M_W_law.2.1 171 = .ok (.iaload, 1) := by decide +kernel
theorem d_W_law_172 : decode M_W_law.2.1 172 = .ok (.aload_n 0, 1) := by decide +kernel
theorem d_W_law_173 : decode M_W_law.2.1 173 = .ok (.iload_n 3, 1) := by decide +kernel
theorem d_W_law_174 : decode M_W_law.2.1 174 = .ok (.iconst 3, 1) := by decide +kernel
theorem d_W_law_175 : decode M_W_law.2.1 175 = .ok (.iadd, 1) := by decide +kernel
theorem d_W_law_176 : decode M_W_law.2.1 176 = .ok (.iaload, 1) := by decide +kernel
theorem d_W_law_177 : decode M_W_law.2.1 177 = .ok (.aload_n 0, 1) := by decide +kernel
theorem d_W_law_178 : decode M_W_law.2.1 178 = .ok (.iload_n 3, 1) := by decide +kernel
theorem d_W_law_179 : decode M_W_law.2.1 179 = .ok (.iconst 4, 1) := by decide +kernel
theorem d_W_law_180 : decode M_W_law.2.1 180 = .ok (.iadd, 1) := by decide +kernel
theorem d_W_law_181 : decode M_W_law.2.1 181 = .ok (.iaload, 1) := by decide +kernel
theorem d_W_law_182 : decode M_W_law.2.1 182 = .ok (.invokevirtual 18, 3) := by decide +kernel
theorem d_W_law_185 : decode M_W_law.2.1 185 = .ok (.aload_n 2, 1) := by decide +kernel
theorem d_W_law_186 : decode M_W_law.2.1 186 = .ok (.aload_n 0, 1) := by decide +kernel
theorem d_W_law_187 : decode M_W_law.2.1 187 = .ok (.iload_n 3, 1) := by decide +kernel
theorem d_W_law_188 : decode M_W_law.2.1 188 = .ok (.iconst 1, 1) := by decide +kernel
theorem d_W_law_189 : decode M_W_law.2.1 189 = .ok (.iadd, 1) := by decide +kernel
theorem d_W_law_190 : decode M_W_law.2.1 190 = .ok (.iaload, 1) := by decide +kernel
theorem d_W_law_191 : decode M_W_law.2.1 191 = .ok (.aload_n 0, 1) := by decide +kernel
theorem d_W_law_192 : decode M_W_law.2.1 192 = .ok (.iload_n 3, 1) := by decide +kernel
theorem d_W_law_193 : decode M_W_law.2.1 193 = .ok (.iconst 2, 1) := by decide +kernel
theorem d_W_law_194 : decode M_W_law.2.1 194 = .ok (.iadd, 1) := by decide +kernel
theorem d_W_law_195 : decode M_W_law.2.1 195 = .ok (.iaload, 1) := by decide +kernel
theorem d_W_law_196 : decode M_W_law.2.1 196 = .ok (.aload_n 0, 1) := by decide +kernel
theorem d_W_law_197 : decode M_W_law.2.1 197 = .ok (.iload_n 3, 1) := by decide +kernel
theorem d_W_law_198 : decode M_W_law.2.1 198 = .ok (.iconst 3, 1) := by decide +kernel
theorem d_W_law_199 : decode M_W_law.2.1 199 = .ok (.iadd, 1) := by decide +kernel
theorem d_W_law_200 : decode M_W_law.2.1 200 = .ok (.iaload, 1) := by decide +kernel
theorem d_W_law_201 : decode M_W_law.2.1 201 = .ok (.aload_n 0, 1) := by decide +kernel
theorem d_W_law_202 : decode M_W_law.2.1 202 = .ok (.iload_n 3, 1) := by decide +kernel
theorem d_W_law_203 : decode M_W_law.2.1 203 = .ok (.iconst 4, 1) := by decide +kernel
theorem d_W_law_204 : decode M_W_law.2.1 204 = .ok (.iadd, 1) := by decide +kernel
theorem d_W_law_205 : decode M_W_law.2.1 205 = .ok (.iaload, 1) := by decide +kernel
theorem d_W_law_206 : decode M_W_law.2.1 206 = .ok (.invokevirtual 21, 3) := by decide +kernel
theorem d_W_law_209 : decode M_W_law.2.1 209 = .ok (.if_icmp .eq (427), 3) := by decide +kernel
theorem d_W_law_212 : decode M_W_law.2.1 212 = .ok (.iconst 0, 1) := by decide +kernel
theorem d_W_law_213 : decode M_W_law.2.1 213 = .ok (.ireturn, 1) := by decide +kernel
theorem d_W_law_214 : decode M_W_law.2.1 214 = .ok (.aload_n 1, 1) := by decide +kernel
theorem d_W_law_215 : decode M_W_law.2.1 215 = .ok (.aload_n 0, 1) := by decide +kernel
theorem d_W_law_216 : decode M_W_law.2.1 216 = .ok (.iload_n 3, 1) := by decide +kernel
theorem d_W_law_217 : decode M_W_law.2.1 217 = .ok (.iconst 1, 1) := by decide +kernel
theorem d_W_law_218 : decode M_W_law.2.1 218 = .ok (.iadd, 1) := by decide +kernel
theorem d_W_law_219 : decode M_W_law.2.1 219 = .ok (.iaload, 1) := by decide +kernel
theorem d_W_law_220 : decode M_W_law.2.1 220 = .ok (.aload_n 0, 1) := by decide +kernel
theorem d_W_law_221 : decode M_W_law.2.1 221 = .ok (.iload_n 3, 1) := by decide +kernel
theorem d_W_law_222 : decode M_W_law.2.1 222 = .ok (.iconst 2, 1) := by decide +kernel
theorem d_W_law_223 : decode M_W_law.2.1 223 = .ok (.iadd, 1) := by decide +kernel
theorem d_W_law_224 : decode M_W_law.2.1 224 = .ok (.iaload, 1) := by decide +kernel
theorem d_W_law_225 : decode M_W_law.2.1 225 = .ok (.aload_n 0, 1) := by decide +kernel
theorem d_W_law_226 : decode M_W_law.2.1 226 = .ok (.iload_n 3, 1) := by decide +kernel
theorem d_W_law_227 : decode M_W_law.2.1 227 = .ok (.iconst 3, 1) := by decide +kernel
theorem d_W_law_228 : decode M_W_law.2.1 228 = .ok (.iadd, 1) := by decide +kernel
theorem d_W_law_229 : decode M_W_law.2.1 229 = .ok (.iaload, 1) := by decide +kernel
theorem d_W_law_230 : decode M_W_law.2.1 230 = .ok (.invokevirtual 22, 3) := by decide +kernel
theorem d_W_law_233 : decode M_W_law.2.1 233 = .ok (.aload_n 2, 1) := by decide +kernel
theorem d_W_law_234 : decode M_W_law.2.1 234 = .ok (.aload_n 0, 1) := by decide +kernel
theorem d_W_law_235 : decode M_W_law.2.1 235 = .ok (.iload_n 3, 1) := by decide +kernel
theorem d_W_law_236 : decode M_W_law.2.1 236 = .ok (.iconst 1, 1) := by decide +kernel
theorem d_W_law_237 : decode M_W_law.2.1 237 = .ok (.iadd, 1) := by decide +kernel
theorem d_W_law_238 : decode M_W_law.2.1 238 = .ok (.iaload, 1) := by decide +kernel
theorem d_W_law_239 : decode M_W_law.2.1 239 = .ok (.aload_n 0, 1) := by decide +kernel
theorem d_W_law_240 : decode M_W_law.2.1 240 = .ok (.iload_n 3, 1) := by decide +kernel
theorem d_W_law_241 : decode M_W_law.2.1 241 = .ok (.iconst 2, 1) := by decide +kernel
theorem d_W_law_242 : decode M_W_law.2.1 242 = .ok (.iadd, 1) := by decide +kernel
theorem d_W_law_243 : decode M_W_law.2.1 243 = .ok (.iaload, 1) := by decide +kernel
theorem d_W_law_244 : decode M_W_law.2.1 244 = .ok (.aload_n 0, 1) := by decide +kernel
theorem d_W_law_245 : decode M_W_law.2.1 245 = .ok (.iload_n 3, 1) := by decide +kernel
theorem d_W_law_246 : decode M_W_law.2.1 246 = .ok (.iconst 3, 1) := by decide +kernel
theorem d_W_law_247 : decode M_W_law.2.1 247 = .ok (.iadd, 1) := by decide +kernel
theorem d_W_law_248 : decode M_W_law.2.1 248 = .ok (.iaload, 1) := by decide +kernel
theorem d_W_law_249 : decode M_W_law.2.1 249 = .ok (.invokevirtual 26, 3) := by decide +kernel
theorem d_W_law_252 : decode M_W_law.2.1 252 = .ok (.if_icmp .eq (384), 3) := by decide +kernel
theorem d_W_law_255 : decode M_W_law.2.1 255 = .ok (.iconst 0, 1) := by decide +kernel
theorem d_W_law_256 : decode M_W_law.2.1 256 = .ok (.ireturn, 1) := by decide +kernel
theorem d_W_law_257 : decode M_W_law.2.1 257 = .ok (.aload_n 1, 1) := by decide +kernel
theorem d_W_law_258 : decode M_W_law.2.1 258 = .ok (.invokevirtual 27, 3) := by decide +kernel
theorem d_W_law_261 : decode M_W_law.2.1 261 = .ok (.aload_n 2, 1) := by decide +kernel
theorem d_W_law_262 : decode M_W_law.2.1 262 = .ok (.invokevirtual 31, 3) := by decide +kernel
theorem d_W_law_265 : decode M_W_law.2.1 265 = .ok (.if_icmp .eq (371), 3) := by decide +kernel
theorem d_W_law_268 : decode M_W_law.2.1 268 = .ok (.iconst 0, 1) := by decide +kernel
theorem d_W_law_269 : decode M_W_law.2.1 269 = .ok (.ireturn, 1) := by decide +kernel
theorem d_W_law_270 : decode M_W_law.2.1 270 = .ok (.aload_n 1, 1) := by decide +kernel
theorem d_W_law_271 : decode M_W_law.2.1 271 = .ok (.invokevirtual 32, 3) := by decide +kernel
theorem d_W_law_274 : decode M_W_law.2.1 274 = .ok (.aload_n 2, 1) := by decide +kernel
theorem d_W_law_275 : decode M_W_law.2.1 275 = .ok (.invokevirtual 35, 3) := by decide +kernel
theorem d_W_law_278 : decode M_W_law.2.1 278 = .ok (.if_icmp .eq (358), 3) := by decide +kernel
theorem d_W_law_281 : decode M_W_law.2.1 281 = .ok (.iconst 0, 1) := by decide +kernel
theorem d_W_law_282 : decode M_W_law.2.1 282 = .ok (.ireturn, 1) := by decide +kernel
theorem d_W_law_283 : decode M_W_law.2.1 283 = .ok (.aload_n 1, 1) := by decide +kernel
theorem d_W_law_284 : decode M_W_law.2.1 284 = .ok (.invokevirtual 36, 3) := by decide +kernel
theorem d_W_law_287 : decode M_W_law.2.1 287 = .ok (.aload_n 2, 1) := by decide +kernel
theorem d_W_law_288 : decode M_W_law.2.1 288 = .ok (.invokevirtual 39, 3) := by decide +kernel
theorem d_W_law_291 : decode M_W_law.2.1 291 = .ok (.if_icmp .eq (345), 3) := by decide +kernel
theorem d_W_law_294 : decode M_W_law.2.1 294 = .ok (.iconst 0, 1) := by decide +kernel
theorem d_W_law_295 : decode M_W_law.2.1 295 = .ok (.ireturn, 1) := by decide +kernel
theorem d_W_law_296 : decode M_W_law.2.1 296 = .ok (.aload_n 1, 1) := by decide +kernel
theorem d_W_law_297 : decode M_W_law.2.1 297 = .ok (.aload_n 0, 1) := by decide +kernel
theorem d_W_law_298 : decode M_W_law.2.1 298 = .ok (.iload_n 3, 1) := by decide +kernel
theorem d_W_law_299 : decode M_W_law.2.1 299 = .ok (.iconst 1, 1) := by decide +kernel
theorem d_W_law_300 : decode M_W_law.2.1 300 = .ok (.iadd, 1) := by decide +kernel
theorem d_W_law_301 : decode M_W_law.2.1 301 = .ok (.iaload, 1) := by decide +kernel
theorem d_W_law_302 : decode M_W_law.2.1 302 = .ok (.invokevirtual 40, 3) := by decide +kernel
theorem d_W_law_305 : decode M_W_law.2.1 305 = .ok (.aload_n 2, 1) := by decide +kernel
theorem d_W_law_306 : decode M_W_law.2.1 306 = .ok (.aload_n 0, 1) := by decide +kernel
theorem d_W_law_307 : decode M_W_law.2.1 307 = .ok (.iload_n 3, 1) := by decide +kernel
theorem d_W_law_308 : decode M_W_law.2.1 308 = .ok (.iconst 1, 1) := by decide +kernel
theorem d_W_law_309 : decode M_W_law.2.1 309 = .ok (.iadd, 1) := by decide +kernel
theorem d_W_law_310 : decode M_W_law.2.1 310 = .ok (.iaload, 1) := by decide +kernel
theorem d_W_law_311 : decode M_W_law.2.1 311 = .ok (.invokevirtual 44, 3) := by decide +kernel
theorem d_W_law_314 : decode M_W_law.2.1 314 = .ok (.if_icmp .eq (322), 3) := by decide +kernel
theorem d_W_law_317 : decode M_W_law.2.1 317 = .ok (.iconst 0, 1) := by decide +kernel
theorem d_W_law_318 : decode M_W_law.2.1 318 = .ok (.ireturn, 1) := by decide +kernel
theorem d_W_law_319 : decode M_W_law.2.1 319 = .ok (.aload_n 1, 1) := by decide +kernel
theorem d_W_law_320 : decode M_W_law.2.1 320 = .ok (.invokevirtual 45, 3) := by decide +kernel
theorem d_W_law_323 : decode M_W_law.2.1 323 = .ok (.aload_n 2, 1) := by decide +kernel
theorem d_W_law_324 : decode M_W_law.2.1 324 = .ok (.invokevirtual 48, 3) := by decide +kernel
theorem d_W_law_327 : decode M_W_law.2.1 327 = .ok (.if_icmp .eq (309), 3) := by decide +kernel
theorem d_W_law_330 : decode M_W_law.2.1 330 = .ok (.iconst 0, 1) := by decide +kernel
theorem d_W_law_331 : decode M_W_law.2.1 331 = .ok (.ireturn, 1) := by decide +kernel
theorem d_W_law_332 : decode M_W_law.2.1 332 = .ok (.aload_n 1, 1) := by decide +kernel
theorem d_W_law_333 : decode M_W_law.2.1 333 = .ok (.invokevirtual 49, 3) := by decide +kernel
theorem d_W_law_336 : decode M_W_law.2.1 336 = .ok (.aload_n 2, 1) := by decide +kernel
theorem d_W_law_337 : decode M_W_law.2.1 337 = .ok (.invokevirtual 53, 3) := by decide +kernel
theorem d_W_law_340 : decode M_W_law.2.1 340 = .ok (.if_icmp .eq (296), 3) := by decide +kernel
theorem d_W_law_343 : decode M_W_law.2.1 343 = .ok (.iconst 0, 1) := by decide +kernel
theorem d_W_law_344 : decode M_W_law.2.1 344 = .ok (.ireturn, 1) := by decide +kernel
theorem d_W_law_345 : decode M_W_law.2.1 345 = .ok (.aload_n 1, 1) := by decide +kernel
theorem d_W_law_346 : decode M_W_law.2.1 346 = .ok (.aload_n 0, 1) := by decide +kernel
theorem d_W_law_347 : decode M_W_law.2.1 347 = .ok (.iload_n 3, 1) := by decide +kernel
theorem d_W_law_348 : decode M_W_law.2.1 348 = .ok (.iconst 1, 1) := by decide +kernel
theorem d_W_law_349 : decode M_W_law.2.1 349 = .ok (.iadd, 1) := by decide +kernel
theorem d_W_law_350 : decode M_W_law.2.1 350 = .ok (.iaload, 1) := by decide +kernel
theorem d_W_law_351 : decode M_W_law.2.1 351 = .ok (.invokevirtual 54, 3) := by decide +kernel
theorem d_W_law_354 : decode M_W_law.2.1 354 = .ok (.aload_n 2, 1) := by decide +kernel
theorem d_W_law_355 : decode M_W_law.2.1 355 = .ok (.aload_n 0, 1) := by decide +kernel
theorem d_W_law_356 : decode M_W_law.2.1 356 = .ok (.iload_n 3, 1) := by decide +kernel
theorem d_W_law_357 : decode M_W_law.2.1 357 = .ok (.iconst 1, 1) := by decide +kernel
theorem d_W_law_358 : decode M_W_law.2.1 358 = .ok (.iadd, 1) := by decide +kernel
theorem d_W_law_359 : decode M_W_law.2.1 359 = .ok (.iaload, 1) := by decide +kernel
theorem d_W_law_360 : decode M_W_law.2.1 360 = .ok (.invokevirtual 58, 3) := by decide +kernel
theorem d_W_law_363 : decode M_W_law.2.1 363 = .ok (.if_icmp .eq (273), 3) := by decide +kernel
theorem d_W_law_366 : decode M_W_law.2.1 366 = .ok (.iconst 0, 1) := by decide +kernel
theorem d_W_law_367 : decode M_W_law.2.1 367 = .ok (.ireturn, 1) := by decide +kernel
theorem d_W_law_368 : decode M_W_law.2.1 368 = .ok (.aload_n 1, 1) := by decide +kernel
theorem d_W_law_369 : decode M_W_law.2.1 369 = .ok (.aload_n 0, 1) := by decide +kernel
theorem d_W_law_370 : decode M_W_law.2.1 370 = .ok (.iload_n 3, 1) := by decide +kernel
theorem d_W_law_371 : decode M_W_law.2.1 371 = .ok (.iconst 1, 1) := by decide +kernel
theorem d_W_law_372 : decode M_W_law.2.1 372 = .ok (.iadd, 1) := by decide +kernel
theorem d_W_law_373 : decode M_W_law.2.1 373 = .ok (.iaload, 1) := by decide +kernel
theorem d_W_law_374 : decode M_W_law.2.1 374 = .ok (.aload_n 0, 1) := by decide +kernel
theorem d_W_law_375 : decode M_W_law.2.1 375 = .ok (.iload_n 3, 1) := by decide +kernel
theorem d_W_law_376 : decode M_W_law.2.1 376 = .ok (.iconst 2, 1) := by decide +kernel
theorem d_W_law_377 : decode M_W_law.2.1 377 = .ok (.iadd, 1) := by decide +kernel
theorem d_W_law_378 : decode M_W_law.2.1 378 = .ok (.iaload, 1) := by decide +kernel
theorem d_W_law_379 : decode M_W_law.2.1 379 = .ok (.aload_n 0, 1) := by decide +kernel
theorem d_W_law_380 : decode M_W_law.2.1 380 = .ok (.iload_n 3, 1) := by decide +kernel
theorem d_W_law_381 : decode M_W_law.2.1 381 = .ok (.iconst 3, 1) := by decide +kernel
theorem d_W_law_382 : decode M_W_law.2.1 382 = .ok (.iadd, 1) := by decide +kernel
theorem d_W_law_383 : decode M_W_law.2.1 383 = .ok (.iaload, 1) := by decide +kernel
theorem d_W_law_384 : decode M_W_law.2.1 384 = .ok (.ifCond .eq (7), 3) := by decide +kernel
theorem d_W_law_387 : decode M_W_law.2.1 387 = .ok (.iconst 1, 1) := by decide +kernel
theorem d_W_law_388 : decode M_W_law.2.1 388 = .ok (.goto (4), 3) := by decide +kernel
theorem d_W_law_391 : decode M_W_law.2.1 391 = .ok (.iconst 0, 1) := by decide +kernel
theorem d_W_law_392 : decode M_W_law.2.1 392 = .ok (.invokevirtual 59, 3) := by decide +kernel
theorem d_W_law_395 : decode M_W_law.2.1 395 = .ok (.aload_n 2, 1) := by decide +kernel
theorem d_W_law_396 : decode M_W_law.2.1 396 = .ok (.aload_n 0, 1) := by decide +kernel
theorem d_W_law_397 : decode M_W_law.2.1 397 = .ok (.iload_n 3, 1) := by decide +kernel
theorem d_W_law_398 : decode M_W_law.2.1 398 = .ok (.iconst 1, 1) := by decide +kernel
theorem d_W_law_399 : decode M_W_law.2.1 399 = .ok (.iadd, 1) := by decide +kernel
theorem d_W_law_400 : decode M_W_law.2.1 400 = .ok (.iaload, 1) := by decide +kernel
theorem d_W_law_401 : decode M_W_law.2.1 401 = .ok (.aload_n 0, 1) := by decide +kernel
theorem d_W_law_402 : decode M_W_law.2.1 402 = .ok (.iload_n 3, 1) := by decide +kernel
theorem d_W_law_403 : decode M_W_law.2.1 403 = .ok (.iconst 2, 1) := by decide +kernel
theorem d_W_law_404 : decode M_W_law.2.1 404 = .ok (.iadd, 1) := by decide +kernel
theorem d_W_law_405 : decode M_W_law.2.1 405 = .ok (.iaload, 1) := by decide +kernel
theorem d_W_law_406 : decode M_W_law.2.1 406 = .ok (.aload_n 0, 1) := by decide +kernel
theorem d_W_law_407 : decode M_W_law.2.1 407 = .ok (.iload_n 3, 1) := by decide +kernel
theorem d_W_law_408 : decode M_W_law.2.1 408 = .ok (.iconst 3, 1) := by decide +kernel
theorem d_W_law_409 : decode M_W_law.2.1 409 = .ok (.iadd, 1) := by decide +kernel
theorem d_W_law_410 : decode M_W_law.2.1 410 = .ok (.iaload, 1) := by decide +kernel
theorem d_W_law_411 : decode M_W_law.2.1 411 = .ok (.ifCond .eq (7), 3) := by decide +kernel
theorem d_W_law_414 : decode M_W_law.2.1 414 = .ok (.iconst 1, 1) := by decide +kernel
theorem d_W_law_415 : decode M_W_law.2.1 415 = .ok (.goto (4), 3) := by decide +kernel
theorem d_W_law_418 : decode M_W_law.2.1 418 = .ok (.iconst 0, 1) := by decide +kernel
theorem d_W_law_419 : decode M_W_law.2.1 419 = .ok (.invokevirtual 63, 3) := by decide +kernel
theorem d_W_law_422 : decode M_W_law.2.1 422 = .ok (.if_icmp .eq (214), 3) := by decide +kernel
theorem d_W_law_425 : decode M_W_law.2.1 425 = .ok (.iconst 0, 1) := by decide +kernel
theorem d_W_law_426 : decode M_W_law.2.1 426 = .ok (.ireturn, 1) := by decide +kernel
theorem d_W_law_427 : decode M_W_law.2.1 427 = .ok (.aload_n 1, 1) := by decide +kernel
theorem d_W_law_428 : decode M_W_law.2.1 428 = .ok (.aload_n 0, 1) := by decide +kernel
theorem d_W_law_429 : decode M_W_law.2.1 429 = .ok (.iload_n 3, 1) := by decide +kernel
theorem d_W_law_430 : decode M_W_law.2.1 430 = .ok (.iconst 1, 1) := by decide +kernel
theorem d_W_law_431 : decode M_W_law.2.1 431 = .ok (.iadd, 1) := by decide +kernel
theorem d_W_law_432 : decode M_W_law.2.1 432 = .ok (.iaload, 1) := by decide +kernel
theorem d_W_law_433 : decode M_W_law.2.1 433 = .ok (.aload_n 0, 1) := by decide +kernel
theorem d_W_law_434 : decode M_W_law.2.1 434 = .ok (.iload_n 3, 1) := by decide +kernel
theorem d_W_law_435 : decode M_W_law.2.1 435 = .ok (.iconst 2, 1) := by decide +kernel
theorem d_W_law_436 : decode M_W_law.2.1 436 = .ok (.iadd, 1) := by decide +kernel
theorem d_W_law_437 : decode M_W_law.2.1 437 = .ok (.iaload, 1) := by decide +kernel
theorem d_W_law_438 : decode M_W_law.2.1 438 = .ok (.aload_n 0, 1) := by decide +kernel
theorem d_W_law_439 : decode M_W_law.2.1 439 = .ok (.iload_n 3, 1) := by decide +kernel
theorem d_W_law_440 : decode M_W_law.2.1 440 = .ok (.iconst 3, 1) := by decide +kernel
theorem d_W_law_441 : decode M_W_law.2.1 441 = .ok (.iadd, 1) := by decide +kernel
theorem d_W_law_442 : decode M_W_law.2.1 442 = .ok (.iaload, 1) := by decide +kernel
theorem d_W_law_443 : decode M_W_law.2.1 443 = .ok (.ifCond .eq (7), 3) := by decide +kernel
theorem d_W_law_446 : decode M_W_law.2.1 446 = .ok (.iconst 1, 1) := by decide +kernel
theorem d_W_law_447 : decode M_W_law.2.1 447 = .ok (.goto (4), 3) := by decide +kernel
theorem d_W_law_450 : decode M_W_law.2.1 450 = .ok (.iconst 0, 1) := by decide +kernel
theorem d_W_law_451 : decode M_W_law.2.1 451 = .ok (.invokevirtual 64, 3) := by decide +kernel
theorem d_W_law_454 : decode M_W_law.2.1 454 = .ok (.aload_n 2, 1) := by decide +kernel
theorem d_W_law_455 : decode M_W_law.2.1 455 = .ok (.aload_n 0, 1) := by decide +kernel
theorem d_W_law_456 : decode M_W_law.2.1 456 = .ok (.iload_n 3, 1) := by decide +kernel
theorem d_W_law_457 : decode M_W_law.2.1 457 = .ok (.iconst 1, 1) := by decide +kernel
theorem d_W_law_458 : decode M_W_law.2.1 458 = .ok (.iadd, 1) := by decide +kernel
theorem d_W_law_459 : decode M_W_law.2.1 459 = .ok (.iaload, 1) := by decide +kernel
theorem d_W_law_460 : decode M_W_law.2.1 460 = .ok (.aload_n 0, 1) := by decide +kernel
theorem d_W_law_461 : decode M_W_law.2.1 461 = .ok (.iload_n 3, 1) := by decide +kernel
theorem d_W_law_462 : decode M_W_law.2.1 462 = .ok (.iconst 2, 1) := by decide +kernel
theorem d_W_law_463 : decode M_W_law.2.1 463 = .ok (.iadd, 1) := by decide +kernel
theorem d_W_law_464 : decode M_W_law.2.1 464 = .ok (.iaload, 1) := by decide +kernel
theorem d_W_law_465 : decode M_W_law.2.1 465 = .ok (.aload_n 0, 1) := by decide +kernel
theorem d_W_law_466 : decode M_W_law.2.1 466 = .ok (.iload_n 3, 1) := by decide +kernel
theorem d_W_law_467 : decode M_W_law.2.1 467 = .ok (.iconst 3, 1) := by decide +kernel
theorem d_W_law_468 : decode M_W_law.2.1 468 = .ok (.iadd, 1) := by decide +kernel
theorem d_W_law_469 : decode M_W_law.2.1 469 = .ok (.iaload, 1) := by decide +kernel
theorem d_W_law_470 : decode M_W_law.2.1 470 = .ok (.ifCond .eq (7), 3) := by decide +kernel
theorem d_W_law_473 : decode M_W_law.2.1 473 = .ok (.iconst 1, 1) := by decide +kernel
theorem d_W_law_474 : decode M_W_law.2.1 474 = .ok (.goto (4), 3) := by decide +kernel
theorem d_W_law_477 : decode M_W_law.2.1 477 = .ok (.iconst 0, 1) := by decide +kernel
theorem d_W_law_478 : decode M_W_law.2.1 478 = .ok (.invokevirtual 67, 3) := by decide +kernel
theorem d_W_law_481 : decode M_W_law.2.1 481 = .ok (.if_icmp .eq (155), 3) := by decide +kernel
theorem d_W_law_484 : decode M_W_law.2.1 484 = .ok (.iconst 0, 1) := by decide +kernel
theorem d_W_law_485 : decode M_W_law.2.1 485 = .ok (.ireturn, 1) := by decide +kernel
theorem d_W_law_486 : decode M_W_law.2.1 486 = .ok (.aload_n 1, 1) := by decide +kernel
theorem d_W_law_487 : decode M_W_law.2.1 487 = .ok (.aload_n 0, 1) := by decide +kernel
theorem d_W_law_488 : decode M_W_law.2.1 488 = .ok (.iload_n 3, 1) := by decide +kernel
theorem d_W_law_489 : decode M_W_law.2.1 489 = .ok (.iconst 1, 1) := by decide +kernel
theorem d_W_law_490 : decode M_W_law.2.1 490 = .ok (.iadd, 1) := by decide +kernel
theorem d_W_law_491 : decode M_W_law.2.1 491 = .ok (.iaload, 1) := by decide +kernel
theorem d_W_law_492 : decode M_W_law.2.1 492 = .ok (.aload_n 0, 1) := by decide +kernel
theorem d_W_law_493 : decode M_W_law.2.1 493 = .ok (.iload_n 3, 1) := by decide +kernel
theorem d_W_law_494 : decode M_W_law.2.1 494 = .ok (.iconst 2, 1) := by decide +kernel
theorem d_W_law_495 : decode M_W_law.2.1 495 = .ok (.iadd, 1) := by decide +kernel
theorem d_W_law_496 : decode M_W_law.2.1 496 = .ok (.iaload, 1) := by decide +kernel
theorem d_W_law_497 : decode M_W_law.2.1 497 = .ok (.aload_n 0, 1) := by decide +kernel
theorem d_W_law_498 : decode M_W_law.2.1 498 = .ok (.iload_n 3, 1) := by decide +kernel
theorem d_W_law_499 : decode M_W_law.2.1 499 = .ok (.iconst 3, 1) := by decide +kernel
theorem d_W_law_500 : decode M_W_law.2.1 500 = .ok (.iadd, 1) := by decide +kernel
theorem d_W_law_501 : decode M_W_law.2.1 501 = .ok (.iaload, 1) := by decide +kernel
theorem d_W_law_502 : decode M_W_law.2.1 502 = .ok (.aload_n 0, 1) := by decide +kernel
theorem d_W_law_503 : decode M_W_law.2.1 503 = .ok (.iload_n 3, 1) := by decide +kernel
theorem d_W_law_504 : decode M_W_law.2.1 504 = .ok (.iconst 4, 1) := by decide +kernel
theorem d_W_law_505 : decode M_W_law.2.1 505 = .ok (.iadd, 1) := by decide +kernel
theorem d_W_law_506 : decode M_W_law.2.1 506 = .ok (.iaload, 1) := by decide +kernel
theorem d_W_law_507 : decode M_W_law.2.1 507 = .ok (.aload_n 0, 1) := by decide +kernel
theorem d_W_law_508 : decode M_W_law.2.1 508 = .ok (.iload_n 3, 1) := by decide +kernel
theorem d_W_law_509 : decode M_W_law.2.1 509 = .ok (.iconst 5, 1) := by decide +kernel
theorem d_W_law_510 : decode M_W_law.2.1 510 = .ok (.iadd, 1) := by decide +kernel
theorem d_W_law_511 : decode M_W_law.2.1 511 = .ok (.iaload, 1) := by decide +kernel
theorem d_W_law_512 : decode M_W_law.2.1 512 = .ok (.invokevirtual 68, 3) := by decide +kernel
theorem d_W_law_515 : decode M_W_law.2.1 515 = .ok (.aload_n 2, 1) := by decide +kernel
theorem d_W_law_516 : decode M_W_law.2.1 516 = .ok (.aload_n 0, 1) := by decide +kernel
theorem d_W_law_517 : decode M_W_law.2.1 517 = .ok (.iload_n 3, 1) := by decide +kernel
theorem d_W_law_518 : decode M_W_law.2.1 518 = .ok (.iconst 1, 1) := by decide +kernel
theorem d_W_law_519 : decode M_W_law.2.1 519 = .ok (.iadd, 1) := by decide +kernel
theorem d_W_law_520 : decode M_W_law.2.1 520 = .ok (.iaload, 1) := by decide +kernel
theorem d_W_law_521 : decode M_W_law.2.1 521 = .ok (.aload_n 0, 1) := by decide +kernel
theorem d_W_law_522 : decode M_W_law.2.1 522 = .ok (.iload_n 3, 1) := by decide +kernel
theorem d_W_law_523 : decode M_W_law.2.1 523 = .ok (.iconst 2, 1) := by decide +kernel
theorem d_W_law_524 : decode M_W_law.2.1 524 = .ok (.iadd, 1) := by decide +kernel
theorem d_W_law_525 : decode M_W_law.2.1 525 = .ok (.iaload, 1) := by decide +kernel
theorem d_W_law_526 : decode M_W_law.2.1 526 = .ok (.aload_n 0, 1) := by decide +kernel
theorem d_W_law_527 : decode M_W_law.2.1 527 = .ok (.iload_n 3, 1) := by decide +kernel
theorem d_W_law_528 : decode M_W_law.2.1 528 = .ok (.iconst 3, 1) := by decide +kernel
theorem d_W_law_529 : decode M_W_law.2.1 529 = .ok (.iadd, 1) := by decide +kernel
theorem d_W_law_530 : decode M_W_law.2.1 530 = .ok (.iaload, 1) := by decide +kernel
theorem d_W_law_531 : decode M_W_law.2.1 531 = .ok (.aload_n 0, 1) := by decide +kernel
theorem d_W_law_532 : decode M_W_law.2.1 532 = .ok (.iload_n 3, 1) := by decide +kernel
theorem d_W_law_533 : decode M_W_law.2.1 533 = .ok (.iconst 4, 1) := by decide +kernel
theorem d_W_law_534 : decode M_W_law.2.1 534 = .ok (.iadd, 1) := by decide +kernel
theorem d_W_law_535 : decode M_W_law.2.1 535 = .ok (.iaload, 1) := by decide +kernel
theorem d_W_law_536 : decode M_W_law.2.1 536 = .ok (.aload_n 0, 1) := by decide +kernel
theorem d_W_law_537 : decode M_W_law.2.1 537 = .ok (.iload_n 3, 1) := by decide +kernel
theorem d_W_law_538 : decode M_W_law.2.1 538 = .ok (.iconst 5, 1) := by decide +kernel
theorem d_W_law_539 : decode M_W_law.2.1 539 = .ok (.iadd, 1) := by decide +kernel
theorem d_W_law_540 : decode M_W_law.2.1 540 = .ok (.iaload, 1) := by decide +kernel
theorem d_W_law_541 : decode M_W_law.2.1 541 = .ok (.invokevirtual 72, 3) := by decide +kernel
theorem d_W_law_544 : decode M_W_law.2.1 544 = .ok (.if_icmp .eq (92), 3) := by decide +kernel
theorem d_W_law_547 : decode M_W_law.2.1 547 = .ok (.iconst 0, 1) := by decide +kernel
theorem d_W_law_548 : decode M_W_law.2.1 548 = .ok (.ireturn, 1) := by decide +kernel
theorem d_W_law_549 : decode M_W_law.2.1 549 = .ok (.aload_n 1, 1) := by decide +kernel
theorem d_W_law_550 : decode M_W_law.2.1 550 = .ok (.aload_n 0, 1) := by decide +kernel
theorem d_W_law_551 : decode M_W_law.2.1 551 = .ok (.iload_n 3, 1) := by decide +kernel
theorem d_W_law_552 : decode M_W_law.2.1 552 = .ok (.iconst 1, 1) := by decide +kernel
theorem d_W_law_553 : decode M_W_law.2.1 553 = .ok (.iadd, 1) := by decide +kernel
theorem d_W_law_554 : decode M_W_law.2.1 554 = .ok (.iaload, 1) := by decide +kernel
theorem d_W_law_555 : decode M_W_law.2.1 555 = .ok (.aload_n 0, 1) := by decide +kernel
theorem d_W_law_556 : decode M_W_law.2.1 556 = .ok (.iload_n 3, 1) := by decide +kernel
theorem d_W_law_557 : decode M_W_law.2.1 557 = .ok (.iconst 2, 1) := by decide +kernel
theorem d_W_law_558 : decode M_W_law.2.1 558 = .ok (.iadd, 1) := by decide +kernel
theorem d_W_law_559 : decode M_W_law.2.1 559 = .ok (.iaload, 1) := by decide +kernel
theorem d_W_law_560 : decode M_W_law.2.1 560 = .ok (.aload_n 0, 1) := by decide +kernel
theorem d_W_law_561 : decode M_W_law.2.1 561 = .ok (.iload_n 3, 1) := by decide +kernel
theorem d_W_law_562 : decode M_W_law.2.1 562 = .ok (.iconst 3, 1) := by decide +kernel
theorem d_W_law_563 : decode M_W_law.2.1 563 = .ok (.iadd, 1) := by decide +kernel
theorem d_W_law_564 : decode M_W_law.2.1 564 = .ok (.iaload, 1) := by decide +kernel
theorem d_W_law_565 : decode M_W_law.2.1 565 = .ok (.invokevirtual 73, 3) := by decide +kernel
theorem d_W_law_568 : decode M_W_law.2.1 568 = .ok (.aload_n 2, 1) := by decide +kernel
theorem d_W_law_569 : decode M_W_law.2.1 569 = .ok (.aload_n 0, 1) := by decide +kernel
theorem d_W_law_570 : decode M_W_law.2.1 570 = .ok (.iload_n 3, 1) := by decide +kernel
theorem d_W_law_571 : decode M_W_law.2.1 571 = .ok (.iconst 1, 1) := by decide +kernel
theorem d_W_law_572 : decode M_W_law.2.1 572 = .ok (.iadd, 1) := by decide +kernel
theorem d_W_law_573 : decode M_W_law.2.1 573 = .ok (.iaload, 1) := by decide +kernel
theorem d_W_law_574 : decode M_W_law.2.1 574 = .ok (.aload_n 0, 1) := by decide +kernel
theorem d_W_law_575 : decode M_W_law.2.1 575 = .ok (.iload_n 3, 1) := by decide +kernel
theorem d_W_law_576 : decode M_W_law.2.1 576 = .ok (.iconst 2, 1) := by decide +kernel
theorem d_W_law_577 : decode M_W_law.2.1 577 = .ok (.iadd, 1) := by decide +kernel
theorem d_W_law_578 : decode M_W_law.2.1 578 = .ok (.iaload, 1) := by decide +kernel
theorem d_W_law_579 : decode M_W_law.2.1 579 = .ok (.aload_n 0, 1) := by decide +kernel
theorem d_W_law_580 : decode M_W_law.2.1 580 = .ok (.iload_n 3, 1) := by decide +kernel
theorem d_W_law_581 : decode M_W_law.2.1 581 = .ok (.iconst 3, 1) := by decide +kernel
theorem d_W_law_582 : decode M_W_law.2.1 582 = .ok (.iadd, 1) := by decide +kernel
theorem d_W_law_583 : decode M_W_law.2.1 583 = .ok (.iaload, 1) := by decide +kernel
theorem d_W_law_584 : decode M_W_law.2.1 584 = .ok (.invokevirtual 76, 3) := by decide +kernel
theorem d_W_law_587 : decode M_W_law.2.1 587 = .ok (.if_icmp .eq (49), 3) := by decide +kernel
theorem d_W_law_590 : decode M_W_law.2.1 590 = .ok (.iconst 0, 1) := by decide +kernel
theorem d_W_law_591 : decode M_W_law.2.1 591 = .ok (.ireturn, 1) := by decide +kernel
theorem d_W_law_592 : decode M_W_law.2.1 592 = .ok (.aload_n 1, 1) := by decide +kernel
theorem d_W_law_593 : decode M_W_law.2.1 593 = .ok (.aload_n 0, 1) := by decide +kernel
theorem d_W_law_594 : decode M_W_law.2.1 594 = .ok (.iload_n 3, 1) := by decide +kernel
theorem d_W_law_595 : decode M_W_law.2.1 595 = .ok (.iconst 1, 1) := by decide +kernel
theorem d_W_law_596 : decode M_W_law.2.1 596 = .ok (.iadd, 1) := by decide +kernel
theorem d_W_law_597 : decode M_W_law.2.1 597 = .ok (.iaload, 1) := by decide +kernel
theorem d_W_law_598 : decode M_W_law.2.1 598 = .ok (.aload_n 0, 1) := by decide +kernel
theorem d_W_law_599 : decode M_W_law.2.1 599 = .ok (.iload_n 3, 1) := by decide +kernel
theorem d_W_law_600 : decode M_W_law.2.1 600 = .ok (.iconst 2, 1) := by decide +kernel
theorem d_W_law_601 : decode M_W_law.2.1 601 = .ok (.iadd, 1) := by decide +kernel
theorem d_W_law_602 : decode M_W_law.2.1 602 = .ok (.iaload, 1) := by decide +kernel
theorem d_W_law_603 : decode M_W_law.2.1 603 = .ok (.aload_n 0, 1) := by decide +kernel
theorem d_W_law_604 : decode M_W_law.2.1 604 = .ok (.iload_n 3, 1) := by decide +kernel
theorem d_W_law_605 : decode M_W_law.2.1 605 = .ok (.iconst 3, 1) := by decide +kernel
theorem d_W_law_606 : decode M_W_law.2.1 606 = .ok (.iadd, 1) := by decide +kernel
theorem d_W_law_607 : decode M_W_law.2.1 607 = .ok (.iaload, 1) := by decide +kernel
theorem d_W_law_608 : decode M_W_law.2.1 608 = .ok (.invokevirtual 77, 3) := by decide +kernel
theorem d_W_law_611 : decode M_W_law.2.1 611 = .ok (.aload_n 2, 1) := by decide +kernel
theorem d_W_law_612 : decode M_W_law.2.1 612 = .ok (.aload_n 0, 1) := by decide +kernel
theorem d_W_law_613 : decode M_W_law.2.1 613 = .ok (.iload_n 3, 1) := by decide +kernel
theorem d_W_law_614 : decode M_W_law.2.1 614 = .ok (.iconst 1, 1) := by decide +kernel
theorem d_W_law_615 : decode M_W_law.2.1 615 = .ok (.iadd, 1) := by decide +kernel
theorem d_W_law_616 : decode M_W_law.2.1 616 = .ok (.iaload, 1) := by decide +kernel
theorem d_W_law_617 : decode M_W_law.2.1 617 = .ok (.aload_n 0, 1) := by decide +kernel
theorem d_W_law_618 : decode M_W_law.2.1 618 = .ok (.iload_n 3, 1) := by decide +kernel
theorem d_W_law_619 : decode M_W_law.2.1 619 = .ok (.iconst 2, 1) := by decide +kernel
theorem d_W_law_620 : decode M_W_law.2.1 620 = .ok (.iadd, 1) := by decide +kernel
theorem d_W_law_621 : decode M_W_law.2.1 621 = .ok (.iaload, 1) := by decide +kernel
theorem d_W_law_622 : decode M_W_law.2.1 622 = .ok (.aload_n 0, 1) := by decide +kernel
theorem d_W_law_623 : decode M_W_law.2.1 623 = .ok (.iload_n 3, 1) := by decide +kernel
theorem d_W_law_624 : decode M_W_law.2.1 624 = .ok (.iconst 3, 1) := by decide +kernel
theorem d_W_law_625 : decode M_W_law.2.1 625 = .ok (.iadd, 1) := by decide +kernel
theorem d_W_law_626 : decode M_W_law.2.1 626 = .ok (.iaload, 1) := by decide +kernel
theorem d_W_law_627 : decode M_W_law.2.1 627 = .ok (.invokevirtual 81, 3) := by decide +kernel
theorem d_W_law_630 : decode M_W_law.2.1 630 = .ok (.lcmp, 1) := by decide +kernel
theorem d_W_law_631 : decode M_W_law.2.1 631 = .ok (.ifCond .eq (5), 3) := by decide +kernel
theorem d_W_law_634 : decode M_W_law.2.1 634 = .ok (.iconst 0, 1) := by decide +kernel
theorem d_W_law_635 : decode M_W_law.2.1 635 = .ok (.ireturn, 1) := by decide +kernel
theorem d_W_law_636 : decode M_W_law.2.1 636 = .ok (.iinc 3 (6), 3) := by decide +kernel
theorem d_W_law_639 : decode M_W_law.2.1 639 = .ok (.goto (-621), 3) := by decide +kernel
theorem d_W_law_642 : decode M_W_law.2.1 642 = .ok (.iconst 1, 1) := by decide +kernel
theorem d_W_law_643 : decode M_W_law.2.1 643 = .ok (.ireturn, 1) := by decide +kernel
