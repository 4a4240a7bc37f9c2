/-! the law, instruction by instruction -/
set_option maxRecDepth 100000 in
theorem f_331_0 : fe 331 0 = some (.new 7, 3, 13, some .boolean) := fe_of pg_331 (by decide +kernel)
set_option maxRecDepth 100000 in
theorem f_331_3 : fe 331 3 = some (.dup, 1, 13, some .boolean) := fe_of pg_331 (by decide +kernel)
set_option maxRecDepth 100000 in
theorem f_331_4 : fe 331 4 = some (.invokespecial 9, 3, 13, some .boolean) := fe_of pg_331 (by decide +kernel)
set_option maxRecDepth 100000 in
theorem f_331_7 : fe 331 7 = some (.astore_n 1, 1, 13, some .boolean) := fe_of pg_331 (by decide +kernel)
set_option maxRecDepth 100000 in
theorem f_331_8 : fe 331 8 = some (.new 10, 3, 13, some .boolean) := fe_of pg_331 (by decide +kernel)
set_option maxRecDepth 100000 in
theorem f_331_11 : fe 331 11 = some (.dup, 1, 13, some .boolean) := fe_of pg_331 (by decide +kernel)
set_option maxRecDepth 100000 in
theorem f_331_12 : fe 331 12 = some (.invokespecial 12, 3, 13, some .boolean) := fe_of pg_331 (by decide +kernel)
set_option maxRecDepth 100000 in
theorem f_331_15 : fe 331 15 = some (.astore_n 2, 1, 13, some .boolean) := fe_of pg_331 (by decide +kernel)
set_option maxRecDepth 100000 in
theorem f_331_16 : fe 331 16 = some (.iconst 0, 1, 13, some .boolean) := fe_of pg_331 (by decide +kernel)
set_option maxRecDepth 100000 in
theorem f_331_17 : fe 331 17 = some (.istore_n 3, 1, 13, some .boolean) := fe_of pg_331 (by decide +kernel)
set_option maxRecDepth 100000 in
theorem f_331_18 : fe 331 18 = some (.iload_n 3, 1, 13, some .boolean) := fe_of pg_331 (by decide +kernel)
set_option maxRecDepth 100000 in
theorem f_331_19 : fe 331 19 = some (.aload_n 0, 1, 13, some .boolean) := fe_of pg_331 (by decide +kernel)
set_option maxRecDepth 100000 in
theorem f_331_20 : fe 331 20 = some (.arraylength, 1, 13, some .boolean) := fe_of pg_331 (by decide +kernel)
set_option maxRecDepth 100000 in
theorem f_331_21 : fe 331 21 = some (.bipush 6, 2, 13, some .boolean) := fe_of pg_331 (by decide +kernel)
set_option maxRecDepth 100000 in
theorem f_331_23 : fe 331 23 = some (.isub, 1, 13, some .boolean) := fe_of pg_331 (by decide +kernel)
set_option maxRecDepth 100000 in
theorem f_331_24 : fe 331 24 = some (.if_icmp .gt 1430, 3, 13, some .boolean) := fe_of pg_331 (by decide +kernel)
set_option maxRecDepth 100000 in
theorem f_331_27 : fe 331 27 = some (.aload_n 0, 1, 13, some .boolean) := fe_of pg_331 (by decide +kernel)
set_option maxRecDepth 100000 in
theorem f_331_28 : fe 331 28 = some (.iload_n 3, 1, 13, some .boolean) := fe_of pg_331 (by decide +kernel)
set_option maxRecDepth 100000 in
theorem f_331_29 : fe 331 29 = some (.iaload, 1, 13, some .boolean) := fe_of pg_331 (by decide +kernel)
set_option maxRecDepth 100000 in
theorem f_331_30 : fe 331 30 = some (.bipush 63, 2, 13, some .boolean) := fe_of pg_331 (by decide +kernel)
set_option maxRecDepth 100000 in
theorem f_331_32 : fe 331 32 = some (.iand, 1, 13, some .boolean) := fe_of pg_331 (by decide +kernel)
set_option maxRecDepth 100000 in
theorem f_331_33 : fe 331 33 = some (.tableswitch 1415 0 32 #[147, 210, 233, 266, 289, 322, 365, 398, 451, 494, 527, 560, 613, 672, 705, 738, 781, 814, 867, 900, 953, 986, 1029, 1062, 1095, 1128, 1171, 1204, 1263, 1297, 1346, 1369, 1392], 147, 13, some .boolean) := fe_of pg_331 (by decide +kernel)
set_option maxRecDepth 100000 in
theorem f_331_180 : fe 331 180 = some (.aload_n 1, 1, 13, some .boolean) := fe_of pg_331 (by decide +kernel)
set_option maxRecDepth 100000 in
theorem f_331_181 : fe 331 181 = some (.aload_n 0, 1, 13, some .boolean) := fe_of pg_331 (by decide +kernel)
set_option maxRecDepth 100000 in
theorem f_331_182 : fe 331 182 = some (.iload_n 3, 1, 13, some .boolean) := fe_of pg_331 (by decide +kernel)
set_option maxRecDepth 100000 in
theorem f_331_183 : fe 331 183 = some (.iconst 1, 1, 13, some .boolean) := fe_of pg_331 (by decide +kernel)
set_option maxRecDepth 100000 in
theorem f_331_184 : fe 331 184 = some (.iadd, 1, 13, some .boolean) := fe_of pg_331 (by decide +kernel)
set_option maxRecDepth 100000 in
theorem f_331_185 : fe 331 185 = some (.iaload, 1, 13, some .boolean) := fe_of pg_331 (by decide +kernel)
set_option maxRecDepth 100000 in
theorem f_331_186 : fe 331 186 = some (.aload_n 0, 1, 13, some .boolean) := fe_of pg_331 (by decide +kernel)
set_option maxRecDepth 100000 in
theorem f_331_187 : fe 331 187 = some (.iload_n 3, 1, 13, some .boolean) := fe_of pg_331 (by decide +kernel)
set_option maxRecDepth 100000 in
theorem f_331_188 : fe 331 188 = some (.iconst 2, 1, 13, some .boolean) := fe_of pg_331 (by decide +kernel)
set_option maxRecDepth 100000 in
theorem f_331_189 : fe 331 189 = some (.iadd, 1, 13, some .boolean) := fe_of pg_331 (by decide +kernel)
set_option maxRecDepth 100000 in
theorem f_331_190 : fe 331 190 = some (.iaload, 1, 13, some .boolean) := fe_of pg_331 (by decide +kernel)
set_option maxRecDepth 100000 in
theorem f_331_191 : fe 331 191 = some (.aload_n 0, 1, 13, some .boolean) := fe_of pg_331 (by decide +kernel)
set_option maxRecDepth 100000 in
theorem f_331_192 : fe 331 192 = some (.iload_n 3, 1, 13, some .boolean) := fe_of pg_331 (by decide +kernel)
set_option maxRecDepth 100000 in
theorem f_331_193 : fe 331 193 = some (.iconst 3, 1, 13, some .boolean) := fe_of pg_331 (by decide +kernel)
set_option maxRecDepth 100000 in
theorem f_331_194 : fe 331 194 = some (.iadd, 1, 13, some .boolean) := fe_of pg_331 (by decide +kernel)
set_option maxRecDepth 100000 in
theorem f_331_195 : fe 331 195 = some (.iaload, 1, 13, some .boolean) := fe_of pg_331 (by decide +kernel)
set_option maxRecDepth 100000 in
theorem f_331_196 : fe 331 196 = some (.aload_n 0, 1, 13, some .boolean) := fe_of pg_331 (by decide +kernel)
set_option maxRecDepth 100000 in
theorem f_331_197 : fe 331 197 = some (.iload_n 3, 1, 13, some .boolean) := fe_of pg_331 (by decide +kernel)
set_option maxRecDepth 100000 in
theorem f_331_198 : fe 331 198 = some (.iconst 4, 1, 13, some .boolean) := fe_of pg_331 (by decide +kernel)
set_option maxRecDepth 100000 in
theorem f_331_199 : fe 331 199 = some (.iadd, 1, 13, some .boolean) := fe_of pg_331 (by decide +kernel)
set_option maxRecDepth 100000 in
theorem f_331_200 : fe 331 200 = some (.iaload, 1, 13, some .boolean) := fe_of pg_331 (by decide +kernel)
set_option maxRecDepth 100000 in
theorem f_331_201 : fe 331 201 = some (.aload_n 0, 1, 13, some .boolean) := fe_of pg_331 (by decide +kernel)
set_option maxRecDepth 100000 in
theorem f_331_202 : fe 331 202 = some (.iload_n 3, 1, 13, some .boolean) := fe_of pg_331 (by decide +kernel)
set_option maxRecDepth 100000 in
theorem f_331_203 : fe 331 203 = some (.iconst 5, 1, 13, some .boolean) := fe_of pg_331 (by decide +kernel)
set_option maxRecDepth 100000 in
theorem f_331_204 : fe 331 204 = some (.iadd, 1, 13, some .boolean) := fe_of pg_331 (by decide +kernel)
set_option maxRecDepth 100000 in
theorem f_331_205 : fe 331 205 = some (.iaload, 1, 13, some .boolean) := fe_of pg_331 (by decide +kernel)
set_option maxRecDepth 100000 in
theorem f_331_206 : fe 331 206 = some (.invokevirtual 13, 3, 13, some .boolean) := fe_of pg_331 (by decide +kernel)
set_option maxRecDepth 100000 in
theorem f_331_209 : fe 331 209 = some (.aload_n 2, 1, 13, some .boolean) := fe_of pg_331 (by decide +kernel)
set_option maxRecDepth 100000 in
theorem f_331_210 : fe 331 210 = some (.aload_n 0, 1, 13, some .boolean) := fe_of pg_331 (by decide +kernel)
set_option maxRecDepth 100000 in
theorem f_331_211 : fe 331 211 = some (.iload_n 3, 1, 13, some .boolean) := fe_of pg_331 (by decide +kernel)
set_option maxRecDepth 100000 in
theorem f_331_212 : fe 331 212 = some (.iconst 1, 1, 13, some .boolean) := fe_of pg_331 (by decide +kernel)
set_option maxRecDepth 100000 in
theorem f_331_213 : fe 331 213 = some (.iadd, 1, 13, some .boolean) := fe_of pg_331 (by decide +kernel)
set_option maxRecDepth 100000 in
theorem f_331_214 : fe 331 214 = some (.iaload, 1, 13, some .boolean) := fe_of pg_331 (by decide +kernel)
set_option maxRecDepth 100000 in
theorem f_331_215 : fe 331 215 = some (.aload_n 0, 1, 13, some .boolean) := fe_of pg_331 (by decide +kernel)
set_option maxRecDepth 100000 in
theorem f_331_216 : fe 331 216 = some (.iload_n 3, 1, 13, some .boolean) := fe_of pg_331 (by decide +kernel)
set_option maxRecDepth 100000 in
theorem f_331_217 : fe 331 217 = some (.iconst 2, 1, 13, some .boolean) := fe_of pg_331 (by decide +kernel)
set_option maxRecDepth 100000 in
theorem f_331_218 : fe 331 218 = some (.iadd, 1, 13, some .boolean) := fe_of pg_331 (by decide +kernel)
set_option maxRecDepth 100000 in
theorem f_331_219 : fe 331 219 = some (.iaload, 1, 13, some .boolean) := fe_of pg_331 (by decide +kernel)
set_option maxRecDepth 100000 in
theorem f_331_220 : fe 331 220 = some (.aload_n 0, 1, 13, some .boolean) := fe_of pg_331 (by decide +kernel)
set_option maxRecDepth 100000 in
theorem f_331_221 : fe 331 221 = some (.iload_n 3, 1, 13, some .boolean) := fe_of pg_331 (by decide +kernel)
set_option maxRecDepth 100000 in
theorem f_331_222 : fe 331 222 = some (.iconst 3, 1, 13, some .boolean) := fe_of pg_331 (by decide +kernel)
set_option maxRecDepth 100000 in
theorem f_331_223 : fe 331 223 = some (.iadd, 1, 13, some .boolean) := fe_of pg_331 (by decide +kernel)
set_option maxRecDepth 100000 in
theorem f_331_224 : fe 331 224 = some (.iaload, 1, 13, some .boolean) := fe_of pg_331 (by decide +kernel)
set_option maxRecDepth 100000 in
theorem f_331_225 : fe 331 225 = some (.aload_n 0, 1, 13, some .boolean) := fe_of pg_331 (by decide +kernel)
set_option maxRecDepth 100000 in
theorem f_331_226 : fe 331 226 = some (.iload_n 3, 1, 13, some .boolean) := fe_of pg_331 (by decide +kernel)
set_option maxRecDepth 100000 in
theorem f_331_227 : fe 331 227 = some (.iconst 4, 1, 13, some .boolean) := fe_of pg_331 (by decide +kernel)
set_option maxRecDepth 100000 in
theorem f_331_228 : fe 331 228 = some (.iadd, 1, 13, some .boolean) := fe_of pg_331 (by decide +kernel)
set_option maxRecDepth 100000 in
theorem f_331_229 : fe 331 229 = some (.iaload, 1, 13, some .boolean) := fe_of pg_331 (by decide +kernel)
set_option maxRecDepth 100000 in
theorem f_331_230 : fe 331 230 = some (.aload_n 0, 1, 13, some .boolean) := fe_of pg_331 (by decide +kernel)
set_option maxRecDepth 100000 in
theorem f_331_231 : fe 331 231 = some (.iload_n 3, 1, 13, some .boolean) := fe_of pg_331 (by decide +kernel)
set_option maxRecDepth 100000 in
theorem f_331_232 : fe 331 232 = some (.iconst 5, 1, 13, some .boolean) := fe_of pg_331 (by decide +kernel)
set_option maxRecDepth 100000 in
theorem f_331_233 : fe 331 233 = some (.iadd, 1, 13, some .boolean) := fe_of pg_331 (by decide +kernel)
set_option maxRecDepth 100000 in
theorem f_331_234 : fe 331 234 = some (.iaload, 1, 13, some .boolean) := fe_of pg_331 (by decide +kernel)
set_option maxRecDepth 100000 in
theorem f_331_235 : fe 331 235 = some (.invokevirtual 17, 3, 13, some .boolean) := fe_of pg_331 (by decide +kernel)
set_option maxRecDepth 100000 in
theorem f_331_238 : fe 331 238 = some (.if_icmp .eq 1210, 3, 13, some .boolean) := fe_of pg_331 (by decide +kernel)
set_option maxRecDepth 100000 in
theorem f_331_241 : fe 331 241 = some (.iconst 0, 1, 13, some .boolean) := fe_of pg_331 (by decide +kernel)
set_option maxRecDepth 100000 in
theorem f_331_242 : fe 331 242 = some (.ireturn, 1, 13, some .boolean) := fe_of pg_331 (by decide +kernel)
set_option maxRecDepth 100000 in
theorem f_331_243 : fe 331 243 = some (.aload_n 1, 1, 13, some .boolean) := fe_of pg_331 (by decide +kernel)
set_option maxRecDepth 100000 in
theorem f_331_244 : fe 331 244 = some (.aload_n 0, 1, 13, some .boolean) := fe_of pg_331 (by decide +kernel)
set_option maxRecDepth 100000 in
theorem f_331_245 : fe 331 245 = some (.iload_n 3, 1, 13, some .boolean) := fe_of pg_331 (by decide +kernel)
set_option maxRecDepth 100000 in
theorem f_331_246 : fe 331 246 = some (.iconst 1, 1, 13, some .boolean) := fe_of pg_331 (by decide +kernel)
set_option maxRecDepth 100000 in
theorem f_331_247 : fe 331 247 = some (.iadd, 1, 13, some .boolean) := fe_of pg_331 (by decide +kernel)
set_option maxRecDepth 100000 in
theorem f_331_248 : fe 331 248 = some (.iaload, 1, 13, some .boolean) := fe_of pg_331 (by decide +kernel)
set_option maxRecDepth 100000 in
theorem f_331_249 : fe 331 249 = some (.invokevirtual 18, 3, 13, some .boolean) := fe_of pg_331 (by decide +kernel)
set_option maxRecDepth 100000 in
theorem f_331_252 : fe 331 252 = some (.aload_n 2, 1, 13, some .boolean) := fe_of pg_331 (by decide +kernel)
set_option maxRecDepth 100000 in
theorem f_331_253 : fe 331 253 = some (.aload_n 0, 1, 13, some .boolean) := fe_of pg_331 (by decide +kernel)
set_option maxRecDepth 100000 in
theorem f_331_254 : fe 331 254 = some (.iload_n 3, 1, 13, some .boolean) := fe_of pg_331 (by decide +kernel)
set_option maxRecDepth 100000 in
theorem f_331_255 : fe 331 255 = some (.iconst 1, 1, 13, some .boolean) := fe_of pg_331 (by decide +kernel)
set_option maxRecDepth 100000 in
theorem f_331_256 : fe 331 256 = some (.iadd, 1, 13, some .boolean) := fe_of pg_331 (by decide +kernel)
set_option maxRecDepth 100000 in
theorem f_331_257 : fe 331 257 = some (.iaload, 1, 13, some .boolean) := fe_of pg_331 (by decide +kernel)
set_option maxRecDepth 100000 in
theorem f_331_258 : fe 331 258 = some (.invokevirtual 22, 3, 13, some .boolean) := fe_of pg_331 (by decide +kernel)
set_option maxRecDepth 100000 in
theorem f_331_261 : fe 331 261 = some (.if_icmp .eq 1187, 3, 13, some .boolean) := fe_of pg_331 (by decide +kernel)
set_option maxRecDepth 100000 in
theorem f_331_264 : fe 331 264 = some (.iconst 0, 1, 13, some .boolean) := fe_of pg_331 (by decide +kernel)
set_option maxRecDepth 100000 in
theorem f_331_265 : fe 331 265 = some (.ireturn, 1, 13, some .boolean) := fe_of pg_331 (by decide +kernel)
set_option maxRecDepth 100000 in
theorem f_331_266 : fe 331 266 = some (.aload_n 1, 1, 13, some .boolean) := fe_of pg_331 (by decide +kernel)
set_option maxRecDepth 100000 in
theorem f_331_267 : fe 331 267 = some (.aload_n 0, 1, 13, some .boolean) := fe_of pg_331 (by decide +kernel)
set_option maxRecDepth 100000 in
theorem f_331_268 : fe 331 268 = some (.iload_n 3, 1, 13, some .boolean) := fe_of pg_331 (by decide +kernel)
set_option maxRecDepth 100000 in
theorem f_331_269 : fe 331 269 = some (.iconst 1, 1, 13, some .boolean) := fe_of pg_331 (by decide +kernel)
set_option maxRecDepth 100000 in
theorem f_331_270 : fe 331 270 = some (.iadd, 1, 13, some .boolean) := fe_of pg_331 (by decide +kernel)
set_option maxRecDepth 100000 in
theorem f_331_271 : fe 331 271 = some (.iaload, 1, 13, some .boolean) := fe_of pg_331 (by decide +kernel)
set_option maxRecDepth 100000 in
theorem f_331_272 : fe 331 272 = some (.aload_n 0, 1, 13, some .boolean) := fe_of pg_331 (by decide +kernel)
set_option maxRecDepth 100000 in
theorem f_331_273 : fe 331 273 = some (.iload_n 3, 1, 13, some .boolean) := fe_of pg_331 (by decide +kernel)
set_option maxRecDepth 100000 in
theorem f_331_274 : fe 331 274 = some (.iconst 2, 1, 13, some .boolean) := fe_of pg_331 (by decide +kernel)
set_option maxRecDepth 100000 in
theorem f_331_275 : fe 331 275 = some (.iadd, 1, 13, some .boolean) := fe_of pg_331 (by decide +kernel)
set_option maxRecDepth 100000 in
theorem f_331_276 : fe 331 276 = some (.iaload, 1, 13, some .boolean) := fe_of pg_331 (by decide +kernel)
set_option maxRecDepth 100000 in
theorem f_331_277 : fe 331 277 = some (.invokevirtual 23, 3, 13, some .boolean) := fe_of pg_331 (by decide +kernel)
set_option maxRecDepth 100000 in
theorem f_331_280 : fe 331 280 = some (.aload_n 2, 1, 13, some .boolean) := fe_of pg_331 (by decide +kernel)
set_option maxRecDepth 100000 in
theorem f_331_281 : fe 331 281 = some (.aload_n 0, 1, 13, some .boolean) := fe_of pg_331 (by decide +kernel)
set_option maxRecDepth 100000 in
theorem f_331_282 : fe 331 282 = some (.iload_n 3, 1, 13, some .boolean) := fe_of pg_331 (by decide +kernel)
set_option maxRecDepth 100000 in
theorem f_331_283 : fe 331 283 = some (.iconst 1, 1, 13, some .boolean) := fe_of pg_331 (by decide +kernel)
set_option maxRecDepth 100000 in
theorem f_331_284 : fe 331 284 = some (.iadd, 1, 13, some .boolean) := fe_of pg_331 (by decide +kernel)
set_option maxRecDepth 100000 in
theorem f_331_285 : fe 331 285 = some (.iaload, 1, 13, some .boolean) := fe_of pg_331 (by decide +kernel)
set_option maxRecDepth 100000 in
theorem f_331_286 : fe 331 286 = some (.aload_n 0, 1, 13, some .boolean) := fe_of pg_331 (by decide +kernel)
set_option maxRecDepth 100000 in
theorem f_331_287 : fe 331 287 = some (.iload_n 3, 1, 13, some .boolean) := fe_of pg_331 (by decide +kernel)
set_option maxRecDepth 100000 in
theorem f_331_288 : fe 331 288 = some (.iconst 2, 1, 13, some .boolean) := fe_of pg_331 (by decide +kernel)
set_option maxRecDepth 100000 in
theorem f_331_289 : fe 331 289 = some (.iadd, 1, 13, some .boolean) := fe_of pg_331 (by decide +kernel)
set_option maxRecDepth 100000 in
theorem f_331_290 : fe 331 290 = some (.iaload, 1, 13, some .boolean) := fe_of pg_331 (by decide +kernel)
set_option maxRecDepth 100000 in
theorem f_331_291 : fe 331 291 = some (.invokevirtual 27, 3, 13, some .boolean) := fe_of pg_331 (by decide +kernel)
set_option maxRecDepth 100000 in
theorem f_331_294 : fe 331 294 = some (.if_icmp .eq 1154, 3, 13, some .boolean) := fe_of pg_331 (by decide +kernel)
set_option maxRecDepth 100000 in
theorem f_331_297 : fe 331 297 = some (.iconst 0, 1, 13, some .boolean) := fe_of pg_331 (by decide +kernel)
set_option maxRecDepth 100000 in
theorem f_331_298 : fe 331 298 = some (.ireturn, 1, 13, some .boolean) := fe_of pg_331 (by decide +kernel)
set_option maxRecDepth 100000 in
theorem f_331_299 : fe 331 299 = some (.aload_n 1, 1, 13, some .boolean) := fe_of pg_331 (by decide +kernel)
set_option maxRecDepth 100000 in
theorem f_331_300 : fe 331 300 = some (.aload_n 0, 1, 13, some .boolean) := fe_of pg_331 (by decide +kernel)
set_option maxRecDepth 100000 in
theorem f_331_301 : fe 331 301 = some (.iload_n 3, 1, 13, some .boolean) := fe_of pg_331 (by decide +kernel)
set_option maxRecDepth 100000 in
theorem f_331_302 : fe 331 302 = some (.iconst 1, 1, 13, some .boolean) := fe_of pg_331 (by decide +kernel)
set_option maxRecDepth 100000 in
theorem f_331_303 : fe 331 303 = some (.iadd, 1, 13, some .boolean) := fe_of pg_331 (by decide +kernel)
set_option maxRecDepth 100000 in
theorem f_331_304 : fe 331 304 = some (.iaload, 1, 13, some .boolean) := fe_of pg_331 (by decide +kernel)
set_option maxRecDepth 100000 in
theorem f_331_305 : fe 331 305 = some (.invokevirtual 28, 3, 13, some .boolean) := fe_of pg_331 (by decide +kernel)
set_option maxRecDepth 100000 in
theorem f_331_308 : fe 331 308 = some (.aload_n 2, 1, 13, some .boolean) := fe_of pg_331 (by decide +kernel)
set_option maxRecDepth 100000 in
theorem f_331_309 : fe 331 309 = some (.aload_n 0, 1, 13, some .boolean) := fe_of pg_331 (by decide +kernel)
set_option maxRecDepth 100000 in
theorem f_331_310 : fe 331 310 = some (.iload_n 3, 1, 13, some .boolean) := fe_of pg_331 (by decide +kernel)
set_option maxRecDepth 100000 in
theorem f_331_311 : fe 331 311 = some (.iconst 1, 1, 13, some .boolean) := fe_of pg_331 (by decide +kernel)
set_option maxRecDepth 100000 in
theorem f_331_312 : fe 331 312 = some (.iadd, 1, 13, some .boolean) := fe_of pg_331 (by decide +kernel)
set_option maxRecDepth 100000 in
theorem f_331_313 : fe 331 313 = some (.iaload, 1, 13, some .boolean) := fe_of pg_331 (by decide +kernel)
set_option maxRecDepth 100000 in
theorem f_331_314 : fe 331 314 = some (.invokevirtual 31, 3, 13, some .boolean) := fe_of pg_331 (by decide +kernel)
set_option maxRecDepth 100000 in
theorem f_331_317 : fe 331 317 = some (.if_icmp .eq 1131, 3, 13, some .boolean) := fe_of pg_331 (by decide +kernel)
set_option maxRecDepth 100000 in
theorem f_331_320 : fe 331 320 = some (.iconst 0, 1, 13, some .boolean) := fe_of pg_331 (by decide +kernel)
set_option maxRecDepth 100000 in
theorem f_331_321 : fe 331 321 = some (.ireturn, 1, 13, some .boolean) := fe_of pg_331 (by decide +kernel)
set_option maxRecDepth 100000 in
theorem f_331_322 : fe 331 322 = some (.aload_n 1, 1, 13, some .boolean) := fe_of pg_331 (by decide +kernel)
set_option maxRecDepth 100000 in
theorem f_331_323 : fe 331 323 = some (.aload_n 0, 1, 13, some .boolean) := fe_of pg_331 (by decide +kernel)
set_option maxRecDepth 100000 in
theorem f_331_324 : fe 331 324 = some (.iload_n 3, 1, 13, some .boolean) := fe_of pg_331 (by decide +kernel)
set_option maxRecDepth 100000 in
theorem f_331_325 : fe 331 325 = some (.iconst 1, 1, 13, some .boolean) := fe_of pg_331 (by decide +kernel)
set_option maxRecDepth 100000 in
theorem f_331_326 : fe 331 326 = some (.iadd, 1, 13, some .boolean) := fe_of pg_331 (by decide +kernel)
set_option maxRecDepth 100000 in
theorem f_331_327 : fe 331 327 = some (.iaload, 1, 13, some .boolean) := fe_of pg_331 (by decide +kernel)
set_option maxRecDepth 100000 in
theorem f_331_328 : fe 331 328 = some (.aload_n 0, 1, 13, some .boolean) := fe_of pg_331 (by decide +kernel)
set_option maxRecDepth 100000 in
theorem f_331_329 : fe 331 329 = some (.iload_n 3, 1, 13, some .boolean) := fe_of pg_331 (by decide +kernel)
set_option maxRecDepth 100000 in
theorem f_331_330 : fe 331 330 = some (.iconst 2, 1, 13, some .boolean) := fe_of pg_331 (by decide +kernel)
set_option maxRecDepth 100000 in
theorem f_331_331 : fe 331 331 = some (.iadd, 1, 13, some .boolean) := fe_of pg_331 (by decide +kernel)
set_option maxRecDepth 100000 in
theorem f_331_332 : fe 331 332 = some (.iaload, 1, 13, some .boolean) := fe_of pg_331 (by decide +kernel)
set_option maxRecDepth 100000 in
theorem f_331_333 : fe 331 333 = some (.invokevirtual 32, 3, 13, some .boolean) := fe_of pg_331 (by decide +kernel)
set_option maxRecDepth 100000 in
theorem f_331_336 : fe 331 336 = some (.aload_n 2, 1, 13, some .boolean) := fe_of pg_331 (by decide +kernel)
set_option maxRecDepth 100000 in
theorem f_331_337 : fe 331 337 = some (.aload_n 0, 1, 13, some .boolean) := fe_of pg_331 (by decide +kernel)
set_option maxRecDepth 100000 in
theorem f_331_338 : fe 331 338 = some (.iload_n 3, 1, 13, some .boolean) := fe_of pg_331 (by decide +kernel)
set_option maxRecDepth 100000 in
theorem f_331_339 : fe 331 339 = some (.iconst 1, 1, 13, some .boolean) := fe_of pg_331 (by decide +kernel)
set_option maxRecDepth 100000 in
theorem f_331_340 : fe 331 340 = some (.iadd, 1, 13, some .boolean) := fe_of pg_331 (by decide +kernel)
set_option maxRecDepth 100000 in
theorem f_331_341 : fe 331 341 = some (.iaload, 1, 13, some .boolean) := fe_of pg_331 (by decide +kernel)
set_option maxRecDepth 100000 in
theorem f_331_342 : fe 331 342 = some (.aload_n 0, 1, 13, some .boolean) := fe_of pg_331 (by decide +kernel)
set_option maxRecDepth 100000 in
theorem f_331_343 : fe 331 343 = some (.iload_n 3, 1, 13, some .boolean) := fe_of pg_331 (by decide +kernel)
set_option maxRecDepth 100000 in
theorem f_331_344 : fe 331 344 = some (.iconst 2, 1, 13, some .boolean) := fe_of pg_331 (by decide +kernel)
set_option maxRecDepth 100000 in
theorem f_331_345 : fe 331 345 = some (.iadd, 1, 13, some .boolean) := fe_of pg_331 (by decide +kernel)
set_option maxRecDepth 100000 in
theorem f_331_346 : fe 331 346 = some (.iaload, 1, 13, some .boolean) := fe_of pg_331 (by decide +kernel)
set_option maxRecDepth 100000 in
theorem f_331_347 : fe 331 347 = some (.invokevirtual 35, 3, 13, some .boolean) := fe_of pg_331 (by decide +kernel)
set_option maxRecDepth 100000 in
theorem f_331_350 : fe 331 350 = some (.if_icmp .eq 1098, 3, 13, some .boolean) := fe_of pg_331 (by decide +kernel)
set_option maxRecDepth 100000 in
theorem f_331_353 : fe 331 353 = some (.iconst 0, 1, 13, some .boolean) := fe_of pg_331 (by decide +kernel)
set_option maxRecDepth 100000 in
theorem f_331_354 : fe 331 354 = some (.ireturn, 1, 13, some .boolean) := fe_of pg_331 (by decide +kernel)
set_option maxRecDepth 100000 in
theorem f_331_355 : fe 331 355 = some (.aload_n 1, 1, 13, some .boolean) := fe_of pg_331 (by decide +kernel)
set_option maxRecDepth 100000 in
theorem f_331_356 : fe 331 356 = some (.aload_n 0, 1, 13, some .boolean) := fe_of pg_331 (by decide +kernel)
set_option maxRecDepth 100000 in
theorem f_331_357 : fe 331 357 = some (.iload_n 3, 1, 13, some .boolean) := fe_of pg_331 (by decide +kernel)
set_option maxRecDepth 100000 in
theorem f_331_358 : fe 331 358 = some (.iconst 1, 1, 13, some .boolean) := fe_of pg_331 (by decide +kernel)
set_option maxRecDepth 100000 in
theorem f_331_359 : fe 331 359 = some (.iadd, 1, 13, some .boolean) := fe_of pg_331 (by decide +kernel)
set_option maxRecDepth 100000 in
theorem f_331_360 : fe 331 360 = some (.iaload, 1, 13, some .boolean) := fe_of pg_331 (by decide +kernel)
set_option maxRecDepth 100000 in
theorem f_331_361 : fe 331 361 = some (.aload_n 0, 1, 13, some .boolean) := fe_of pg_331 (by decide +kernel)
set_option maxRecDepth 100000 in
theorem f_331_362 : fe 331 362 = some (.iload_n 3, 1, 13, some .boolean) := fe_of pg_331 (by decide +kernel)
set_option maxRecDepth 100000 in
theorem f_331_363 : fe 331 363 = some (.iconst 2, 1, 13, some .boolean) := fe_of pg_331 (by decide +kernel)
set_option maxRecDepth 100000 in
theorem f_331_364 : fe 331 364 = some (.iadd, 1, 13, some .boolean) := fe_of pg_331 (by decide +kernel)
set_option maxRecDepth 100000 in
theorem f_331_365 : fe 331 365 = some (.iaload, 1, 13, some .boolean) := fe_of pg_331 (by decide +kernel)
set_option maxRecDepth 100000 in
theorem f_331_366 : fe 331 366 = some (.aload_n 0, 1, 13, some .boolean) := fe_of pg_331 (by decide +kernel)
set_option maxRecDepth 100000 in
theorem f_331_367 : fe 331 367 = some (.iload_n 3, 1, 13, some .boolean) := fe_of pg_331 (by decide +kernel)
set_option maxRecDepth 100000 in
theorem f_331_368 : fe 331 368 = some (.iconst 3, 1, 13, some .boolean) := fe_of pg_331 (by decide +kernel)
set_option maxRecDepth 100000 in
theorem f_331_369 : fe 331 369 = some (.iadd, 1, 13, some .boolean) := fe_of pg_331 (by decide +kernel)
set_option maxRecDepth 100000 in
theorem f_331_370 : fe 331 370 = some (.iaload, 1, 13, some .boolean) := fe_of pg_331 (by decide +kernel)
set_option maxRecDepth 100000 in
theorem f_331_371 : fe 331 371 = some (.invokevirtual 36, 3, 13, some .boolean) := fe_of pg_331 (by decide +kernel)
set_option maxRecDepth 100000 in
theorem f_331_374 : fe 331 374 = some (.aload_n 2, 1, 13, some .boolean) := fe_of pg_331 (by decide +kernel)
set_option maxRecDepth 100000 in
theorem f_331_375 : fe 331 375 = some (.aload_n 0, 1, 13, some .boolean) := fe_of pg_331 (by decide +kernel)
set_option maxRecDepth 100000 in
theorem f_331_376 : fe 331 376 = some (.iload_n 3, 1, 13, some .boolean) := fe_of pg_331 (by decide +kernel)
set_option maxRecDepth 100000 in
theorem f_331_377 : fe 331 377 = some (.iconst 1, 1, 13, some .boolean) := fe_of pg_331 (by decide +kernel)
set_option maxRecDepth 100000 in
theorem f_331_378 : fe 331 378 = some (.iadd, 1, 13, some .boolean) := fe_of pg_331 (by decide +kernel)
set_option maxRecDepth 100000 in
theorem f_331_379 : fe 331 379 = some (.iaload, 1, 13, some .boolean) := fe_of pg_331 (by decide +kernel)
set_option maxRecDepth 100000 in
theorem f_331_380 : fe 331 380 = some (.aload_n 0, 1, 13, some .boolean) := fe_of pg_331 (by decide +kernel)
set_option maxRecDepth 100000 in
theorem f_331_381 : fe 331 381 = some (.iload_n 3, 1, 13, some .boolean) := fe_of pg_331 (by decide +kernel)
set_option maxRecDepth 100000 in
theorem f_331_382 : fe 331 382 = some (.iconst 2, 1, 13, some .boolean) := fe_of pg_331 (by decide +kernel)
set_option maxRecDepth 100000 in
theorem f_331_383 : fe 331 383 = some (.iadd, 1, 13, some .boolean) := fe_of pg_331 (by decide +kernel)
set_option maxRecDepth 100000 in
theorem f_331_384 : fe 331 384 = some (.iaload, 1, 13, some .boolean) := fe_of pg_331 (by decide +kernel)
set_option maxRecDepth 100000 in
theorem f_331_385 : fe 331 385 = some (.aload_n 0, 1, 13, some .boolean) := fe_of pg_331 (by decide +kernel)
set_option maxRecDepth 100000 in
theorem f_331_386 : fe 331 386 = some (.iload_n 3, 1, 13, some .boolean) := fe_of pg_331 (by decide +kernel)
set_option maxRecDepth 100000 in
theorem f_331_387 : fe 331 387 = some (.iconst 3, 1, 13, some .boolean) := fe_of pg_331 (by decide +kernel)
set_option maxRecDepth 100000 in
theorem f_331_388 : fe 331 388 = some (.iadd, 1, 13, some .boolean) := fe_of pg_331 (by decide +kernel)
set_option maxRecDepth 100000 in
theorem f_331_389 : fe 331 389 = some (.iaload, 1, 13, some .boolean) := fe_of pg_331 (by decide +kernel)
set_option maxRecDepth 100000 in
theorem f_331_390 : fe 331 390 = some (.invokevirtual 40, 3, 13, some .boolean) := fe_of pg_331 (by decide +kernel)
set_option maxRecDepth 100000 in
theorem f_331_393 : fe 331 393 = some (.if_icmp .eq 1055, 3, 13, some .boolean) := fe_of pg_331 (by decide +kernel)
set_option maxRecDepth 100000 in
theorem f_331_396 : fe 331 396 = some (.iconst 0, 1, 13, some .boolean) := fe_of pg_331 (by decide +kernel)
set_option maxRecDepth 100000 in
theorem f_331_397 : fe 331 397 = some (.ireturn, 1, 13, some .boolean) := fe_of pg_331 (by decide +kernel)
set_option maxRecDepth 100000 in
theorem f_331_398 : fe 331 398 = some (.aload_n 1, 1, 13, some .boolean) := fe_of pg_331 (by decide +kernel)
set_option maxRecDepth 100000 in
theorem f_331_399 : fe 331 399 = some (.aload_n 0, 1, 13, some .boolean) := fe_of pg_331 (by decide +kernel)
set_option maxRecDepth 100000 in
theorem f_331_400 : fe 331 400 = some (.iload_n 3, 1, 13, some .boolean) := fe_of pg_331 (by decide +kernel)
set_option maxRecDepth 100000 in
theorem f_331_401 : fe 331 401 = some (.iconst 1, 1, 13, some .boolean) := fe_of pg_331 (by decide +kernel)
set_option maxRecDepth 100000 in
theorem f_331_402 : fe 331 402 = some (.iadd, 1, 13, some .boolean) := fe_of pg_331 (by decide +kernel)
set_option maxRecDepth 100000 in
theorem f_331_403 : fe 331 403 = some (.iaload, 1, 13, some .boolean) := fe_of pg_331 (by decide +kernel)
set_option maxRecDepth 100000 in
theorem f_331_404 : fe 331 404 = some (.aload_n 0, 1, 13, some .boolean) := fe_of pg_331 (by decide +kernel)
set_option maxRecDepth 100000 in
theorem f_331_405 : fe 331 405 = some (.iload_n 3, 1, 13, some .boolean) := fe_of pg_331 (by decide +kernel)
set_option maxRecDepth 100000 in
theorem f_331_406 : fe 331 406 = some (.iconst 2, 1, 13, some .boolean) := fe_of pg_331 (by decide +kernel)
set_option maxRecDepth 100000 in
theorem f_331_407 : fe 331 407 = some (.iadd, 1, 13, some .boolean) := fe_of pg_331 (by decide +kernel)
set_option maxRecDepth 100000 in
theorem f_331_408 : fe 331 408 = some (.iaload, 1, 13, some .boolean) := fe_of pg_331 (by decide +kernel)
set_option maxRecDepth 100000 in
theorem f_331_409 : fe 331 409 = some (.invokevirtual 41, 3, 13, some .boolean) := fe_of pg_331 (by decide +kernel)
set_option maxRecDepth 100000 in
theorem f_331_412 : fe 331 412 = some (.aload_n 2, 1, 13, some .boolean) := fe_of pg_331 (by decide +kernel)
set_option maxRecDepth 100000 in
theorem f_331_413 : fe 331 413 = some (.aload_n 0, 1, 13, some .boolean) := fe_of pg_331 (by decide +kernel)
set_option maxRecDepth 100000 in
theorem f_331_414 : fe 331 414 = some (.iload_n 3, 1, 13, some .boolean) := fe_of pg_331 (by decide +kernel)
set_option maxRecDepth 100000 in
theorem f_331_415 : fe 331 415 = some (.iconst 1, 1, 13, some .boolean) := fe_of pg_331 (by decide +kernel)
set_option maxRecDepth 100000 in
theorem f_331_416 : fe 331 416 = some (.iadd, 1, 13, some .boolean) := fe_of pg_331 (by decide +kernel)
set_option maxRecDepth 100000 in
theorem f_331_417 : fe 331 417 = some (.iaload, 1, 13, some .boolean) := fe_of pg_331 (by decide +kernel)
set_option maxRecDepth 100000 in
theorem f_331_418 : fe 331 418 = some (.aload_n 0, 1, 13, some .boolean) := fe_of pg_331 (by decide +kernel)
set_option maxRecDepth 100000 in
theorem f_331_419 : fe 331 419 = some (.iload_n 3, 1, 13, some .boolean) := fe_of pg_331 (by decide +kernel)
set_option maxRecDepth 100000 in
theorem f_331_420 : fe 331 420 = some (.iconst 2, 1, 13, some .boolean) := fe_of pg_331 (by decide +kernel)
set_option maxRecDepth 100000 in
theorem f_331_421 : fe 331 421 = some (.iadd, 1, 13, some .boolean) := fe_of pg_331 (by decide +kernel)
set_option maxRecDepth 100000 in
theorem f_331_422 : fe 331 422 = some (.iaload, 1, 13, some .boolean) := fe_of pg_331 (by decide +kernel)
set_option maxRecDepth 100000 in
theorem f_331_423 : fe 331 423 = some (.invokevirtual 44, 3, 13, some .boolean) := fe_of pg_331 (by decide +kernel)
set_option maxRecDepth 100000 in
theorem f_331_426 : fe 331 426 = some (.if_icmp .eq 1022, 3, 13, some .boolean) := fe_of pg_331 (by decide +kernel)
set_option maxRecDepth 100000 in
theorem f_331_429 : fe 331 429 = some (.iconst 0, 1, 13, some .boolean) := fe_of pg_331 (by decide +kernel)
set_option maxRecDepth 100000 in
theorem f_331_430 : fe 331 430 = some (.ireturn, 1, 13, some .boolean) := fe_of pg_331 (by decide +kernel)
set_option maxRecDepth 100000 in
theorem f_331_431 : fe 331 431 = some (.aload_n 1, 1, 13, some .boolean) := fe_of pg_331 (by decide +kernel)
set_option maxRecDepth 100000 in
theorem f_331_432 : fe 331 432 = some (.aload_n 0, 1, 13, some .boolean) := fe_of pg_331 (by decide +kernel)
set_option maxRecDepth 100000 in
theorem f_331_433 : fe 331 433 = some (.iload_n 3, 1, 13, some .boolean) := fe_of pg_331 (by decide +kernel)
set_option maxRecDepth 100000 in
theorem f_331_434 : fe 331 434 = some (.iconst 1, 1, 13, some .boolean) := fe_of pg_331 (by decide +kernel)
set_option maxRecDepth 100000 in
theorem f_331_435 : fe 331 435 = some (.iadd, 1, 13, some .boolean) := fe_of pg_331 (by decide +kernel)
set_option maxRecDepth 100000 in
theorem f_331_436 : fe 331 436 = some (.iaload, 1, 13, some .boolean) := fe_of pg_331 (by decide +kernel)
set_option maxRecDepth 100000 in
theorem f_331_437 : fe 331 437 = some (.aload_n 0, 1, 13, some .boolean) := fe_of pg_331 (by decide +kernel)
set_option maxRecDepth 100000 in
theorem f_331_438 : fe 331 438 = some (.iload_n 3, 1, 13, some .boolean) := fe_of pg_331 (by decide +kernel)
set_option maxRecDepth 100000 in
theorem f_331_439 : fe 331 439 = some (.iconst 2, 1, 13, some .boolean) := fe_of pg_331 (by decide +kernel)
set_option maxRecDepth 100000 in
theorem f_331_440 : fe 331 440 = some (.iadd, 1, 13, some .boolean) := fe_of pg_331 (by decide +kernel)
set_option maxRecDepth 100000 in
theorem f_331_441 : fe 331 441 = some (.iaload, 1, 13, some .boolean) := fe_of pg_331 (by decide +kernel)
set_option maxRecDepth 100000 in
theorem f_331_442 : fe 331 442 = some (.aload_n 0, 1, 13, some .boolean) := fe_of pg_331 (by decide +kernel)
set_option maxRecDepth 100000 in
theorem f_331_443 : fe 331 443 = some (.iload_n 3, 1, 13, some .boolean) := fe_of pg_331 (by decide +kernel)
set_option maxRecDepth 100000 in
theorem f_331_444 : fe 331 444 = some (.iconst 3, 1, 13, some .boolean) := fe_of pg_331 (by decide +kernel)
set_option maxRecDepth 100000 in
theorem f_331_445 : fe 331 445 = some (.iadd, 1, 13, some .boolean) := fe_of pg_331 (by decide +kernel)
set_option maxRecDepth 100000 in
theorem f_331_446 : fe 331 446 = some (.iaload, 1, 13, some .boolean) := fe_of pg_331 (by decide +kernel)
set_option maxRecDepth 100000 in
theorem f_331_447 : fe 331 447 = some (.aload_n 0, 1, 13, some .boolean) := fe_of pg_331 (by decide +kernel)
set_option maxRecDepth 100000 in
theorem f_331_448 : fe 331 448 = some (.iload_n 3, 1, 13, some .boolean) := fe_of pg_331 (by decide +kernel)
set_option maxRecDepth 100000 in
theorem f_331_449 : fe 331 449 = some (.iconst 4, 1, 13, some .boolean) := fe_of pg_331 (by decide +kernel)
set_option maxRecDepth 100000 in
theorem f_331_450 : fe 331 450 = some (.iadd, 1, 13, some .boolean) := fe_of pg_331 (by decide +kernel)
set_option maxRecDepth 100000 in
theorem f_331_451 : fe 331 451 = some (.iaload, 1, 13, some .boolean) := fe_of pg_331 (by decide +kernel)
set_option maxRecDepth 100000 in
theorem f_331_452 : fe 331 452 = some (.invokevirtual 45, 3, 13, some .boolean) := fe_of pg_331 (by decide +kernel)
set_option maxRecDepth 100000 in
theorem f_331_455 : fe 331 455 = some (.aload_n 2, 1, 13, some .boolean) := fe_of pg_331 (by decide +kernel)
set_option maxRecDepth 100000 in
theorem f_331_456 : fe 331 456 = some (.aload_n 0, 1, 13, some .boolean) := fe_of pg_331 (by decide +kernel)
set_option maxRecDepth 100000 in
theorem f_331_457 : fe 331 457 = some (.iload_n 3, 1, 13, some .boolean) := fe_of pg_331 (by decide +kernel)
set_option maxRecDepth 100000 in
theorem f_331_458 : fe 331 458 = some (.iconst 1, 1, 13, some .boolean) := fe_of pg_331 (by decide +kernel)
set_option maxRecDepth 100000 in
theorem f_331_459 : fe 331 459 = some (.iadd, 1, 13, some .boolean) := fe_of pg_331 (by decide +kernel)
set_option maxRecDepth 100000 in
theorem f_331_460 : fe 331 460 = some (.iaload, 1, 13, some .boolean) := fe_of pg_331 (by decide +kernel)
set_option maxRecDepth 100000 in
theorem f_331_461 : fe 331 461 = some (.aload_n 0, 1, 13, some .boolean) := fe_of pg_331 (by decide +kernel)
set_option maxRecDepth 100000 in
theorem f_331_462 : fe 331 462 = some (.iload_n 3, 1, 13, some .boolean) := fe_of pg_331 (by decide +kernel)
set_option maxRecDepth 100000 in
theorem f_331_463 : fe 331 463 = some (.iconst 2, 1, 13, some .boolean) := fe_of pg_331 (by decide +kernel)
set_option maxRecDepth 100000 in
theorem f_331_464 : fe 331 464 = some (.iadd, 1, 13, some .boolean) := fe_of pg_331 (by decide +kernel)
set_option maxRecDepth 100000 in
theorem f_331_465 : fe 331 465 = some (.iaload, 1, 13, some .boolean) := fe_of pg_331 (by decide +kernel)
set_option maxRecDepth 100000 in
theorem f_331_466 : fe 331 466 = some (.aload_n 0, 1, 13, some .boolean) := fe_of pg_331 (by decide +kernel)
set_option maxRecDepth 100000 in
theorem f_331_467 : fe 331 467 = some (.iload_n 3, 1, 13, some .boolean) := fe_of pg_331 (by decide +kernel)
set_option maxRecDepth 100000 in
theorem f_331_468 : fe 331 468 = some (.iconst 3, 1, 13, some .boolean) := fe_of pg_331 (by decide +kernel)
set_option maxRecDepth 100000 in
theorem f_331_469 : fe 331 469 = some (.iadd, 1, 13, some .boolean) := fe_of pg_331 (by decide +kernel)
