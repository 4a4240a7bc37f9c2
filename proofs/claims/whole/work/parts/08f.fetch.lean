set_option maxRecDepth 100000 in
theorem f_188_0 : fe 188 0 = some (.aload_n 0, 1, 12, none) := fe_of pg_188 rfl
set_option maxRecDepth 100000 in
theorem f_188_1 : fe 188 1 = some (.invokespecial 1, 3, 12, none) := fe_of pg_188 rfl
set_option maxRecDepth 100000 in
theorem f_188_4 : fe 188 4 = some (.aload_n 0, 1, 12, none) := fe_of pg_188 rfl
set_option maxRecDepth 100000 in
theorem f_188_5 : fe 188 5 = some (.sipush 2400, 3, 12, none) := fe_of pg_188 rfl
set_option maxRecDepth 100000 in
theorem f_188_8 : fe 188 8 = some (.newarray .byte, 2, 12, none) := fe_of pg_188 rfl
set_option maxRecDepth 100000 in
theorem f_188_10 : fe 188 10 = some (.putfield 7, 3, 12, none) := fe_of pg_188 rfl
set_option maxRecDepth 100000 in
theorem f_188_13 : fe 188 13 = some (.aload_n 0, 1, 12, none) := fe_of pg_188 rfl
set_option maxRecDepth 100000 in
theorem f_188_14 : fe 188 14 = some (.iconst 4, 1, 12, none) := fe_of pg_188 rfl
set_option maxRecDepth 100000 in
theorem f_188_15 : fe 188 15 = some (.newarray .int, 2, 12, none) := fe_of pg_188 rfl
set_option maxRecDepth 100000 in
theorem f_188_17 : fe 188 17 = some (.putfield 13, 3, 12, none) := fe_of pg_188 rfl
set_option maxRecDepth 100000 in
theorem f_188_20 : fe 188 20 = some (.aload_n 0, 1, 12, none) := fe_of pg_188 rfl
set_option maxRecDepth 100000 in
theorem f_188_21 : fe 188 21 = some (.iconst 4, 1, 12, none) := fe_of pg_188 rfl
set_option maxRecDepth 100000 in
theorem f_188_22 : fe 188 22 = some (.newarray .int, 2, 12, none) := fe_of pg_188 rfl
set_option maxRecDepth 100000 in
theorem f_188_24 : fe 188 24 = some (.putfield 17, 3, 12, none) := fe_of pg_188 rfl
set_option maxRecDepth 100000 in
theorem f_188_27 : fe 188 27 = some (.aload_n 0, 1, 12, none) := fe_of pg_188 rfl
set_option maxRecDepth 100000 in
theorem f_188_28 : fe 188 28 = some (.iconst 4, 1, 12, none) := fe_of pg_188 rfl
set_option maxRecDepth 100000 in
theorem f_188_29 : fe 188 29 = some (.newarray .int, 2, 12, none) := fe_of pg_188 rfl
set_option maxRecDepth 100000 in
theorem f_188_31 : fe 188 31 = some (.putfield 20, 3, 12, none) := fe_of pg_188 rfl
set_option maxRecDepth 100000 in
theorem f_188_34 : fe 188 34 = some (.aload_n 0, 1, 12, none) := fe_of pg_188 rfl
set_option maxRecDepth 100000 in
theorem f_188_35 : fe 188 35 = some (.bipush 16, 2, 12, none) := fe_of pg_188 rfl
set_option maxRecDepth 100000 in
theorem f_188_37 : fe 188 37 = some (.newarray .int, 2, 12, none) := fe_of pg_188 rfl
set_option maxRecDepth 100000 in
theorem f_188_39 : fe 188 39 = some (.putfield 23, 3, 12, none) := fe_of pg_188 rfl
set_option maxRecDepth 100000 in
theorem f_188_42 : fe 188 42 = some (.aload_n 0, 1, 12, none) := fe_of pg_188 rfl
set_option maxRecDepth 100000 in
theorem f_188_43 : fe 188 43 = some (.sipush 312, 3, 12, none) := fe_of pg_188 rfl
set_option maxRecDepth 100000 in
theorem f_188_46 : fe 188 46 = some (.newarray .int, 2, 12, none) := fe_of pg_188 rfl
set_option maxRecDepth 100000 in
theorem f_188_48 : fe 188 48 = some (.putfield 26, 3, 12, none) := fe_of pg_188 rfl
set_option maxRecDepth 100000 in
theorem f_188_51 : fe 188 51 = some (.aload_n 0, 1, 12, none) := fe_of pg_188 rfl
set_option maxRecDepth 100000 in
theorem f_188_52 : fe 188 52 = some (.sipush 968, 3, 12, none) := fe_of pg_188 rfl
set_option maxRecDepth 100000 in
theorem f_188_55 : fe 188 55 = some (.newarray .int, 2, 12, none) := fe_of pg_188 rfl
set_option maxRecDepth 100000 in
theorem f_188_57 : fe 188 57 = some (.putfield 29, 3, 12, none) := fe_of pg_188 rfl
set_option maxRecDepth 100000 in
theorem f_188_60 : fe 188 60 = some (.aload_n 0, 1, 12, none) := fe_of pg_188 rfl
set_option maxRecDepth 100000 in
theorem f_188_61 : fe 188 61 = some (.sipush 200, 3, 12, none) := fe_of pg_188 rfl
set_option maxRecDepth 100000 in
theorem f_188_64 : fe 188 64 = some (.newarray .int, 2, 12, none) := fe_of pg_188 rfl
set_option maxRecDepth 100000 in
theorem f_188_66 : fe 188 66 = some (.putfield 32, 3, 12, none) := fe_of pg_188 rfl
set_option maxRecDepth 100000 in
theorem f_188_69 : fe 188 69 = some (.aload_n 0, 1, 12, none) := fe_of pg_188 rfl
set_option maxRecDepth 100000 in
theorem f_188_70 : fe 188 70 = some (.sipush 256, 3, 12, none) := fe_of pg_188 rfl
set_option maxRecDepth 100000 in
theorem f_188_73 : fe 188 73 = some (.newarray .int, 2, 12, none) := fe_of pg_188 rfl
set_option maxRecDepth 100000 in
theorem f_188_75 : fe 188 75 = some (.putfield 35, 3, 12, none) := fe_of pg_188 rfl
set_option maxRecDepth 100000 in
theorem f_188_78 : fe 188 78 = some (.aload_n 0, 1, 12, none) := fe_of pg_188 rfl
set_option maxRecDepth 100000 in
theorem f_188_79 : fe 188 79 = some (.bipush 121, 2, 12, none) := fe_of pg_188 rfl
set_option maxRecDepth 100000 in
theorem f_188_81 : fe 188 81 = some (.newarray .int, 2, 12, none) := fe_of pg_188 rfl
set_option maxRecDepth 100000 in
theorem f_188_83 : fe 188 83 = some (.putfield 38, 3, 12, none) := fe_of pg_188 rfl
set_option maxRecDepth 100000 in
theorem f_188_86 : fe 188 86 = some (.aload_n 0, 1, 12, none) := fe_of pg_188 rfl
set_option maxRecDepth 100000 in
theorem f_188_87 : fe 188 87 = some (.iconst 3, 1, 12, none) := fe_of pg_188 rfl
set_option maxRecDepth 100000 in
theorem f_188_88 : fe 188 88 = some (.newarray .int, 2, 12, none) := fe_of pg_188 rfl
set_option maxRecDepth 100000 in
theorem f_188_90 : fe 188 90 = some (.putfield 41, 3, 12, none) := fe_of pg_188 rfl
set_option maxRecDepth 100000 in
theorem f_188_93 : fe 188 93 = some (.aload_n 0, 1, 12, none) := fe_of pg_188 rfl
set_option maxRecDepth 100000 in
theorem f_188_94 : fe 188 94 = some (.bipush 8, 2, 12, none) := fe_of pg_188 rfl
set_option maxRecDepth 100000 in
theorem f_188_96 : fe 188 96 = some (.newarray .int, 2, 12, none) := fe_of pg_188 rfl
set_option maxRecDepth 100000 in
theorem f_188_98 : fe 188 98 = some (.putfield 44, 3, 12, none) := fe_of pg_188 rfl
set_option maxRecDepth 100000 in
theorem f_188_101 : fe 188 101 = some (.aload_n 0, 1, 12, none) := fe_of pg_188 rfl
set_option maxRecDepth 100000 in
theorem f_188_102 : fe 188 102 = some (.bipush 8, 2, 12, none) := fe_of pg_188 rfl
set_option maxRecDepth 100000 in
theorem f_188_104 : fe 188 104 = some (.newarray .int, 2, 12, none) := fe_of pg_188 rfl
set_option maxRecDepth 100000 in
theorem f_188_106 : fe 188 106 = some (.putfield 47, 3, 12, none) := fe_of pg_188 rfl
set_option maxRecDepth 100000 in
theorem f_188_109 : fe 188 109 = some (.aload_n 0, 1, 12, none) := fe_of pg_188 rfl
set_option maxRecDepth 100000 in
theorem f_188_110 : fe 188 110 = some (.bipush 6, 2, 12, none) := fe_of pg_188 rfl
set_option maxRecDepth 100000 in
theorem f_188_112 : fe 188 112 = some (.newarray .int, 2, 12, none) := fe_of pg_188 rfl
set_option maxRecDepth 100000 in
theorem f_188_114 : fe 188 114 = some (.putfield 50, 3, 12, none) := fe_of pg_188 rfl
set_option maxRecDepth 100000 in
theorem f_188_117 : fe 188 117 = some (.aload_n 0, 1, 12, none) := fe_of pg_188 rfl
set_option maxRecDepth 100000 in
theorem f_188_118 : fe 188 118 = some (.sipush 256, 3, 12, none) := fe_of pg_188 rfl
set_option maxRecDepth 100000 in
theorem f_188_121 : fe 188 121 = some (.newarray .boolean, 2, 12, none) := fe_of pg_188 rfl
set_option maxRecDepth 100000 in
theorem f_188_123 : fe 188 123 = some (.putfield 53, 3, 12, none) := fe_of pg_188 rfl
set_option maxRecDepth 100000 in
theorem f_188_126 : fe 188 126 = some (.aload_n 0, 1, 12, none) := fe_of pg_188 rfl
set_option maxRecDepth 100000 in
theorem f_188_127 : fe 188 127 = some (.sipush 256, 3, 12, none) := fe_of pg_188 rfl
set_option maxRecDepth 100000 in
theorem f_188_130 : fe 188 130 = some (.newarray .int, 2, 12, none) := fe_of pg_188 rfl
set_option maxRecDepth 100000 in
theorem f_188_132 : fe 188 132 = some (.putfield 57, 3, 12, none) := fe_of pg_188 rfl
set_option maxRecDepth 100000 in
theorem f_188_135 : fe 188 135 = some (.aload_n 0, 1, 12, none) := fe_of pg_188 rfl
set_option maxRecDepth 100000 in
theorem f_188_136 : fe 188 136 = some (.bipush 6, 2, 12, none) := fe_of pg_188 rfl
set_option maxRecDepth 100000 in
theorem f_188_138 : fe 188 138 = some (.newarray .int, 2, 12, none) := fe_of pg_188 rfl
set_option maxRecDepth 100000 in
theorem f_188_140 : fe 188 140 = some (.putfield 60, 3, 12, none) := fe_of pg_188 rfl
set_option maxRecDepth 100000 in
theorem f_188_143 : fe 188 143 = some (.aload_n 0, 1, 12, none) := fe_of pg_188 rfl
set_option maxRecDepth 100000 in
theorem f_188_144 : fe 188 144 = some (.bipush 6, 2, 12, none) := fe_of pg_188 rfl
set_option maxRecDepth 100000 in
theorem f_188_146 : fe 188 146 = some (.newarray .int, 2, 12, none) := fe_of pg_188 rfl
set_option maxRecDepth 100000 in
theorem f_188_148 : fe 188 148 = some (.putfield 63, 3, 12, none) := fe_of pg_188 rfl
set_option maxRecDepth 100000 in
theorem f_188_151 : fe 188 151 = some (.aload_n 0, 1, 12, none) := fe_of pg_188 rfl
set_option maxRecDepth 100000 in
theorem f_188_152 : fe 188 152 = some (.sipush 256, 3, 12, none) := fe_of pg_188 rfl
set_option maxRecDepth 100000 in
theorem f_188_155 : fe 188 155 = some (.newarray .int, 2, 12, none) := fe_of pg_188 rfl
set_option maxRecDepth 100000 in
theorem f_188_157 : fe 188 157 = some (.putfield 66, 3, 12, none) := fe_of pg_188 rfl
set_option maxRecDepth 100000 in
theorem f_188_160 : fe 188 160 = some (.aload_n 0, 1, 12, none) := fe_of pg_188 rfl
set_option maxRecDepth 100000 in
theorem f_188_161 : fe 188 161 = some (.sipush 256, 3, 12, none) := fe_of pg_188 rfl
set_option maxRecDepth 100000 in
theorem f_188_164 : fe 188 164 = some (.newarray .int, 2, 12, none) := fe_of pg_188 rfl
set_option maxRecDepth 100000 in
theorem f_188_166 : fe 188 166 = some (.putfield 69, 3, 12, none) := fe_of pg_188 rfl
set_option maxRecDepth 100000 in
theorem f_188_169 : fe 188 169 = some (.aload_n 0, 1, 12, none) := fe_of pg_188 rfl
set_option maxRecDepth 100000 in
theorem f_188_170 : fe 188 170 = some (.bipush 25, 2, 12, none) := fe_of pg_188 rfl
set_option maxRecDepth 100000 in
theorem f_188_172 : fe 188 172 = some (.newarray .int, 2, 12, none) := fe_of pg_188 rfl
set_option maxRecDepth 100000 in
theorem f_188_174 : fe 188 174 = some (.putfield 72, 3, 12, none) := fe_of pg_188 rfl
set_option maxRecDepth 100000 in
theorem f_188_177 : fe 188 177 = some (.aload_n 0, 1, 12, none) := fe_of pg_188 rfl
set_option maxRecDepth 100000 in
theorem f_188_178 : fe 188 178 = some (.bipush 25, 2, 12, none) := fe_of pg_188 rfl
set_option maxRecDepth 100000 in
theorem f_188_180 : fe 188 180 = some (.newarray .int, 2, 12, none) := fe_of pg_188 rfl
set_option maxRecDepth 100000 in
theorem f_188_182 : fe 188 182 = some (.putfield 75, 3, 12, none) := fe_of pg_188 rfl
set_option maxRecDepth 100000 in
theorem f_188_185 : fe 188 185 = some (.aload_n 0, 1, 12, none) := fe_of pg_188 rfl
set_option maxRecDepth 100000 in
theorem f_188_186 : fe 188 186 = some (.iconst 4, 1, 12, none) := fe_of pg_188 rfl
set_option maxRecDepth 100000 in
theorem f_188_187 : fe 188 187 = some (.newarray .int, 2, 12, none) := fe_of pg_188 rfl
set_option maxRecDepth 100000 in
theorem f_188_189 : fe 188 189 = some (.putfield 78, 3, 12, none) := fe_of pg_188 rfl
set_option maxRecDepth 100000 in
theorem f_188_192 : fe 188 192 = some (.aload_n 0, 1, 12, none) := fe_of pg_188 rfl
set_option maxRecDepth 100000 in
theorem f_188_193 : fe 188 193 = some (.iconst 4, 1, 12, none) := fe_of pg_188 rfl
set_option maxRecDepth 100000 in
theorem f_188_194 : fe 188 194 = some (.newarray .int, 2, 12, none) := fe_of pg_188 rfl
set_option maxRecDepth 100000 in
theorem f_188_196 : fe 188 196 = some (.putfield 81, 3, 12, none) := fe_of pg_188 rfl
set_option maxRecDepth 100000 in
theorem f_188_199 : fe 188 199 = some (.aload_n 0, 1, 12, none) := fe_of pg_188 rfl
set_option maxRecDepth 100000 in
theorem f_188_200 : fe 188 200 = some (.iconst 4, 1, 12, none) := fe_of pg_188 rfl
set_option maxRecDepth 100000 in
theorem f_188_201 : fe 188 201 = some (.newarray .int, 2, 12, none) := fe_of pg_188 rfl
set_option maxRecDepth 100000 in
theorem f_188_203 : fe 188 203 = some (.putfield 84, 3, 12, none) := fe_of pg_188 rfl
set_option maxRecDepth 100000 in
theorem f_188_206 : fe 188 206 = some (.aload_n 0, 1, 12, none) := fe_of pg_188 rfl
set_option maxRecDepth 100000 in
theorem f_188_207 : fe 188 207 = some (.sipush 640, 3, 12, none) := fe_of pg_188 rfl
set_option maxRecDepth 100000 in
theorem f_188_210 : fe 188 210 = some (.newarray .int, 2, 12, none) := fe_of pg_188 rfl
set_option maxRecDepth 100000 in
theorem f_188_212 : fe 188 212 = some (.putfield 87, 3, 12, none) := fe_of pg_188 rfl
set_option maxRecDepth 100000 in
theorem f_188_215 : fe 188 215 = some (.aload_n 0, 1, 12, none) := fe_of pg_188 rfl
set_option maxRecDepth 100000 in
theorem f_188_216 : fe 188 216 = some (.bipush 9, 2, 12, none) := fe_of pg_188 rfl
set_option maxRecDepth 100000 in
theorem f_188_218 : fe 188 218 = some (.newarray .int, 2, 12, none) := fe_of pg_188 rfl
set_option maxRecDepth 100000 in
theorem f_188_220 : fe 188 220 = some (.putfield 90, 3, 12, none) := fe_of pg_188 rfl
set_option maxRecDepth 100000 in
theorem f_188_223 : fe 188 223 = some (.aload_n 0, 1, 12, none) := fe_of pg_188 rfl
set_option maxRecDepth 100000 in
theorem f_188_224 : fe 188 224 = some (.bipush 9, 2, 12, none) := fe_of pg_188 rfl
set_option maxRecDepth 100000 in
theorem f_188_226 : fe 188 226 = some (.newarray .int, 2, 12, none) := fe_of pg_188 rfl
set_option maxRecDepth 100000 in
theorem f_188_228 : fe 188 228 = some (.putfield 93, 3, 12, none) := fe_of pg_188 rfl
set_option maxRecDepth 100000 in
theorem f_188_231 : fe 188 231 = some (.aload_n 0, 1, 12, none) := fe_of pg_188 rfl
set_option maxRecDepth 100000 in
theorem f_188_232 : fe 188 232 = some (.bipush 9, 2, 12, none) := fe_of pg_188 rfl
set_option maxRecDepth 100000 in
theorem f_188_234 : fe 188 234 = some (.newarray .int, 2, 12, none) := fe_of pg_188 rfl
set_option maxRecDepth 100000 in
theorem f_188_236 : fe 188 236 = some (.putfield 96, 3, 12, none) := fe_of pg_188 rfl
set_option maxRecDepth 100000 in
theorem f_188_239 : fe 188 239 = some (.aload_n 0, 1, 12, none) := fe_of pg_188 rfl
set_option maxRecDepth 100000 in
theorem f_188_240 : fe 188 240 = some (.bipush 9, 2, 12, none) := fe_of pg_188 rfl
set_option maxRecDepth 100000 in
theorem f_188_242 : fe 188 242 = some (.newarray .int, 2, 12, none) := fe_of pg_188 rfl
set_option maxRecDepth 100000 in
theorem f_188_244 : fe 188 244 = some (.putfield 99, 3, 12, none) := fe_of pg_188 rfl
set_option maxRecDepth 100000 in
theorem f_188_247 : fe 188 247 = some (.aload_n 0, 1, 12, none) := fe_of pg_188 rfl
set_option maxRecDepth 100000 in
theorem f_188_248 : fe 188 248 = some (.sipush 256, 3, 12, none) := fe_of pg_188 rfl
set_option maxRecDepth 100000 in
theorem f_188_251 : fe 188 251 = some (.newarray .long, 2, 12, none) := fe_of pg_188 rfl
set_option maxRecDepth 100000 in
theorem f_188_253 : fe 188 253 = some (.putfield 102, 3, 12, none) := fe_of pg_188 rfl
set_option maxRecDepth 100000 in
theorem f_188_256 : fe 188 256 = some (.aload_n 0, 1, 12, none) := fe_of pg_188 rfl
set_option maxRecDepth 100000 in
theorem f_188_257 : fe 188 257 = some (.iconst 3, 1, 12, none) := fe_of pg_188 rfl
set_option maxRecDepth 100000 in
theorem f_188_258 : fe 188 258 = some (.newarray .boolean, 2, 12, none) := fe_of pg_188 rfl
set_option maxRecDepth 100000 in
theorem f_188_260 : fe 188 260 = some (.putfield 106, 3, 12, none) := fe_of pg_188 rfl
set_option maxRecDepth 100000 in
theorem f_188_263 : fe 188 263 = some (.aload_n 0, 1, 12, none) := fe_of pg_188 rfl
set_option maxRecDepth 100000 in
theorem f_188_264 : fe 188 264 = some (.getfield 20, 3, 12, none) := fe_of pg_188 rfl
set_option maxRecDepth 100000 in
theorem f_188_267 : fe 188 267 = some (.iconst 0, 1, 12, none) := fe_of pg_188 rfl
set_option maxRecDepth 100000 in
theorem f_188_268 : fe 188 268 = some (.iconst (-1), 1, 12, none) := fe_of pg_188 rfl
set_option maxRecDepth 100000 in
theorem f_188_269 : fe 188 269 = some (.iastore, 1, 12, none) := fe_of pg_188 rfl
set_option maxRecDepth 100000 in
theorem f_188_270 : fe 188 270 = some (.return_, 1, 12, none) := fe_of pg_188 rfl
set_option maxRecDepth 100000 in
theorem f_189_0 : fe 189 0 = some (.iload_n 0, 1, 12, some .boolean) := fe_of pg_189 rfl
set_option maxRecDepth 100000 in
theorem f_189_1 : fe 189 1 = some (.iload_n 1, 1, 12, some .boolean) := fe_of pg_189 rfl
set_option maxRecDepth 100000 in
theorem f_189_2 : fe 189 2 = some (.if_icmp .lt 12, 3, 12, some .boolean) := fe_of pg_189 rfl
set_option maxRecDepth 100000 in
theorem f_189_5 : fe 189 5 = some (.iload_n 0, 1, 12, some .boolean) := fe_of pg_189 rfl
set_option maxRecDepth 100000 in
theorem f_189_6 : fe 189 6 = some (.iload_n 2, 1, 12, some .boolean) := fe_of pg_189 rfl
set_option maxRecDepth 100000 in
theorem f_189_7 : fe 189 7 = some (.if_icmp .gt 7, 3, 12, some .boolean) := fe_of pg_189 rfl
set_option maxRecDepth 100000 in
theorem f_189_10 : fe 189 10 = some (.iconst 1, 1, 12, some .boolean) := fe_of pg_189 rfl
set_option maxRecDepth 100000 in
theorem f_189_11 : fe 189 11 = some (.goto 4, 3, 12, some .boolean) := fe_of pg_189 rfl
set_option maxRecDepth 100000 in
theorem f_189_14 : fe 189 14 = some (.iconst 0, 1, 12, some .boolean) := fe_of pg_189 rfl
set_option maxRecDepth 100000 in
theorem f_189_15 : fe 189 15 = some (.ireturn, 1, 12, some .boolean) := fe_of pg_189 rfl
set_option maxRecDepth 100000 in
theorem f_190_0 : fe 190 0 = some (.iload_n 0, 1, 12, some .boolean) := fe_of pg_190 rfl
set_option maxRecDepth 100000 in
theorem f_190_1 : fe 190 1 = some (.iload_n 1, 1, 12, some .boolean) := fe_of pg_190 rfl
set_option maxRecDepth 100000 in
theorem f_190_2 : fe 190 2 = some (.ishr, 1, 12, some .boolean) := fe_of pg_190 rfl
set_option maxRecDepth 100000 in
theorem f_190_3 : fe 190 3 = some (.iconst 1, 1, 12, some .boolean) := fe_of pg_190 rfl
set_option maxRecDepth 100000 in
theorem f_190_4 : fe 190 4 = some (.iand, 1, 12, some .boolean) := fe_of pg_190 rfl
set_option maxRecDepth 100000 in
theorem f_190_5 : fe 190 5 = some (.iconst 1, 1, 12, some .boolean) := fe_of pg_190 rfl
set_option maxRecDepth 100000 in
theorem f_190_6 : fe 190 6 = some (.if_icmp .ne 7, 3, 12, some .boolean) := fe_of pg_190 rfl
set_option maxRecDepth 100000 in
theorem f_190_9 : fe 190 9 = some (.iconst 1, 1, 12, some .boolean) := fe_of pg_190 rfl
set_option maxRecDepth 100000 in
theorem f_190_10 : fe 190 10 = some (.goto 4, 3, 12, some .boolean) := fe_of pg_190 rfl
set_option maxRecDepth 100000 in
theorem f_190_13 : fe 190 13 = some (.iconst 0, 1, 12, some .boolean) := fe_of pg_190 rfl
set_option maxRecDepth 100000 in
theorem f_190_14 : fe 190 14 = some (.ireturn, 1, 12, some .boolean) := fe_of pg_190 rfl
set_option maxRecDepth 100000 in
theorem f_191_0 : fe 191 0 = some (.iload_n 0, 1, 12, some .int) := fe_of pg_191 rfl
set_option maxRecDepth 100000 in
theorem f_191_1 : fe 191 1 = some (.iload_n 1, 1, 12, some .int) := fe_of pg_191 rfl
set_option maxRecDepth 100000 in
theorem f_191_2 : fe 191 2 = some (.if_icmp .le 7, 3, 12, some .int) := fe_of pg_191 rfl
set_option maxRecDepth 100000 in
theorem f_191_5 : fe 191 5 = some (.iload_n 0, 1, 12, some .int) := fe_of pg_191 rfl
set_option maxRecDepth 100000 in
theorem f_191_6 : fe 191 6 = some (.goto 4, 3, 12, some .int) := fe_of pg_191 rfl
set_option maxRecDepth 100000 in
theorem f_191_9 : fe 191 9 = some (.iload_n 1, 1, 12, some .int) := fe_of pg_191 rfl
set_option maxRecDepth 100000 in
theorem f_191_10 : fe 191 10 = some (.ireturn, 1, 12, some .int) := fe_of pg_191 rfl
set_option maxRecDepth 100000 in
theorem f_192_0 : fe 192 0 = some (.iload_n 0, 1, 12, some .int) := fe_of pg_192 rfl
set_option maxRecDepth 100000 in
theorem f_192_1 : fe 192 1 = some (.iload_n 1, 1, 12, some .int) := fe_of pg_192 rfl
set_option maxRecDepth 100000 in
theorem f_192_2 : fe 192 2 = some (.if_icmp .ge 7, 3, 12, some .int) := fe_of pg_192 rfl
set_option maxRecDepth 100000 in
theorem f_192_5 : fe 192 5 = some (.iload_n 0, 1, 12, some .int) := fe_of pg_192 rfl
set_option maxRecDepth 100000 in
theorem f_192_6 : fe 192 6 = some (.goto 4, 3, 12, some .int) := fe_of pg_192 rfl
set_option maxRecDepth 100000 in
theorem f_192_9 : fe 192 9 = some (.iload_n 1, 1, 12, some .int) := fe_of pg_192 rfl
set_option maxRecDepth 100000 in
theorem f_192_10 : fe 192 10 = some (.ireturn, 1, 12, some .int) := fe_of pg_192 rfl
set_option maxRecDepth 100000 in
theorem f_193_0 : fe 193 0 = some (.iconst 0, 1, 12, some .int) := fe_of pg_193 rfl
set_option maxRecDepth 100000 in
theorem f_193_1 : fe 193 1 = some (.istore_n 1, 1, 12, some .int) := fe_of pg_193 rfl
set_option maxRecDepth 100000 in
theorem f_193_2 : fe 193 2 = some (.iconst 0, 1, 12, some .int) := fe_of pg_193 rfl
set_option maxRecDepth 100000 in
theorem f_193_3 : fe 193 3 = some (.istore_n 2, 1, 12, some .int) := fe_of pg_193 rfl
set_option maxRecDepth 100000 in
theorem f_193_4 : fe 193 4 = some (.iload_n 2, 1, 12, some .int) := fe_of pg_193 rfl
set_option maxRecDepth 100000 in
theorem f_193_5 : fe 193 5 = some (.bipush 8, 2, 12, some .int) := fe_of pg_193 rfl
set_option maxRecDepth 100000 in
theorem f_193_7 : fe 193 7 = some (.if_icmp .ge 25, 3, 12, some .int) := fe_of pg_193 rfl
set_option maxRecDepth 100000 in
theorem f_193_10 : fe 193 10 = some (.iload_n 1, 1, 12, some .int) := fe_of pg_193 rfl
set_option maxRecDepth 100000 in
theorem f_193_11 : fe 193 11 = some (.iload_n 0, 1, 12, some .int) := fe_of pg_193 rfl
set_option maxRecDepth 100000 in
theorem f_193_12 : fe 193 12 = some (.iload_n 2, 1, 12, some .int) := fe_of pg_193 rfl
set_option maxRecDepth 100000 in
theorem f_193_13 : fe 193 13 = some (.invokestatic 113, 3, 12, some .int) := fe_of pg_193 rfl
set_option maxRecDepth 100000 in
theorem f_193_16 : fe 193 16 = some (.ifCond .eq 7, 3, 12, some .int) := fe_of pg_193 rfl
set_option maxRecDepth 100000 in
theorem f_193_19 : fe 193 19 = some (.iconst 1, 1, 12, some .int) := fe_of pg_193 rfl
set_option maxRecDepth 100000 in
theorem f_193_20 : fe 193 20 = some (.goto 4, 3, 12, some .int) := fe_of pg_193 rfl
set_option maxRecDepth 100000 in
theorem f_193_23 : fe 193 23 = some (.iconst 0, 1, 12, some .int) := fe_of pg_193 rfl
set_option maxRecDepth 100000 in
theorem f_193_24 : fe 193 24 = some (.iadd, 1, 12, some .int) := fe_of pg_193 rfl
set_option maxRecDepth 100000 in
theorem f_193_25 : fe 193 25 = some (.istore_n 1, 1, 12, some .int) := fe_of pg_193 rfl
set_option maxRecDepth 100000 in
theorem f_193_26 : fe 193 26 = some (.iinc 2 1, 3, 12, some .int) := fe_of pg_193 rfl
set_option maxRecDepth 100000 in
theorem f_193_29 : fe 193 29 = some (.goto (-25), 3, 12, some .int) := fe_of pg_193 rfl
set_option maxRecDepth 100000 in
theorem f_193_32 : fe 193 32 = some (.iload_n 1, 1, 12, some .int) := fe_of pg_193 rfl
set_option maxRecDepth 100000 in
theorem f_193_33 : fe 193 33 = some (.ireturn, 1, 12, some .int) := fe_of pg_193 rfl
set_option maxRecDepth 100000 in
theorem f_194_0 : fe 194 0 = some (.iconst 0, 1, 12, none) := fe_of pg_194 rfl
set_option maxRecDepth 100000 in
theorem f_194_1 : fe 194 1 = some (.istore 4, 2, 12, none) := fe_of pg_194 rfl
set_option maxRecDepth 100000 in
theorem f_194_3 : fe 194 3 = some (.iload 4, 2, 12, none) := fe_of pg_194 rfl
set_option maxRecDepth 100000 in
theorem f_194_5 : fe 194 5 = some (.iload_n 1, 1, 12, none) := fe_of pg_194 rfl
set_option maxRecDepth 100000 in
theorem f_194_6 : fe 194 6 = some (.if_icmp .ge 25, 3, 12, none) := fe_of pg_194 rfl
set_option maxRecDepth 100000 in
theorem f_194_9 : fe 194 9 = some (.aload_n 0, 1, 12, none) := fe_of pg_194 rfl
set_option maxRecDepth 100000 in
theorem f_194_10 : fe 194 10 = some (.iload_n 1, 1, 12, none) := fe_of pg_194 rfl
set_option maxRecDepth 100000 in
theorem f_194_11 : fe 194 11 = some (.iload_n 3, 1, 12, none) := fe_of pg_194 rfl
set_option maxRecDepth 100000 in
theorem f_194_12 : fe 194 12 = some (.imul, 1, 12, none) := fe_of pg_194 rfl
set_option maxRecDepth 100000 in
theorem f_194_13 : fe 194 13 = some (.iload 4, 2, 12, none) := fe_of pg_194 rfl
set_option maxRecDepth 100000 in
theorem f_194_15 : fe 194 15 = some (.iadd, 1, 12, none) := fe_of pg_194 rfl
set_option maxRecDepth 100000 in
theorem f_194_16 : fe 194 16 = some (.aload_n 0, 1, 12, none) := fe_of pg_194 rfl
set_option maxRecDepth 100000 in
theorem f_194_17 : fe 194 17 = some (.iload_n 1, 1, 12, none) := fe_of pg_194 rfl
set_option maxRecDepth 100000 in
theorem f_194_18 : fe 194 18 = some (.iload_n 2, 1, 12, none) := fe_of pg_194 rfl
set_option maxRecDepth 100000 in
theorem f_194_19 : fe 194 19 = some (.imul, 1, 12, none) := fe_of pg_194 rfl
set_option maxRecDepth 100000 in
theorem f_194_20 : fe 194 20 = some (.iload 4, 2, 12, none) := fe_of pg_194 rfl
set_option maxRecDepth 100000 in
theorem f_194_22 : fe 194 22 = some (.iadd, 1, 12, none) := fe_of pg_194 rfl
set_option maxRecDepth 100000 in
theorem f_194_23 : fe 194 23 = some (.iaload, 1, 12, none) := fe_of pg_194 rfl
set_option maxRecDepth 100000 in
theorem f_194_24 : fe 194 24 = some (.iastore, 1, 12, none) := fe_of pg_194 rfl
set_option maxRecDepth 100000 in
theorem f_194_25 : fe 194 25 = some (.iinc 4 1, 3, 12, none) := fe_of pg_194 rfl
set_option maxRecDepth 100000 in
theorem f_194_28 : fe 194 28 = some (.goto (-25), 3, 12, none) := fe_of pg_194 rfl
set_option maxRecDepth 100000 in
theorem f_194_31 : fe 194 31 = some (.return_, 1, 12, none) := fe_of pg_194 rfl
set_option maxRecDepth 100000 in
theorem f_195_0 : fe 195 0 = some (.iconst 0, 1, 12, none) := fe_of pg_195 rfl
set_option maxRecDepth 100000 in
theorem f_195_1 : fe 195 1 = some (.istore_n 3, 1, 12, none) := fe_of pg_195 rfl
set_option maxRecDepth 100000 in
theorem f_195_2 : fe 195 2 = some (.iload_n 3, 1, 12, none) := fe_of pg_195 rfl
set_option maxRecDepth 100000 in
theorem f_195_3 : fe 195 3 = some (.sipush 600, 3, 12, none) := fe_of pg_195 rfl
set_option maxRecDepth 100000 in
theorem f_195_6 : fe 195 6 = some (.if_icmp .ge 33, 3, 12, none) := fe_of pg_195 rfl
set_option maxRecDepth 100000 in
theorem f_195_9 : fe 195 9 = some (.aload_n 0, 1, 12, none) := fe_of pg_195 rfl
set_option maxRecDepth 100000 in
theorem f_195_10 : fe 195 10 = some (.getfield 7, 3, 12, none) := fe_of pg_195 rfl
set_option maxRecDepth 100000 in
theorem f_195_13 : fe 195 13 = some (.sipush 600, 3, 12, none) := fe_of pg_195 rfl
set_option maxRecDepth 100000 in
theorem f_195_16 : fe 195 16 = some (.iload_n 2, 1, 12, none) := fe_of pg_195 rfl
set_option maxRecDepth 100000 in
theorem f_195_17 : fe 195 17 = some (.imul, 1, 12, none) := fe_of pg_195 rfl
set_option maxRecDepth 100000 in
theorem f_195_18 : fe 195 18 = some (.iload_n 3, 1, 12, none) := fe_of pg_195 rfl
set_option maxRecDepth 100000 in
theorem f_195_19 : fe 195 19 = some (.iadd, 1, 12, none) := fe_of pg_195 rfl
set_option maxRecDepth 100000 in
theorem f_195_20 : fe 195 20 = some (.aload_n 0, 1, 12, none) := fe_of pg_195 rfl
set_option maxRecDepth 100000 in
theorem f_195_21 : fe 195 21 = some (.getfield 7, 3, 12, none) := fe_of pg_195 rfl
set_option maxRecDepth 100000 in
theorem f_195_24 : fe 195 24 = some (.sipush 600, 3, 12, none) := fe_of pg_195 rfl
set_option maxRecDepth 100000 in
theorem f_195_27 : fe 195 27 = some (.iload_n 1, 1, 12, none) := fe_of pg_195 rfl
set_option maxRecDepth 100000 in
theorem f_195_28 : fe 195 28 = some (.imul, 1, 12, none) := fe_of pg_195 rfl
set_option maxRecDepth 100000 in
theorem f_195_29 : fe 195 29 = some (.iload_n 3, 1, 12, none) := fe_of pg_195 rfl
set_option maxRecDepth 100000 in
theorem f_195_30 : fe 195 30 = some (.iadd, 1, 12, none) := fe_of pg_195 rfl
set_option maxRecDepth 100000 in
theorem f_195_31 : fe 195 31 = some (.baload, 1, 12, none) := fe_of pg_195 rfl
set_option maxRecDepth 100000 in
theorem f_195_32 : fe 195 32 = some (.bastore, 1, 12, none) := fe_of pg_195 rfl
set_option maxRecDepth 100000 in
theorem f_195_33 : fe 195 33 = some (.iinc 3 1, 3, 12, none) := fe_of pg_195 rfl
set_option maxRecDepth 100000 in
theorem f_195_36 : fe 195 36 = some (.goto (-34), 3, 12, none) := fe_of pg_195 rfl
set_option maxRecDepth 100000 in
theorem f_195_39 : fe 195 39 = some (.aload_n 0, 1, 12, none) := fe_of pg_195 rfl
set_option maxRecDepth 100000 in
theorem f_195_40 : fe 195 40 = some (.getfield 13, 3, 12, none) := fe_of pg_195 rfl
set_option maxRecDepth 100000 in
theorem f_195_43 : fe 195 43 = some (.iconst 1, 1, 12, none) := fe_of pg_195 rfl
set_option maxRecDepth 100000 in
theorem f_195_44 : fe 195 44 = some (.iload_n 1, 1, 12, none) := fe_of pg_195 rfl
set_option maxRecDepth 100000 in
theorem f_195_45 : fe 195 45 = some (.iload_n 2, 1, 12, none) := fe_of pg_195 rfl
set_option maxRecDepth 100000 in
theorem f_195_46 : fe 195 46 = some (.invokestatic 117, 3, 12, none) := fe_of pg_195 rfl
set_option maxRecDepth 100000 in
theorem f_195_49 : fe 195 49 = some (.aload_n 0, 1, 12, none) := fe_of pg_195 rfl
set_option maxRecDepth 100000 in
theorem f_195_50 : fe 195 50 = some (.getfield 17, 3, 12, none) := fe_of pg_195 rfl
set_option maxRecDepth 100000 in
theorem f_195_53 : fe 195 53 = some (.iconst 1, 1, 12, none) := fe_of pg_195 rfl
set_option maxRecDepth 100000 in
theorem f_195_54 : fe 195 54 = some (.iload_n 1, 1, 12, none) := fe_of pg_195 rfl
set_option maxRecDepth 100000 in
theorem f_195_55 : fe 195 55 = some (.iload_n 2, 1, 12, none) := fe_of pg_195 rfl
set_option maxRecDepth 100000 in
theorem f_195_56 : fe 195 56 = some (.invokestatic 117, 3, 12, none) := fe_of pg_195 rfl
set_option maxRecDepth 100000 in
theorem f_195_59 : fe 195 59 = some (.aload_n 0, 1, 12, none) := fe_of pg_195 rfl
set_option maxRecDepth 100000 in
theorem f_195_60 : fe 195 60 = some (.getfield 20, 3, 12, none) := fe_of pg_195 rfl
set_option maxRecDepth 100000 in
theorem f_195_63 : fe 195 63 = some (.iconst 1, 1, 12, none) := fe_of pg_195 rfl
set_option maxRecDepth 100000 in
theorem f_195_64 : fe 195 64 = some (.iload_n 1, 1, 12, none) := fe_of pg_195 rfl
set_option maxRecDepth 100000 in
theorem f_195_65 : fe 195 65 = some (.iload_n 2, 1, 12, none) := fe_of pg_195 rfl
set_option maxRecDepth 100000 in
theorem f_195_66 : fe 195 66 = some (.invokestatic 117, 3, 12, none) := fe_of pg_195 rfl
set_option maxRecDepth 100000 in
theorem f_195_69 : fe 195 69 = some (.aload_n 0, 1, 12, none) := fe_of pg_195 rfl
set_option maxRecDepth 100000 in
theorem f_195_70 : fe 195 70 = some (.getfield 23, 3, 12, none) := fe_of pg_195 rfl
set_option maxRecDepth 100000 in
theorem f_195_73 : fe 195 73 = some (.iconst 4, 1, 12, none) := fe_of pg_195 rfl
set_option maxRecDepth 100000 in
theorem f_195_74 : fe 195 74 = some (.iload_n 1, 1, 12, none) := fe_of pg_195 rfl
set_option maxRecDepth 100000 in
theorem f_195_75 : fe 195 75 = some (.iload_n 2, 1, 12, none) := fe_of pg_195 rfl
set_option maxRecDepth 100000 in
theorem f_195_76 : fe 195 76 = some (.invokestatic 117, 3, 12, none) := fe_of pg_195 rfl
set_option maxRecDepth 100000 in
theorem f_195_79 : fe 195 79 = some (.aload_n 0, 1, 12, none) := fe_of pg_195 rfl
set_option maxRecDepth 100000 in
theorem f_195_80 : fe 195 80 = some (.getfield 26, 3, 12, none) := fe_of pg_195 rfl
set_option maxRecDepth 100000 in
theorem f_195_83 : fe 195 83 = some (.bipush 78, 2, 12, none) := fe_of pg_195 rfl
set_option maxRecDepth 100000 in
theorem f_195_85 : fe 195 85 = some (.iload_n 1, 1, 12, none) := fe_of pg_195 rfl
set_option maxRecDepth 100000 in
theorem f_195_86 : fe 195 86 = some (.iload_n 2, 1, 12, none) := fe_of pg_195 rfl
set_option maxRecDepth 100000 in
theorem f_195_87 : fe 195 87 = some (.invokestatic 117, 3, 12, none) := fe_of pg_195 rfl
set_option maxRecDepth 100000 in
theorem f_195_90 : fe 195 90 = some (.aload_n 0, 1, 12, none) := fe_of pg_195 rfl
set_option maxRecDepth 100000 in
theorem f_195_91 : fe 195 91 = some (.getfield 29, 3, 12, none) := fe_of pg_195 rfl
set_option maxRecDepth 100000 in
theorem f_195_94 : fe 195 94 = some (.sipush 242, 3, 12, none) := fe_of pg_195 rfl
set_option maxRecDepth 100000 in
theorem f_195_97 : fe 195 97 = some (.iload_n 1, 1, 12, none) := fe_of pg_195 rfl
set_option maxRecDepth 100000 in
theorem f_195_98 : fe 195 98 = some (.iload_n 2, 1, 12, none) := fe_of pg_195 rfl
set_option maxRecDepth 100000 in
theorem f_195_99 : fe 195 99 = some (.invokestatic 117, 3, 12, none) := fe_of pg_195 rfl
set_option maxRecDepth 100000 in
theorem f_195_102 : fe 195 102 = some (.aload_n 0, 1, 12, none) := fe_of pg_195 rfl
set_option maxRecDepth 100000 in
theorem f_195_103 : fe 195 103 = some (.getfield 32, 3, 12, none) := fe_of pg_195 rfl
set_option maxRecDepth 100000 in
theorem f_195_106 : fe 195 106 = some (.bipush 50, 2, 12, none) := fe_of pg_195 rfl
set_option maxRecDepth 100000 in
theorem f_195_108 : fe 195 108 = some (.iload_n 1, 1, 12, none) := fe_of pg_195 rfl
set_option maxRecDepth 100000 in
theorem f_195_109 : fe 195 109 = some (.iload_n 2, 1, 12, none) := fe_of pg_195 rfl
set_option maxRecDepth 100000 in
theorem f_195_110 : fe 195 110 = some (.invokestatic 117, 3, 12, none) := fe_of pg_195 rfl
set_option maxRecDepth 100000 in
theorem f_195_113 : fe 195 113 = some (.aload_n 0, 1, 12, none) := fe_of pg_195 rfl
set_option maxRecDepth 100000 in
theorem f_195_114 : fe 195 114 = some (.getfield 35, 3, 12, none) := fe_of pg_195 rfl
set_option maxRecDepth 100000 in
theorem f_195_117 : fe 195 117 = some (.bipush 64, 2, 12, none) := fe_of pg_195 rfl
set_option maxRecDepth 100000 in
theorem f_195_119 : fe 195 119 = some (.iload_n 1, 1, 12, none) := fe_of pg_195 rfl
set_option maxRecDepth 100000 in
theorem f_195_120 : fe 195 120 = some (.iload_n 2, 1, 12, none) := fe_of pg_195 rfl
set_option maxRecDepth 100000 in
theorem f_195_121 : fe 195 121 = some (.invokestatic 117, 3, 12, none) := fe_of pg_195 rfl
set_option maxRecDepth 100000 in
theorem f_195_124 : fe 195 124 = some (.return_, 1, 12, none) := fe_of pg_195 rfl
set_option maxRecDepth 100000 in
theorem f_196_0 : fe 196 0 = some (.iload_n 2, 1, 12, some .boolean) := fe_of pg_196 rfl
set_option maxRecDepth 100000 in
theorem f_196_1 : fe 196 1 = some (.iconst 0, 1, 12, some .boolean) := fe_of pg_196 rfl
set_option maxRecDepth 100000 in
theorem f_196_2 : fe 196 2 = some (.aload_n 0, 1, 12, some .boolean) := fe_of pg_196 rfl
set_option maxRecDepth 100000 in
theorem f_196_3 : fe 196 3 = some (.getfield 23, 3, 12, some .boolean) := fe_of pg_196 rfl
set_option maxRecDepth 100000 in
theorem f_196_6 : fe 196 6 = some (.iload_n 1, 1, 12, some .boolean) := fe_of pg_196 rfl
set_option maxRecDepth 100000 in
theorem f_196_7 : fe 196 7 = some (.iaload, 1, 12, some .boolean) := fe_of pg_196 rfl
set_option maxRecDepth 100000 in
theorem f_196_8 : fe 196 8 = some (.iconst 1, 1, 12, some .boolean) := fe_of pg_196 rfl
set_option maxRecDepth 100000 in
theorem f_196_9 : fe 196 9 = some (.isub, 1, 12, some .boolean) := fe_of pg_196 rfl
set_option maxRecDepth 100000 in
theorem f_196_10 : fe 196 10 = some (.invokestatic 121, 3, 12, some .boolean) := fe_of pg_196 rfl
set_option maxRecDepth 100000 in
theorem f_196_13 : fe 196 13 = some (.ireturn, 1, 12, some .boolean) := fe_of pg_196 rfl
set_option maxRecDepth 100000 in
theorem f_197_0 : fe 197 0 = some (.aload_n 0, 1, 12, some .int) := fe_of pg_197 rfl
set_option maxRecDepth 100000 in
theorem f_197_1 : fe 197 1 = some (.iconst 0, 1, 12, some .int) := fe_of pg_197 rfl
set_option maxRecDepth 100000 in
theorem f_197_2 : fe 197 2 = some (.putfield 109, 3, 12, some .int) := fe_of pg_197 rfl
set_option maxRecDepth 100000 in
theorem f_197_5 : fe 197 5 = some (.aload_n 0, 1, 12, some .int) := fe_of pg_197 rfl
set_option maxRecDepth 100000 in
theorem f_197_6 : fe 197 6 = some (.getfield 13, 3, 12, some .int) := fe_of pg_197 rfl
set_option maxRecDepth 100000 in
theorem f_197_9 : fe 197 9 = some (.iconst 0, 1, 12, some .int) := fe_of pg_197 rfl
set_option maxRecDepth 100000 in
theorem f_197_10 : fe 197 10 = some (.iaload, 1, 12, some .int) := fe_of pg_197 rfl
set_option maxRecDepth 100000 in
theorem f_197_11 : fe 197 11 = some (.bipush 20, 2, 12, some .int) := fe_of pg_197 rfl
set_option maxRecDepth 100000 in
theorem f_197_13 : fe 197 13 = some (.iadd, 1, 12, some .int) := fe_of pg_197 rfl
set_option maxRecDepth 100000 in
theorem f_197_14 : fe 197 14 = some (.sipush 600, 3, 12, some .int) := fe_of pg_197 rfl
set_option maxRecDepth 100000 in
theorem f_197_17 : fe 197 17 = some (.if_icmp .le 5, 3, 12, some .int) := fe_of pg_197 rfl
set_option maxRecDepth 100000 in
theorem f_197_20 : fe 197 20 = some (.iconst (-1), 1, 12, some .int) := fe_of pg_197 rfl
set_option maxRecDepth 100000 in
theorem f_197_21 : fe 197 21 = some (.ireturn, 1, 12, some .int) := fe_of pg_197 rfl
set_option maxRecDepth 100000 in
theorem f_197_22 : fe 197 22 = some (.aload_n 0, 1, 12, some .int) := fe_of pg_197 rfl
set_option maxRecDepth 100000 in
theorem f_197_23 : fe 197 23 = some (.iload_n 1, 1, 12, some .int) := fe_of pg_197 rfl
set_option maxRecDepth 100000 in
theorem f_197_24 : fe 197 24 = some (.invokevirtual 125, 3, 12, some .int) := fe_of pg_197 rfl
set_option maxRecDepth 100000 in
theorem f_197_27 : fe 197 27 = some (.aload_n 0, 1, 12, some .int) := fe_of pg_197 rfl
set_option maxRecDepth 100000 in
theorem f_197_28 : fe 197 28 = some (.iload_n 2, 1, 12, some .int) := fe_of pg_197 rfl
set_option maxRecDepth 100000 in
theorem f_197_29 : fe 197 29 = some (.invokevirtual 125, 3, 12, some .int) := fe_of pg_197 rfl
set_option maxRecDepth 100000 in
theorem f_197_32 : fe 197 32 = some (.aload_n 0, 1, 12, some .int) := fe_of pg_197 rfl
set_option maxRecDepth 100000 in
theorem f_197_33 : fe 197 33 = some (.iload_n 3, 1, 12, some .int) := fe_of pg_197 rfl
set_option maxRecDepth 100000 in
theorem f_197_34 : fe 197 34 = some (.invokevirtual 125, 3, 12, some .int) := fe_of pg_197 rfl
set_option maxRecDepth 100000 in
theorem f_197_37 : fe 197 37 = some (.aload_n 0, 1, 12, some .int) := fe_of pg_197 rfl
set_option maxRecDepth 100000 in
theorem f_197_38 : fe 197 38 = some (.iload 4, 2, 12, some .int) := fe_of pg_197 rfl
set_option maxRecDepth 100000 in
theorem f_197_40 : fe 197 40 = some (.invokevirtual 125, 3, 12, some .int) := fe_of pg_197 rfl
set_option maxRecDepth 100000 in
theorem f_197_43 : fe 197 43 = some (.aload_n 0, 1, 12, some .int) := fe_of pg_197 rfl
set_option maxRecDepth 100000 in
theorem f_197_44 : fe 197 44 = some (.iload 5, 2, 12, some .int) := fe_of pg_197 rfl
set_option maxRecDepth 100000 in
theorem f_197_46 : fe 197 46 = some (.invokevirtual 125, 3, 12, some .int) := fe_of pg_197 rfl
set_option maxRecDepth 100000 in
theorem f_197_49 : fe 197 49 = some (.aload_n 0, 1, 12, some .int) := fe_of pg_197 rfl
set_option maxRecDepth 100000 in
theorem f_197_50 : fe 197 50 = some (.getfield 13, 3, 12, some .int) := fe_of pg_197 rfl
set_option maxRecDepth 100000 in
theorem f_197_53 : fe 197 53 = some (.iconst 0, 1, 12, some .int) := fe_of pg_197 rfl
set_option maxRecDepth 100000 in
theorem f_197_54 : fe 197 54 = some (.iaload, 1, 12, some .int) := fe_of pg_197 rfl
set_option maxRecDepth 100000 in
theorem f_197_55 : fe 197 55 = some (.ireturn, 1, 12, some .int) := fe_of pg_197 rfl
set_option maxRecDepth 100000 in
theorem f_198_0 : fe 198 0 = some (.bipush 24, 2, 12, none) := fe_of pg_198 rfl
set_option maxRecDepth 100000 in
theorem f_198_2 : fe 198 2 = some (.istore_n 2, 1, 12, none) := fe_of pg_198 rfl
set_option maxRecDepth 100000 in
theorem f_198_3 : fe 198 3 = some (.iload_n 2, 1, 12, none) := fe_of pg_198 rfl
set_option maxRecDepth 100000 in
theorem f_198_4 : fe 198 4 = some (.ifCond .lt 34, 3, 12, none) := fe_of pg_198 rfl
set_option maxRecDepth 100000 in
theorem f_198_7 : fe 198 7 = some (.aload_n 0, 1, 12, none) := fe_of pg_198 rfl
set_option maxRecDepth 100000 in
theorem f_198_8 : fe 198 8 = some (.getfield 7, 3, 12, none) := fe_of pg_198 rfl
set_option maxRecDepth 100000 in
theorem f_198_11 : fe 198 11 = some (.aload_n 0, 1, 12, none) := fe_of pg_198 rfl
set_option maxRecDepth 100000 in
theorem f_198_12 : fe 198 12 = some (.getfield 13, 3, 12, none) := fe_of pg_198 rfl
set_option maxRecDepth 100000 in
theorem f_198_15 : fe 198 15 = some (.iconst 0, 1, 12, none) := fe_of pg_198 rfl
set_option maxRecDepth 100000 in
theorem f_198_16 : fe 198 16 = some (.iaload, 1, 12, none) := fe_of pg_198 rfl
set_option maxRecDepth 100000 in
theorem f_198_17 : fe 198 17 = some (.iload_n 1, 1, 12, none) := fe_of pg_198 rfl
set_option maxRecDepth 100000 in
theorem f_198_18 : fe 198 18 = some (.iload_n 2, 1, 12, none) := fe_of pg_198 rfl
set_option maxRecDepth 100000 in
theorem f_198_19 : fe 198 19 = some (.ishr, 1, 12, none) := fe_of pg_198 rfl
set_option maxRecDepth 100000 in
theorem f_198_20 : fe 198 20 = some (.i2b, 1, 12, none) := fe_of pg_198 rfl
set_option maxRecDepth 100000 in
theorem f_198_21 : fe 198 21 = some (.bastore, 1, 12, none) := fe_of pg_198 rfl
set_option maxRecDepth 100000 in
theorem f_198_22 : fe 198 22 = some (.aload_n 0, 1, 12, none) := fe_of pg_198 rfl
set_option maxRecDepth 100000 in
theorem f_198_23 : fe 198 23 = some (.getfield 13, 3, 12, none) := fe_of pg_198 rfl
set_option maxRecDepth 100000 in
theorem f_198_26 : fe 198 26 = some (.iconst 0, 1, 12, none) := fe_of pg_198 rfl
set_option maxRecDepth 100000 in
theorem f_198_27 : fe 198 27 = some (.dup2, 1, 12, none) := fe_of pg_198 rfl
set_option maxRecDepth 100000 in
theorem f_198_28 : fe 198 28 = some (.iaload, 1, 12, none) := fe_of pg_198 rfl
set_option maxRecDepth 100000 in
theorem f_198_29 : fe 198 29 = some (.iconst 1, 1, 12, none) := fe_of pg_198 rfl
set_option maxRecDepth 100000 in
theorem f_198_30 : fe 198 30 = some (.iadd, 1, 12, none) := fe_of pg_198 rfl
set_option maxRecDepth 100000 in
theorem f_198_31 : fe 198 31 = some (.iastore, 1, 12, none) := fe_of pg_198 rfl
set_option maxRecDepth 100000 in
theorem f_198_32 : fe 198 32 = some (.iinc 2 (-8), 3, 12, none) := fe_of pg_198 rfl
set_option maxRecDepth 100000 in
theorem f_198_35 : fe 198 35 = some (.goto (-32), 3, 12, none) := fe_of pg_198 rfl
set_option maxRecDepth 100000 in
theorem f_198_38 : fe 198 38 = some (.return_, 1, 12, none) := fe_of pg_198 rfl
set_option maxRecDepth 100000 in
theorem f_199_0 : fe 199 0 = some (.aload_n 0, 1, 12, some .int) := fe_of pg_199 rfl
set_option maxRecDepth 100000 in
theorem f_199_1 : fe 199 1 = some (.iconst 0, 1, 12, some .int) := fe_of pg_199 rfl
set_option maxRecDepth 100000 in
theorem f_199_2 : fe 199 2 = some (.putfield 109, 3, 12, some .int) := fe_of pg_199 rfl
set_option maxRecDepth 100000 in
theorem f_199_5 : fe 199 5 = some (.iload_n 1, 1, 12, some .int) := fe_of pg_199 rfl
set_option maxRecDepth 100000 in
theorem f_199_6 : fe 199 6 = some (.iconst 0, 1, 12, some .int) := fe_of pg_199 rfl
set_option maxRecDepth 100000 in
theorem f_199_7 : fe 199 7 = some (.aload_n 0, 1, 12, some .int) := fe_of pg_199 rfl
set_option maxRecDepth 100000 in
theorem f_199_8 : fe 199 8 = some (.getfield 13, 3, 12, some .int) := fe_of pg_199 rfl
set_option maxRecDepth 100000 in
theorem f_199_11 : fe 199 11 = some (.iconst 0, 1, 12, some .int) := fe_of pg_199 rfl
set_option maxRecDepth 100000 in
theorem f_199_12 : fe 199 12 = some (.iaload, 1, 12, some .int) := fe_of pg_199 rfl
set_option maxRecDepth 100000 in
theorem f_199_13 : fe 199 13 = some (.invokestatic 121, 3, 12, some .int) := fe_of pg_199 rfl
set_option maxRecDepth 100000 in
theorem f_199_16 : fe 199 16 = some (.ifCond .ne 5, 3, 12, some .int) := fe_of pg_199 rfl
set_option maxRecDepth 100000 in
theorem f_199_19 : fe 199 19 = some (.iconst (-1), 1, 12, some .int) := fe_of pg_199 rfl
set_option maxRecDepth 100000 in
theorem f_199_20 : fe 199 20 = some (.ireturn, 1, 12, some .int) := fe_of pg_199 rfl
set_option maxRecDepth 100000 in
theorem f_199_21 : fe 199 21 = some (.aload_n 0, 1, 12, some .int) := fe_of pg_199 rfl
set_option maxRecDepth 100000 in
theorem f_199_22 : fe 199 22 = some (.getfield 13, 3, 12, some .int) := fe_of pg_199 rfl
set_option maxRecDepth 100000 in
theorem f_199_25 : fe 199 25 = some (.iconst 0, 1, 12, some .int) := fe_of pg_199 rfl
set_option maxRecDepth 100000 in
theorem f_199_26 : fe 199 26 = some (.iload_n 1, 1, 12, some .int) := fe_of pg_199 rfl
set_option maxRecDepth 100000 in
theorem f_199_27 : fe 199 27 = some (.iastore, 1, 12, some .int) := fe_of pg_199 rfl
set_option maxRecDepth 100000 in
theorem f_199_28 : fe 199 28 = some (.iload_n 1, 1, 12, some .int) := fe_of pg_199 rfl
set_option maxRecDepth 100000 in
theorem f_199_29 : fe 199 29 = some (.ireturn, 1, 12, some .int) := fe_of pg_199 rfl
set_option maxRecDepth 100000 in
theorem f_200_0 : fe 200 0 = some (.aload_n 0, 1, 12, some .int) := fe_of pg_200 rfl
set_option maxRecDepth 100000 in
theorem f_200_1 : fe 200 1 = some (.getfield 129, 3, 12, some .int) := fe_of pg_200 rfl
set_option maxRecDepth 100000 in
theorem f_200_4 : fe 200 4 = some (.aload_n 0, 1, 12, some .int) := fe_of pg_200 rfl
set_option maxRecDepth 100000 in
theorem f_200_5 : fe 200 5 = some (.getfield 132, 3, 12, some .int) := fe_of pg_200 rfl
set_option maxRecDepth 100000 in
theorem f_200_8 : fe 200 8 = some (.if_icmp .ge 19, 3, 12, some .int) := fe_of pg_200 rfl
set_option maxRecDepth 100000 in
theorem f_200_11 : fe 200 11 = some (.aload_n 0, 1, 12, some .int) := fe_of pg_200 rfl
set_option maxRecDepth 100000 in
theorem f_200_12 : fe 200 12 = some (.getfield 7, 3, 12, some .int) := fe_of pg_200 rfl
set_option maxRecDepth 100000 in
theorem f_200_15 : fe 200 15 = some (.aload_n 0, 1, 12, some .int) := fe_of pg_200 rfl
set_option maxRecDepth 100000 in
theorem f_200_16 : fe 200 16 = some (.getfield 129, 3, 12, some .int) := fe_of pg_200 rfl
set_option maxRecDepth 100000 in
theorem f_200_19 : fe 200 19 = some (.baload, 1, 12, some .int) := fe_of pg_200 rfl
set_option maxRecDepth 100000 in
theorem f_200_20 : fe 200 20 = some (.sipush 255, 3, 12, some .int) := fe_of pg_200 rfl
set_option maxRecDepth 100000 in
theorem f_200_23 : fe 200 23 = some (.iand, 1, 12, some .int) := fe_of pg_200 rfl
set_option maxRecDepth 100000 in
theorem f_200_24 : fe 200 24 = some (.goto 4, 3, 12, some .int) := fe_of pg_200 rfl
set_option maxRecDepth 100000 in
theorem f_200_27 : fe 200 27 = some (.iconst (-1), 1, 12, some .int) := fe_of pg_200 rfl
set_option maxRecDepth 100000 in
theorem f_200_28 : fe 200 28 = some (.ireturn, 1, 12, some .int) := fe_of pg_200 rfl
set_option maxRecDepth 100000 in
theorem f_201_0 : fe 201 0 = some (.aload_n 0, 1, 12, none) := fe_of pg_201 rfl
set_option maxRecDepth 100000 in
theorem f_201_1 : fe 201 1 = some (.invokevirtual 135, 3, 12, none) := fe_of pg_201 rfl
set_option maxRecDepth 100000 in
theorem f_201_4 : fe 201 4 = some (.bipush 10, 2, 12, none) := fe_of pg_201 rfl
set_option maxRecDepth 100000 in
theorem f_201_6 : fe 201 6 = some (.if_icmp .eq 12, 3, 12, none) := fe_of pg_201 rfl
set_option maxRecDepth 100000 in
theorem f_201_9 : fe 201 9 = some (.aload_n 0, 1, 12, none) := fe_of pg_201 rfl
set_option maxRecDepth 100000 in
theorem f_201_10 : fe 201 10 = some (.invokevirtual 135, 3, 12, none) := fe_of pg_201 rfl
set_option maxRecDepth 100000 in
theorem f_201_13 : fe 201 13 = some (.bipush 32, 2, 12, none) := fe_of pg_201 rfl
set_option maxRecDepth 100000 in
theorem f_201_15 : fe 201 15 = some (.if_icmp .ne 16, 3, 12, none) := fe_of pg_201 rfl
set_option maxRecDepth 100000 in
theorem f_201_18 : fe 201 18 = some (.aload_n 0, 1, 12, none) := fe_of pg_201 rfl
set_option maxRecDepth 100000 in
theorem f_201_19 : fe 201 19 = some (.dup, 1, 12, none) := fe_of pg_201 rfl
set_option maxRecDepth 100000 in
theorem f_201_20 : fe 201 20 = some (.getfield 129, 3, 12, none) := fe_of pg_201 rfl
set_option maxRecDepth 100000 in
theorem f_201_23 : fe 201 23 = some (.iconst 1, 1, 12, none) := fe_of pg_201 rfl
set_option maxRecDepth 100000 in
theorem f_201_24 : fe 201 24 = some (.iadd, 1, 12, none) := fe_of pg_201 rfl
set_option maxRecDepth 100000 in
theorem f_201_25 : fe 201 25 = some (.putfield 129, 3, 12, none) := fe_of pg_201 rfl
set_option maxRecDepth 100000 in
theorem f_201_28 : fe 201 28 = some (.goto (-28), 3, 12, none) := fe_of pg_201 rfl
set_option maxRecDepth 100000 in
theorem f_201_31 : fe 201 31 = some (.aload_n 0, 1, 12, none) := fe_of pg_201 rfl
set_option maxRecDepth 100000 in
theorem f_201_32 : fe 201 32 = some (.aload_n 0, 1, 12, none) := fe_of pg_201 rfl
set_option maxRecDepth 100000 in
theorem f_201_33 : fe 201 33 = some (.getfield 129, 3, 12, none) := fe_of pg_201 rfl
set_option maxRecDepth 100000 in
theorem f_201_36 : fe 201 36 = some (.putfield 139, 3, 12, none) := fe_of pg_201 rfl
set_option maxRecDepth 100000 in
theorem f_201_39 : fe 201 39 = some (.aload_n 0, 1, 12, none) := fe_of pg_201 rfl
set_option maxRecDepth 100000 in
theorem f_201_40 : fe 201 40 = some (.invokevirtual 135, 3, 12, none) := fe_of pg_201 rfl
set_option maxRecDepth 100000 in
theorem f_201_43 : fe 201 43 = some (.istore_n 1, 1, 12, none) := fe_of pg_201 rfl
set_option maxRecDepth 100000 in
theorem f_201_44 : fe 201 44 = some (.aload_n 0, 1, 12, none) := fe_of pg_201 rfl
set_option maxRecDepth 100000 in
theorem f_201_45 : fe 201 45 = some (.lconst 0, 1, 12, none) := fe_of pg_201 rfl
set_option maxRecDepth 100000 in
theorem f_201_46 : fe 201 46 = some (.putfield 142, 3, 12, none) := fe_of pg_201 rfl
set_option maxRecDepth 100000 in
theorem f_201_49 : fe 201 49 = some (.iconst 0, 1, 12, none) := fe_of pg_201 rfl
set_option maxRecDepth 100000 in
theorem f_201_50 : fe 201 50 = some (.istore_n 2, 1, 12, none) := fe_of pg_201 rfl
set_option maxRecDepth 100000 in
theorem f_201_51 : fe 201 51 = some (.iload_n 1, 1, 12, none) := fe_of pg_201 rfl
set_option maxRecDepth 100000 in
theorem f_201_52 : fe 201 52 = some (.ifCond .ge 11, 3, 12, none) := fe_of pg_201 rfl
set_option maxRecDepth 100000 in
theorem f_201_55 : fe 201 55 = some (.aload_n 0, 1, 12, none) := fe_of pg_201 rfl
set_option maxRecDepth 100000 in
theorem f_201_56 : fe 201 56 = some (.iconst 0, 1, 12, none) := fe_of pg_201 rfl
set_option maxRecDepth 100000 in
theorem f_201_57 : fe 201 57 = some (.putfield 146, 3, 12, none) := fe_of pg_201 rfl
set_option maxRecDepth 100000 in
theorem f_201_60 : fe 201 60 = some (.goto 206, 3, 12, none) := fe_of pg_201 rfl
set_option maxRecDepth 100000 in
theorem f_201_63 : fe 201 63 = some (.iload_n 1, 1, 12, none) := fe_of pg_201 rfl
set_option maxRecDepth 100000 in
theorem f_201_64 : fe 201 64 = some (.bipush 97, 2, 12, none) := fe_of pg_201 rfl
set_option maxRecDepth 100000 in
theorem f_201_66 : fe 201 66 = some (.bipush 122, 2, 12, none) := fe_of pg_201 rfl
set_option maxRecDepth 100000 in
theorem f_201_68 : fe 201 68 = some (.invokestatic 121, 3, 12, none) := fe_of pg_201 rfl
set_option maxRecDepth 100000 in
theorem f_201_71 : fe 201 71 = some (.ifCond .eq 76, 3, 12, none) := fe_of pg_201 rfl
set_option maxRecDepth 100000 in
theorem f_201_74 : fe 201 74 = some (.aload_n 0, 1, 12, none) := fe_of pg_201 rfl
set_option maxRecDepth 100000 in
theorem f_201_75 : fe 201 75 = some (.invokevirtual 135, 3, 12, none) := fe_of pg_201 rfl
set_option maxRecDepth 100000 in
theorem f_201_78 : fe 201 78 = some (.bipush 97, 2, 12, none) := fe_of pg_201 rfl
set_option maxRecDepth 100000 in
theorem f_201_80 : fe 201 80 = some (.bipush 122, 2, 12, none) := fe_of pg_201 rfl
set_option maxRecDepth 100000 in
theorem f_201_82 : fe 201 82 = some (.invokestatic 121, 3, 12, none) := fe_of pg_201 rfl
set_option maxRecDepth 100000 in
theorem f_201_85 : fe 201 85 = some (.ifCond .eq 36, 3, 12, none) := fe_of pg_201 rfl
set_option maxRecDepth 100000 in
theorem f_201_88 : fe 201 88 = some (.aload_n 0, 1, 12, none) := fe_of pg_201 rfl
set_option maxRecDepth 100000 in
theorem f_201_89 : fe 201 89 = some (.aload_n 0, 1, 12, none) := fe_of pg_201 rfl
set_option maxRecDepth 100000 in
theorem f_201_90 : fe 201 90 = some (.getfield 142, 3, 12, none) := fe_of pg_201 rfl
set_option maxRecDepth 100000 in
theorem f_201_93 : fe 201 93 = some (.bipush 8, 2, 12, none) := fe_of pg_201 rfl
set_option maxRecDepth 100000 in
theorem f_201_95 : fe 201 95 = some (.lshl, 1, 12, none) := fe_of pg_201 rfl
set_option maxRecDepth 100000 in
theorem f_201_96 : fe 201 96 = some (.aload_n 0, 1, 12, none) := fe_of pg_201 rfl
set_option maxRecDepth 100000 in
theorem f_201_97 : fe 201 97 = some (.invokevirtual 135, 3, 12, none) := fe_of pg_201 rfl
set_option maxRecDepth 100000 in
theorem f_201_100 : fe 201 100 = some (.i2l, 1, 12, none) := fe_of pg_201 rfl
set_option maxRecDepth 100000 in
theorem f_201_101 : fe 201 101 = some (.lor, 1, 12, none) := fe_of pg_201 rfl
set_option maxRecDepth 100000 in
theorem f_201_102 : fe 201 102 = some (.putfield 142, 3, 12, none) := fe_of pg_201 rfl
set_option maxRecDepth 100000 in
theorem f_201_105 : fe 201 105 = some (.aload_n 0, 1, 12, none) := fe_of pg_201 rfl
set_option maxRecDepth 100000 in
theorem f_201_106 : fe 201 106 = some (.dup, 1, 12, none) := fe_of pg_201 rfl
set_option maxRecDepth 100000 in
theorem f_201_107 : fe 201 107 = some (.getfield 129, 3, 12, none) := fe_of pg_201 rfl
set_option maxRecDepth 100000 in
theorem f_201_110 : fe 201 110 = some (.iconst 1, 1, 12, none) := fe_of pg_201 rfl
set_option maxRecDepth 100000 in
theorem f_201_111 : fe 201 111 = some (.iadd, 1, 12, none) := fe_of pg_201 rfl
set_option maxRecDepth 100000 in
theorem f_201_112 : fe 201 112 = some (.putfield 129, 3, 12, none) := fe_of pg_201 rfl
set_option maxRecDepth 100000 in
theorem f_201_115 : fe 201 115 = some (.iinc 2 1, 3, 12, none) := fe_of pg_201 rfl
set_option maxRecDepth 100000 in
theorem f_201_118 : fe 201 118 = some (.goto (-44), 3, 12, none) := fe_of pg_201 rfl
set_option maxRecDepth 100000 in
theorem f_201_121 : fe 201 121 = some (.aload_n 0, 1, 12, none) := fe_of pg_201 rfl
set_option maxRecDepth 100000 in
theorem f_201_122 : fe 201 122 = some (.iload_n 2, 1, 12, none) := fe_of pg_201 rfl
set_option maxRecDepth 100000 in
theorem f_201_123 : fe 201 123 = some (.bipush 8, 2, 12, none) := fe_of pg_201 rfl
set_option maxRecDepth 100000 in
theorem f_201_125 : fe 201 125 = some (.if_icmp .le 7, 3, 12, none) := fe_of pg_201 rfl
set_option maxRecDepth 100000 in
theorem f_201_128 : fe 201 128 = some (.lconst 0, 1, 12, none) := fe_of pg_201 rfl
set_option maxRecDepth 100000 in
theorem f_201_129 : fe 201 129 = some (.goto 7, 3, 12, none) := fe_of pg_201 rfl
set_option maxRecDepth 100000 in
theorem f_201_132 : fe 201 132 = some (.aload_n 0, 1, 12, none) := fe_of pg_201 rfl
set_option maxRecDepth 100000 in
theorem f_201_133 : fe 201 133 = some (.getfield 142, 3, 12, none) := fe_of pg_201 rfl
set_option maxRecDepth 100000 in
theorem f_201_136 : fe 201 136 = some (.putfield 142, 3, 12, none) := fe_of pg_201 rfl
set_option maxRecDepth 100000 in
theorem f_201_139 : fe 201 139 = some (.aload_n 0, 1, 12, none) := fe_of pg_201 rfl
set_option maxRecDepth 100000 in
theorem f_201_140 : fe 201 140 = some (.iconst 2, 1, 12, none) := fe_of pg_201 rfl
set_option maxRecDepth 100000 in
theorem f_201_141 : fe 201 141 = some (.putfield 146, 3, 12, none) := fe_of pg_201 rfl
set_option maxRecDepth 100000 in
theorem f_201_144 : fe 201 144 = some (.goto 122, 3, 12, none) := fe_of pg_201 rfl
set_option maxRecDepth 100000 in
theorem f_201_147 : fe 201 147 = some (.iload_n 1, 1, 12, none) := fe_of pg_201 rfl
set_option maxRecDepth 100000 in
theorem f_201_148 : fe 201 148 = some (.bipush 48, 2, 12, none) := fe_of pg_201 rfl
set_option maxRecDepth 100000 in
theorem f_201_150 : fe 201 150 = some (.bipush 57, 2, 12, none) := fe_of pg_201 rfl
set_option maxRecDepth 100000 in
theorem f_201_152 : fe 201 152 = some (.invokestatic 121, 3, 12, none) := fe_of pg_201 rfl
set_option maxRecDepth 100000 in
theorem f_201_155 : fe 201 155 = some (.ifCond .eq 86, 3, 12, none) := fe_of pg_201 rfl
set_option maxRecDepth 100000 in
theorem f_201_158 : fe 201 158 = some (.aload_n 0, 1, 12, none) := fe_of pg_201 rfl
set_option maxRecDepth 100000 in
theorem f_201_159 : fe 201 159 = some (.iconst 0, 1, 12, none) := fe_of pg_201 rfl
set_option maxRecDepth 100000 in
theorem f_201_160 : fe 201 160 = some (.putfield 149, 3, 12, none) := fe_of pg_201 rfl
set_option maxRecDepth 100000 in
theorem f_201_163 : fe 201 163 = some (.aload_n 0, 1, 12, none) := fe_of pg_201 rfl
set_option maxRecDepth 100000 in
theorem f_201_164 : fe 201 164 = some (.invokevirtual 135, 3, 12, none) := fe_of pg_201 rfl
set_option maxRecDepth 100000 in
theorem f_201_167 : fe 201 167 = some (.bipush 48, 2, 12, none) := fe_of pg_201 rfl
set_option maxRecDepth 100000 in
theorem f_201_169 : fe 201 169 = some (.bipush 57, 2, 12, none) := fe_of pg_201 rfl
set_option maxRecDepth 100000 in
theorem f_201_171 : fe 201 171 = some (.invokestatic 121, 3, 12, none) := fe_of pg_201 rfl
set_option maxRecDepth 100000 in
theorem f_201_174 : fe 201 174 = some (.ifCond .eq 50, 3, 12, none) := fe_of pg_201 rfl
set_option maxRecDepth 100000 in
theorem f_201_177 : fe 201 177 = some (.aload_n 0, 1, 12, none) := fe_of pg_201 rfl
set_option maxRecDepth 100000 in
theorem f_201_178 : fe 201 178 = some (.iload_n 2, 1, 12, none) := fe_of pg_201 rfl
set_option maxRecDepth 100000 in
theorem f_201_179 : fe 201 179 = some (.iconst 2, 1, 12, none) := fe_of pg_201 rfl
set_option maxRecDepth 100000 in
theorem f_201_180 : fe 201 180 = some (.if_icmp .ge 21, 3, 12, none) := fe_of pg_201 rfl
set_option maxRecDepth 100000 in
theorem f_201_183 : fe 201 183 = some (.bipush 10, 2, 12, none) := fe_of pg_201 rfl
set_option maxRecDepth 100000 in
theorem f_201_185 : fe 201 185 = some (.aload_n 0, 1, 12, none) := fe_of pg_201 rfl
set_option maxRecDepth 100000 in
theorem f_201_186 : fe 201 186 = some (.getfield 149, 3, 12, none) := fe_of pg_201 rfl
set_option maxRecDepth 100000 in
theorem f_201_189 : fe 201 189 = some (.imul, 1, 12, none) := fe_of pg_201 rfl
set_option maxRecDepth 100000 in
theorem f_201_190 : fe 201 190 = some (.aload_n 0, 1, 12, none) := fe_of pg_201 rfl
set_option maxRecDepth 100000 in
theorem f_201_191 : fe 201 191 = some (.invokevirtual 135, 3, 12, none) := fe_of pg_201 rfl
set_option maxRecDepth 100000 in
theorem f_201_194 : fe 201 194 = some (.iadd, 1, 12, none) := fe_of pg_201 rfl
set_option maxRecDepth 100000 in
theorem f_201_195 : fe 201 195 = some (.bipush 48, 2, 12, none) := fe_of pg_201 rfl
set_option maxRecDepth 100000 in
theorem f_201_197 : fe 201 197 = some (.isub, 1, 12, none) := fe_of pg_201 rfl
set_option maxRecDepth 100000 in
theorem f_201_198 : fe 201 198 = some (.goto 7, 3, 12, none) := fe_of pg_201 rfl
set_option maxRecDepth 100000 in
theorem f_201_201 : fe 201 201 = some (.aload_n 0, 1, 12, none) := fe_of pg_201 rfl
set_option maxRecDepth 100000 in
theorem f_201_202 : fe 201 202 = some (.getfield 149, 3, 12, none) := fe_of pg_201 rfl
set_option maxRecDepth 100000 in
theorem f_201_205 : fe 201 205 = some (.putfield 149, 3, 12, none) := fe_of pg_201 rfl
set_option maxRecDepth 100000 in
theorem f_201_208 : fe 201 208 = some (.aload_n 0, 1, 12, none) := fe_of pg_201 rfl
set_option maxRecDepth 100000 in
theorem f_201_209 : fe 201 209 = some (.dup, 1, 12, none) := fe_of pg_201 rfl
set_option maxRecDepth 100000 in
theorem f_201_210 : fe 201 210 = some (.getfield 129, 3, 12, none) := fe_of pg_201 rfl
set_option maxRecDepth 100000 in
theorem f_201_213 : fe 201 213 = some (.iconst 1, 1, 12, none) := fe_of pg_201 rfl
set_option maxRecDepth 100000 in
theorem f_201_214 : fe 201 214 = some (.iadd, 1, 12, none) := fe_of pg_201 rfl
set_option maxRecDepth 100000 in
theorem f_201_215 : fe 201 215 = some (.putfield 129, 3, 12, none) := fe_of pg_201 rfl
set_option maxRecDepth 100000 in
theorem f_201_218 : fe 201 218 = some (.iinc 2 1, 3, 12, none) := fe_of pg_201 rfl
set_option maxRecDepth 100000 in
theorem f_201_221 : fe 201 221 = some (.goto (-58), 3, 12, none) := fe_of pg_201 rfl
set_option maxRecDepth 100000 in
theorem f_201_224 : fe 201 224 = some (.aload_n 0, 1, 12, none) := fe_of pg_201 rfl
set_option maxRecDepth 100000 in
theorem f_201_225 : fe 201 225 = some (.iload_n 2, 1, 12, none) := fe_of pg_201 rfl
set_option maxRecDepth 100000 in
theorem f_201_226 : fe 201 226 = some (.iconst 2, 1, 12, none) := fe_of pg_201 rfl
set_option maxRecDepth 100000 in
theorem f_201_227 : fe 201 227 = some (.if_icmp .le 7, 3, 12, none) := fe_of pg_201 rfl
set_option maxRecDepth 100000 in
theorem f_201_230 : fe 201 230 = some (.iconst 1, 1, 12, none) := fe_of pg_201 rfl
set_option maxRecDepth 100000 in
theorem f_201_231 : fe 201 231 = some (.goto 4, 3, 12, none) := fe_of pg_201 rfl
set_option maxRecDepth 100000 in
theorem f_201_234 : fe 201 234 = some (.iconst 3, 1, 12, none) := fe_of pg_201 rfl
set_option maxRecDepth 100000 in
theorem f_201_235 : fe 201 235 = some (.putfield 146, 3, 12, none) := fe_of pg_201 rfl
set_option maxRecDepth 100000 in
theorem f_201_238 : fe 201 238 = some (.goto 28, 3, 12, none) := fe_of pg_201 rfl
set_option maxRecDepth 100000 in
theorem f_201_241 : fe 201 241 = some (.aload_n 0, 1, 12, none) := fe_of pg_201 rfl
set_option maxRecDepth 100000 in
theorem f_201_242 : fe 201 242 = some (.dup, 1, 12, none) := fe_of pg_201 rfl
set_option maxRecDepth 100000 in
theorem f_201_243 : fe 201 243 = some (.getfield 129, 3, 12, none) := fe_of pg_201 rfl
set_option maxRecDepth 100000 in
theorem f_201_246 : fe 201 246 = some (.iconst 1, 1, 12, none) := fe_of pg_201 rfl
set_option maxRecDepth 100000 in
theorem f_201_247 : fe 201 247 = some (.iadd, 1, 12, none) := fe_of pg_201 rfl
set_option maxRecDepth 100000 in
theorem f_201_248 : fe 201 248 = some (.putfield 129, 3, 12, none) := fe_of pg_201 rfl
set_option maxRecDepth 100000 in
theorem f_201_251 : fe 201 251 = some (.aload_n 0, 1, 12, none) := fe_of pg_201 rfl
set_option maxRecDepth 100000 in
theorem f_201_252 : fe 201 252 = some (.iload_n 1, 1, 12, none) := fe_of pg_201 rfl
set_option maxRecDepth 100000 in
theorem f_201_253 : fe 201 253 = some (.bipush 59, 2, 12, none) := fe_of pg_201 rfl
set_option maxRecDepth 100000 in
theorem f_201_255 : fe 201 255 = some (.if_icmp .ne 7, 3, 12, none) := fe_of pg_201 rfl
set_option maxRecDepth 100000 in
theorem f_201_258 : fe 201 258 = some (.iconst 4, 1, 12, none) := fe_of pg_201 rfl
set_option maxRecDepth 100000 in
theorem f_201_259 : fe 201 259 = some (.goto 4, 3, 12, none) := fe_of pg_201 rfl
set_option maxRecDepth 100000 in
theorem f_201_262 : fe 201 262 = some (.iconst 1, 1, 12, none) := fe_of pg_201 rfl
set_option maxRecDepth 100000 in
theorem f_201_263 : fe 201 263 = some (.putfield 146, 3, 12, none) := fe_of pg_201 rfl
set_option maxRecDepth 100000 in
theorem f_201_266 : fe 201 266 = some (.return_, 1, 12, none) := fe_of pg_201 rfl
set_option maxRecDepth 100000 in
theorem f_202_0 : fe 202 0 = some (.aload_n 0, 1, 12, some .boolean) := fe_of pg_202 rfl
set_option maxRecDepth 100000 in
theorem f_202_1 : fe 202 1 = some (.aload_n 0, 1, 12, some .boolean) := fe_of pg_202 rfl
set_option maxRecDepth 100000 in
theorem f_202_2 : fe 202 2 = some (.getfield 139, 3, 12, some .boolean) := fe_of pg_202 rfl
set_option maxRecDepth 100000 in
theorem f_202_5 : fe 202 5 = some (.putfield 152, 3, 12, some .boolean) := fe_of pg_202 rfl
set_option maxRecDepth 100000 in
theorem f_202_8 : fe 202 8 = some (.iconst 0, 1, 12, some .boolean) := fe_of pg_202 rfl
set_option maxRecDepth 100000 in
theorem f_202_9 : fe 202 9 = some (.ireturn, 1, 12, some .boolean) := fe_of pg_202 rfl
set_option maxRecDepth 100000 in
theorem f_203_0 : fe 203 0 = some (.aload_n 0, 1, 12, none) := fe_of pg_203 rfl
set_option maxRecDepth 100000 in
theorem f_203_1 : fe 203 1 = some (.getfield 155, 3, 12, none) := fe_of pg_203 rfl
set_option maxRecDepth 100000 in
theorem f_203_4 : fe 203 4 = some (.ifCond .eq 27, 3, 12, none) := fe_of pg_203 rfl
set_option maxRecDepth 100000 in
theorem f_203_7 : fe 203 7 = some (.iload_n 2, 1, 12, none) := fe_of pg_203 rfl
set_option maxRecDepth 100000 in
theorem f_203_8 : fe 203 8 = some (.aload_n 0, 1, 12, none) := fe_of pg_203 rfl
set_option maxRecDepth 100000 in
theorem f_203_9 : fe 203 9 = some (.getfield 158, 3, 12, none) := fe_of pg_203 rfl
set_option maxRecDepth 100000 in
theorem f_203_12 : fe 203 12 = some (.if_icmp .lt 19, 3, 12, none) := fe_of pg_203 rfl
set_option maxRecDepth 100000 in
theorem f_203_15 : fe 203 15 = some (.iload_n 2, 1, 12, none) := fe_of pg_203 rfl
set_option maxRecDepth 100000 in
theorem f_203_16 : fe 203 16 = some (.aload_n 0, 1, 12, none) := fe_of pg_203 rfl
set_option maxRecDepth 100000 in
theorem f_203_17 : fe 203 17 = some (.getfield 158, 3, 12, none) := fe_of pg_203 rfl
set_option maxRecDepth 100000 in
theorem f_203_20 : fe 203 20 = some (.if_icmp .ne 21, 3, 12, none) := fe_of pg_203 rfl
set_option maxRecDepth 100000 in
theorem f_203_23 : fe 203 23 = some (.iload_n 1, 1, 12, none) := fe_of pg_203 rfl
set_option maxRecDepth 100000 in
theorem f_203_24 : fe 203 24 = some (.aload_n 0, 1, 12, none) := fe_of pg_203 rfl
set_option maxRecDepth 100000 in
theorem f_203_25 : fe 203 25 = some (.getfield 155, 3, 12, none) := fe_of pg_203 rfl
set_option maxRecDepth 100000 in
theorem f_203_28 : fe 203 28 = some (.if_icmp .ge 13, 3, 12, none) := fe_of pg_203 rfl
set_option maxRecDepth 100000 in
theorem f_203_31 : fe 203 31 = some (.aload_n 0, 1, 12, none) := fe_of pg_203 rfl
set_option maxRecDepth 100000 in
theorem f_203_32 : fe 203 32 = some (.iload_n 1, 1, 12, none) := fe_of pg_203 rfl
set_option maxRecDepth 100000 in
theorem f_203_33 : fe 203 33 = some (.putfield 155, 3, 12, none) := fe_of pg_203 rfl
set_option maxRecDepth 100000 in
theorem f_203_36 : fe 203 36 = some (.aload_n 0, 1, 12, none) := fe_of pg_203 rfl
set_option maxRecDepth 100000 in
theorem f_203_37 : fe 203 37 = some (.iload_n 2, 1, 12, none) := fe_of pg_203 rfl
set_option maxRecDepth 100000 in
theorem f_203_38 : fe 203 38 = some (.putfield 158, 3, 12, none) := fe_of pg_203 rfl
set_option maxRecDepth 100000 in
theorem f_203_41 : fe 203 41 = some (.return_, 1, 12, none) := fe_of pg_203 rfl
set_option maxRecDepth 100000 in
theorem f_204_0 : fe 204 0 = some (.aload_n 0, 1, 12, some .boolean) := fe_of pg_204 rfl
set_option maxRecDepth 100000 in
theorem f_204_1 : fe 204 1 = some (.getfield 146, 3, 12, some .boolean) := fe_of pg_204 rfl
set_option maxRecDepth 100000 in
theorem f_204_4 : fe 204 4 = some (.iconst 3, 1, 12, some .boolean) := fe_of pg_204 rfl
set_option maxRecDepth 100000 in
theorem f_204_5 : fe 204 5 = some (.if_icmp .eq 8, 3, 12, some .boolean) := fe_of pg_204 rfl
set_option maxRecDepth 100000 in
theorem f_204_8 : fe 204 8 = some (.aload_n 0, 1, 12, some .boolean) := fe_of pg_204 rfl
set_option maxRecDepth 100000 in
theorem f_204_9 : fe 204 9 = some (.invokevirtual 161, 3, 12, some .boolean) := fe_of pg_204 rfl
set_option maxRecDepth 100000 in
theorem f_204_12 : fe 204 12 = some (.ireturn, 1, 12, some .boolean) := fe_of pg_204 rfl
set_option maxRecDepth 100000 in
theorem f_204_13 : fe 204 13 = some (.aload_n 0, 1, 12, some .boolean) := fe_of pg_204 rfl
set_option maxRecDepth 100000 in
theorem f_204_14 : fe 204 14 = some (.getfield 41, 3, 12, some .boolean) := fe_of pg_204 rfl
set_option maxRecDepth 100000 in
theorem f_204_17 : fe 204 17 = some (.iload_n 1, 1, 12, some .boolean) := fe_of pg_204 rfl
set_option maxRecDepth 100000 in
theorem f_204_18 : fe 204 18 = some (.aload_n 0, 1, 12, some .boolean) := fe_of pg_204 rfl
set_option maxRecDepth 100000 in
theorem f_204_19 : fe 204 19 = some (.getfield 149, 3, 12, some .boolean) := fe_of pg_204 rfl
set_option maxRecDepth 100000 in
theorem f_204_22 : fe 204 22 = some (.iastore, 1, 12, some .boolean) := fe_of pg_204 rfl
set_option maxRecDepth 100000 in
theorem f_204_23 : fe 204 23 = some (.aload_n 0, 1, 12, some .boolean) := fe_of pg_204 rfl
set_option maxRecDepth 100000 in
theorem f_204_24 : fe 204 24 = some (.getfield 149, 3, 12, some .boolean) := fe_of pg_204 rfl
set_option maxRecDepth 100000 in
theorem f_204_27 : fe 204 27 = some (.iload_n 2, 1, 12, some .boolean) := fe_of pg_204 rfl
set_option maxRecDepth 100000 in
theorem f_204_28 : fe 204 28 = some (.iload_n 3, 1, 12, some .boolean) := fe_of pg_204 rfl
set_option maxRecDepth 100000 in
theorem f_204_29 : fe 204 29 = some (.invokestatic 121, 3, 12, some .boolean) := fe_of pg_204 rfl
set_option maxRecDepth 100000 in
theorem f_204_32 : fe 204 32 = some (.ifCond .ne 17, 3, 12, some .boolean) := fe_of pg_204 rfl
set_option maxRecDepth 100000 in
theorem f_204_35 : fe 204 35 = some (.aload_n 0, 1, 12, some .boolean) := fe_of pg_204 rfl
set_option maxRecDepth 100000 in
theorem f_204_36 : fe 204 36 = some (.iconst 2, 1, 12, some .boolean) := fe_of pg_204 rfl
set_option maxRecDepth 100000 in
theorem f_204_37 : fe 204 37 = some (.aload_n 0, 1, 12, some .boolean) := fe_of pg_204 rfl
set_option maxRecDepth 100000 in
theorem f_204_38 : fe 204 38 = some (.getfield 139, 3, 12, some .boolean) := fe_of pg_204 rfl
set_option maxRecDepth 100000 in
theorem f_204_41 : fe 204 41 = some (.invokevirtual 165, 3, 12, some .boolean) := fe_of pg_204 rfl
set_option maxRecDepth 100000 in
theorem f_204_44 : fe 204 44 = some (.aload_n 0, 1, 12, some .boolean) := fe_of pg_204 rfl
set_option maxRecDepth 100000 in
theorem f_204_45 : fe 204 45 = some (.iconst 0, 1, 12, some .boolean) := fe_of pg_204 rfl
set_option maxRecDepth 100000 in
theorem f_204_46 : fe 204 46 = some (.putfield 169, 3, 12, some .boolean) := fe_of pg_204 rfl
set_option maxRecDepth 100000 in
theorem f_204_49 : fe 204 49 = some (.aload_n 0, 1, 12, some .boolean) := fe_of pg_204 rfl
set_option maxRecDepth 100000 in
theorem f_204_50 : fe 204 50 = some (.invokevirtual 173, 3, 12, some .boolean) := fe_of pg_204 rfl
set_option maxRecDepth 100000 in
theorem f_204_53 : fe 204 53 = some (.iconst 1, 1, 12, some .boolean) := fe_of pg_204 rfl
set_option maxRecDepth 100000 in
theorem f_204_54 : fe 204 54 = some (.ireturn, 1, 12, some .boolean) := fe_of pg_204 rfl
set_option maxRecDepth 100000 in
theorem f_205_0 : fe 205 0 = some (.aload_n 0, 1, 12, some .boolean) := fe_of pg_205 rfl
set_option maxRecDepth 100000 in
theorem f_205_1 : fe 205 1 = some (.getfield 146, 3, 12, some .boolean) := fe_of pg_205 rfl
set_option maxRecDepth 100000 in
theorem f_205_4 : fe 205 4 = some (.iconst 2, 1, 12, some .boolean) := fe_of pg_205 rfl
set_option maxRecDepth 100000 in
theorem f_205_5 : fe 205 5 = some (.if_icmp .ne 10, 3, 12, some .boolean) := fe_of pg_205 rfl
set_option maxRecDepth 100000 in
theorem f_205_8 : fe 205 8 = some (.aload_n 0, 1, 12, some .boolean) := fe_of pg_205 rfl
set_option maxRecDepth 100000 in
theorem f_205_9 : fe 205 9 = some (.getfield 142, 3, 12, some .boolean) := fe_of pg_205 rfl
set_option maxRecDepth 100000 in
theorem f_205_12 : fe 205 12 = some (.goto 4, 3, 12, some .boolean) := fe_of pg_205 rfl
set_option maxRecDepth 100000 in
theorem f_205_15 : fe 205 15 = some (.lconst 0, 1, 12, some .boolean) := fe_of pg_205 rfl
set_option maxRecDepth 100000 in
theorem f_205_16 : fe 205 16 = some (.lstore_n 2, 1, 12, some .boolean) := fe_of pg_205 rfl
set_option maxRecDepth 100000 in
theorem f_205_17 : fe 205 17 = some (.lload_n 2, 1, 12, some .boolean) := fe_of pg_205 rfl
set_option maxRecDepth 100000 in
theorem f_205_18 : fe 205 18 = some (.ldc2_w 176, 3, 12, some .boolean) := fe_of pg_205 rfl
set_option maxRecDepth 100000 in
theorem f_205_21 : fe 205 21 = some (.lcmp, 1, 12, some .boolean) := fe_of pg_205 rfl
set_option maxRecDepth 100000 in
theorem f_205_22 : fe 205 22 = some (.ifCond .ne 7, 3, 12, some .boolean) := fe_of pg_205 rfl
set_option maxRecDepth 100000 in
theorem f_205_25 : fe 205 25 = some (.iconst 0, 1, 12, some .boolean) := fe_of pg_205 rfl
set_option maxRecDepth 100000 in
theorem f_205_26 : fe 205 26 = some (.goto 40, 3, 12, some .boolean) := fe_of pg_205 rfl
set_option maxRecDepth 100000 in
theorem f_205_29 : fe 205 29 = some (.lload_n 2, 1, 12, some .boolean) := fe_of pg_205 rfl
set_option maxRecDepth 100000 in
theorem f_205_30 : fe 205 30 = some (.ldc2_w 178, 3, 12, some .boolean) := fe_of pg_205 rfl
set_option maxRecDepth 100000 in
theorem f_205_33 : fe 205 33 = some (.lcmp, 1, 12, some .boolean) := fe_of pg_205 rfl
set_option maxRecDepth 100000 in
theorem f_205_34 : fe 205 34 = some (.ifCond .ne 7, 3, 12, some .boolean) := fe_of pg_205 rfl
set_option maxRecDepth 100000 in
theorem f_205_37 : fe 205 37 = some (.iconst 1, 1, 12, some .boolean) := fe_of pg_205 rfl
set_option maxRecDepth 100000 in
theorem f_205_38 : fe 205 38 = some (.goto 28, 3, 12, some .boolean) := fe_of pg_205 rfl
set_option maxRecDepth 100000 in
theorem f_205_41 : fe 205 41 = some (.lload_n 2, 1, 12, some .boolean) := fe_of pg_205 rfl
set_option maxRecDepth 100000 in
theorem f_205_42 : fe 205 42 = some (.ldc2_w 180, 3, 12, some .boolean) := fe_of pg_205 rfl
set_option maxRecDepth 100000 in
theorem f_205_45 : fe 205 45 = some (.lcmp, 1, 12, some .boolean) := fe_of pg_205 rfl
set_option maxRecDepth 100000 in
theorem f_205_46 : fe 205 46 = some (.ifCond .ne 7, 3, 12, some .boolean) := fe_of pg_205 rfl
set_option maxRecDepth 100000 in
theorem f_205_49 : fe 205 49 = some (.iconst 2, 1, 12, some .boolean) := fe_of pg_205 rfl
set_option maxRecDepth 100000 in
theorem f_205_50 : fe 205 50 = some (.goto 16, 3, 12, some .boolean) := fe_of pg_205 rfl
set_option maxRecDepth 100000 in
theorem f_205_53 : fe 205 53 = some (.lload_n 2, 1, 12, some .boolean) := fe_of pg_205 rfl
set_option maxRecDepth 100000 in
theorem f_205_54 : fe 205 54 = some (.ldc2_w 182, 3, 12, some .boolean) := fe_of pg_205 rfl
set_option maxRecDepth 100000 in
theorem f_205_57 : fe 205 57 = some (.lcmp, 1, 12, some .boolean) := fe_of pg_205 rfl
set_option maxRecDepth 100000 in
theorem f_205_58 : fe 205 58 = some (.ifCond .ne 7, 3, 12, some .boolean) := fe_of pg_205 rfl
set_option maxRecDepth 100000 in
theorem f_205_61 : fe 205 61 = some (.iconst 3, 1, 12, some .boolean) := fe_of pg_205 rfl
set_option maxRecDepth 100000 in
theorem f_205_62 : fe 205 62 = some (.goto 4, 3, 12, some .boolean) := fe_of pg_205 rfl
set_option maxRecDepth 100000 in
theorem f_205_65 : fe 205 65 = some (.iconst (-1), 1, 12, some .boolean) := fe_of pg_205 rfl
set_option maxRecDepth 100000 in
theorem f_205_66 : fe 205 66 = some (.istore 4, 2, 12, some .boolean) := fe_of pg_205 rfl
set_option maxRecDepth 100000 in
theorem f_205_68 : fe 205 68 = some (.iload 4, 2, 12, some .boolean) := fe_of pg_205 rfl
set_option maxRecDepth 100000 in
theorem f_205_70 : fe 205 70 = some (.iconst (-1), 1, 12, some .boolean) := fe_of pg_205 rfl
set_option maxRecDepth 100000 in
theorem f_205_71 : fe 205 71 = some (.if_icmp .ne 8, 3, 12, some .boolean) := fe_of pg_205 rfl
set_option maxRecDepth 100000 in
theorem f_205_74 : fe 205 74 = some (.aload_n 0, 1, 12, some .boolean) := fe_of pg_205 rfl
set_option maxRecDepth 100000 in
theorem f_205_75 : fe 205 75 = some (.invokevirtual 161, 3, 12, some .boolean) := fe_of pg_205 rfl
set_option maxRecDepth 100000 in
theorem f_205_78 : fe 205 78 = some (.ireturn, 1, 12, some .boolean) := fe_of pg_205 rfl
set_option maxRecDepth 100000 in
theorem f_205_79 : fe 205 79 = some (.aload_n 0, 1, 12, some .boolean) := fe_of pg_205 rfl
set_option maxRecDepth 100000 in
theorem f_205_80 : fe 205 80 = some (.getfield 41, 3, 12, some .boolean) := fe_of pg_205 rfl
set_option maxRecDepth 100000 in
theorem f_205_83 : fe 205 83 = some (.iload_n 1, 1, 12, some .boolean) := fe_of pg_205 rfl
set_option maxRecDepth 100000 in
theorem f_205_84 : fe 205 84 = some (.iload 4, 2, 12, some .boolean) := fe_of pg_205 rfl
set_option maxRecDepth 100000 in
theorem f_205_86 : fe 205 86 = some (.iastore, 1, 12, some .boolean) := fe_of pg_205 rfl
set_option maxRecDepth 100000 in
theorem f_205_87 : fe 205 87 = some (.aload_n 0, 1, 12, some .boolean) := fe_of pg_205 rfl
set_option maxRecDepth 100000 in
theorem f_205_88 : fe 205 88 = some (.invokevirtual 173, 3, 12, some .boolean) := fe_of pg_205 rfl
set_option maxRecDepth 100000 in
theorem f_205_91 : fe 205 91 = some (.iconst 1, 1, 12, some .boolean) := fe_of pg_205 rfl
set_option maxRecDepth 100000 in
theorem f_205_92 : fe 205 92 = some (.ireturn, 1, 12, some .boolean) := fe_of pg_205 rfl
set_option maxRecDepth 100000 in
theorem f_206_0 : fe 206 0 = some (.aload_n 0, 1, 12, none) := fe_of pg_206 rfl
set_option maxRecDepth 100000 in
theorem f_206_1 : fe 206 1 = some (.getfield 38, 3, 12, none) := fe_of pg_206 rfl
set_option maxRecDepth 100000 in
theorem f_206_4 : fe 206 4 = some (.iload_n 1, 1, 12, none) := fe_of pg_206 rfl
set_option maxRecDepth 100000 in
theorem f_206_5 : fe 206 5 = some (.iaload, 1, 12, none) := fe_of pg_206 rfl
set_option maxRecDepth 100000 in
theorem f_206_6 : fe 206 6 = some (.iload_n 2, 1, 12, none) := fe_of pg_206 rfl
set_option maxRecDepth 100000 in
theorem f_206_7 : fe 206 7 = some (.if_icmp .ne 9, 3, 12, none) := fe_of pg_206 rfl
set_option maxRecDepth 100000 in
theorem f_206_10 : fe 206 10 = some (.aload_n 0, 1, 12, none) := fe_of pg_206 rfl
set_option maxRecDepth 100000 in
theorem f_206_11 : fe 206 11 = some (.iconst 3, 1, 12, none) := fe_of pg_206 rfl
set_option maxRecDepth 100000 in
theorem f_206_12 : fe 206 12 = some (.iload_n 3, 1, 12, none) := fe_of pg_206 rfl
set_option maxRecDepth 100000 in
theorem f_206_13 : fe 206 13 = some (.invokevirtual 165, 3, 12, none) := fe_of pg_206 rfl
set_option maxRecDepth 100000 in
theorem f_206_16 : fe 206 16 = some (.return_, 1, 12, none) := fe_of pg_206 rfl
set_option maxRecDepth 100000 in
theorem f_207_0 : fe 207 0 = some (.aload_n 0, 1, 12, some .boolean) := fe_of pg_207 rfl
set_option maxRecDepth 100000 in
theorem f_207_1 : fe 207 1 = some (.iconst 0, 1, 12, some .boolean) := fe_of pg_207 rfl
set_option maxRecDepth 100000 in
theorem f_207_2 : fe 207 2 = some (.iconst 0, 1, 12, some .boolean) := fe_of pg_207 rfl
set_option maxRecDepth 100000 in
theorem f_207_3 : fe 207 3 = some (.bipush 99, 2, 12, some .boolean) := fe_of pg_207 rfl
set_option maxRecDepth 100000 in
theorem f_207_5 : fe 207 5 = some (.invokevirtual 184, 3, 12, some .boolean) := fe_of pg_207 rfl
set_option maxRecDepth 100000 in
theorem f_207_8 : fe 207 8 = some (.ifCond .ne 5, 3, 12, some .boolean) := fe_of pg_207 rfl
set_option maxRecDepth 100000 in
theorem f_207_11 : fe 207 11 = some (.iconst 0, 1, 12, some .boolean) := fe_of pg_207 rfl
set_option maxRecDepth 100000 in
theorem f_207_12 : fe 207 12 = some (.ireturn, 1, 12, some .boolean) := fe_of pg_207 rfl
set_option maxRecDepth 100000 in
theorem f_207_13 : fe 207 13 = some (.aload_n 0, 1, 12, some .boolean) := fe_of pg_207 rfl
set_option maxRecDepth 100000 in
theorem f_207_14 : fe 207 14 = some (.getfield 38, 3, 12, some .boolean) := fe_of pg_207 rfl
set_option maxRecDepth 100000 in
theorem f_207_17 : fe 207 17 = some (.iconst 0, 1, 12, some .boolean) := fe_of pg_207 rfl
set_option maxRecDepth 100000 in
theorem f_207_18 : fe 207 18 = some (.iaload, 1, 12, some .boolean) := fe_of pg_207 rfl
set_option maxRecDepth 100000 in
theorem f_207_19 : fe 207 19 = some (.bipush 8, 2, 12, some .boolean) := fe_of pg_207 rfl
set_option maxRecDepth 100000 in
theorem f_207_21 : fe 207 21 = some (.if_icmp .ge 32, 3, 12, some .boolean) := fe_of pg_207 rfl
set_option maxRecDepth 100000 in
theorem f_207_24 : fe 207 24 = some (.aload_n 0, 1, 12, some .boolean) := fe_of pg_207 rfl
set_option maxRecDepth 100000 in
theorem f_207_25 : fe 207 25 = some (.getfield 38, 3, 12, some .boolean) := fe_of pg_207 rfl
set_option maxRecDepth 100000 in
theorem f_207_28 : fe 207 28 = some (.iconst 3, 1, 12, some .boolean) := fe_of pg_207 rfl
set_option maxRecDepth 100000 in
theorem f_207_29 : fe 207 29 = some (.aload_n 0, 1, 12, some .boolean) := fe_of pg_207 rfl
set_option maxRecDepth 100000 in
theorem f_207_30 : fe 207 30 = some (.getfield 38, 3, 12, some .boolean) := fe_of pg_207 rfl
set_option maxRecDepth 100000 in
theorem f_207_33 : fe 207 33 = some (.iconst 0, 1, 12, some .boolean) := fe_of pg_207 rfl
set_option maxRecDepth 100000 in
theorem f_207_34 : fe 207 34 = some (.iaload, 1, 12, some .boolean) := fe_of pg_207 rfl
set_option maxRecDepth 100000 in
theorem f_207_35 : fe 207 35 = some (.iadd, 1, 12, some .boolean) := fe_of pg_207 rfl
set_option maxRecDepth 100000 in
theorem f_207_36 : fe 207 36 = some (.aload_n 0, 1, 12, some .boolean) := fe_of pg_207 rfl
set_option maxRecDepth 100000 in
theorem f_207_37 : fe 207 37 = some (.getfield 41, 3, 12, some .boolean) := fe_of pg_207 rfl
set_option maxRecDepth 100000 in
theorem f_207_40 : fe 207 40 = some (.iconst 0, 1, 12, some .boolean) := fe_of pg_207 rfl
set_option maxRecDepth 100000 in
theorem f_207_41 : fe 207 41 = some (.iaload, 1, 12, some .boolean) := fe_of pg_207 rfl
set_option maxRecDepth 100000 in
theorem f_207_42 : fe 207 42 = some (.iastore, 1, 12, some .boolean) := fe_of pg_207 rfl
set_option maxRecDepth 100000 in
theorem f_207_43 : fe 207 43 = some (.aload_n 0, 1, 12, some .boolean) := fe_of pg_207 rfl
set_option maxRecDepth 100000 in
theorem f_207_44 : fe 207 44 = some (.getfield 38, 3, 12, some .boolean) := fe_of pg_207 rfl
set_option maxRecDepth 100000 in
theorem f_207_47 : fe 207 47 = some (.iconst 0, 1, 12, some .boolean) := fe_of pg_207 rfl
set_option maxRecDepth 100000 in
theorem f_207_48 : fe 207 48 = some (.dup2, 1, 12, some .boolean) := fe_of pg_207 rfl
set_option maxRecDepth 100000 in
theorem f_207_49 : fe 207 49 = some (.iaload, 1, 12, some .boolean) := fe_of pg_207 rfl
set_option maxRecDepth 100000 in
theorem f_207_50 : fe 207 50 = some (.iconst 1, 1, 12, some .boolean) := fe_of pg_207 rfl
set_option maxRecDepth 100000 in
theorem f_207_51 : fe 207 51 = some (.iadd, 1, 12, some .boolean) := fe_of pg_207 rfl
set_option maxRecDepth 100000 in
theorem f_207_52 : fe 207 52 = some (.iastore, 1, 12, some .boolean) := fe_of pg_207 rfl
set_option maxRecDepth 100000 in
theorem f_207_53 : fe 207 53 = some (.iconst 1, 1, 12, some .boolean) := fe_of pg_207 rfl
set_option maxRecDepth 100000 in
theorem f_207_54 : fe 207 54 = some (.ireturn, 1, 12, some .boolean) := fe_of pg_207 rfl
set_option maxRecDepth 100000 in
theorem f_208_0 : fe 208 0 = some (.aload_n 0, 1, 12, some .boolean) := fe_of pg_208 rfl
set_option maxRecDepth 100000 in
theorem f_208_1 : fe 208 1 = some (.iconst 0, 1, 12, some .boolean) := fe_of pg_208 rfl
set_option maxRecDepth 100000 in
theorem f_208_2 : fe 208 2 = some (.invokevirtual 187, 3, 12, some .boolean) := fe_of pg_208 rfl
set_option maxRecDepth 100000 in
theorem f_208_5 : fe 208 5 = some (.ifCond .eq 14, 3, 12, some .boolean) := fe_of pg_208 rfl
set_option maxRecDepth 100000 in
theorem f_208_8 : fe 208 8 = some (.aload_n 0, 1, 12, some .boolean) := fe_of pg_208 rfl
set_option maxRecDepth 100000 in
theorem f_208_9 : fe 208 9 = some (.iconst 1, 1, 12, some .boolean) := fe_of pg_208 rfl
set_option maxRecDepth 100000 in
theorem f_208_10 : fe 208 10 = some (.iconst 0, 1, 12, some .boolean) := fe_of pg_208 rfl
set_option maxRecDepth 100000 in
theorem f_208_11 : fe 208 11 = some (.bipush 60, 2, 12, some .boolean) := fe_of pg_208 rfl
set_option maxRecDepth 100000 in
theorem f_208_13 : fe 208 13 = some (.invokevirtual 184, 3, 12, some .boolean) := fe_of pg_208 rfl
set_option maxRecDepth 100000 in
theorem f_208_16 : fe 208 16 = some (.ifCond .ne 5, 3, 12, some .boolean) := fe_of pg_208 rfl
set_option maxRecDepth 100000 in
theorem f_208_19 : fe 208 19 = some (.iconst 0, 1, 12, some .boolean) := fe_of pg_208 rfl
set_option maxRecDepth 100000 in
theorem f_208_20 : fe 208 20 = some (.ireturn, 1, 12, some .boolean) := fe_of pg_208 rfl
set_option maxRecDepth 100000 in
theorem f_208_21 : fe 208 21 = some (.aload_n 0, 1, 12, some .boolean) := fe_of pg_208 rfl
set_option maxRecDepth 100000 in
theorem f_208_22 : fe 208 22 = some (.getfield 38, 3, 12, some .boolean) := fe_of pg_208 rfl
set_option maxRecDepth 100000 in
theorem f_208_25 : fe 208 25 = some (.iconst 2, 1, 12, some .boolean) := fe_of pg_208 rfl
set_option maxRecDepth 100000 in
theorem f_208_26 : fe 208 26 = some (.iaload, 1, 12, some .boolean) := fe_of pg_208 rfl
set_option maxRecDepth 100000 in
theorem f_208_27 : fe 208 27 = some (.bipush 8, 2, 12, some .boolean) := fe_of pg_208 rfl
set_option maxRecDepth 100000 in
theorem f_208_29 : fe 208 29 = some (.if_icmp .ge 53, 3, 12, some .boolean) := fe_of pg_208 rfl
set_option maxRecDepth 100000 in
theorem f_208_32 : fe 208 32 = some (.aload_n 0, 1, 12, some .boolean) := fe_of pg_208 rfl
set_option maxRecDepth 100000 in
theorem f_208_33 : fe 208 33 = some (.getfield 38, 3, 12, some .boolean) := fe_of pg_208 rfl
set_option maxRecDepth 100000 in
theorem f_208_36 : fe 208 36 = some (.bipush 11, 2, 12, some .boolean) := fe_of pg_208 rfl
set_option maxRecDepth 100000 in
theorem f_208_38 : fe 208 38 = some (.aload_n 0, 1, 12, some .boolean) := fe_of pg_208 rfl
set_option maxRecDepth 100000 in
theorem f_208_39 : fe 208 39 = some (.getfield 38, 3, 12, some .boolean) := fe_of pg_208 rfl
set_option maxRecDepth 100000 in
theorem f_208_42 : fe 208 42 = some (.iconst 2, 1, 12, some .boolean) := fe_of pg_208 rfl
set_option maxRecDepth 100000 in
theorem f_208_43 : fe 208 43 = some (.iaload, 1, 12, some .boolean) := fe_of pg_208 rfl
set_option maxRecDepth 100000 in
theorem f_208_44 : fe 208 44 = some (.iadd, 1, 12, some .boolean) := fe_of pg_208 rfl
set_option maxRecDepth 100000 in
theorem f_208_45 : fe 208 45 = some (.aload_n 0, 1, 12, some .boolean) := fe_of pg_208 rfl
set_option maxRecDepth 100000 in
theorem f_208_46 : fe 208 46 = some (.getfield 41, 3, 12, some .boolean) := fe_of pg_208 rfl
set_option maxRecDepth 100000 in
theorem f_208_49 : fe 208 49 = some (.iconst 0, 1, 12, some .boolean) := fe_of pg_208 rfl
set_option maxRecDepth 100000 in
theorem f_208_50 : fe 208 50 = some (.iaload, 1, 12, some .boolean) := fe_of pg_208 rfl
set_option maxRecDepth 100000 in
theorem f_208_51 : fe 208 51 = some (.iastore, 1, 12, some .boolean) := fe_of pg_208 rfl
set_option maxRecDepth 100000 in
theorem f_208_52 : fe 208 52 = some (.aload_n 0, 1, 12, some .boolean) := fe_of pg_208 rfl
set_option maxRecDepth 100000 in
theorem f_208_53 : fe 208 53 = some (.getfield 38, 3, 12, some .boolean) := fe_of pg_208 rfl
set_option maxRecDepth 100000 in
theorem f_208_56 : fe 208 56 = some (.bipush 19, 2, 12, some .boolean) := fe_of pg_208 rfl
set_option maxRecDepth 100000 in
theorem f_208_58 : fe 208 58 = some (.aload_n 0, 1, 12, some .boolean) := fe_of pg_208 rfl
set_option maxRecDepth 100000 in
theorem f_208_59 : fe 208 59 = some (.getfield 38, 3, 12, some .boolean) := fe_of pg_208 rfl
set_option maxRecDepth 100000 in
theorem f_208_62 : fe 208 62 = some (.iconst 2, 1, 12, some .boolean) := fe_of pg_208 rfl
set_option maxRecDepth 100000 in
theorem f_208_63 : fe 208 63 = some (.iaload, 1, 12, some .boolean) := fe_of pg_208 rfl
set_option maxRecDepth 100000 in
theorem f_208_64 : fe 208 64 = some (.iadd, 1, 12, some .boolean) := fe_of pg_208 rfl
set_option maxRecDepth 100000 in
theorem f_208_65 : fe 208 65 = some (.aload_n 0, 1, 12, some .boolean) := fe_of pg_208 rfl
set_option maxRecDepth 100000 in
theorem f_208_66 : fe 208 66 = some (.getfield 41, 3, 12, some .boolean) := fe_of pg_208 rfl
set_option maxRecDepth 100000 in
theorem f_208_69 : fe 208 69 = some (.iconst 1, 1, 12, some .boolean) := fe_of pg_208 rfl
set_option maxRecDepth 100000 in
theorem f_208_70 : fe 208 70 = some (.iaload, 1, 12, some .boolean) := fe_of pg_208 rfl
set_option maxRecDepth 100000 in
theorem f_208_71 : fe 208 71 = some (.iastore, 1, 12, some .boolean) := fe_of pg_208 rfl
set_option maxRecDepth 100000 in
theorem f_208_72 : fe 208 72 = some (.aload_n 0, 1, 12, some .boolean) := fe_of pg_208 rfl
set_option maxRecDepth 100000 in
theorem f_208_73 : fe 208 73 = some (.getfield 38, 3, 12, some .boolean) := fe_of pg_208 rfl
set_option maxRecDepth 100000 in
theorem f_208_76 : fe 208 76 = some (.iconst 2, 1, 12, some .boolean) := fe_of pg_208 rfl
set_option maxRecDepth 100000 in
theorem f_208_77 : fe 208 77 = some (.dup2, 1, 12, some .boolean) := fe_of pg_208 rfl
set_option maxRecDepth 100000 in
theorem f_208_78 : fe 208 78 = some (.iaload, 1, 12, some .boolean) := fe_of pg_208 rfl
set_option maxRecDepth 100000 in
theorem f_208_79 : fe 208 79 = some (.iconst 1, 1, 12, some .boolean) := fe_of pg_208 rfl
set_option maxRecDepth 100000 in
theorem f_208_80 : fe 208 80 = some (.iadd, 1, 12, some .boolean) := fe_of pg_208 rfl
set_option maxRecDepth 100000 in
theorem f_208_81 : fe 208 81 = some (.iastore, 1, 12, some .boolean) := fe_of pg_208 rfl
set_option maxRecDepth 100000 in
theorem f_208_82 : fe 208 82 = some (.iconst 1, 1, 12, some .boolean) := fe_of pg_208 rfl
set_option maxRecDepth 100000 in
theorem f_208_83 : fe 208 83 = some (.ireturn, 1, 12, some .boolean) := fe_of pg_208 rfl
set_option maxRecDepth 100000 in
theorem f_209_0 : fe 209 0 = some (.aload_n 0, 1, 12, some .boolean) := fe_of pg_209 rfl
set_option maxRecDepth 100000 in
theorem f_209_1 : fe 209 1 = some (.iconst 0, 1, 12, some .boolean) := fe_of pg_209 rfl
set_option maxRecDepth 100000 in
theorem f_209_2 : fe 209 2 = some (.invokevirtual 187, 3, 12, some .boolean) := fe_of pg_209 rfl
set_option maxRecDepth 100000 in
theorem f_209_5 : fe 209 5 = some (.ifCond .eq 14, 3, 12, some .boolean) := fe_of pg_209 rfl
set_option maxRecDepth 100000 in
theorem f_209_8 : fe 209 8 = some (.aload_n 0, 1, 12, some .boolean) := fe_of pg_209 rfl
set_option maxRecDepth 100000 in
theorem f_209_9 : fe 209 9 = some (.iconst 1, 1, 12, some .boolean) := fe_of pg_209 rfl
set_option maxRecDepth 100000 in
theorem f_209_10 : fe 209 10 = some (.iconst 0, 1, 12, some .boolean) := fe_of pg_209 rfl
set_option maxRecDepth 100000 in
theorem f_209_11 : fe 209 11 = some (.bipush 9, 2, 12, some .boolean) := fe_of pg_209 rfl
set_option maxRecDepth 100000 in
theorem f_209_13 : fe 209 13 = some (.invokevirtual 184, 3, 12, some .boolean) := fe_of pg_209 rfl
set_option maxRecDepth 100000 in
theorem f_209_16 : fe 209 16 = some (.ifCond .ne 5, 3, 12, some .boolean) := fe_of pg_209 rfl
set_option maxRecDepth 100000 in
theorem f_209_19 : fe 209 19 = some (.iconst 0, 1, 12, some .boolean) := fe_of pg_209 rfl
set_option maxRecDepth 100000 in
theorem f_209_20 : fe 209 20 = some (.ireturn, 1, 12, some .boolean) := fe_of pg_209 rfl
set_option maxRecDepth 100000 in
theorem f_209_21 : fe 209 21 = some (.aload_n 0, 1, 12, some .boolean) := fe_of pg_209 rfl
set_option maxRecDepth 100000 in
theorem f_209_22 : fe 209 22 = some (.getfield 169, 3, 12, some .boolean) := fe_of pg_209 rfl
set_option maxRecDepth 100000 in
theorem f_209_25 : fe 209 25 = some (.ifCond .eq 23, 3, 12, some .boolean) := fe_of pg_209 rfl
set_option maxRecDepth 100000 in
theorem f_209_28 : fe 209 28 = some (.aload_n 0, 1, 12, some .boolean) := fe_of pg_209 rfl
set_option maxRecDepth 100000 in
theorem f_209_29 : fe 209 29 = some (.getfield 38, 3, 12, some .boolean) := fe_of pg_209 rfl
set_option maxRecDepth 100000 in
theorem f_209_32 : fe 209 32 = some (.bipush 27, 2, 12, some .boolean) := fe_of pg_209 rfl
set_option maxRecDepth 100000 in
theorem f_209_34 : fe 209 34 = some (.aload_n 0, 1, 12, some .boolean) := fe_of pg_209 rfl
set_option maxRecDepth 100000 in
theorem f_209_35 : fe 209 35 = some (.getfield 41, 3, 12, some .boolean) := fe_of pg_209 rfl
set_option maxRecDepth 100000 in
theorem f_209_38 : fe 209 38 = some (.iconst 0, 1, 12, some .boolean) := fe_of pg_209 rfl
set_option maxRecDepth 100000 in
theorem f_209_39 : fe 209 39 = some (.iaload, 1, 12, some .boolean) := fe_of pg_209 rfl
set_option maxRecDepth 100000 in
theorem f_209_40 : fe 209 40 = some (.iadd, 1, 12, some .boolean) := fe_of pg_209 rfl
set_option maxRecDepth 100000 in
theorem f_209_41 : fe 209 41 = some (.aload_n 0, 1, 12, some .boolean) := fe_of pg_209 rfl
set_option maxRecDepth 100000 in
theorem f_209_42 : fe 209 42 = some (.getfield 41, 3, 12, some .boolean) := fe_of pg_209 rfl
set_option maxRecDepth 100000 in
theorem f_209_45 : fe 209 45 = some (.iconst 1, 1, 12, some .boolean) := fe_of pg_209 rfl
set_option maxRecDepth 100000 in
theorem f_209_46 : fe 209 46 = some (.iaload, 1, 12, some .boolean) := fe_of pg_209 rfl
set_option maxRecDepth 100000 in
theorem f_209_47 : fe 209 47 = some (.iastore, 1, 12, some .boolean) := fe_of pg_209 rfl
set_option maxRecDepth 100000 in
theorem f_209_48 : fe 209 48 = some (.iconst 1, 1, 12, some .boolean) := fe_of pg_209 rfl
set_option maxRecDepth 100000 in
theorem f_209_49 : fe 209 49 = some (.ireturn, 1, 12, some .boolean) := fe_of pg_209 rfl
set_option maxRecDepth 100000 in
theorem f_210_0 : fe 210 0 = some (.aload_n 0, 1, 12, some .boolean) := fe_of pg_210 rfl
set_option maxRecDepth 100000 in
theorem f_210_1 : fe 210 1 = some (.iconst 0, 1, 12, some .boolean) := fe_of pg_210 rfl
set_option maxRecDepth 100000 in
theorem f_210_2 : fe 210 2 = some (.iconst 1, 1, 12, some .boolean) := fe_of pg_210 rfl
set_option maxRecDepth 100000 in
theorem f_210_3 : fe 210 3 = some (.bipush 8, 2, 12, some .boolean) := fe_of pg_210 rfl
set_option maxRecDepth 100000 in
theorem f_210_5 : fe 210 5 = some (.invokevirtual 184, 3, 12, some .boolean) := fe_of pg_210 rfl
set_option maxRecDepth 100000 in
theorem f_210_8 : fe 210 8 = some (.ifCond .eq 14, 3, 12, some .boolean) := fe_of pg_210 rfl
set_option maxRecDepth 100000 in
theorem f_210_11 : fe 210 11 = some (.aload_n 0, 1, 12, some .boolean) := fe_of pg_210 rfl
set_option maxRecDepth 100000 in
theorem f_210_12 : fe 210 12 = some (.iconst 1, 1, 12, some .boolean) := fe_of pg_210 rfl
set_option maxRecDepth 100000 in
theorem f_210_13 : fe 210 13 = some (.iconst 0, 1, 12, some .boolean) := fe_of pg_210 rfl
set_option maxRecDepth 100000 in
theorem f_210_14 : fe 210 14 = some (.bipush 99, 2, 12, some .boolean) := fe_of pg_210 rfl
set_option maxRecDepth 100000 in
theorem f_210_16 : fe 210 16 = some (.invokevirtual 184, 3, 12, some .boolean) := fe_of pg_210 rfl
set_option maxRecDepth 100000 in
theorem f_210_19 : fe 210 19 = some (.ifCond .ne 5, 3, 12, some .boolean) := fe_of pg_210 rfl
set_option maxRecDepth 100000 in
theorem f_210_22 : fe 210 22 = some (.iconst 0, 1, 12, some .boolean) := fe_of pg_210 rfl
set_option maxRecDepth 100000 in
theorem f_210_23 : fe 210 23 = some (.ireturn, 1, 12, some .boolean) := fe_of pg_210 rfl
set_option maxRecDepth 100000 in
theorem f_210_24 : fe 210 24 = some (.aload_n 0, 1, 12, some .boolean) := fe_of pg_210 rfl
set_option maxRecDepth 100000 in
theorem f_210_25 : fe 210 25 = some (.getfield 169, 3, 12, some .boolean) := fe_of pg_210 rfl
set_option maxRecDepth 100000 in
theorem f_210_28 : fe 210 28 = some (.ifCond .eq 25, 3, 12, some .boolean) := fe_of pg_210 rfl
set_option maxRecDepth 100000 in
theorem f_210_31 : fe 210 31 = some (.aload_n 0, 1, 12, some .boolean) := fe_of pg_210 rfl
set_option maxRecDepth 100000 in
theorem f_210_32 : fe 210 32 = some (.getfield 38, 3, 12, some .boolean) := fe_of pg_210 rfl
set_option maxRecDepth 100000 in
theorem f_210_35 : fe 210 35 = some (.bipush 31, 2, 12, some .boolean) := fe_of pg_210 rfl
set_option maxRecDepth 100000 in
theorem f_210_37 : fe 210 37 = some (.aload_n 0, 1, 12, some .boolean) := fe_of pg_210 rfl
set_option maxRecDepth 100000 in
theorem f_210_38 : fe 210 38 = some (.getfield 41, 3, 12, some .boolean) := fe_of pg_210 rfl
set_option maxRecDepth 100000 in
theorem f_210_41 : fe 210 41 = some (.iconst 0, 1, 12, some .boolean) := fe_of pg_210 rfl
set_option maxRecDepth 100000 in
theorem f_210_42 : fe 210 42 = some (.iaload, 1, 12, some .boolean) := fe_of pg_210 rfl
set_option maxRecDepth 100000 in
theorem f_210_43 : fe 210 43 = some (.iadd, 1, 12, some .boolean) := fe_of pg_210 rfl
set_option maxRecDepth 100000 in
theorem f_210_44 : fe 210 44 = some (.iconst 1, 1, 12, some .boolean) := fe_of pg_210 rfl
set_option maxRecDepth 100000 in
theorem f_210_45 : fe 210 45 = some (.isub, 1, 12, some .boolean) := fe_of pg_210 rfl
set_option maxRecDepth 100000 in
theorem f_210_46 : fe 210 46 = some (.aload_n 0, 1, 12, some .boolean) := fe_of pg_210 rfl
set_option maxRecDepth 100000 in
theorem f_210_47 : fe 210 47 = some (.getfield 41, 3, 12, some .boolean) := fe_of pg_210 rfl
set_option maxRecDepth 100000 in
theorem f_210_50 : fe 210 50 = some (.iconst 1, 1, 12, some .boolean) := fe_of pg_210 rfl
set_option maxRecDepth 100000 in
theorem f_210_51 : fe 210 51 = some (.iaload, 1, 12, some .boolean) := fe_of pg_210 rfl
set_option maxRecDepth 100000 in
theorem f_210_52 : fe 210 52 = some (.iastore, 1, 12, some .boolean) := fe_of pg_210 rfl
set_option maxRecDepth 100000 in
theorem f_210_53 : fe 210 53 = some (.iconst 1, 1, 12, some .boolean) := fe_of pg_210 rfl
set_option maxRecDepth 100000 in
theorem f_210_54 : fe 210 54 = some (.ireturn, 1, 12, some .boolean) := fe_of pg_210 rfl
set_option maxRecDepth 100000 in
theorem f_211_0 : fe 211 0 = some (.lload_n 1, 1, 12, some .boolean) := fe_of pg_211 rfl
set_option maxRecDepth 100000 in
theorem f_211_1 : fe 211 1 = some (.ldc2_w 191, 3, 12, some .boolean) := fe_of pg_211 rfl
set_option maxRecDepth 100000 in
theorem f_211_4 : fe 211 4 = some (.lcmp, 1, 12, some .boolean) := fe_of pg_211 rfl
set_option maxRecDepth 100000 in
theorem f_211_5 : fe 211 5 = some (.ifCond .eq 40, 3, 12, some .boolean) := fe_of pg_211 rfl
set_option maxRecDepth 100000 in
theorem f_211_8 : fe 211 8 = some (.lload_n 1, 1, 12, some .boolean) := fe_of pg_211 rfl
set_option maxRecDepth 100000 in
theorem f_211_9 : fe 211 9 = some (.ldc2_w 193, 3, 12, some .boolean) := fe_of pg_211 rfl
set_option maxRecDepth 100000 in
theorem f_211_12 : fe 211 12 = some (.lcmp, 1, 12, some .boolean) := fe_of pg_211 rfl
set_option maxRecDepth 100000 in
theorem f_211_13 : fe 211 13 = some (.ifCond .eq 32, 3, 12, some .boolean) := fe_of pg_211 rfl
set_option maxRecDepth 100000 in
theorem f_211_16 : fe 211 16 = some (.lload_n 1, 1, 12, some .boolean) := fe_of pg_211 rfl
set_option maxRecDepth 100000 in
theorem f_211_17 : fe 211 17 = some (.ldc2_w 195, 3, 12, some .boolean) := fe_of pg_211 rfl
set_option maxRecDepth 100000 in
theorem f_211_20 : fe 211 20 = some (.lcmp, 1, 12, some .boolean) := fe_of pg_211 rfl
set_option maxRecDepth 100000 in
theorem f_211_21 : fe 211 21 = some (.ifCond .eq 24, 3, 12, some .boolean) := fe_of pg_211 rfl
set_option maxRecDepth 100000 in
theorem f_211_24 : fe 211 24 = some (.lload_n 1, 1, 12, some .boolean) := fe_of pg_211 rfl
set_option maxRecDepth 100000 in
theorem f_211_25 : fe 211 25 = some (.ldc2_w 197, 3, 12, some .boolean) := fe_of pg_211 rfl
set_option maxRecDepth 100000 in
theorem f_211_28 : fe 211 28 = some (.lcmp, 1, 12, some .boolean) := fe_of pg_211 rfl
set_option maxRecDepth 100000 in
theorem f_211_29 : fe 211 29 = some (.ifCond .eq 16, 3, 12, some .boolean) := fe_of pg_211 rfl
set_option maxRecDepth 100000 in
theorem f_211_32 : fe 211 32 = some (.lload_n 1, 1, 12, some .boolean) := fe_of pg_211 rfl
set_option maxRecDepth 100000 in
theorem f_211_33 : fe 211 33 = some (.ldc2_w 199, 3, 12, some .boolean) := fe_of pg_211 rfl
set_option maxRecDepth 100000 in
theorem f_211_36 : fe 211 36 = some (.lcmp, 1, 12, some .boolean) := fe_of pg_211 rfl
set_option maxRecDepth 100000 in
theorem f_211_37 : fe 211 37 = some (.ifCond .eq 8, 3, 12, some .boolean) := fe_of pg_211 rfl
set_option maxRecDepth 100000 in
theorem f_211_40 : fe 211 40 = some (.aload_n 0, 1, 12, some .boolean) := fe_of pg_211 rfl
set_option maxRecDepth 100000 in
theorem f_211_41 : fe 211 41 = some (.invokevirtual 161, 3, 12, some .boolean) := fe_of pg_211 rfl
set_option maxRecDepth 100000 in
theorem f_211_44 : fe 211 44 = some (.ireturn, 1, 12, some .boolean) := fe_of pg_211 rfl
set_option maxRecDepth 100000 in
theorem f_211_45 : fe 211 45 = some (.lload_n 1, 1, 12, some .boolean) := fe_of pg_211 rfl
set_option maxRecDepth 100000 in
theorem f_211_46 : fe 211 46 = some (.ldc2_w 191, 3, 12, some .boolean) := fe_of pg_211 rfl
set_option maxRecDepth 100000 in
theorem f_211_49 : fe 211 49 = some (.lcmp, 1, 12, some .boolean) := fe_of pg_211 rfl
set_option maxRecDepth 100000 in
theorem f_211_50 : fe 211 50 = some (.ifCond .ne 11, 3, 12, some .boolean) := fe_of pg_211 rfl
set_option maxRecDepth 100000 in
theorem f_211_53 : fe 211 53 = some (.aload_n 0, 1, 12, some .boolean) := fe_of pg_211 rfl
set_option maxRecDepth 100000 in
theorem f_211_54 : fe 211 54 = some (.iconst 0, 1, 12, some .boolean) := fe_of pg_211 rfl
set_option maxRecDepth 100000 in
theorem f_211_55 : fe 211 55 = some (.bipush 8, 2, 12, some .boolean) := fe_of pg_211 rfl
set_option maxRecDepth 100000 in
theorem f_211_57 : fe 211 57 = some (.iload_n 3, 1, 12, some .boolean) := fe_of pg_211 rfl
set_option maxRecDepth 100000 in
theorem f_211_58 : fe 211 58 = some (.invokevirtual 201, 3, 12, some .boolean) := fe_of pg_211 rfl
set_option maxRecDepth 100000 in
theorem f_211_61 : fe 211 61 = some (.lload_n 1, 1, 12, some .boolean) := fe_of pg_211 rfl
set_option maxRecDepth 100000 in
theorem f_211_62 : fe 211 62 = some (.ldc2_w 195, 3, 12, some .boolean) := fe_of pg_211 rfl
set_option maxRecDepth 100000 in
theorem f_211_65 : fe 211 65 = some (.lcmp, 1, 12, some .boolean) := fe_of pg_211 rfl
set_option maxRecDepth 100000 in
theorem f_211_66 : fe 211 66 = some (.ifCond .ne 11, 3, 12, some .boolean) := fe_of pg_211 rfl
set_option maxRecDepth 100000 in
theorem f_211_69 : fe 211 69 = some (.aload_n 0, 1, 12, some .boolean) := fe_of pg_211 rfl
set_option maxRecDepth 100000 in
theorem f_211_70 : fe 211 70 = some (.iconst 2, 1, 12, some .boolean) := fe_of pg_211 rfl
set_option maxRecDepth 100000 in
theorem f_211_71 : fe 211 71 = some (.bipush 8, 2, 12, some .boolean) := fe_of pg_211 rfl
set_option maxRecDepth 100000 in
theorem f_211_73 : fe 211 73 = some (.iload_n 3, 1, 12, some .boolean) := fe_of pg_211 rfl
set_option maxRecDepth 100000 in
theorem f_211_74 : fe 211 74 = some (.invokevirtual 201, 3, 12, some .boolean) := fe_of pg_211 rfl
set_option maxRecDepth 100000 in
theorem f_211_77 : fe 211 77 = some (.aload_n 0, 1, 12, some .boolean) := fe_of pg_211 rfl
set_option maxRecDepth 100000 in
theorem f_211_78 : fe 211 78 = some (.invokevirtual 173, 3, 12, some .boolean) := fe_of pg_211 rfl
set_option maxRecDepth 100000 in
theorem f_211_81 : fe 211 81 = some (.lload_n 1, 1, 12, some .boolean) := fe_of pg_211 rfl
set_option maxRecDepth 100000 in
theorem f_211_82 : fe 211 82 = some (.ldc2_w 193, 3, 12, some .boolean) := fe_of pg_211 rfl
set_option maxRecDepth 100000 in
theorem f_211_85 : fe 211 85 = some (.lcmp, 1, 12, some .boolean) := fe_of pg_211 rfl
set_option maxRecDepth 100000 in
theorem f_211_86 : fe 211 86 = some (.ifCond .eq 53, 3, 12, some .boolean) := fe_of pg_211 rfl
set_option maxRecDepth 100000 in
theorem f_211_89 : fe 211 89 = some (.lload_n 1, 1, 12, some .boolean) := fe_of pg_211 rfl
set_option maxRecDepth 100000 in
theorem f_211_90 : fe 211 90 = some (.ldc2_w 191, 3, 12, some .boolean) := fe_of pg_211 rfl
set_option maxRecDepth 100000 in
theorem f_211_93 : fe 211 93 = some (.lcmp, 1, 12, some .boolean) := fe_of pg_211 rfl
set_option maxRecDepth 100000 in
theorem f_211_94 : fe 211 94 = some (.ifCond .ne 10, 3, 12, some .boolean) := fe_of pg_211 rfl
set_option maxRecDepth 100000 in
theorem f_211_97 : fe 211 97 = some (.aload_n 0, 1, 12, some .boolean) := fe_of pg_211 rfl
set_option maxRecDepth 100000 in
theorem f_211_98 : fe 211 98 = some (.invokevirtual 205, 3, 12, some .boolean) := fe_of pg_211 rfl
set_option maxRecDepth 100000 in
theorem f_211_101 : fe 211 101 = some (.goto 37, 3, 12, some .boolean) := fe_of pg_211 rfl
set_option maxRecDepth 100000 in
theorem f_211_104 : fe 211 104 = some (.lload_n 1, 1, 12, some .boolean) := fe_of pg_211 rfl
set_option maxRecDepth 100000 in
theorem f_211_105 : fe 211 105 = some (.ldc2_w 195, 3, 12, some .boolean) := fe_of pg_211 rfl
set_option maxRecDepth 100000 in
theorem f_211_108 : fe 211 108 = some (.lcmp, 1, 12, some .boolean) := fe_of pg_211 rfl
set_option maxRecDepth 100000 in
theorem f_211_109 : fe 211 109 = some (.ifCond .ne 10, 3, 12, some .boolean) := fe_of pg_211 rfl
set_option maxRecDepth 100000 in
theorem f_211_112 : fe 211 112 = some (.aload_n 0, 1, 12, some .boolean) := fe_of pg_211 rfl
set_option maxRecDepth 100000 in
theorem f_211_113 : fe 211 113 = some (.invokevirtual 208, 3, 12, some .boolean) := fe_of pg_211 rfl
set_option maxRecDepth 100000 in
theorem f_211_116 : fe 211 116 = some (.goto 22, 3, 12, some .boolean) := fe_of pg_211 rfl
set_option maxRecDepth 100000 in
theorem f_211_119 : fe 211 119 = some (.lload_n 1, 1, 12, some .boolean) := fe_of pg_211 rfl
set_option maxRecDepth 100000 in
theorem f_211_120 : fe 211 120 = some (.ldc2_w 197, 3, 12, some .boolean) := fe_of pg_211 rfl
set_option maxRecDepth 100000 in
theorem f_211_123 : fe 211 123 = some (.lcmp, 1, 12, some .boolean) := fe_of pg_211 rfl
set_option maxRecDepth 100000 in
theorem f_211_124 : fe 211 124 = some (.ifCond .ne 10, 3, 12, some .boolean) := fe_of pg_211 rfl
set_option maxRecDepth 100000 in
theorem f_211_127 : fe 211 127 = some (.aload_n 0, 1, 12, some .boolean) := fe_of pg_211 rfl
set_option maxRecDepth 100000 in
theorem f_211_128 : fe 211 128 = some (.invokevirtual 211, 3, 12, some .boolean) := fe_of pg_211 rfl
set_option maxRecDepth 100000 in
theorem f_211_131 : fe 211 131 = some (.goto 7, 3, 12, some .boolean) := fe_of pg_211 rfl
set_option maxRecDepth 100000 in
theorem f_211_134 : fe 211 134 = some (.aload_n 0, 1, 12, some .boolean) := fe_of pg_211 rfl
set_option maxRecDepth 100000 in
theorem f_211_135 : fe 211 135 = some (.invokevirtual 214, 3, 12, some .boolean) := fe_of pg_211 rfl
set_option maxRecDepth 100000 in
theorem f_211_138 : fe 211 138 = some (.ireturn, 1, 12, some .boolean) := fe_of pg_211 rfl
set_option maxRecDepth 100000 in
theorem f_211_139 : fe 211 139 = some (.aload_n 0, 1, 12, some .boolean) := fe_of pg_211 rfl
set_option maxRecDepth 100000 in
theorem f_211_140 : fe 211 140 = some (.iconst 0, 1, 12, some .boolean) := fe_of pg_211 rfl
set_option maxRecDepth 100000 in
theorem f_211_141 : fe 211 141 = some (.iconst 1, 1, 12, some .boolean) := fe_of pg_211 rfl
set_option maxRecDepth 100000 in
theorem f_211_142 : fe 211 142 = some (.bipush 6, 2, 12, some .boolean) := fe_of pg_211 rfl
set_option maxRecDepth 100000 in
theorem f_211_144 : fe 211 144 = some (.invokevirtual 184, 3, 12, some .boolean) := fe_of pg_211 rfl
set_option maxRecDepth 100000 in
theorem f_211_147 : fe 211 147 = some (.ifCond .ne 5, 3, 12, some .boolean) := fe_of pg_211 rfl
set_option maxRecDepth 100000 in
theorem f_211_150 : fe 211 150 = some (.iconst 0, 1, 12, some .boolean) := fe_of pg_211 rfl
set_option maxRecDepth 100000 in
theorem f_211_151 : fe 211 151 = some (.ireturn, 1, 12, some .boolean) := fe_of pg_211 rfl
set_option maxRecDepth 100000 in
theorem f_211_152 : fe 211 152 = some (.aload_n 0, 1, 12, some .boolean) := fe_of pg_211 rfl
set_option maxRecDepth 100000 in
theorem f_211_153 : fe 211 153 = some (.getfield 38, 3, 12, some .boolean) := fe_of pg_211 rfl
set_option maxRecDepth 100000 in
theorem f_211_156 : fe 211 156 = some (.iconst 1, 1, 12, some .boolean) := fe_of pg_211 rfl
set_option maxRecDepth 100000 in
theorem f_211_157 : fe 211 157 = some (.aload_n 0, 1, 12, some .boolean) := fe_of pg_211 rfl
set_option maxRecDepth 100000 in
theorem f_211_158 : fe 211 158 = some (.getfield 41, 3, 12, some .boolean) := fe_of pg_211 rfl
set_option maxRecDepth 100000 in
theorem f_211_161 : fe 211 161 = some (.iconst 0, 1, 12, some .boolean) := fe_of pg_211 rfl
set_option maxRecDepth 100000 in
theorem f_211_162 : fe 211 162 = some (.iaload, 1, 12, some .boolean) := fe_of pg_211 rfl
set_option maxRecDepth 100000 in
theorem f_211_163 : fe 211 163 = some (.iastore, 1, 12, some .boolean) := fe_of pg_211 rfl
set_option maxRecDepth 100000 in
theorem f_211_164 : fe 211 164 = some (.iconst 1, 1, 12, some .boolean) := fe_of pg_211 rfl
set_option maxRecDepth 100000 in
theorem f_211_165 : fe 211 165 = some (.ireturn, 1, 12, some .boolean) := fe_of pg_211 rfl
set_option maxRecDepth 100000 in
theorem f_212_0 : fe 212 0 = some (.lload_n 0, 1, 12, some .int) := fe_of pg_212 rfl
set_option maxRecDepth 100000 in
theorem f_212_1 : fe 212 1 = some (.ldc2_w 217, 3, 12, some .int) := fe_of pg_212 rfl
set_option maxRecDepth 100000 in
theorem f_212_4 : fe 212 4 = some (.lcmp, 1, 12, some .int) := fe_of pg_212 rfl
set_option maxRecDepth 100000 in
theorem f_212_5 : fe 212 5 = some (.ifCond .eq 19, 3, 12, some .int) := fe_of pg_212 rfl
set_option maxRecDepth 100000 in
theorem f_212_8 : fe 212 8 = some (.lload_n 0, 1, 12, some .int) := fe_of pg_212 rfl
set_option maxRecDepth 100000 in
theorem f_212_9 : fe 212 9 = some (.ldc2_w 219, 3, 12, some .int) := fe_of pg_212 rfl
set_option maxRecDepth 100000 in
theorem f_212_12 : fe 212 12 = some (.lcmp, 1, 12, some .int) := fe_of pg_212 rfl
set_option maxRecDepth 100000 in
theorem f_212_13 : fe 212 13 = some (.ifCond .eq 11, 3, 12, some .int) := fe_of pg_212 rfl
set_option maxRecDepth 100000 in
theorem f_212_16 : fe 212 16 = some (.lload_n 0, 1, 12, some .int) := fe_of pg_212 rfl
set_option maxRecDepth 100000 in
theorem f_212_17 : fe 212 17 = some (.ldc2_w 221, 3, 12, some .int) := fe_of pg_212 rfl
set_option maxRecDepth 100000 in
theorem f_212_20 : fe 212 20 = some (.lcmp, 1, 12, some .int) := fe_of pg_212 rfl
set_option maxRecDepth 100000 in
theorem f_212_21 : fe 212 21 = some (.ifCond .ne 29, 3, 12, some .int) := fe_of pg_212 rfl
set_option maxRecDepth 100000 in
theorem f_212_24 : fe 212 24 = some (.lload_n 0, 1, 12, some .int) := fe_of pg_212 rfl
set_option maxRecDepth 100000 in
theorem f_212_25 : fe 212 25 = some (.ldc2_w 217, 3, 12, some .int) := fe_of pg_212 rfl
set_option maxRecDepth 100000 in
theorem f_212_28 : fe 212 28 = some (.lcmp, 1, 12, some .int) := fe_of pg_212 rfl
set_option maxRecDepth 100000 in
theorem f_212_29 : fe 212 29 = some (.ifCond .ne 7, 3, 12, some .int) := fe_of pg_212 rfl
set_option maxRecDepth 100000 in
theorem f_212_32 : fe 212 32 = some (.iconst 0, 1, 12, some .int) := fe_of pg_212 rfl
set_option maxRecDepth 100000 in
theorem f_212_33 : fe 212 33 = some (.goto 16, 3, 12, some .int) := fe_of pg_212 rfl
set_option maxRecDepth 100000 in
theorem f_212_36 : fe 212 36 = some (.lload_n 0, 1, 12, some .int) := fe_of pg_212 rfl
set_option maxRecDepth 100000 in
theorem f_212_37 : fe 212 37 = some (.ldc2_w 219, 3, 12, some .int) := fe_of pg_212 rfl
set_option maxRecDepth 100000 in
theorem f_212_40 : fe 212 40 = some (.lcmp, 1, 12, some .int) := fe_of pg_212 rfl
set_option maxRecDepth 100000 in
theorem f_212_41 : fe 212 41 = some (.ifCond .ne 7, 3, 12, some .int) := fe_of pg_212 rfl
set_option maxRecDepth 100000 in
theorem f_212_44 : fe 212 44 = some (.iconst 1, 1, 12, some .int) := fe_of pg_212 rfl
set_option maxRecDepth 100000 in
theorem f_212_45 : fe 212 45 = some (.goto 4, 3, 12, some .int) := fe_of pg_212 rfl
set_option maxRecDepth 100000 in
theorem f_212_48 : fe 212 48 = some (.iconst 2, 1, 12, some .int) := fe_of pg_212 rfl
set_option maxRecDepth 100000 in
theorem f_212_49 : fe 212 49 = some (.ireturn, 1, 12, some .int) := fe_of pg_212 rfl
set_option maxRecDepth 100000 in
theorem f_212_50 : fe 212 50 = some (.lload_n 0, 1, 12, some .int) := fe_of pg_212 rfl
set_option maxRecDepth 100000 in
theorem f_212_51 : fe 212 51 = some (.ldc2_w 223, 3, 12, some .int) := fe_of pg_212 rfl
set_option maxRecDepth 100000 in
theorem f_212_54 : fe 212 54 = some (.lcmp, 1, 12, some .int) := fe_of pg_212 rfl
set_option maxRecDepth 100000 in
theorem f_212_55 : fe 212 55 = some (.ifCond .eq 11, 3, 12, some .int) := fe_of pg_212 rfl
set_option maxRecDepth 100000 in
theorem f_212_58 : fe 212 58 = some (.lload_n 0, 1, 12, some .int) := fe_of pg_212 rfl
set_option maxRecDepth 100000 in
theorem f_212_59 : fe 212 59 = some (.ldc2_w 225, 3, 12, some .int) := fe_of pg_212 rfl
set_option maxRecDepth 100000 in
theorem f_212_62 : fe 212 62 = some (.lcmp, 1, 12, some .int) := fe_of pg_212 rfl
set_option maxRecDepth 100000 in
theorem f_212_63 : fe 212 63 = some (.ifCond .ne 17, 3, 12, some .int) := fe_of pg_212 rfl
set_option maxRecDepth 100000 in
theorem f_212_66 : fe 212 66 = some (.lload_n 0, 1, 12, some .int) := fe_of pg_212 rfl
set_option maxRecDepth 100000 in
theorem f_212_67 : fe 212 67 = some (.ldc2_w 223, 3, 12, some .int) := fe_of pg_212 rfl
set_option maxRecDepth 100000 in
theorem f_212_70 : fe 212 70 = some (.lcmp, 1, 12, some .int) := fe_of pg_212 rfl
set_option maxRecDepth 100000 in
theorem f_212_71 : fe 212 71 = some (.ifCond .ne 7, 3, 12, some .int) := fe_of pg_212 rfl
set_option maxRecDepth 100000 in
theorem f_212_74 : fe 212 74 = some (.iconst 3, 1, 12, some .int) := fe_of pg_212 rfl
set_option maxRecDepth 100000 in
theorem f_212_75 : fe 212 75 = some (.goto 4, 3, 12, some .int) := fe_of pg_212 rfl
set_option maxRecDepth 100000 in
theorem f_212_78 : fe 212 78 = some (.iconst 4, 1, 12, some .int) := fe_of pg_212 rfl
set_option maxRecDepth 100000 in
theorem f_212_79 : fe 212 79 = some (.ireturn, 1, 12, some .int) := fe_of pg_212 rfl
set_option maxRecDepth 100000 in
theorem f_212_80 : fe 212 80 = some (.lload_n 0, 1, 12, some .int) := fe_of pg_212 rfl
set_option maxRecDepth 100000 in
theorem f_212_81 : fe 212 81 = some (.ldc2_w 227, 3, 12, some .int) := fe_of pg_212 rfl
set_option maxRecDepth 100000 in
theorem f_212_84 : fe 212 84 = some (.lcmp, 1, 12, some .int) := fe_of pg_212 rfl
set_option maxRecDepth 100000 in
theorem f_212_85 : fe 212 85 = some (.ifCond .ne 7, 3, 12, some .int) := fe_of pg_212 rfl
set_option maxRecDepth 100000 in
theorem f_212_88 : fe 212 88 = some (.iconst 5, 1, 12, some .int) := fe_of pg_212 rfl
set_option maxRecDepth 100000 in
theorem f_212_89 : fe 212 89 = some (.goto 30, 3, 12, some .int) := fe_of pg_212 rfl
set_option maxRecDepth 100000 in
theorem f_212_92 : fe 212 92 = some (.lload_n 0, 1, 12, some .int) := fe_of pg_212 rfl
set_option maxRecDepth 100000 in
theorem f_212_93 : fe 212 93 = some (.ldc2_w 229, 3, 12, some .int) := fe_of pg_212 rfl
set_option maxRecDepth 100000 in
theorem f_212_96 : fe 212 96 = some (.lcmp, 1, 12, some .int) := fe_of pg_212 rfl
set_option maxRecDepth 100000 in
theorem f_212_97 : fe 212 97 = some (.ifCond .ne 8, 3, 12, some .int) := fe_of pg_212 rfl
set_option maxRecDepth 100000 in
theorem f_212_100 : fe 212 100 = some (.bipush 6, 2, 12, some .int) := fe_of pg_212 rfl
set_option maxRecDepth 100000 in
theorem f_212_102 : fe 212 102 = some (.goto 17, 3, 12, some .int) := fe_of pg_212 rfl
set_option maxRecDepth 100000 in
theorem f_212_105 : fe 212 105 = some (.lload_n 0, 1, 12, some .int) := fe_of pg_212 rfl
set_option maxRecDepth 100000 in
theorem f_212_106 : fe 212 106 = some (.ldc2_w 231, 3, 12, some .int) := fe_of pg_212 rfl
set_option maxRecDepth 100000 in
theorem f_212_109 : fe 212 109 = some (.lcmp, 1, 12, some .int) := fe_of pg_212 rfl
set_option maxRecDepth 100000 in
theorem f_212_110 : fe 212 110 = some (.ifCond .ne 8, 3, 12, some .int) := fe_of pg_212 rfl
set_option maxRecDepth 100000 in
theorem f_212_113 : fe 212 113 = some (.bipush 7, 2, 12, some .int) := fe_of pg_212 rfl
set_option maxRecDepth 100000 in
theorem f_212_115 : fe 212 115 = some (.goto 4, 3, 12, some .int) := fe_of pg_212 rfl
set_option maxRecDepth 100000 in
theorem f_212_118 : fe 212 118 = some (.iconst (-1), 1, 12, some .int) := fe_of pg_212 rfl
set_option maxRecDepth 100000 in
theorem f_212_119 : fe 212 119 = some (.ireturn, 1, 12, some .int) := fe_of pg_212 rfl
set_option maxRecDepth 100000 in
theorem f_213_0 : fe 213 0 = some (.aload_n 0, 1, 12, none) := fe_of pg_213 rfl
set_option maxRecDepth 100000 in
theorem f_213_1 : fe 213 1 = some (.getfield 38, 3, 12, none) := fe_of pg_213 rfl
set_option maxRecDepth 100000 in
theorem f_213_4 : fe 213 4 = some (.iload_n 1, 1, 12, none) := fe_of pg_213 rfl
set_option maxRecDepth 100000 in
theorem f_213_5 : fe 213 5 = some (.iaload, 1, 12, none) := fe_of pg_213 rfl
set_option maxRecDepth 100000 in
theorem f_213_6 : fe 213 6 = some (.istore 4, 2, 12, none) := fe_of pg_213 rfl
set_option maxRecDepth 100000 in
theorem f_213_8 : fe 213 8 = some (.iload 4, 2, 12, none) := fe_of pg_213 rfl
set_option maxRecDepth 100000 in
theorem f_213_10 : fe 213 10 = some (.iload_n 3, 1, 12, none) := fe_of pg_213 rfl
set_option maxRecDepth 100000 in
theorem f_213_11 : fe 213 11 = some (.if_icmp .ne 4, 3, 12, none) := fe_of pg_213 rfl
set_option maxRecDepth 100000 in
theorem f_213_14 : fe 213 14 = some (.return_, 1, 12, none) := fe_of pg_213 rfl
set_option maxRecDepth 100000 in
theorem f_213_15 : fe 213 15 = some (.iconst 0, 1, 12, none) := fe_of pg_213 rfl
set_option maxRecDepth 100000 in
theorem f_213_16 : fe 213 16 = some (.istore 5, 2, 12, none) := fe_of pg_213 rfl
set_option maxRecDepth 100000 in
theorem f_213_18 : fe 213 18 = some (.iload 5, 2, 12, none) := fe_of pg_213 rfl
set_option maxRecDepth 100000 in
theorem f_213_20 : fe 213 20 = some (.iconst 3, 1, 12, none) := fe_of pg_213 rfl
set_option maxRecDepth 100000 in
theorem f_213_21 : fe 213 21 = some (.if_icmp .ge 30, 3, 12, none) := fe_of pg_213 rfl
set_option maxRecDepth 100000 in
theorem f_213_24 : fe 213 24 = some (.aload_n 0, 1, 12, none) := fe_of pg_213 rfl
set_option maxRecDepth 100000 in
theorem f_213_25 : fe 213 25 = some (.getfield 38, 3, 12, none) := fe_of pg_213 rfl
set_option maxRecDepth 100000 in
theorem f_213_28 : fe 213 28 = some (.iload_n 2, 1, 12, none) := fe_of pg_213 rfl
set_option maxRecDepth 100000 in
theorem f_213_29 : fe 213 29 = some (.iconst 3, 1, 12, none) := fe_of pg_213 rfl
set_option maxRecDepth 100000 in
theorem f_213_30 : fe 213 30 = some (.iload 4, 2, 12, none) := fe_of pg_213 rfl
set_option maxRecDepth 100000 in
theorem f_213_32 : fe 213 32 = some (.imul, 1, 12, none) := fe_of pg_213 rfl
set_option maxRecDepth 100000 in
theorem f_213_33 : fe 213 33 = some (.iadd, 1, 12, none) := fe_of pg_213 rfl
set_option maxRecDepth 100000 in
theorem f_213_34 : fe 213 34 = some (.iload 5, 2, 12, none) := fe_of pg_213 rfl
set_option maxRecDepth 100000 in
theorem f_213_36 : fe 213 36 = some (.iadd, 1, 12, none) := fe_of pg_213 rfl
set_option maxRecDepth 100000 in
theorem f_213_37 : fe 213 37 = some (.aload_n 0, 1, 12, none) := fe_of pg_213 rfl
set_option maxRecDepth 100000 in
theorem f_213_38 : fe 213 38 = some (.getfield 41, 3, 12, none) := fe_of pg_213 rfl
set_option maxRecDepth 100000 in
theorem f_213_41 : fe 213 41 = some (.iload 5, 2, 12, none) := fe_of pg_213 rfl
set_option maxRecDepth 100000 in
theorem f_213_43 : fe 213 43 = some (.iaload, 1, 12, none) := fe_of pg_213 rfl
set_option maxRecDepth 100000 in
theorem f_213_44 : fe 213 44 = some (.iastore, 1, 12, none) := fe_of pg_213 rfl
set_option maxRecDepth 100000 in
theorem f_213_45 : fe 213 45 = some (.iinc 5 1, 3, 12, none) := fe_of pg_213 rfl
set_option maxRecDepth 100000 in
theorem f_213_48 : fe 213 48 = some (.goto (-30), 3, 12, none) := fe_of pg_213 rfl
set_option maxRecDepth 100000 in
theorem f_213_51 : fe 213 51 = some (.aload_n 0, 1, 12, none) := fe_of pg_213 rfl
set_option maxRecDepth 100000 in
theorem f_213_52 : fe 213 52 = some (.getfield 38, 3, 12, none) := fe_of pg_213 rfl
set_option maxRecDepth 100000 in
theorem f_213_55 : fe 213 55 = some (.iload_n 1, 1, 12, none) := fe_of pg_213 rfl
set_option maxRecDepth 100000 in
theorem f_213_56 : fe 213 56 = some (.dup2, 1, 12, none) := fe_of pg_213 rfl
set_option maxRecDepth 100000 in
theorem f_213_57 : fe 213 57 = some (.iaload, 1, 12, none) := fe_of pg_213 rfl
set_option maxRecDepth 100000 in
theorem f_213_58 : fe 213 58 = some (.iconst 1, 1, 12, none) := fe_of pg_213 rfl
set_option maxRecDepth 100000 in
theorem f_213_59 : fe 213 59 = some (.iadd, 1, 12, none) := fe_of pg_213 rfl
set_option maxRecDepth 100000 in
theorem f_213_60 : fe 213 60 = some (.iastore, 1, 12, none) := fe_of pg_213 rfl
set_option maxRecDepth 100000 in
theorem f_213_61 : fe 213 61 = some (.return_, 1, 12, none) := fe_of pg_213 rfl
set_option maxRecDepth 100000 in
theorem f_214_0 : fe 214 0 = some (.lload_n 1, 1, 12, some .boolean) := fe_of pg_214 rfl
set_option maxRecDepth 100000 in
theorem f_214_1 : fe 214 1 = some (.invokestatic 233, 3, 12, some .boolean) := fe_of pg_214 rfl
set_option maxRecDepth 100000 in
theorem f_214_4 : fe 214 4 = some (.istore 4, 2, 12, some .boolean) := fe_of pg_214 rfl
set_option maxRecDepth 100000 in
theorem f_214_6 : fe 214 6 = some (.iload 4, 2, 12, some .boolean) := fe_of pg_214 rfl
set_option maxRecDepth 100000 in
theorem f_214_8 : fe 214 8 = some (.iconst (-1), 1, 12, some .boolean) := fe_of pg_214 rfl
set_option maxRecDepth 100000 in
theorem f_214_9 : fe 214 9 = some (.if_icmp .ne 8, 3, 12, some .boolean) := fe_of pg_214 rfl
set_option maxRecDepth 100000 in
theorem f_214_12 : fe 214 12 = some (.aload_n 0, 1, 12, some .boolean) := fe_of pg_214 rfl
set_option maxRecDepth 100000 in
theorem f_214_13 : fe 214 13 = some (.invokevirtual 161, 3, 12, some .boolean) := fe_of pg_214 rfl
set_option maxRecDepth 100000 in
theorem f_214_16 : fe 214 16 = some (.ireturn, 1, 12, some .boolean) := fe_of pg_214 rfl
set_option maxRecDepth 100000 in
theorem f_214_17 : fe 214 17 = some (.aload_n 0, 1, 12, some .boolean) := fe_of pg_214 rfl
set_option maxRecDepth 100000 in
theorem f_214_18 : fe 214 18 = some (.iconst 0, 1, 12, some .boolean) := fe_of pg_214 rfl
set_option maxRecDepth 100000 in
theorem f_214_19 : fe 214 19 = some (.bipush 40, 2, 12, some .boolean) := fe_of pg_214 rfl
set_option maxRecDepth 100000 in
theorem f_214_21 : fe 214 21 = some (.iload_n 3, 1, 12, some .boolean) := fe_of pg_214 rfl
set_option maxRecDepth 100000 in
theorem f_214_22 : fe 214 22 = some (.invokevirtual 201, 3, 12, some .boolean) := fe_of pg_214 rfl
set_option maxRecDepth 100000 in
theorem f_214_25 : fe 214 25 = some (.aload_n 0, 1, 12, some .boolean) := fe_of pg_214 rfl
set_option maxRecDepth 100000 in
theorem f_214_26 : fe 214 26 = some (.invokevirtual 173, 3, 12, some .boolean) := fe_of pg_214 rfl
set_option maxRecDepth 100000 in
theorem f_214_29 : fe 214 29 = some (.aload_n 0, 1, 12, some .boolean) := fe_of pg_214 rfl
set_option maxRecDepth 100000 in
theorem f_214_30 : fe 214 30 = some (.getfield 41, 3, 12, some .boolean) := fe_of pg_214 rfl
set_option maxRecDepth 100000 in
theorem f_214_33 : fe 214 33 = some (.iconst 1, 1, 12, some .boolean) := fe_of pg_214 rfl
set_option maxRecDepth 100000 in
theorem f_214_34 : fe 214 34 = some (.iconst (-1), 1, 12, some .boolean) := fe_of pg_214 rfl
set_option maxRecDepth 100000 in
theorem f_214_35 : fe 214 35 = some (.iastore, 1, 12, some .boolean) := fe_of pg_214 rfl
set_option maxRecDepth 100000 in
theorem f_214_36 : fe 214 36 = some (.aload_n 0, 1, 12, some .boolean) := fe_of pg_214 rfl
set_option maxRecDepth 100000 in
theorem f_214_37 : fe 214 37 = some (.getfield 41, 3, 12, some .boolean) := fe_of pg_214 rfl
set_option maxRecDepth 100000 in
theorem f_214_40 : fe 214 40 = some (.iconst 2, 1, 12, some .boolean) := fe_of pg_214 rfl
set_option maxRecDepth 100000 in
theorem f_214_41 : fe 214 41 = some (.iconst (-1), 1, 12, some .boolean) := fe_of pg_214 rfl
set_option maxRecDepth 100000 in
theorem f_214_42 : fe 214 42 = some (.iastore, 1, 12, some .boolean) := fe_of pg_214 rfl
set_option maxRecDepth 100000 in
theorem f_214_43 : fe 214 43 = some (.iload 4, 2, 12, some .boolean) := fe_of pg_214 rfl
set_option maxRecDepth 100000 in
theorem f_214_45 : fe 214 45 = some (.iconst 3, 1, 12, some .boolean) := fe_of pg_214 rfl
set_option maxRecDepth 100000 in
theorem f_214_46 : fe 214 46 = some (.if_icmp .ge 14, 3, 12, some .boolean) := fe_of pg_214 rfl
set_option maxRecDepth 100000 in
theorem f_214_49 : fe 214 49 = some (.aload_n 0, 1, 12, some .boolean) := fe_of pg_214 rfl
set_option maxRecDepth 100000 in
theorem f_214_50 : fe 214 50 = some (.iconst 1, 1, 12, some .boolean) := fe_of pg_214 rfl
set_option maxRecDepth 100000 in
theorem f_214_51 : fe 214 51 = some (.iconst 0, 1, 12, some .boolean) := fe_of pg_214 rfl
set_option maxRecDepth 100000 in
theorem f_214_52 : fe 214 52 = some (.bipush 7, 2, 12, some .boolean) := fe_of pg_214 rfl
set_option maxRecDepth 100000 in
theorem f_214_54 : fe 214 54 = some (.invokevirtual 184, 3, 12, some .boolean) := fe_of pg_214 rfl
set_option maxRecDepth 100000 in
theorem f_214_57 : fe 214 57 = some (.ifCond .eq 40, 3, 12, some .boolean) := fe_of pg_214 rfl
set_option maxRecDepth 100000 in
theorem f_214_60 : fe 214 60 = some (.iload 4, 2, 12, some .boolean) := fe_of pg_214 rfl
set_option maxRecDepth 100000 in
theorem f_214_62 : fe 214 62 = some (.iconst 2, 1, 12, some .boolean) := fe_of pg_214 rfl
set_option maxRecDepth 100000 in
theorem f_214_63 : fe 214 63 = some (.if_icmp .ge 13, 3, 12, some .boolean) := fe_of pg_214 rfl
set_option maxRecDepth 100000 in
theorem f_214_66 : fe 214 66 = some (.aload_n 0, 1, 12, some .boolean) := fe_of pg_214 rfl
set_option maxRecDepth 100000 in
theorem f_214_67 : fe 214 67 = some (.iconst 2, 1, 12, some .boolean) := fe_of pg_214 rfl
set_option maxRecDepth 100000 in
theorem f_214_68 : fe 214 68 = some (.iconst 0, 1, 12, some .boolean) := fe_of pg_214 rfl
set_option maxRecDepth 100000 in
theorem f_214_69 : fe 214 69 = some (.iconst 5, 1, 12, some .boolean) := fe_of pg_214 rfl
set_option maxRecDepth 100000 in
theorem f_214_70 : fe 214 70 = some (.invokevirtual 184, 3, 12, some .boolean) := fe_of pg_214 rfl
set_option maxRecDepth 100000 in
theorem f_214_73 : fe 214 73 = some (.ifCond .eq 24, 3, 12, some .boolean) := fe_of pg_214 rfl
set_option maxRecDepth 100000 in
theorem f_214_76 : fe 214 76 = some (.iload 4, 2, 12, some .boolean) := fe_of pg_214 rfl
set_option maxRecDepth 100000 in
theorem f_214_78 : fe 214 78 = some (.iconst 3, 1, 12, some .boolean) := fe_of pg_214 rfl
set_option maxRecDepth 100000 in
theorem f_214_79 : fe 214 79 = some (.iconst 4, 1, 12, some .boolean) := fe_of pg_214 rfl
set_option maxRecDepth 100000 in
theorem f_214_80 : fe 214 80 = some (.invokestatic 121, 3, 12, some .boolean) := fe_of pg_214 rfl
set_option maxRecDepth 100000 in
theorem f_214_83 : fe 214 83 = some (.ifCond .eq 16, 3, 12, some .boolean) := fe_of pg_214 rfl
set_option maxRecDepth 100000 in
theorem f_214_86 : fe 214 86 = some (.aload_n 0, 1, 12, some .boolean) := fe_of pg_214 rfl
set_option maxRecDepth 100000 in
theorem f_214_87 : fe 214 87 = some (.iconst 1, 1, 12, some .boolean) := fe_of pg_214 rfl
set_option maxRecDepth 100000 in
theorem f_214_88 : fe 214 88 = some (.iconst 1, 1, 12, some .boolean) := fe_of pg_214 rfl
set_option maxRecDepth 100000 in
theorem f_214_89 : fe 214 89 = some (.bipush 9, 2, 12, some .boolean) := fe_of pg_214 rfl
set_option maxRecDepth 100000 in
theorem f_214_91 : fe 214 91 = some (.invokevirtual 184, 3, 12, some .boolean) := fe_of pg_214 rfl
set_option maxRecDepth 100000 in
theorem f_214_94 : fe 214 94 = some (.ifCond .ne 5, 3, 12, some .boolean) := fe_of pg_214 rfl
set_option maxRecDepth 100000 in
theorem f_214_97 : fe 214 97 = some (.iconst 0, 1, 12, some .boolean) := fe_of pg_214 rfl
set_option maxRecDepth 100000 in
theorem f_214_98 : fe 214 98 = some (.ireturn, 1, 12, some .boolean) := fe_of pg_214 rfl
set_option maxRecDepth 100000 in
theorem f_214_99 : fe 214 99 = some (.aload_n 0, 1, 12, some .boolean) := fe_of pg_214 rfl
set_option maxRecDepth 100000 in
theorem f_214_100 : fe 214 100 = some (.getfield 41, 3, 12, some .boolean) := fe_of pg_214 rfl
set_option maxRecDepth 100000 in
theorem f_214_103 : fe 214 103 = some (.iconst 0, 1, 12, some .boolean) := fe_of pg_214 rfl
set_option maxRecDepth 100000 in
theorem f_214_104 : fe 214 104 = some (.iload 4, 2, 12, some .boolean) := fe_of pg_214 rfl
set_option maxRecDepth 100000 in
theorem f_214_106 : fe 214 106 = some (.iastore, 1, 12, some .boolean) := fe_of pg_214 rfl
set_option maxRecDepth 100000 in
theorem f_214_107 : fe 214 107 = some (.aload_n 0, 1, 12, some .boolean) := fe_of pg_214 rfl
set_option maxRecDepth 100000 in
theorem f_214_108 : fe 214 108 = some (.iconst 0, 1, 12, some .boolean) := fe_of pg_214 rfl
set_option maxRecDepth 100000 in
theorem f_214_109 : fe 214 109 = some (.iconst 1, 1, 12, some .boolean) := fe_of pg_214 rfl
set_option maxRecDepth 100000 in
theorem f_214_110 : fe 214 110 = some (.bipush 40, 2, 12, some .boolean) := fe_of pg_214 rfl
set_option maxRecDepth 100000 in
theorem f_214_112 : fe 214 112 = some (.invokevirtual 237, 3, 12, some .boolean) := fe_of pg_214 rfl
set_option maxRecDepth 100000 in
theorem f_214_115 : fe 214 115 = some (.iconst 1, 1, 12, some .boolean) := fe_of pg_214 rfl
set_option maxRecDepth 100000 in
theorem f_214_116 : fe 214 116 = some (.ireturn, 1, 12, some .boolean) := fe_of pg_214 rfl
set_option maxRecDepth 100000 in
theorem f_215_0 : fe 215 0 = some (.lload_n 1, 1, 12, some .boolean) := fe_of pg_215 rfl
set_option maxRecDepth 100000 in
theorem f_215_1 : fe 215 1 = some (.ldc2_w 240, 3, 12, some .boolean) := fe_of pg_215 rfl
set_option maxRecDepth 100000 in
theorem f_215_4 : fe 215 4 = some (.lcmp, 1, 12, some .boolean) := fe_of pg_215 rfl
set_option maxRecDepth 100000 in
theorem f_215_5 : fe 215 5 = some (.ifCond .eq 16, 3, 12, some .boolean) := fe_of pg_215 rfl
set_option maxRecDepth 100000 in
theorem f_215_8 : fe 215 8 = some (.lload_n 1, 1, 12, some .boolean) := fe_of pg_215 rfl
set_option maxRecDepth 100000 in
theorem f_215_9 : fe 215 9 = some (.ldc2_w 242, 3, 12, some .boolean) := fe_of pg_215 rfl
set_option maxRecDepth 100000 in
theorem f_215_12 : fe 215 12 = some (.lcmp, 1, 12, some .boolean) := fe_of pg_215 rfl
set_option maxRecDepth 100000 in
theorem f_215_13 : fe 215 13 = some (.ifCond .eq 8, 3, 12, some .boolean) := fe_of pg_215 rfl
set_option maxRecDepth 100000 in
theorem f_215_16 : fe 215 16 = some (.aload_n 0, 1, 12, some .boolean) := fe_of pg_215 rfl
set_option maxRecDepth 100000 in
theorem f_215_17 : fe 215 17 = some (.invokevirtual 161, 3, 12, some .boolean) := fe_of pg_215 rfl
set_option maxRecDepth 100000 in
theorem f_215_20 : fe 215 20 = some (.ireturn, 1, 12, some .boolean) := fe_of pg_215 rfl
set_option maxRecDepth 100000 in
theorem f_215_21 : fe 215 21 = some (.aload_n 0, 1, 12, some .boolean) := fe_of pg_215 rfl
set_option maxRecDepth 100000 in
theorem f_215_22 : fe 215 22 = some (.invokevirtual 173, 3, 12, some .boolean) := fe_of pg_215 rfl
set_option maxRecDepth 100000 in
theorem f_215_25 : fe 215 25 = some (.lload_n 1, 1, 12, some .boolean) := fe_of pg_215 rfl
set_option maxRecDepth 100000 in
theorem f_215_26 : fe 215 26 = some (.ldc2_w 240, 3, 12, some .boolean) := fe_of pg_215 rfl
set_option maxRecDepth 100000 in
theorem f_215_29 : fe 215 29 = some (.lcmp, 1, 12, some .boolean) := fe_of pg_215 rfl
set_option maxRecDepth 100000 in
theorem f_215_30 : fe 215 30 = some (.ifCond .ne 30, 3, 12, some .boolean) := fe_of pg_215 rfl
set_option maxRecDepth 100000 in
theorem f_215_33 : fe 215 33 = some (.aload_n 0, 1, 12, some .boolean) := fe_of pg_215 rfl
set_option maxRecDepth 100000 in
theorem f_215_34 : fe 215 34 = some (.iconst 0, 1, 12, some .boolean) := fe_of pg_215 rfl
set_option maxRecDepth 100000 in
theorem f_215_35 : fe 215 35 = some (.iconst 1, 1, 12, some .boolean) := fe_of pg_215 rfl
set_option maxRecDepth 100000 in
theorem f_215_36 : fe 215 36 = some (.bipush 99, 2, 12, some .boolean) := fe_of pg_215 rfl
set_option maxRecDepth 100000 in
theorem f_215_38 : fe 215 38 = some (.invokevirtual 184, 3, 12, some .boolean) := fe_of pg_215 rfl
set_option maxRecDepth 100000 in
theorem f_215_41 : fe 215 41 = some (.ifCond .ne 5, 3, 12, some .boolean) := fe_of pg_215 rfl
set_option maxRecDepth 100000 in
theorem f_215_44 : fe 215 44 = some (.iconst 0, 1, 12, some .boolean) := fe_of pg_215 rfl
set_option maxRecDepth 100000 in
theorem f_215_45 : fe 215 45 = some (.ireturn, 1, 12, some .boolean) := fe_of pg_215 rfl
set_option maxRecDepth 100000 in
theorem f_215_46 : fe 215 46 = some (.aload_n 0, 1, 12, some .boolean) := fe_of pg_215 rfl
set_option maxRecDepth 100000 in
theorem f_215_47 : fe 215 47 = some (.getfield 38, 3, 12, some .boolean) := fe_of pg_215 rfl
set_option maxRecDepth 100000 in
theorem f_215_50 : fe 215 50 = some (.iconst 0, 1, 12, some .boolean) := fe_of pg_215 rfl
set_option maxRecDepth 100000 in
theorem f_215_51 : fe 215 51 = some (.aload_n 0, 1, 12, some .boolean) := fe_of pg_215 rfl
set_option maxRecDepth 100000 in
theorem f_215_52 : fe 215 52 = some (.getfield 41, 3, 12, some .boolean) := fe_of pg_215 rfl
set_option maxRecDepth 100000 in
theorem f_215_55 : fe 215 55 = some (.iconst 0, 1, 12, some .boolean) := fe_of pg_215 rfl
set_option maxRecDepth 100000 in
theorem f_215_56 : fe 215 56 = some (.iaload, 1, 12, some .boolean) := fe_of pg_215 rfl
set_option maxRecDepth 100000 in
theorem f_215_57 : fe 215 57 = some (.iastore, 1, 12, some .boolean) := fe_of pg_215 rfl
set_option maxRecDepth 100000 in
theorem f_215_58 : fe 215 58 = some (.iconst 1, 1, 12, some .boolean) := fe_of pg_215 rfl
set_option maxRecDepth 100000 in
theorem f_215_59 : fe 215 59 = some (.ireturn, 1, 12, some .boolean) := fe_of pg_215 rfl
set_option maxRecDepth 100000 in
theorem f_215_60 : fe 215 60 = some (.aload_n 0, 1, 12, some .boolean) := fe_of pg_215 rfl
set_option maxRecDepth 100000 in
theorem f_215_61 : fe 215 61 = some (.iconst 0, 1, 12, some .boolean) := fe_of pg_215 rfl
set_option maxRecDepth 100000 in
theorem f_215_62 : fe 215 62 = some (.iconst 0, 1, 12, some .boolean) := fe_of pg_215 rfl
set_option maxRecDepth 100000 in
theorem f_215_63 : fe 215 63 = some (.bipush 23, 2, 12, some .boolean) := fe_of pg_215 rfl
set_option maxRecDepth 100000 in
theorem f_215_65 : fe 215 65 = some (.invokevirtual 184, 3, 12, some .boolean) := fe_of pg_215 rfl
set_option maxRecDepth 100000 in
theorem f_215_68 : fe 215 68 = some (.ifCond .eq 14, 3, 12, some .boolean) := fe_of pg_215 rfl
set_option maxRecDepth 100000 in
theorem f_215_71 : fe 215 71 = some (.aload_n 0, 1, 12, some .boolean) := fe_of pg_215 rfl
set_option maxRecDepth 100000 in
theorem f_215_72 : fe 215 72 = some (.iconst 1, 1, 12, some .boolean) := fe_of pg_215 rfl
set_option maxRecDepth 100000 in
theorem f_215_73 : fe 215 73 = some (.iconst 0, 1, 12, some .boolean) := fe_of pg_215 rfl
set_option maxRecDepth 100000 in
theorem f_215_74 : fe 215 74 = some (.bipush 99, 2, 12, some .boolean) := fe_of pg_215 rfl
set_option maxRecDepth 100000 in
theorem f_215_76 : fe 215 76 = some (.invokevirtual 184, 3, 12, some .boolean) := fe_of pg_215 rfl
set_option maxRecDepth 100000 in
theorem f_215_79 : fe 215 79 = some (.ifCond .ne 5, 3, 12, some .boolean) := fe_of pg_215 rfl
set_option maxRecDepth 100000 in
theorem f_215_82 : fe 215 82 = some (.iconst 0, 1, 12, some .boolean) := fe_of pg_215 rfl
set_option maxRecDepth 100000 in
theorem f_215_83 : fe 215 83 = some (.ireturn, 1, 12, some .boolean) := fe_of pg_215 rfl
set_option maxRecDepth 100000 in
theorem f_215_84 : fe 215 84 = some (.aload_n 0, 1, 12, some .boolean) := fe_of pg_215 rfl
set_option maxRecDepth 100000 in
theorem f_215_85 : fe 215 85 = some (.getfield 169, 3, 12, some .boolean) := fe_of pg_215 rfl
set_option maxRecDepth 100000 in
theorem f_215_88 : fe 215 88 = some (.ifCond .eq 22, 3, 12, some .boolean) := fe_of pg_215 rfl
set_option maxRecDepth 100000 in
theorem f_215_91 : fe 215 91 = some (.aload_n 0, 1, 12, some .boolean) := fe_of pg_215 rfl
set_option maxRecDepth 100000 in
theorem f_215_92 : fe 215 92 = some (.getfield 38, 3, 12, some .boolean) := fe_of pg_215 rfl
set_option maxRecDepth 100000 in
theorem f_215_95 : fe 215 95 = some (.iconst 1, 1, 12, some .boolean) := fe_of pg_215 rfl
set_option maxRecDepth 100000 in
theorem f_215_96 : fe 215 96 = some (.aload_n 0, 1, 12, some .boolean) := fe_of pg_215 rfl
set_option maxRecDepth 100000 in
theorem f_215_97 : fe 215 97 = some (.getfield 41, 3, 12, some .boolean) := fe_of pg_215 rfl
set_option maxRecDepth 100000 in
theorem f_215_100 : fe 215 100 = some (.iconst 0, 1, 12, some .boolean) := fe_of pg_215 rfl
set_option maxRecDepth 100000 in
theorem f_215_101 : fe 215 101 = some (.iaload, 1, 12, some .boolean) := fe_of pg_215 rfl
set_option maxRecDepth 100000 in
theorem f_215_102 : fe 215 102 = some (.iadd, 1, 12, some .boolean) := fe_of pg_215 rfl
set_option maxRecDepth 100000 in
theorem f_215_103 : fe 215 103 = some (.aload_n 0, 1, 12, some .boolean) := fe_of pg_215 rfl
set_option maxRecDepth 100000 in
theorem f_215_104 : fe 215 104 = some (.getfield 41, 3, 12, some .boolean) := fe_of pg_215 rfl
set_option maxRecDepth 100000 in
theorem f_215_107 : fe 215 107 = some (.iconst 1, 1, 12, some .boolean) := fe_of pg_215 rfl
set_option maxRecDepth 100000 in
theorem f_215_108 : fe 215 108 = some (.iaload, 1, 12, some .boolean) := fe_of pg_215 rfl
set_option maxRecDepth 100000 in
theorem f_215_109 : fe 215 109 = some (.iastore, 1, 12, some .boolean) := fe_of pg_215 rfl
set_option maxRecDepth 100000 in
theorem f_215_110 : fe 215 110 = some (.iconst 1, 1, 12, some .boolean) := fe_of pg_215 rfl
set_option maxRecDepth 100000 in
theorem f_215_111 : fe 215 111 = some (.ireturn, 1, 12, some .boolean) := fe_of pg_215 rfl
set_option maxRecDepth 100000 in
theorem f_216_0 : fe 216 0 = some (.lload_n 1, 1, 12, some .boolean) := fe_of pg_216 rfl
set_option maxRecDepth 100000 in
theorem f_216_1 : fe 216 1 = some (.ldc2_w 244, 3, 12, some .boolean) := fe_of pg_216 rfl
set_option maxRecDepth 100000 in
theorem f_216_4 : fe 216 4 = some (.lcmp, 1, 12, some .boolean) := fe_of pg_216 rfl
set_option maxRecDepth 100000 in
theorem f_216_5 : fe 216 5 = some (.ifCond .ne 7, 3, 12, some .boolean) := fe_of pg_216 rfl
set_option maxRecDepth 100000 in
theorem f_216_8 : fe 216 8 = some (.iconst 1, 1, 12, some .boolean) := fe_of pg_216 rfl
set_option maxRecDepth 100000 in
theorem f_216_9 : fe 216 9 = some (.goto 4, 3, 12, some .boolean) := fe_of pg_216 rfl
set_option maxRecDepth 100000 in
theorem f_216_12 : fe 216 12 = some (.iconst 0, 1, 12, some .boolean) := fe_of pg_216 rfl
set_option maxRecDepth 100000 in
theorem f_216_13 : fe 216 13 = some (.istore 4, 2, 12, some .boolean) := fe_of pg_216 rfl
set_option maxRecDepth 100000 in
theorem f_216_15 : fe 216 15 = some (.iload 4, 2, 12, some .boolean) := fe_of pg_216 rfl
set_option maxRecDepth 100000 in
theorem f_216_17 : fe 216 17 = some (.ifCond .ne 24, 3, 12, some .boolean) := fe_of pg_216 rfl
set_option maxRecDepth 100000 in
theorem f_216_20 : fe 216 20 = some (.lload_n 1, 1, 12, some .boolean) := fe_of pg_216 rfl
set_option maxRecDepth 100000 in
theorem f_216_21 : fe 216 21 = some (.ldc2_w 246, 3, 12, some .boolean) := fe_of pg_216 rfl
set_option maxRecDepth 100000 in
theorem f_216_24 : fe 216 24 = some (.lcmp, 1, 12, some .boolean) := fe_of pg_216 rfl
set_option maxRecDepth 100000 in
theorem f_216_25 : fe 216 25 = some (.ifCond .eq 16, 3, 12, some .boolean) := fe_of pg_216 rfl
set_option maxRecDepth 100000 in
theorem f_216_28 : fe 216 28 = some (.lload_n 1, 1, 12, some .boolean) := fe_of pg_216 rfl
set_option maxRecDepth 100000 in
theorem f_216_29 : fe 216 29 = some (.ldc2_w 248, 3, 12, some .boolean) := fe_of pg_216 rfl
set_option maxRecDepth 100000 in
theorem f_216_32 : fe 216 32 = some (.lcmp, 1, 12, some .boolean) := fe_of pg_216 rfl
set_option maxRecDepth 100000 in
theorem f_216_33 : fe 216 33 = some (.ifCond .eq 8, 3, 12, some .boolean) := fe_of pg_216 rfl
set_option maxRecDepth 100000 in
theorem f_216_36 : fe 216 36 = some (.aload_n 0, 1, 12, some .boolean) := fe_of pg_216 rfl
set_option maxRecDepth 100000 in
theorem f_216_37 : fe 216 37 = some (.invokevirtual 161, 3, 12, some .boolean) := fe_of pg_216 rfl
set_option maxRecDepth 100000 in
theorem f_216_40 : fe 216 40 = some (.ireturn, 1, 12, some .boolean) := fe_of pg_216 rfl
set_option maxRecDepth 100000 in
theorem f_216_41 : fe 216 41 = some (.iload 4, 2, 12, some .boolean) := fe_of pg_216 rfl
set_option maxRecDepth 100000 in
theorem f_216_43 : fe 216 43 = some (.ifCond .ne 11, 3, 12, some .boolean) := fe_of pg_216 rfl
set_option maxRecDepth 100000 in
theorem f_216_46 : fe 216 46 = some (.aload_n 0, 1, 12, some .boolean) := fe_of pg_216 rfl
set_option maxRecDepth 100000 in
theorem f_216_47 : fe 216 47 = some (.iconst 1, 1, 12, some .boolean) := fe_of pg_216 rfl
set_option maxRecDepth 100000 in
theorem f_216_48 : fe 216 48 = some (.bipush 10, 2, 12, some .boolean) := fe_of pg_216 rfl
set_option maxRecDepth 100000 in
theorem f_216_50 : fe 216 50 = some (.iload_n 3, 1, 12, some .boolean) := fe_of pg_216 rfl
set_option maxRecDepth 100000 in
theorem f_216_51 : fe 216 51 = some (.invokevirtual 201, 3, 12, some .boolean) := fe_of pg_216 rfl
set_option maxRecDepth 100000 in
theorem f_216_54 : fe 216 54 = some (.aload_n 0, 1, 12, some .boolean) := fe_of pg_216 rfl
set_option maxRecDepth 100000 in
theorem f_216_55 : fe 216 55 = some (.invokevirtual 173, 3, 12, some .boolean) := fe_of pg_216 rfl
set_option maxRecDepth 100000 in
theorem f_216_58 : fe 216 58 = some (.iload 4, 2, 12, some .boolean) := fe_of pg_216 rfl
set_option maxRecDepth 100000 in
theorem f_216_60 : fe 216 60 = some (.ifCond .eq 29, 3, 12, some .boolean) := fe_of pg_216 rfl
set_option maxRecDepth 100000 in
theorem f_216_63 : fe 216 63 = some (.aload_n 0, 1, 12, some .boolean) := fe_of pg_216 rfl
set_option maxRecDepth 100000 in
theorem f_216_64 : fe 216 64 = some (.iconst 0, 1, 12, some .boolean) := fe_of pg_216 rfl
set_option maxRecDepth 100000 in
theorem f_216_65 : fe 216 65 = some (.iconst 1, 1, 12, some .boolean) := fe_of pg_216 rfl
set_option maxRecDepth 100000 in
theorem f_216_66 : fe 216 66 = some (.iconst 4, 1, 12, some .boolean) := fe_of pg_216 rfl
set_option maxRecDepth 100000 in
theorem f_216_67 : fe 216 67 = some (.invokevirtual 184, 3, 12, some .boolean) := fe_of pg_216 rfl
set_option maxRecDepth 100000 in
theorem f_216_70 : fe 216 70 = some (.ifCond .ne 5, 3, 12, some .boolean) := fe_of pg_216 rfl
set_option maxRecDepth 100000 in
theorem f_216_73 : fe 216 73 = some (.iconst 0, 1, 12, some .boolean) := fe_of pg_216 rfl
set_option maxRecDepth 100000 in
theorem f_216_74 : fe 216 74 = some (.ireturn, 1, 12, some .boolean) := fe_of pg_216 rfl
set_option maxRecDepth 100000 in
theorem f_216_75 : fe 216 75 = some (.aload_n 0, 1, 12, some .boolean) := fe_of pg_216 rfl
set_option maxRecDepth 100000 in
theorem f_216_76 : fe 216 76 = some (.getfield 38, 3, 12, some .boolean) := fe_of pg_216 rfl
set_option maxRecDepth 100000 in
theorem f_216_79 : fe 216 79 = some (.iconst 0, 1, 12, some .boolean) := fe_of pg_216 rfl
set_option maxRecDepth 100000 in
theorem f_216_80 : fe 216 80 = some (.aload_n 0, 1, 12, some .boolean) := fe_of pg_216 rfl
set_option maxRecDepth 100000 in
theorem f_216_81 : fe 216 81 = some (.getfield 41, 3, 12, some .boolean) := fe_of pg_216 rfl
set_option maxRecDepth 100000 in
theorem f_216_84 : fe 216 84 = some (.iconst 0, 1, 12, some .boolean) := fe_of pg_216 rfl
set_option maxRecDepth 100000 in
theorem f_216_85 : fe 216 85 = some (.iaload, 1, 12, some .boolean) := fe_of pg_216 rfl
set_option maxRecDepth 100000 in
theorem f_216_86 : fe 216 86 = some (.iastore, 1, 12, some .boolean) := fe_of pg_216 rfl
set_option maxRecDepth 100000 in
theorem f_216_87 : fe 216 87 = some (.iconst 1, 1, 12, some .boolean) := fe_of pg_216 rfl
set_option maxRecDepth 100000 in
theorem f_216_88 : fe 216 88 = some (.ireturn, 1, 12, some .boolean) := fe_of pg_216 rfl
set_option maxRecDepth 100000 in
theorem f_216_89 : fe 216 89 = some (.aload_n 0, 1, 12, some .boolean) := fe_of pg_216 rfl
set_option maxRecDepth 100000 in
theorem f_216_90 : fe 216 90 = some (.iconst 1, 1, 12, some .boolean) := fe_of pg_216 rfl
set_option maxRecDepth 100000 in
theorem f_216_91 : fe 216 91 = some (.iconst 1, 1, 12, some .boolean) := fe_of pg_216 rfl
set_option maxRecDepth 100000 in
theorem f_216_92 : fe 216 92 = some (.bipush 15, 2, 12, some .boolean) := fe_of pg_216 rfl
set_option maxRecDepth 100000 in
theorem f_216_94 : fe 216 94 = some (.invokevirtual 184, 3, 12, some .boolean) := fe_of pg_216 rfl
set_option maxRecDepth 100000 in
theorem f_216_97 : fe 216 97 = some (.ifCond .eq 14, 3, 12, some .boolean) := fe_of pg_216 rfl
set_option maxRecDepth 100000 in
theorem f_216_100 : fe 216 100 = some (.aload_n 0, 1, 12, some .boolean) := fe_of pg_216 rfl
set_option maxRecDepth 100000 in
theorem f_216_101 : fe 216 101 = some (.iconst 2, 1, 12, some .boolean) := fe_of pg_216 rfl
set_option maxRecDepth 100000 in
theorem f_216_102 : fe 216 102 = some (.iconst 1, 1, 12, some .boolean) := fe_of pg_216 rfl
set_option maxRecDepth 100000 in
theorem f_216_103 : fe 216 103 = some (.bipush 36, 2, 12, some .boolean) := fe_of pg_216 rfl
set_option maxRecDepth 100000 in
theorem f_216_105 : fe 216 105 = some (.invokevirtual 184, 3, 12, some .boolean) := fe_of pg_216 rfl
set_option maxRecDepth 100000 in
theorem f_216_108 : fe 216 108 = some (.ifCond .ne 5, 3, 12, some .boolean) := fe_of pg_216 rfl
set_option maxRecDepth 100000 in
theorem f_216_111 : fe 216 111 = some (.iconst 0, 1, 12, some .boolean) := fe_of pg_216 rfl
set_option maxRecDepth 100000 in
theorem f_216_112 : fe 216 112 = some (.ireturn, 1, 12, some .boolean) := fe_of pg_216 rfl
set_option maxRecDepth 100000 in
theorem f_216_113 : fe 216 113 = some (.aload_n 0, 1, 12, some .boolean) := fe_of pg_216 rfl
set_option maxRecDepth 100000 in
theorem f_216_114 : fe 216 114 = some (.dup, 1, 12, some .boolean) := fe_of pg_216 rfl
set_option maxRecDepth 100000 in
theorem f_216_115 : fe 216 115 = some (.getfield 250, 3, 12, some .boolean) := fe_of pg_216 rfl
set_option maxRecDepth 100000 in
theorem f_216_118 : fe 216 118 = some (.aload_n 0, 1, 12, some .boolean) := fe_of pg_216 rfl
set_option maxRecDepth 100000 in
theorem f_216_119 : fe 216 119 = some (.getfield 41, 3, 12, some .boolean) := fe_of pg_216 rfl
set_option maxRecDepth 100000 in
theorem f_216_122 : fe 216 122 = some (.iconst 1, 1, 12, some .boolean) := fe_of pg_216 rfl
set_option maxRecDepth 100000 in
theorem f_216_123 : fe 216 123 = some (.iaload, 1, 12, some .boolean) := fe_of pg_216 rfl
set_option maxRecDepth 100000 in
theorem f_216_124 : fe 216 124 = some (.ior, 1, 12, some .boolean) := fe_of pg_216 rfl
set_option maxRecDepth 100000 in
theorem f_216_125 : fe 216 125 = some (.putfield 250, 3, 12, some .boolean) := fe_of pg_216 rfl
set_option maxRecDepth 100000 in
theorem f_216_128 : fe 216 128 = some (.aload_n 0, 1, 12, some .boolean) := fe_of pg_216 rfl
set_option maxRecDepth 100000 in
theorem f_216_129 : fe 216 129 = some (.getfield 41, 3, 12, some .boolean) := fe_of pg_216 rfl
set_option maxRecDepth 100000 in
theorem f_216_132 : fe 216 132 = some (.iconst 0, 1, 12, some .boolean) := fe_of pg_216 rfl
set_option maxRecDepth 100000 in
theorem f_216_133 : fe 216 133 = some (.lload_n 1, 1, 12, some .boolean) := fe_of pg_216 rfl
set_option maxRecDepth 100000 in
theorem f_216_134 : fe 216 134 = some (.ldc2_w 246, 3, 12, some .boolean) := fe_of pg_216 rfl
set_option maxRecDepth 100000 in
theorem f_216_137 : fe 216 137 = some (.lcmp, 1, 12, some .boolean) := fe_of pg_216 rfl
set_option maxRecDepth 100000 in
theorem f_216_138 : fe 216 138 = some (.ifCond .ne 7, 3, 12, some .boolean) := fe_of pg_216 rfl
set_option maxRecDepth 100000 in
theorem f_216_141 : fe 216 141 = some (.iconst 1, 1, 12, some .boolean) := fe_of pg_216 rfl
set_option maxRecDepth 100000 in
theorem f_216_142 : fe 216 142 = some (.goto 4, 3, 12, some .boolean) := fe_of pg_216 rfl
set_option maxRecDepth 100000 in
theorem f_216_145 : fe 216 145 = some (.iconst 0, 1, 12, some .boolean) := fe_of pg_216 rfl
set_option maxRecDepth 100000 in
theorem f_216_146 : fe 216 146 = some (.iastore, 1, 12, some .boolean) := fe_of pg_216 rfl
set_option maxRecDepth 100000 in
theorem f_216_147 : fe 216 147 = some (.aload_n 0, 1, 12, some .boolean) := fe_of pg_216 rfl
set_option maxRecDepth 100000 in
theorem f_216_148 : fe 216 148 = some (.iconst 1, 1, 12, some .boolean) := fe_of pg_216 rfl
set_option maxRecDepth 100000 in
theorem f_216_149 : fe 216 149 = some (.iconst 2, 1, 12, some .boolean) := fe_of pg_216 rfl
set_option maxRecDepth 100000 in
theorem f_216_150 : fe 216 150 = some (.bipush 10, 2, 12, some .boolean) := fe_of pg_216 rfl
set_option maxRecDepth 100000 in
theorem f_216_152 : fe 216 152 = some (.invokevirtual 237, 3, 12, some .boolean) := fe_of pg_216 rfl
set_option maxRecDepth 100000 in
theorem f_216_155 : fe 216 155 = some (.iconst 1, 1, 12, some .boolean) := fe_of pg_216 rfl
set_option maxRecDepth 100000 in
theorem f_216_156 : fe 216 156 = some (.ireturn, 1, 12, some .boolean) := fe_of pg_216 rfl
set_option maxRecDepth 100000 in
theorem f_217_0 : fe 217 0 = some (.iload_n 1, 1, 12, some .boolean) := fe_of pg_217 rfl
set_option maxRecDepth 100000 in
theorem f_217_1 : fe 217 1 = some (.tableswitch 49 0 2 #[27, 35, 43], 27, 12, some .boolean) := fe_of pg_217 rfl
set_option maxRecDepth 100000 in
theorem f_217_28 : fe 217 28 = some (.aload_n 0, 1, 12, some .boolean) := fe_of pg_217 rfl
set_option maxRecDepth 100000 in
theorem f_217_29 : fe 217 29 = some (.lload_n 2, 1, 12, some .boolean) := fe_of pg_217 rfl
set_option maxRecDepth 100000 in
theorem f_217_30 : fe 217 30 = some (.iload 4, 2, 12, some .boolean) := fe_of pg_217 rfl
set_option maxRecDepth 100000 in
theorem f_217_32 : fe 217 32 = some (.invokevirtual 253, 3, 12, some .boolean) := fe_of pg_217 rfl
set_option maxRecDepth 100000 in
theorem f_217_35 : fe 217 35 = some (.ireturn, 1, 12, some .boolean) := fe_of pg_217 rfl
set_option maxRecDepth 100000 in
theorem f_217_36 : fe 217 36 = some (.aload_n 0, 1, 12, some .boolean) := fe_of pg_217 rfl
set_option maxRecDepth 100000 in
theorem f_217_37 : fe 217 37 = some (.lload_n 2, 1, 12, some .boolean) := fe_of pg_217 rfl
set_option maxRecDepth 100000 in
theorem f_217_38 : fe 217 38 = some (.iload 4, 2, 12, some .boolean) := fe_of pg_217 rfl
set_option maxRecDepth 100000 in
theorem f_217_40 : fe 217 40 = some (.invokevirtual 257, 3, 12, some .boolean) := fe_of pg_217 rfl
set_option maxRecDepth 100000 in
theorem f_217_43 : fe 217 43 = some (.ireturn, 1, 12, some .boolean) := fe_of pg_217 rfl
set_option maxRecDepth 100000 in
theorem f_217_44 : fe 217 44 = some (.aload_n 0, 1, 12, some .boolean) := fe_of pg_217 rfl
set_option maxRecDepth 100000 in
theorem f_217_45 : fe 217 45 = some (.lload_n 2, 1, 12, some .boolean) := fe_of pg_217 rfl
set_option maxRecDepth 100000 in
theorem f_217_46 : fe 217 46 = some (.invokevirtual 260, 3, 12, some .boolean) := fe_of pg_217 rfl
set_option maxRecDepth 100000 in
theorem f_217_49 : fe 217 49 = some (.ireturn, 1, 12, some .boolean) := fe_of pg_217 rfl
set_option maxRecDepth 100000 in
theorem f_217_50 : fe 217 50 = some (.aload_n 0, 1, 12, some .boolean) := fe_of pg_217 rfl
set_option maxRecDepth 100000 in
theorem f_217_51 : fe 217 51 = some (.lload_n 2, 1, 12, some .boolean) := fe_of pg_217 rfl
set_option maxRecDepth 100000 in
theorem f_217_52 : fe 217 52 = some (.iload 4, 2, 12, some .boolean) := fe_of pg_217 rfl
set_option maxRecDepth 100000 in
theorem f_217_54 : fe 217 54 = some (.invokevirtual 264, 3, 12, some .boolean) := fe_of pg_217 rfl
set_option maxRecDepth 100000 in
theorem f_217_57 : fe 217 57 = some (.ireturn, 1, 12, some .boolean) := fe_of pg_217 rfl
set_option maxRecDepth 100000 in
theorem f_218_0 : fe 218 0 = some (.iconst 1, 1, 12, some .boolean) := fe_of pg_218 rfl
set_option maxRecDepth 100000 in
theorem f_218_1 : fe 218 1 = some (.istore_n 2, 1, 12, some .boolean) := fe_of pg_218 rfl
set_option maxRecDepth 100000 in
theorem f_218_2 : fe 218 2 = some (.iload_n 2, 1, 12, some .boolean) := fe_of pg_218 rfl
set_option maxRecDepth 100000 in
theorem f_218_3 : fe 218 3 = some (.ifCond .eq 71, 3, 12, some .boolean) := fe_of pg_218 rfl
set_option maxRecDepth 100000 in
theorem f_218_6 : fe 218 6 = some (.aload_n 0, 1, 12, some .boolean) := fe_of pg_218 rfl
set_option maxRecDepth 100000 in
theorem f_218_7 : fe 218 7 = some (.getfield 146, 3, 12, some .boolean) := fe_of pg_218 rfl
set_option maxRecDepth 100000 in
theorem f_218_10 : fe 218 10 = some (.ifCond .eq 64, 3, 12, some .boolean) := fe_of pg_218 rfl
set_option maxRecDepth 100000 in
theorem f_218_13 : fe 218 13 = some (.aload_n 0, 1, 12, some .boolean) := fe_of pg_218 rfl
set_option maxRecDepth 100000 in
theorem f_218_14 : fe 218 14 = some (.getfield 139, 3, 12, some .boolean) := fe_of pg_218 rfl
set_option maxRecDepth 100000 in
theorem f_218_17 : fe 218 17 = some (.istore_n 3, 1, 12, some .boolean) := fe_of pg_218 rfl
set_option maxRecDepth 100000 in
theorem f_218_18 : fe 218 18 = some (.aload_n 0, 1, 12, some .boolean) := fe_of pg_218 rfl
set_option maxRecDepth 100000 in
theorem f_218_19 : fe 218 19 = some (.iconst 1, 1, 12, some .boolean) := fe_of pg_218 rfl
set_option maxRecDepth 100000 in
theorem f_218_20 : fe 218 20 = some (.putfield 169, 3, 12, some .boolean) := fe_of pg_218 rfl
set_option maxRecDepth 100000 in
theorem f_218_23 : fe 218 23 = some (.aload_n 0, 1, 12, some .boolean) := fe_of pg_218 rfl
set_option maxRecDepth 100000 in
theorem f_218_24 : fe 218 24 = some (.iload_n 1, 1, 12, some .boolean) := fe_of pg_218 rfl
set_option maxRecDepth 100000 in
theorem f_218_25 : fe 218 25 = some (.aload_n 0, 1, 12, some .boolean) := fe_of pg_218 rfl
set_option maxRecDepth 100000 in
theorem f_218_26 : fe 218 26 = some (.getfield 146, 3, 12, some .boolean) := fe_of pg_218 rfl
set_option maxRecDepth 100000 in
theorem f_218_29 : fe 218 29 = some (.iconst 2, 1, 12, some .boolean) := fe_of pg_218 rfl
set_option maxRecDepth 100000 in
theorem f_218_30 : fe 218 30 = some (.if_icmp .ne 10, 3, 12, some .boolean) := fe_of pg_218 rfl
set_option maxRecDepth 100000 in
theorem f_218_33 : fe 218 33 = some (.aload_n 0, 1, 12, some .boolean) := fe_of pg_218 rfl
set_option maxRecDepth 100000 in
theorem f_218_34 : fe 218 34 = some (.getfield 142, 3, 12, some .boolean) := fe_of pg_218 rfl
set_option maxRecDepth 100000 in
theorem f_218_37 : fe 218 37 = some (.goto 4, 3, 12, some .boolean) := fe_of pg_218 rfl
set_option maxRecDepth 100000 in
theorem f_218_40 : fe 218 40 = some (.lconst 0, 1, 12, some .boolean) := fe_of pg_218 rfl
set_option maxRecDepth 100000 in
theorem f_218_41 : fe 218 41 = some (.iload_n 3, 1, 12, some .boolean) := fe_of pg_218 rfl
set_option maxRecDepth 100000 in
theorem f_218_42 : fe 218 42 = some (.invokevirtual 267, 3, 12, some .boolean) := fe_of pg_218 rfl
set_option maxRecDepth 100000 in
theorem f_218_45 : fe 218 45 = some (.istore_n 2, 1, 12, some .boolean) := fe_of pg_218 rfl
set_option maxRecDepth 100000 in
theorem f_218_46 : fe 218 46 = some (.iload_n 2, 1, 12, some .boolean) := fe_of pg_218 rfl
set_option maxRecDepth 100000 in
theorem f_218_47 : fe 218 47 = some (.ifCond .eq 16, 3, 12, some .boolean) := fe_of pg_218 rfl
set_option maxRecDepth 100000 in
theorem f_218_50 : fe 218 50 = some (.aload_n 0, 1, 12, some .boolean) := fe_of pg_218 rfl
set_option maxRecDepth 100000 in
theorem f_218_51 : fe 218 51 = some (.getfield 146, 3, 12, some .boolean) := fe_of pg_218 rfl
set_option maxRecDepth 100000 in
theorem f_218_54 : fe 218 54 = some (.iconst 4, 1, 12, some .boolean) := fe_of pg_218 rfl
set_option maxRecDepth 100000 in
theorem f_218_55 : fe 218 55 = some (.if_icmp .eq 8, 3, 12, some .boolean) := fe_of pg_218 rfl
set_option maxRecDepth 100000 in
theorem f_218_58 : fe 218 58 = some (.aload_n 0, 1, 12, some .boolean) := fe_of pg_218 rfl
set_option maxRecDepth 100000 in
theorem f_218_59 : fe 218 59 = some (.invokevirtual 161, 3, 12, some .boolean) := fe_of pg_218 rfl
set_option maxRecDepth 100000 in
theorem f_218_62 : fe 218 62 = some (.istore_n 2, 1, 12, some .boolean) := fe_of pg_218 rfl
set_option maxRecDepth 100000 in
theorem f_218_63 : fe 218 63 = some (.iload_n 2, 1, 12, some .boolean) := fe_of pg_218 rfl
set_option maxRecDepth 100000 in
theorem f_218_64 : fe 218 64 = some (.ifCond .eq 7, 3, 12, some .boolean) := fe_of pg_218 rfl
set_option maxRecDepth 100000 in
theorem f_218_67 : fe 218 67 = some (.aload_n 0, 1, 12, some .boolean) := fe_of pg_218 rfl
set_option maxRecDepth 100000 in
theorem f_218_68 : fe 218 68 = some (.invokevirtual 173, 3, 12, some .boolean) := fe_of pg_218 rfl
set_option maxRecDepth 100000 in
theorem f_218_71 : fe 218 71 = some (.goto (-69), 3, 12, some .boolean) := fe_of pg_218 rfl
set_option maxRecDepth 100000 in
theorem f_218_74 : fe 218 74 = some (.iload_n 2, 1, 12, some .boolean) := fe_of pg_218 rfl
set_option maxRecDepth 100000 in
theorem f_218_75 : fe 218 75 = some (.ireturn, 1, 12, some .boolean) := fe_of pg_218 rfl
set_option maxRecDepth 100000 in
theorem f_219_0 : fe 219 0 = some (.iconst 0, 1, 12, none) := fe_of pg_219 rfl
set_option maxRecDepth 100000 in
theorem f_219_1 : fe 219 1 = some (.istore_n 2, 1, 12, none) := fe_of pg_219 rfl
set_option maxRecDepth 100000 in
theorem f_219_2 : fe 219 2 = some (.iload_n 2, 1, 12, none) := fe_of pg_219 rfl
set_option maxRecDepth 100000 in
theorem f_219_3 : fe 219 3 = some (.bipush 121, 2, 12, none) := fe_of pg_219 rfl
set_option maxRecDepth 100000 in
theorem f_219_5 : fe 219 5 = some (.if_icmp .ge 16, 3, 12, none) := fe_of pg_219 rfl
set_option maxRecDepth 100000 in
theorem f_219_8 : fe 219 8 = some (.aload_n 0, 1, 12, none) := fe_of pg_219 rfl
set_option maxRecDepth 100000 in
theorem f_219_9 : fe 219 9 = some (.getfield 38, 3, 12, none) := fe_of pg_219 rfl
set_option maxRecDepth 100000 in
theorem f_219_12 : fe 219 12 = some (.iload_n 2, 1, 12, none) := fe_of pg_219 rfl
set_option maxRecDepth 100000 in
theorem f_219_13 : fe 219 13 = some (.iconst 0, 1, 12, none) := fe_of pg_219 rfl
set_option maxRecDepth 100000 in
theorem f_219_14 : fe 219 14 = some (.iastore, 1, 12, none) := fe_of pg_219 rfl
set_option maxRecDepth 100000 in
theorem f_219_15 : fe 219 15 = some (.iinc 2 1, 3, 12, none) := fe_of pg_219 rfl
set_option maxRecDepth 100000 in
theorem f_219_18 : fe 219 18 = some (.goto (-16), 3, 12, none) := fe_of pg_219 rfl
set_option maxRecDepth 100000 in
theorem f_219_21 : fe 219 21 = some (.iload_n 1, 1, 12, none) := fe_of pg_219 rfl
set_option maxRecDepth 100000 in
theorem f_219_22 : fe 219 22 = some (.ifCond .ne 59, 3, 12, none) := fe_of pg_219 rfl
set_option maxRecDepth 100000 in
theorem f_219_25 : fe 219 25 = some (.aload_n 0, 1, 12, none) := fe_of pg_219 rfl
set_option maxRecDepth 100000 in
theorem f_219_26 : fe 219 26 = some (.getfield 38, 3, 12, none) := fe_of pg_219 rfl
set_option maxRecDepth 100000 in
theorem f_219_29 : fe 219 29 = some (.iconst 1, 1, 12, none) := fe_of pg_219 rfl
set_option maxRecDepth 100000 in
theorem f_219_30 : fe 219 30 = some (.iconst 4, 1, 12, none) := fe_of pg_219 rfl
set_option maxRecDepth 100000 in
theorem f_219_31 : fe 219 31 = some (.iastore, 1, 12, none) := fe_of pg_219 rfl
set_option maxRecDepth 100000 in
theorem f_219_32 : fe 219 32 = some (.iconst 0, 1, 12, none) := fe_of pg_219 rfl
set_option maxRecDepth 100000 in
theorem f_219_33 : fe 219 33 = some (.istore_n 2, 1, 12, none) := fe_of pg_219 rfl
set_option maxRecDepth 100000 in
theorem f_219_34 : fe 219 34 = some (.iload_n 2, 1, 12, none) := fe_of pg_219 rfl
set_option maxRecDepth 100000 in
theorem f_219_35 : fe 219 35 = some (.iconst 4, 1, 12, none) := fe_of pg_219 rfl
set_option maxRecDepth 100000 in
theorem f_219_36 : fe 219 36 = some (.if_icmp .ge 19, 3, 12, none) := fe_of pg_219 rfl
set_option maxRecDepth 100000 in
theorem f_219_39 : fe 219 39 = some (.aload_n 0, 1, 12, none) := fe_of pg_219 rfl
set_option maxRecDepth 100000 in
theorem f_219_40 : fe 219 40 = some (.getfield 38, 3, 12, none) := fe_of pg_219 rfl
set_option maxRecDepth 100000 in
theorem f_219_43 : fe 219 43 = some (.bipush 27, 2, 12, none) := fe_of pg_219 rfl
set_option maxRecDepth 100000 in
theorem f_219_45 : fe 219 45 = some (.iload_n 2, 1, 12, none) := fe_of pg_219 rfl
set_option maxRecDepth 100000 in
theorem f_219_46 : fe 219 46 = some (.iadd, 1, 12, none) := fe_of pg_219 rfl
set_option maxRecDepth 100000 in
theorem f_219_47 : fe 219 47 = some (.iconst 1, 1, 12, none) := fe_of pg_219 rfl
set_option maxRecDepth 100000 in
theorem f_219_48 : fe 219 48 = some (.iastore, 1, 12, none) := fe_of pg_219 rfl
set_option maxRecDepth 100000 in
theorem f_219_49 : fe 219 49 = some (.iinc 2 1, 3, 12, none) := fe_of pg_219 rfl
set_option maxRecDepth 100000 in
theorem f_219_52 : fe 219 52 = some (.goto (-18), 3, 12, none) := fe_of pg_219 rfl
set_option maxRecDepth 100000 in
theorem f_219_55 : fe 219 55 = some (.iconst 0, 1, 12, none) := fe_of pg_219 rfl
set_option maxRecDepth 100000 in
theorem f_219_56 : fe 219 56 = some (.istore_n 2, 1, 12, none) := fe_of pg_219 rfl
set_option maxRecDepth 100000 in
theorem f_219_57 : fe 219 57 = some (.iload_n 2, 1, 12, none) := fe_of pg_219 rfl
set_option maxRecDepth 100000 in
theorem f_219_58 : fe 219 58 = some (.bipush 8, 2, 12, none) := fe_of pg_219 rfl
set_option maxRecDepth 100000 in
theorem f_219_60 : fe 219 60 = some (.if_icmp .ge 21, 3, 12, none) := fe_of pg_219 rfl
set_option maxRecDepth 100000 in
theorem f_219_63 : fe 219 63 = some (.aload_n 0, 1, 12, none) := fe_of pg_219 rfl
set_option maxRecDepth 100000 in
theorem f_219_64 : fe 219 64 = some (.getfield 38, 3, 12, none) := fe_of pg_219 rfl
set_option maxRecDepth 100000 in
theorem f_219_67 : fe 219 67 = some (.bipush 31, 2, 12, none) := fe_of pg_219 rfl
set_option maxRecDepth 100000 in
theorem f_219_69 : fe 219 69 = some (.iload_n 2, 1, 12, none) := fe_of pg_219 rfl
set_option maxRecDepth 100000 in
theorem f_219_70 : fe 219 70 = some (.iadd, 1, 12, none) := fe_of pg_219 rfl
set_option maxRecDepth 100000 in
theorem f_219_71 : fe 219 71 = some (.iload_n 2, 1, 12, none) := fe_of pg_219 rfl
set_option maxRecDepth 100000 in
theorem f_219_72 : fe 219 72 = some (.iconst 1, 1, 12, none) := fe_of pg_219 rfl
set_option maxRecDepth 100000 in
theorem f_219_73 : fe 219 73 = some (.iadd, 1, 12, none) := fe_of pg_219 rfl
set_option maxRecDepth 100000 in
theorem f_219_74 : fe 219 74 = some (.iastore, 1, 12, none) := fe_of pg_219 rfl
set_option maxRecDepth 100000 in
theorem f_219_75 : fe 219 75 = some (.iinc 2 1, 3, 12, none) := fe_of pg_219 rfl
set_option maxRecDepth 100000 in
theorem f_219_78 : fe 219 78 = some (.goto (-21), 3, 12, none) := fe_of pg_219 rfl
set_option maxRecDepth 100000 in
theorem f_219_81 : fe 219 81 = some (.iload_n 1, 1, 12, none) := fe_of pg_219 rfl
set_option maxRecDepth 100000 in
theorem f_219_82 : fe 219 82 = some (.iconst 1, 1, 12, none) := fe_of pg_219 rfl
set_option maxRecDepth 100000 in
theorem f_219_83 : fe 219 83 = some (.if_icmp .le 20, 3, 12, none) := fe_of pg_219 rfl
set_option maxRecDepth 100000 in
theorem f_219_86 : fe 219 86 = some (.aload_n 0, 1, 12, none) := fe_of pg_219 rfl
set_option maxRecDepth 100000 in
theorem f_219_87 : fe 219 87 = some (.getfield 38, 3, 12, none) := fe_of pg_219 rfl
set_option maxRecDepth 100000 in
theorem f_219_90 : fe 219 90 = some (.iconst 0, 1, 12, none) := fe_of pg_219 rfl
set_option maxRecDepth 100000 in
theorem f_219_91 : fe 219 91 = some (.iload_n 1, 1, 12, none) := fe_of pg_219 rfl
set_option maxRecDepth 100000 in
theorem f_219_92 : fe 219 92 = some (.iconst 2, 1, 12, none) := fe_of pg_219 rfl
set_option maxRecDepth 100000 in
theorem f_219_93 : fe 219 93 = some (.if_icmp .ne 8, 3, 12, none) := fe_of pg_219 rfl
set_option maxRecDepth 100000 in
theorem f_219_96 : fe 219 96 = some (.bipush 10, 2, 12, none) := fe_of pg_219 rfl
set_option maxRecDepth 100000 in
theorem f_219_98 : fe 219 98 = some (.goto 4, 3, 12, none) := fe_of pg_219 rfl
set_option maxRecDepth 100000 in
theorem f_219_101 : fe 219 101 = some (.iconst 2, 1, 12, none) := fe_of pg_219 rfl
set_option maxRecDepth 100000 in
theorem f_219_102 : fe 219 102 = some (.iastore, 1, 12, none) := fe_of pg_219 rfl
set_option maxRecDepth 100000 in
theorem f_219_103 : fe 219 103 = some (.return_, 1, 12, none) := fe_of pg_219 rfl
set_option maxRecDepth 100000 in
theorem f_220_0 : fe 220 0 = some (.aload_n 0, 1, 12, some .boolean) := fe_of pg_220 rfl
set_option maxRecDepth 100000 in
theorem f_220_1 : fe 220 1 = some (.iload_n 1, 1, 12, some .boolean) := fe_of pg_220 rfl
set_option maxRecDepth 100000 in
theorem f_220_2 : fe 220 2 = some (.invokevirtual 271, 3, 12, some .boolean) := fe_of pg_220 rfl
set_option maxRecDepth 100000 in
theorem f_220_5 : fe 220 5 = some (.aload_n 0, 1, 12, some .boolean) := fe_of pg_220 rfl
set_option maxRecDepth 100000 in
theorem f_220_6 : fe 220 6 = some (.iconst 0, 1, 12, some .boolean) := fe_of pg_220 rfl
set_option maxRecDepth 100000 in
theorem f_220_7 : fe 220 7 = some (.putfield 250, 3, 12, some .boolean) := fe_of pg_220 rfl
set_option maxRecDepth 100000 in
theorem f_220_10 : fe 220 10 = some (.aload_n 0, 1, 12, some .boolean) := fe_of pg_220 rfl
set_option maxRecDepth 100000 in
theorem f_220_11 : fe 220 11 = some (.iconst 0, 1, 12, some .boolean) := fe_of pg_220 rfl
set_option maxRecDepth 100000 in
theorem f_220_12 : fe 220 12 = some (.putfield 129, 3, 12, some .boolean) := fe_of pg_220 rfl
set_option maxRecDepth 100000 in
theorem f_220_15 : fe 220 15 = some (.aload_n 0, 1, 12, some .boolean) := fe_of pg_220 rfl
set_option maxRecDepth 100000 in
theorem f_220_16 : fe 220 16 = some (.iconst 0, 1, 12, some .boolean) := fe_of pg_220 rfl
set_option maxRecDepth 100000 in
theorem f_220_17 : fe 220 17 = some (.putfield 155, 3, 12, some .boolean) := fe_of pg_220 rfl
set_option maxRecDepth 100000 in
theorem f_220_20 : fe 220 20 = some (.aload_n 0, 1, 12, some .boolean) := fe_of pg_220 rfl
set_option maxRecDepth 100000 in
theorem f_220_21 : fe 220 21 = some (.invokevirtual 173, 3, 12, some .boolean) := fe_of pg_220 rfl
set_option maxRecDepth 100000 in
theorem f_220_24 : fe 220 24 = some (.aload_n 0, 1, 12, some .boolean) := fe_of pg_220 rfl
set_option maxRecDepth 100000 in
theorem f_220_25 : fe 220 25 = some (.iload_n 1, 1, 12, some .boolean) := fe_of pg_220 rfl
set_option maxRecDepth 100000 in
theorem f_220_26 : fe 220 26 = some (.invokevirtual 274, 3, 12, some .boolean) := fe_of pg_220 rfl
set_option maxRecDepth 100000 in
theorem f_220_29 : fe 220 29 = some (.istore_n 2, 1, 12, some .boolean) := fe_of pg_220 rfl
set_option maxRecDepth 100000 in
theorem f_220_30 : fe 220 30 = some (.iload_n 2, 1, 12, some .boolean) := fe_of pg_220 rfl
set_option maxRecDepth 100000 in
theorem f_220_31 : fe 220 31 = some (.ifCond .eq 39, 3, 12, some .boolean) := fe_of pg_220 rfl
set_option maxRecDepth 100000 in
theorem f_220_34 : fe 220 34 = some (.iload_n 1, 1, 12, some .boolean) := fe_of pg_220 rfl
set_option maxRecDepth 100000 in
theorem f_220_35 : fe 220 35 = some (.iconst 3, 1, 12, some .boolean) := fe_of pg_220 rfl
set_option maxRecDepth 100000 in
theorem f_220_36 : fe 220 36 = some (.if_icmp .ne 34, 3, 12, some .boolean) := fe_of pg_220 rfl
set_option maxRecDepth 100000 in
theorem f_220_39 : fe 220 39 = some (.aload_n 0, 1, 12, some .boolean) := fe_of pg_220 rfl
set_option maxRecDepth 100000 in
theorem f_220_40 : fe 220 40 = some (.getfield 155, 3, 12, some .boolean) := fe_of pg_220 rfl
set_option maxRecDepth 100000 in
theorem f_220_43 : fe 220 43 = some (.ifCond .ne 27, 3, 12, some .boolean) := fe_of pg_220 rfl
set_option maxRecDepth 100000 in
theorem f_220_46 : fe 220 46 = some (.aload_n 0, 1, 12, some .boolean) := fe_of pg_220 rfl
set_option maxRecDepth 100000 in
theorem f_220_47 : fe 220 47 = some (.getfield 250, 3, 12, some .boolean) := fe_of pg_220 rfl
set_option maxRecDepth 100000 in
theorem f_220_50 : fe 220 50 = some (.iconst 1, 1, 12, some .boolean) := fe_of pg_220 rfl
set_option maxRecDepth 100000 in
theorem f_220_51 : fe 220 51 = some (.aload_n 0, 1, 12, some .boolean) := fe_of pg_220 rfl
set_option maxRecDepth 100000 in
theorem f_220_52 : fe 220 52 = some (.getfield 38, 3, 12, some .boolean) := fe_of pg_220 rfl
set_option maxRecDepth 100000 in
theorem f_220_55 : fe 220 55 = some (.iconst 0, 1, 12, some .boolean) := fe_of pg_220 rfl
set_option maxRecDepth 100000 in
theorem f_220_56 : fe 220 56 = some (.iaload, 1, 12, some .boolean) := fe_of pg_220 rfl
set_option maxRecDepth 100000 in
theorem f_220_57 : fe 220 57 = some (.ishl, 1, 12, some .boolean) := fe_of pg_220 rfl
set_option maxRecDepth 100000 in
theorem f_220_58 : fe 220 58 = some (.if_icmp .lt 12, 3, 12, some .boolean) := fe_of pg_220 rfl
set_option maxRecDepth 100000 in
theorem f_220_61 : fe 220 61 = some (.aload_n 0, 1, 12, some .boolean) := fe_of pg_220 rfl
set_option maxRecDepth 100000 in
theorem f_220_62 : fe 220 62 = some (.iconst 4, 1, 12, some .boolean) := fe_of pg_220 rfl
set_option maxRecDepth 100000 in
theorem f_220_63 : fe 220 63 = some (.aload_n 0, 1, 12, some .boolean) := fe_of pg_220 rfl
set_option maxRecDepth 100000 in
theorem f_220_64 : fe 220 64 = some (.getfield 139, 3, 12, some .boolean) := fe_of pg_220 rfl
set_option maxRecDepth 100000 in
theorem f_220_67 : fe 220 67 = some (.invokevirtual 165, 3, 12, some .boolean) := fe_of pg_220 rfl
set_option maxRecDepth 100000 in
theorem f_220_70 : fe 220 70 = some (.aload_n 0, 1, 12, some .boolean) := fe_of pg_220 rfl
set_option maxRecDepth 100000 in
theorem f_220_71 : fe 220 71 = some (.getfield 17, 3, 12, some .boolean) := fe_of pg_220 rfl
set_option maxRecDepth 100000 in
theorem f_220_74 : fe 220 74 = some (.iconst 0, 1, 12, some .boolean) := fe_of pg_220 rfl
set_option maxRecDepth 100000 in
theorem f_220_75 : fe 220 75 = some (.iload_n 2, 1, 12, some .boolean) := fe_of pg_220 rfl
set_option maxRecDepth 100000 in
theorem f_220_76 : fe 220 76 = some (.ifCond .eq 10, 3, 12, some .boolean) := fe_of pg_220 rfl
set_option maxRecDepth 100000 in
theorem f_220_79 : fe 220 79 = some (.aload_n 0, 1, 12, some .boolean) := fe_of pg_220 rfl
set_option maxRecDepth 100000 in
theorem f_220_80 : fe 220 80 = some (.getfield 155, 3, 12, some .boolean) := fe_of pg_220 rfl
set_option maxRecDepth 100000 in
theorem f_220_83 : fe 220 83 = some (.goto 4, 3, 12, some .boolean) := fe_of pg_220 rfl
set_option maxRecDepth 100000 in
theorem f_220_86 : fe 220 86 = some (.iconst 1, 1, 12, some .boolean) := fe_of pg_220 rfl
set_option maxRecDepth 100000 in
theorem f_220_87 : fe 220 87 = some (.iastore, 1, 12, some .boolean) := fe_of pg_220 rfl
set_option maxRecDepth 100000 in
theorem f_220_88 : fe 220 88 = some (.aload_n 0, 1, 12, some .boolean) := fe_of pg_220 rfl
set_option maxRecDepth 100000 in
theorem f_220_89 : fe 220 89 = some (.getfield 20, 3, 12, some .boolean) := fe_of pg_220 rfl
set_option maxRecDepth 100000 in
theorem f_220_92 : fe 220 92 = some (.iconst 0, 1, 12, some .boolean) := fe_of pg_220 rfl
set_option maxRecDepth 100000 in
theorem f_220_93 : fe 220 93 = some (.iload_n 2, 1, 12, some .boolean) := fe_of pg_220 rfl
set_option maxRecDepth 100000 in
theorem f_220_94 : fe 220 94 = some (.ifCond .ne 10, 3, 12, some .boolean) := fe_of pg_220 rfl
set_option maxRecDepth 100000 in
theorem f_220_97 : fe 220 97 = some (.aload_n 0, 1, 12, some .boolean) := fe_of pg_220 rfl
set_option maxRecDepth 100000 in
theorem f_220_98 : fe 220 98 = some (.getfield 152, 3, 12, some .boolean) := fe_of pg_220 rfl
set_option maxRecDepth 100000 in
theorem f_220_101 : fe 220 101 = some (.goto 18, 3, 12, some .boolean) := fe_of pg_220 rfl
set_option maxRecDepth 100000 in
theorem f_220_104 : fe 220 104 = some (.aload_n 0, 1, 12, some .boolean) := fe_of pg_220 rfl
set_option maxRecDepth 100000 in
theorem f_220_105 : fe 220 105 = some (.getfield 155, 3, 12, some .boolean) := fe_of pg_220 rfl
set_option maxRecDepth 100000 in
theorem f_220_108 : fe 220 108 = some (.ifCond .le 10, 3, 12, some .boolean) := fe_of pg_220 rfl
set_option maxRecDepth 100000 in
theorem f_220_111 : fe 220 111 = some (.aload_n 0, 1, 12, some .boolean) := fe_of pg_220 rfl
set_option maxRecDepth 100000 in
theorem f_220_112 : fe 220 112 = some (.getfield 158, 3, 12, some .boolean) := fe_of pg_220 rfl
set_option maxRecDepth 100000 in
theorem f_220_115 : fe 220 115 = some (.goto 4, 3, 12, some .boolean) := fe_of pg_220 rfl
set_option maxRecDepth 100000 in
theorem f_220_118 : fe 220 118 = some (.iconst (-1), 1, 12, some .boolean) := fe_of pg_220 rfl
set_option maxRecDepth 100000 in
theorem f_220_119 : fe 220 119 = some (.iastore, 1, 12, some .boolean) := fe_of pg_220 rfl
set_option maxRecDepth 100000 in
theorem f_220_120 : fe 220 120 = some (.aload_n 0, 1, 12, some .boolean) := fe_of pg_220 rfl
set_option maxRecDepth 100000 in
theorem f_220_121 : fe 220 121 = some (.getfield 17, 3, 12, some .boolean) := fe_of pg_220 rfl
set_option maxRecDepth 100000 in
theorem f_220_124 : fe 220 124 = some (.iconst 0, 1, 12, some .boolean) := fe_of pg_220 rfl
set_option maxRecDepth 100000 in
theorem f_220_125 : fe 220 125 = some (.iaload, 1, 12, some .boolean) := fe_of pg_220 rfl
set_option maxRecDepth 100000 in
theorem f_220_126 : fe 220 126 = some (.ifCond .ne 7, 3, 12, some .boolean) := fe_of pg_220 rfl
set_option maxRecDepth 100000 in
theorem f_220_129 : fe 220 129 = some (.iconst 1, 1, 12, some .boolean) := fe_of pg_220 rfl
set_option maxRecDepth 100000 in
theorem f_220_130 : fe 220 130 = some (.goto 4, 3, 12, some .boolean) := fe_of pg_220 rfl
set_option maxRecDepth 100000 in
theorem f_220_133 : fe 220 133 = some (.iconst 0, 1, 12, some .boolean) := fe_of pg_220 rfl
set_option maxRecDepth 100000 in
theorem f_220_134 : fe 220 134 = some (.ireturn, 1, 12, some .boolean) := fe_of pg_220 rfl
set_option maxRecDepth 100000 in
theorem f_221_0 : fe 221 0 = some (.iconst 0, 1, 12, none) := fe_of pg_221 rfl
set_option maxRecDepth 100000 in
theorem f_221_1 : fe 221 1 = some (.istore 4, 2, 12, none) := fe_of pg_221 rfl
set_option maxRecDepth 100000 in
theorem f_221_3 : fe 221 3 = some (.iload 4, 2, 12, none) := fe_of pg_221 rfl
set_option maxRecDepth 100000 in
theorem f_221_5 : fe 221 5 = some (.iload_n 2, 1, 12, none) := fe_of pg_221 rfl
set_option maxRecDepth 100000 in
theorem f_221_6 : fe 221 6 = some (.if_icmp .ge 24, 3, 12, none) := fe_of pg_221 rfl
set_option maxRecDepth 100000 in
theorem f_221_9 : fe 221 9 = some (.aload_n 1, 1, 12, none) := fe_of pg_221 rfl
set_option maxRecDepth 100000 in
theorem f_221_10 : fe 221 10 = some (.iload_n 2, 1, 12, none) := fe_of pg_221 rfl
set_option maxRecDepth 100000 in
theorem f_221_11 : fe 221 11 = some (.iload_n 3, 1, 12, none) := fe_of pg_221 rfl
set_option maxRecDepth 100000 in
theorem f_221_12 : fe 221 12 = some (.imul, 1, 12, none) := fe_of pg_221 rfl
set_option maxRecDepth 100000 in
theorem f_221_13 : fe 221 13 = some (.iload 4, 2, 12, none) := fe_of pg_221 rfl
set_option maxRecDepth 100000 in
theorem f_221_15 : fe 221 15 = some (.iadd, 1, 12, none) := fe_of pg_221 rfl
set_option maxRecDepth 100000 in
theorem f_221_16 : fe 221 16 = some (.aload_n 0, 1, 12, none) := fe_of pg_221 rfl
set_option maxRecDepth 100000 in
theorem f_221_17 : fe 221 17 = some (.getfield 38, 3, 12, none) := fe_of pg_221 rfl
set_option maxRecDepth 100000 in
theorem f_221_20 : fe 221 20 = some (.iload 4, 2, 12, none) := fe_of pg_221 rfl
set_option maxRecDepth 100000 in
theorem f_221_22 : fe 221 22 = some (.iaload, 1, 12, none) := fe_of pg_221 rfl
set_option maxRecDepth 100000 in
theorem f_221_23 : fe 221 23 = some (.iastore, 1, 12, none) := fe_of pg_221 rfl
set_option maxRecDepth 100000 in
theorem f_221_24 : fe 221 24 = some (.iinc 4 1, 3, 12, none) := fe_of pg_221 rfl
set_option maxRecDepth 100000 in
theorem f_221_27 : fe 221 27 = some (.goto (-24), 3, 12, none) := fe_of pg_221 rfl
set_option maxRecDepth 100000 in
theorem f_221_30 : fe 221 30 = some (.return_, 1, 12, none) := fe_of pg_221 rfl
set_option maxRecDepth 100000 in
theorem f_222_0 : fe 222 0 = some (.iload_n 1, 1, 12, none) := fe_of pg_222 rfl
set_option maxRecDepth 100000 in
theorem f_222_1 : fe 222 1 = some (.tableswitch 63 0 2 #[27, 39, 51], 27, 12, none) := fe_of pg_222 rfl
set_option maxRecDepth 100000 in
theorem f_222_28 : fe 222 28 = some (.aload_n 0, 1, 12, none) := fe_of pg_222 rfl
set_option maxRecDepth 100000 in
theorem f_222_29 : fe 222 29 = some (.aload_n 0, 1, 12, none) := fe_of pg_222 rfl
set_option maxRecDepth 100000 in
theorem f_222_30 : fe 222 30 = some (.getfield 26, 3, 12, none) := fe_of pg_222 rfl
set_option maxRecDepth 100000 in
theorem f_222_33 : fe 222 33 = some (.bipush 39, 2, 12, none) := fe_of pg_222 rfl
set_option maxRecDepth 100000 in
theorem f_222_35 : fe 222 35 = some (.iload_n 2, 1, 12, none) := fe_of pg_222 rfl
set_option maxRecDepth 100000 in
theorem f_222_36 : fe 222 36 = some (.invokevirtual 277, 3, 12, none) := fe_of pg_222 rfl
set_option maxRecDepth 100000 in
theorem f_222_39 : fe 222 39 = some (.return_, 1, 12, none) := fe_of pg_222 rfl
set_option maxRecDepth 100000 in
theorem f_222_40 : fe 222 40 = some (.aload_n 0, 1, 12, none) := fe_of pg_222 rfl
set_option maxRecDepth 100000 in
theorem f_222_41 : fe 222 41 = some (.aload_n 0, 1, 12, none) := fe_of pg_222 rfl
set_option maxRecDepth 100000 in
theorem f_222_42 : fe 222 42 = some (.getfield 29, 3, 12, none) := fe_of pg_222 rfl
set_option maxRecDepth 100000 in
theorem f_222_45 : fe 222 45 = some (.bipush 121, 2, 12, none) := fe_of pg_222 rfl
set_option maxRecDepth 100000 in
theorem f_222_47 : fe 222 47 = some (.iload_n 2, 1, 12, none) := fe_of pg_222 rfl
set_option maxRecDepth 100000 in
theorem f_222_48 : fe 222 48 = some (.invokevirtual 277, 3, 12, none) := fe_of pg_222 rfl
set_option maxRecDepth 100000 in
theorem f_222_51 : fe 222 51 = some (.return_, 1, 12, none) := fe_of pg_222 rfl
set_option maxRecDepth 100000 in
theorem f_222_52 : fe 222 52 = some (.aload_n 0, 1, 12, none) := fe_of pg_222 rfl
set_option maxRecDepth 100000 in
theorem f_222_53 : fe 222 53 = some (.aload_n 0, 1, 12, none) := fe_of pg_222 rfl
set_option maxRecDepth 100000 in
theorem f_222_54 : fe 222 54 = some (.getfield 32, 3, 12, none) := fe_of pg_222 rfl
set_option maxRecDepth 100000 in
theorem f_222_57 : fe 222 57 = some (.bipush 25, 2, 12, none) := fe_of pg_222 rfl
set_option maxRecDepth 100000 in
theorem f_222_59 : fe 222 59 = some (.iload_n 2, 1, 12, none) := fe_of pg_222 rfl
set_option maxRecDepth 100000 in
theorem f_222_60 : fe 222 60 = some (.invokevirtual 277, 3, 12, none) := fe_of pg_222 rfl
set_option maxRecDepth 100000 in
theorem f_222_63 : fe 222 63 = some (.return_, 1, 12, none) := fe_of pg_222 rfl
set_option maxRecDepth 100000 in
theorem f_222_64 : fe 222 64 = some (.aload_n 0, 1, 12, none) := fe_of pg_222 rfl
set_option maxRecDepth 100000 in
theorem f_222_65 : fe 222 65 = some (.aload_n 0, 1, 12, none) := fe_of pg_222 rfl
set_option maxRecDepth 100000 in
theorem f_222_66 : fe 222 66 = some (.getfield 35, 3, 12, none) := fe_of pg_222 rfl
set_option maxRecDepth 100000 in
theorem f_222_69 : fe 222 69 = some (.bipush 32, 2, 12, none) := fe_of pg_222 rfl
set_option maxRecDepth 100000 in
theorem f_222_71 : fe 222 71 = some (.iload_n 2, 1, 12, none) := fe_of pg_222 rfl
set_option maxRecDepth 100000 in
theorem f_222_72 : fe 222 72 = some (.invokevirtual 277, 3, 12, none) := fe_of pg_222 rfl
set_option maxRecDepth 100000 in
theorem f_222_75 : fe 222 75 = some (.return_, 1, 12, none) := fe_of pg_222 rfl
set_option maxRecDepth 100000 in
theorem f_223_0 : fe 223 0 = some (.aload_n 0, 1, 12, some .int) := fe_of pg_223 rfl
set_option maxRecDepth 100000 in
theorem f_223_1 : fe 223 1 = some (.iconst 0, 1, 12, some .int) := fe_of pg_223 rfl
set_option maxRecDepth 100000 in
theorem f_223_2 : fe 223 2 = some (.putfield 109, 3, 12, some .int) := fe_of pg_223 rfl
set_option maxRecDepth 100000 in
theorem f_223_5 : fe 223 5 = some (.aload_n 0, 1, 12, some .int) := fe_of pg_223 rfl
set_option maxRecDepth 100000 in
theorem f_223_6 : fe 223 6 = some (.aload_n 0, 1, 12, some .int) := fe_of pg_223 rfl
set_option maxRecDepth 100000 in
theorem f_223_7 : fe 223 7 = some (.getfield 13, 3, 12, some .int) := fe_of pg_223 rfl
set_option maxRecDepth 100000 in
theorem f_223_10 : fe 223 10 = some (.iconst 0, 1, 12, some .int) := fe_of pg_223 rfl
set_option maxRecDepth 100000 in
theorem f_223_11 : fe 223 11 = some (.iaload, 1, 12, some .int) := fe_of pg_223 rfl
set_option maxRecDepth 100000 in
theorem f_223_12 : fe 223 12 = some (.putfield 132, 3, 12, some .int) := fe_of pg_223 rfl
set_option maxRecDepth 100000 in
theorem f_223_15 : fe 223 15 = some (.aload_n 0, 1, 12, some .int) := fe_of pg_223 rfl
set_option maxRecDepth 100000 in
theorem f_223_16 : fe 223 16 = some (.getfield 13, 3, 12, some .int) := fe_of pg_223 rfl
set_option maxRecDepth 100000 in
theorem f_223_19 : fe 223 19 = some (.iconst 0, 1, 12, some .int) := fe_of pg_223 rfl
set_option maxRecDepth 100000 in
theorem f_223_20 : fe 223 20 = some (.iconst 0, 1, 12, some .int) := fe_of pg_223 rfl
set_option maxRecDepth 100000 in
theorem f_223_21 : fe 223 21 = some (.iastore, 1, 12, some .int) := fe_of pg_223 rfl
set_option maxRecDepth 100000 in
theorem f_223_22 : fe 223 22 = some (.aload_n 0, 1, 12, some .int) := fe_of pg_223 rfl
set_option maxRecDepth 100000 in
theorem f_223_23 : fe 223 23 = some (.getfield 17, 3, 12, some .int) := fe_of pg_223 rfl
set_option maxRecDepth 100000 in
theorem f_223_26 : fe 223 26 = some (.iconst 0, 1, 12, some .int) := fe_of pg_223 rfl
set_option maxRecDepth 100000 in
theorem f_223_27 : fe 223 27 = some (.iconst 0, 1, 12, some .int) := fe_of pg_223 rfl
set_option maxRecDepth 100000 in
theorem f_223_28 : fe 223 28 = some (.iastore, 1, 12, some .int) := fe_of pg_223 rfl
set_option maxRecDepth 100000 in
theorem f_223_29 : fe 223 29 = some (.aload_n 0, 1, 12, some .int) := fe_of pg_223 rfl
set_option maxRecDepth 100000 in
theorem f_223_30 : fe 223 30 = some (.getfield 20, 3, 12, some .int) := fe_of pg_223 rfl
set_option maxRecDepth 100000 in
theorem f_223_33 : fe 223 33 = some (.iconst 0, 1, 12, some .int) := fe_of pg_223 rfl
set_option maxRecDepth 100000 in
theorem f_223_34 : fe 223 34 = some (.iconst (-1), 1, 12, some .int) := fe_of pg_223 rfl
set_option maxRecDepth 100000 in
theorem f_223_35 : fe 223 35 = some (.iastore, 1, 12, some .int) := fe_of pg_223 rfl
set_option maxRecDepth 100000 in
theorem f_223_36 : fe 223 36 = some (.iload_n 1, 1, 12, some .int) := fe_of pg_223 rfl
set_option maxRecDepth 100000 in
theorem f_223_37 : fe 223 37 = some (.iconst 0, 1, 12, some .int) := fe_of pg_223 rfl
set_option maxRecDepth 100000 in
theorem f_223_38 : fe 223 38 = some (.iconst 3, 1, 12, some .int) := fe_of pg_223 rfl
set_option maxRecDepth 100000 in
theorem f_223_39 : fe 223 39 = some (.invokestatic 121, 3, 12, some .int) := fe_of pg_223 rfl
set_option maxRecDepth 100000 in
theorem f_223_42 : fe 223 42 = some (.ifCond .eq 30, 3, 12, some .int) := fe_of pg_223 rfl
set_option maxRecDepth 100000 in
theorem f_223_45 : fe 223 45 = some (.iload_n 2, 1, 12, some .int) := fe_of pg_223 rfl
set_option maxRecDepth 100000 in
theorem f_223_46 : fe 223 46 = some (.iconst (-1), 1, 12, some .int) := fe_of pg_223 rfl
set_option maxRecDepth 100000 in
theorem f_223_47 : fe 223 47 = some (.if_icmp .ne 16, 3, 12, some .int) := fe_of pg_223 rfl
set_option maxRecDepth 100000 in
theorem f_223_50 : fe 223 50 = some (.aload_n 0, 1, 12, some .int) := fe_of pg_223 rfl
set_option maxRecDepth 100000 in
theorem f_223_51 : fe 223 51 = some (.getfield 23, 3, 12, some .int) := fe_of pg_223 rfl
set_option maxRecDepth 100000 in
theorem f_223_54 : fe 223 54 = some (.iload_n 1, 1, 12, some .int) := fe_of pg_223 rfl
set_option maxRecDepth 100000 in
theorem f_223_55 : fe 223 55 = some (.iaload, 1, 12, some .int) := fe_of pg_223 rfl
set_option maxRecDepth 100000 in
theorem f_223_56 : fe 223 56 = some (.iconst 2, 1, 12, some .int) := fe_of pg_223 rfl
set_option maxRecDepth 100000 in
theorem f_223_57 : fe 223 57 = some (.if_icmp .ne 18, 3, 12, some .int) := fe_of pg_223 rfl
set_option maxRecDepth 100000 in
theorem f_223_60 : fe 223 60 = some (.goto 12, 3, 12, some .int) := fe_of pg_223 rfl
set_option maxRecDepth 100000 in
theorem f_223_63 : fe 223 63 = some (.aload_n 0, 1, 12, some .int) := fe_of pg_223 rfl
set_option maxRecDepth 100000 in
theorem f_223_64 : fe 223 64 = some (.iload_n 1, 1, 12, some .int) := fe_of pg_223 rfl
set_option maxRecDepth 100000 in
theorem f_223_65 : fe 223 65 = some (.iload_n 2, 1, 12, some .int) := fe_of pg_223 rfl
set_option maxRecDepth 100000 in
theorem f_223_66 : fe 223 66 = some (.invokevirtual 281, 3, 12, some .int) := fe_of pg_223 rfl
set_option maxRecDepth 100000 in
theorem f_223_69 : fe 223 69 = some (.ifCond .ne 6, 3, 12, some .int) := fe_of pg_223 rfl
set_option maxRecDepth 100000 in
theorem f_223_72 : fe 223 72 = some (.bipush (-2), 2, 12, some .int) := fe_of pg_223 rfl
set_option maxRecDepth 100000 in
theorem f_223_74 : fe 223 74 = some (.ireturn, 1, 12, some .int) := fe_of pg_223 rfl
set_option maxRecDepth 100000 in
theorem f_223_75 : fe 223 75 = some (.aload_n 0, 1, 12, some .int) := fe_of pg_223 rfl
set_option maxRecDepth 100000 in
theorem f_223_76 : fe 223 76 = some (.iload_n 1, 1, 12, some .int) := fe_of pg_223 rfl
set_option maxRecDepth 100000 in
theorem f_223_77 : fe 223 77 = some (.invokevirtual 284, 3, 12, some .int) := fe_of pg_223 rfl
set_option maxRecDepth 100000 in
theorem f_223_80 : fe 223 80 = some (.ifCond .ne 5, 3, 12, some .int) := fe_of pg_223 rfl
set_option maxRecDepth 100000 in
theorem f_223_83 : fe 223 83 = some (.iconst (-1), 1, 12, some .int) := fe_of pg_223 rfl
set_option maxRecDepth 100000 in
theorem f_223_84 : fe 223 84 = some (.ireturn, 1, 12, some .int) := fe_of pg_223 rfl
set_option maxRecDepth 100000 in
theorem f_223_85 : fe 223 85 = some (.iload_n 2, 1, 12, some .int) := fe_of pg_223 rfl
set_option maxRecDepth 100000 in
theorem f_223_86 : fe 223 86 = some (.iconst (-1), 1, 12, some .int) := fe_of pg_223 rfl
set_option maxRecDepth 100000 in
theorem f_223_87 : fe 223 87 = some (.if_icmp .ne 12, 3, 12, some .int) := fe_of pg_223 rfl
set_option maxRecDepth 100000 in
theorem f_223_90 : fe 223 90 = some (.aload_n 0, 1, 12, some .int) := fe_of pg_223 rfl
set_option maxRecDepth 100000 in
theorem f_223_91 : fe 223 91 = some (.getfield 23, 3, 12, some .int) := fe_of pg_223 rfl
set_option maxRecDepth 100000 in
theorem f_223_94 : fe 223 94 = some (.iload_n 1, 1, 12, some .int) := fe_of pg_223 rfl
set_option maxRecDepth 100000 in
theorem f_223_95 : fe 223 95 = some (.iaload, 1, 12, some .int) := fe_of pg_223 rfl
set_option maxRecDepth 100000 in
theorem f_223_96 : fe 223 96 = some (.goto 4, 3, 12, some .int) := fe_of pg_223 rfl
set_option maxRecDepth 100000 in
theorem f_223_99 : fe 223 99 = some (.iload_n 2, 1, 12, some .int) := fe_of pg_223 rfl
set_option maxRecDepth 100000 in
theorem f_223_100 : fe 223 100 = some (.istore_n 3, 1, 12, some .int) := fe_of pg_223 rfl
set_option maxRecDepth 100000 in
theorem f_223_101 : fe 223 101 = some (.aload_n 0, 1, 12, some .int) := fe_of pg_223 rfl
set_option maxRecDepth 100000 in
theorem f_223_102 : fe 223 102 = some (.getfield 23, 3, 12, some .int) := fe_of pg_223 rfl
set_option maxRecDepth 100000 in
theorem f_223_105 : fe 223 105 = some (.iload_n 1, 1, 12, some .int) := fe_of pg_223 rfl
set_option maxRecDepth 100000 in
theorem f_223_106 : fe 223 106 = some (.dup2, 1, 12, some .int) := fe_of pg_223 rfl
set_option maxRecDepth 100000 in
theorem f_223_107 : fe 223 107 = some (.iaload, 1, 12, some .int) := fe_of pg_223 rfl
set_option maxRecDepth 100000 in
theorem f_223_108 : fe 223 108 = some (.iload_n 2, 1, 12, some .int) := fe_of pg_223 rfl
set_option maxRecDepth 100000 in
theorem f_223_109 : fe 223 109 = some (.iconst (-1), 1, 12, some .int) := fe_of pg_223 rfl
set_option maxRecDepth 100000 in
theorem f_223_110 : fe 223 110 = some (.if_icmp .ne 7, 3, 12, some .int) := fe_of pg_223 rfl
set_option maxRecDepth 100000 in
theorem f_223_113 : fe 223 113 = some (.iconst 1, 1, 12, some .int) := fe_of pg_223 rfl
set_option maxRecDepth 100000 in
theorem f_223_114 : fe 223 114 = some (.goto 4, 3, 12, some .int) := fe_of pg_223 rfl
set_option maxRecDepth 100000 in
theorem f_223_117 : fe 223 117 = some (.iconst 0, 1, 12, some .int) := fe_of pg_223 rfl
set_option maxRecDepth 100000 in
theorem f_223_118 : fe 223 118 = some (.iadd, 1, 12, some .int) := fe_of pg_223 rfl
set_option maxRecDepth 100000 in
theorem f_223_119 : fe 223 119 = some (.iastore, 1, 12, some .int) := fe_of pg_223 rfl
set_option maxRecDepth 100000 in
theorem f_223_120 : fe 223 120 = some (.aload_n 0, 1, 12, some .int) := fe_of pg_223 rfl
set_option maxRecDepth 100000 in
theorem f_223_121 : fe 223 121 = some (.iload_n 1, 1, 12, some .int) := fe_of pg_223 rfl
set_option maxRecDepth 100000 in
theorem f_223_122 : fe 223 122 = some (.iload_n 3, 1, 12, some .int) := fe_of pg_223 rfl
set_option maxRecDepth 100000 in
theorem f_223_123 : fe 223 123 = some (.invokevirtual 287, 3, 12, some .int) := fe_of pg_223 rfl
set_option maxRecDepth 100000 in
theorem f_223_126 : fe 223 126 = some (.iload_n 3, 1, 12, some .int) := fe_of pg_223 rfl
set_option maxRecDepth 100000 in
theorem f_223_127 : fe 223 127 = some (.ireturn, 1, 12, some .int) := fe_of pg_223 rfl
set_option maxRecDepth 100000 in
theorem f_224_0 : fe 224 0 = some (.aload_n 0, 1, 12, some .int) := fe_of pg_224 rfl
set_option maxRecDepth 100000 in
theorem f_224_1 : fe 224 1 = some (.iconst 0, 1, 12, some .int) := fe_of pg_224 rfl
set_option maxRecDepth 100000 in
theorem f_224_2 : fe 224 2 = some (.putfield 109, 3, 12, some .int) := fe_of pg_224 rfl
set_option maxRecDepth 100000 in
theorem f_224_5 : fe 224 5 = some (.iload_n 1, 1, 12, some .int) := fe_of pg_224 rfl
set_option maxRecDepth 100000 in
theorem f_224_6 : fe 224 6 = some (.ifCond .ne 12, 3, 12, some .int) := fe_of pg_224 rfl
set_option maxRecDepth 100000 in
theorem f_224_9 : fe 224 9 = some (.aload_n 0, 1, 12, some .int) := fe_of pg_224 rfl
set_option maxRecDepth 100000 in
theorem f_224_10 : fe 224 10 = some (.getfield 17, 3, 12, some .int) := fe_of pg_224 rfl
set_option maxRecDepth 100000 in
theorem f_224_13 : fe 224 13 = some (.iconst 0, 1, 12, some .int) := fe_of pg_224 rfl
set_option maxRecDepth 100000 in
theorem f_224_14 : fe 224 14 = some (.iaload, 1, 12, some .int) := fe_of pg_224 rfl
set_option maxRecDepth 100000 in
theorem f_224_15 : fe 224 15 = some (.goto 18, 3, 12, some .int) := fe_of pg_224 rfl
set_option maxRecDepth 100000 in
theorem f_224_18 : fe 224 18 = some (.iload_n 1, 1, 12, some .int) := fe_of pg_224 rfl
set_option maxRecDepth 100000 in
theorem f_224_19 : fe 224 19 = some (.iconst 1, 1, 12, some .int) := fe_of pg_224 rfl
set_option maxRecDepth 100000 in
theorem f_224_20 : fe 224 20 = some (.if_icmp .ne 12, 3, 12, some .int) := fe_of pg_224 rfl
set_option maxRecDepth 100000 in
theorem f_224_23 : fe 224 23 = some (.aload_n 0, 1, 12, some .int) := fe_of pg_224 rfl
set_option maxRecDepth 100000 in
theorem f_224_24 : fe 224 24 = some (.getfield 20, 3, 12, some .int) := fe_of pg_224 rfl
set_option maxRecDepth 100000 in
theorem f_224_27 : fe 224 27 = some (.iconst 0, 1, 12, some .int) := fe_of pg_224 rfl
set_option maxRecDepth 100000 in
theorem f_224_28 : fe 224 28 = some (.iaload, 1, 12, some .int) := fe_of pg_224 rfl
set_option maxRecDepth 100000 in
theorem f_224_29 : fe 224 29 = some (.goto 4, 3, 12, some .int) := fe_of pg_224 rfl
set_option maxRecDepth 100000 in
theorem f_224_32 : fe 224 32 = some (.iconst (-1), 1, 12, some .int) := fe_of pg_224 rfl
set_option maxRecDepth 100000 in
theorem f_224_33 : fe 224 33 = some (.ireturn, 1, 12, some .int) := fe_of pg_224 rfl
set_option maxRecDepth 100000 in
theorem f_225_0 : fe 225 0 = some (.aload_n 0, 1, 12, some .int) := fe_of pg_225 rfl
set_option maxRecDepth 100000 in
theorem f_225_1 : fe 225 1 = some (.getfield 26, 3, 12, some .int) := fe_of pg_225 rfl
set_option maxRecDepth 100000 in
theorem f_225_4 : fe 225 4 = some (.bipush 39, 2, 12, some .int) := fe_of pg_225 rfl
set_option maxRecDepth 100000 in
theorem f_225_6 : fe 225 6 = some (.aload_n 0, 1, 12, some .int) := fe_of pg_225 rfl
set_option maxRecDepth 100000 in
theorem f_225_7 : fe 225 7 = some (.getfield 290, 3, 12, some .int) := fe_of pg_225 rfl
set_option maxRecDepth 100000 in
theorem f_225_10 : fe 225 10 = some (.imul, 1, 12, some .int) := fe_of pg_225 rfl
set_option maxRecDepth 100000 in
theorem f_225_11 : fe 225 11 = some (.iload_n 1, 1, 12, some .int) := fe_of pg_225 rfl
set_option maxRecDepth 100000 in
theorem f_225_12 : fe 225 12 = some (.iadd, 1, 12, some .int) := fe_of pg_225 rfl
set_option maxRecDepth 100000 in
theorem f_225_13 : fe 225 13 = some (.iaload, 1, 12, some .int) := fe_of pg_225 rfl
set_option maxRecDepth 100000 in
theorem f_225_14 : fe 225 14 = some (.ireturn, 1, 12, some .int) := fe_of pg_225 rfl
set_option maxRecDepth 100000 in
theorem f_226_0 : fe 226 0 = some (.aload_n 0, 1, 12, some .boolean) := fe_of pg_226 rfl
set_option maxRecDepth 100000 in
theorem f_226_1 : fe 226 1 = some (.iconst 0, 1, 12, some .boolean) := fe_of pg_226 rfl
set_option maxRecDepth 100000 in
theorem f_226_2 : fe 226 2 = some (.iload_n 1, 1, 12, some .boolean) := fe_of pg_226 rfl
set_option maxRecDepth 100000 in
theorem f_226_3 : fe 226 3 = some (.invokevirtual 281, 3, 12, some .boolean) := fe_of pg_226 rfl
set_option maxRecDepth 100000 in
theorem f_226_6 : fe 226 6 = some (.ifCond .ne 5, 3, 12, some .boolean) := fe_of pg_226 rfl
set_option maxRecDepth 100000 in
theorem f_226_9 : fe 226 9 = some (.iconst 0, 1, 12, some .boolean) := fe_of pg_226 rfl
set_option maxRecDepth 100000 in
theorem f_226_10 : fe 226 10 = some (.ireturn, 1, 12, some .boolean) := fe_of pg_226 rfl
set_option maxRecDepth 100000 in
theorem f_226_11 : fe 226 11 = some (.aload_n 0, 1, 12, some .boolean) := fe_of pg_226 rfl
set_option maxRecDepth 100000 in
theorem f_226_12 : fe 226 12 = some (.iload_n 1, 1, 12, some .boolean) := fe_of pg_226 rfl
set_option maxRecDepth 100000 in
theorem f_226_13 : fe 226 13 = some (.putfield 290, 3, 12, some .boolean) := fe_of pg_226 rfl
set_option maxRecDepth 100000 in
theorem f_226_16 : fe 226 16 = some (.aload_n 0, 1, 12, some .boolean) := fe_of pg_226 rfl
set_option maxRecDepth 100000 in
theorem f_226_17 : fe 226 17 = some (.aload_n 0, 1, 12, some .boolean) := fe_of pg_226 rfl
set_option maxRecDepth 100000 in
theorem f_226_18 : fe 226 18 = some (.iconst 0, 1, 12, some .boolean) := fe_of pg_226 rfl
set_option maxRecDepth 100000 in
theorem f_226_19 : fe 226 19 = some (.invokevirtual 293, 3, 12, some .boolean) := fe_of pg_226 rfl
set_option maxRecDepth 100000 in
theorem f_226_22 : fe 226 22 = some (.putfield 297, 3, 12, some .boolean) := fe_of pg_226 rfl
set_option maxRecDepth 100000 in
theorem f_226_25 : fe 226 25 = some (.aload_n 0, 1, 12, some .boolean) := fe_of pg_226 rfl
set_option maxRecDepth 100000 in
theorem f_226_26 : fe 226 26 = some (.aload_n 0, 1, 12, some .boolean) := fe_of pg_226 rfl
set_option maxRecDepth 100000 in
theorem f_226_27 : fe 226 27 = some (.iconst 1, 1, 12, some .boolean) := fe_of pg_226 rfl
set_option maxRecDepth 100000 in
theorem f_226_28 : fe 226 28 = some (.invokevirtual 293, 3, 12, some .boolean) := fe_of pg_226 rfl
set_option maxRecDepth 100000 in
theorem f_226_31 : fe 226 31 = some (.putfield 300, 3, 12, some .boolean) := fe_of pg_226 rfl
set_option maxRecDepth 100000 in
theorem f_226_34 : fe 226 34 = some (.aload_n 0, 1, 12, some .boolean) := fe_of pg_226 rfl
set_option maxRecDepth 100000 in
theorem f_226_35 : fe 226 35 = some (.aload_n 0, 1, 12, some .boolean) := fe_of pg_226 rfl
set_option maxRecDepth 100000 in
theorem f_226_36 : fe 226 36 = some (.iconst 2, 1, 12, some .boolean) := fe_of pg_226 rfl
set_option maxRecDepth 100000 in
theorem f_226_37 : fe 226 37 = some (.invokevirtual 293, 3, 12, some .boolean) := fe_of pg_226 rfl
set_option maxRecDepth 100000 in
theorem f_226_40 : fe 226 40 = some (.putfield 303, 3, 12, some .boolean) := fe_of pg_226 rfl
set_option maxRecDepth 100000 in
theorem f_226_43 : fe 226 43 = some (.iconst 1, 1, 12, some .boolean) := fe_of pg_226 rfl
set_option maxRecDepth 100000 in
theorem f_226_44 : fe 226 44 = some (.ireturn, 1, 12, some .boolean) := fe_of pg_226 rfl
set_option maxRecDepth 100000 in
theorem f_227_0 : fe 227 0 = some (.aload_n 0, 1, 12, some .int) := fe_of pg_227 rfl
set_option maxRecDepth 100000 in
theorem f_227_1 : fe 227 1 = some (.bipush 11, 2, 12, some .int) := fe_of pg_227 rfl
set_option maxRecDepth 100000 in
theorem f_227_3 : fe 227 3 = some (.iload_n 1, 1, 12, some .int) := fe_of pg_227 rfl
set_option maxRecDepth 100000 in
theorem f_227_4 : fe 227 4 = some (.iadd, 1, 12, some .int) := fe_of pg_227 rfl
set_option maxRecDepth 100000 in
theorem f_227_5 : fe 227 5 = some (.invokevirtual 293, 3, 12, some .int) := fe_of pg_227 rfl
set_option maxRecDepth 100000 in
theorem f_227_8 : fe 227 8 = some (.istore_n 3, 1, 12, some .int) := fe_of pg_227 rfl
set_option maxRecDepth 100000 in
theorem f_227_9 : fe 227 9 = some (.iload_n 3, 1, 12, some .int) := fe_of pg_227 rfl
set_option maxRecDepth 100000 in
theorem f_227_10 : fe 227 10 = some (.ifCond .ne 7, 3, 12, some .int) := fe_of pg_227 rfl
set_option maxRecDepth 100000 in
theorem f_227_13 : fe 227 13 = some (.iload_n 2, 1, 12, some .int) := fe_of pg_227 rfl
set_option maxRecDepth 100000 in
theorem f_227_14 : fe 227 14 = some (.goto 26, 3, 12, some .int) := fe_of pg_227 rfl
set_option maxRecDepth 100000 in
theorem f_227_17 : fe 227 17 = some (.iload_n 3, 1, 12, some .int) := fe_of pg_227 rfl
set_option maxRecDepth 100000 in
theorem f_227_18 : fe 227 18 = some (.iconst 1, 1, 12, some .int) := fe_of pg_227 rfl
set_option maxRecDepth 100000 in
theorem f_227_19 : fe 227 19 = some (.if_icmp .ne 9, 3, 12, some .int) := fe_of pg_227 rfl
set_option maxRecDepth 100000 in
theorem f_227_22 : fe 227 22 = some (.iconst 2, 1, 12, some .int) := fe_of pg_227 rfl
set_option maxRecDepth 100000 in
theorem f_227_23 : fe 227 23 = some (.iload_n 2, 1, 12, some .int) := fe_of pg_227 rfl
set_option maxRecDepth 100000 in
theorem f_227_24 : fe 227 24 = some (.imul, 1, 12, some .int) := fe_of pg_227 rfl
set_option maxRecDepth 100000 in
theorem f_227_25 : fe 227 25 = some (.goto 15, 3, 12, some .int) := fe_of pg_227 rfl
set_option maxRecDepth 100000 in
theorem f_227_28 : fe 227 28 = some (.iload_n 3, 1, 12, some .int) := fe_of pg_227 rfl
set_option maxRecDepth 100000 in
theorem f_227_29 : fe 227 29 = some (.iconst 2, 1, 12, some .int) := fe_of pg_227 rfl
set_option maxRecDepth 100000 in
theorem f_227_30 : fe 227 30 = some (.if_icmp .ne 9, 3, 12, some .int) := fe_of pg_227 rfl
set_option maxRecDepth 100000 in
theorem f_227_33 : fe 227 33 = some (.iload_n 2, 1, 12, some .int) := fe_of pg_227 rfl
set_option maxRecDepth 100000 in
theorem f_227_34 : fe 227 34 = some (.iconst 2, 1, 12, some .int) := fe_of pg_227 rfl
set_option maxRecDepth 100000 in
theorem f_227_35 : fe 227 35 = some (.idiv, 1, 12, some .int) := fe_of pg_227 rfl
set_option maxRecDepth 100000 in
theorem f_227_36 : fe 227 36 = some (.goto 4, 3, 12, some .int) := fe_of pg_227 rfl
set_option maxRecDepth 100000 in
theorem f_227_39 : fe 227 39 = some (.iconst 0, 1, 12, some .int) := fe_of pg_227 rfl
set_option maxRecDepth 100000 in
theorem f_227_40 : fe 227 40 = some (.ireturn, 1, 12, some .int) := fe_of pg_227 rfl
set_option maxRecDepth 100000 in
theorem f_228_0 : fe 228 0 = some (.aload_n 0, 1, 12, some .int) := fe_of pg_228 rfl
set_option maxRecDepth 100000 in
theorem f_228_1 : fe 228 1 = some (.bipush 27, 2, 12, some .int) := fe_of pg_228 rfl
set_option maxRecDepth 100000 in
theorem f_228_3 : fe 228 3 = some (.aload_n 0, 1, 12, some .int) := fe_of pg_228 rfl
set_option maxRecDepth 100000 in
theorem f_228_4 : fe 228 4 = some (.bipush 11, 2, 12, some .int) := fe_of pg_228 rfl
set_option maxRecDepth 100000 in
theorem f_228_6 : fe 228 6 = some (.iload_n 1, 1, 12, some .int) := fe_of pg_228 rfl
set_option maxRecDepth 100000 in
theorem f_228_7 : fe 228 7 = some (.iadd, 1, 12, some .int) := fe_of pg_228 rfl
set_option maxRecDepth 100000 in
theorem f_228_8 : fe 228 8 = some (.invokevirtual 293, 3, 12, some .int) := fe_of pg_228 rfl
set_option maxRecDepth 100000 in
theorem f_228_11 : fe 228 11 = some (.iadd, 1, 12, some .int) := fe_of pg_228 rfl
set_option maxRecDepth 100000 in
theorem f_228_12 : fe 228 12 = some (.invokevirtual 293, 3, 12, some .int) := fe_of pg_228 rfl
set_option maxRecDepth 100000 in
theorem f_228_15 : fe 228 15 = some (.ireturn, 1, 12, some .int) := fe_of pg_228 rfl
set_option maxRecDepth 100000 in
theorem f_229_0 : fe 229 0 = some (.aload_n 0, 1, 12, some .int) := fe_of pg_229 rfl
set_option maxRecDepth 100000 in
theorem f_229_1 : fe 229 1 = some (.iconst 0, 1, 12, some .int) := fe_of pg_229 rfl
set_option maxRecDepth 100000 in
theorem f_229_2 : fe 229 2 = some (.putfield 109, 3, 12, some .int) := fe_of pg_229 rfl
set_option maxRecDepth 100000 in
theorem f_229_5 : fe 229 5 = some (.aload_n 0, 1, 12, some .int) := fe_of pg_229 rfl
set_option maxRecDepth 100000 in
theorem f_229_6 : fe 229 6 = some (.iload_n 1, 1, 12, some .int) := fe_of pg_229 rfl
set_option maxRecDepth 100000 in
theorem f_229_7 : fe 229 7 = some (.invokevirtual 306, 3, 12, some .int) := fe_of pg_229 rfl
set_option maxRecDepth 100000 in
theorem f_229_10 : fe 229 10 = some (.ifCond .ne 5, 3, 12, some .int) := fe_of pg_229 rfl
set_option maxRecDepth 100000 in
theorem f_229_13 : fe 229 13 = some (.iconst (-1), 1, 12, some .int) := fe_of pg_229 rfl
set_option maxRecDepth 100000 in
theorem f_229_14 : fe 229 14 = some (.ireturn, 1, 12, some .int) := fe_of pg_229 rfl
set_option maxRecDepth 100000 in
theorem f_229_15 : fe 229 15 = some (.iload_n 2, 1, 12, some .int) := fe_of pg_229 rfl
set_option maxRecDepth 100000 in
theorem f_229_16 : fe 229 16 = some (.bipush 10, 2, 12, some .int) := fe_of pg_229 rfl
set_option maxRecDepth 100000 in
theorem f_229_18 : fe 229 18 = some (.irem, 1, 12, some .int) := fe_of pg_229 rfl
set_option maxRecDepth 100000 in
theorem f_229_19 : fe 229 19 = some (.istore_n 3, 1, 12, some .int) := fe_of pg_229 rfl
set_option maxRecDepth 100000 in
theorem f_229_20 : fe 229 20 = some (.iload_n 2, 1, 12, some .int) := fe_of pg_229 rfl
set_option maxRecDepth 100000 in
theorem f_229_21 : fe 229 21 = some (.bipush 10, 2, 12, some .int) := fe_of pg_229 rfl
set_option maxRecDepth 100000 in
theorem f_229_23 : fe 229 23 = some (.idiv, 1, 12, some .int) := fe_of pg_229 rfl
set_option maxRecDepth 100000 in
theorem f_229_24 : fe 229 24 = some (.tableswitch 171 1 6 #[40, 60, 81, 102, 120, 145], 40, 12, some .int) := fe_of pg_229 rfl
set_option maxRecDepth 100000 in
theorem f_229_64 : fe 229 64 = some (.iload_n 3, 1, 12, some .int) := fe_of pg_229 rfl
set_option maxRecDepth 100000 in
theorem f_229_65 : fe 229 65 = some (.aload_n 0, 1, 12, some .int) := fe_of pg_229 rfl
set_option maxRecDepth 100000 in
theorem f_229_66 : fe 229 66 = some (.getfield 297, 3, 12, some .int) := fe_of pg_229 rfl
set_option maxRecDepth 100000 in
theorem f_229_69 : fe 229 69 = some (.if_icmp .ge 13, 3, 12, some .int) := fe_of pg_229 rfl
set_option maxRecDepth 100000 in
theorem f_229_72 : fe 229 72 = some (.aload_n 0, 1, 12, some .int) := fe_of pg_229 rfl
set_option maxRecDepth 100000 in
theorem f_229_73 : fe 229 73 = some (.iconst 3, 1, 12, some .int) := fe_of pg_229 rfl
set_option maxRecDepth 100000 in
theorem f_229_74 : fe 229 74 = some (.iload_n 3, 1, 12, some .int) := fe_of pg_229 rfl
set_option maxRecDepth 100000 in
theorem f_229_75 : fe 229 75 = some (.iadd, 1, 12, some .int) := fe_of pg_229 rfl
set_option maxRecDepth 100000 in
theorem f_229_76 : fe 229 76 = some (.invokevirtual 293, 3, 12, some .int) := fe_of pg_229 rfl
set_option maxRecDepth 100000 in
theorem f_229_79 : fe 229 79 = some (.goto 4, 3, 12, some .int) := fe_of pg_229 rfl
set_option maxRecDepth 100000 in
theorem f_229_82 : fe 229 82 = some (.iconst (-1), 1, 12, some .int) := fe_of pg_229 rfl
set_option maxRecDepth 100000 in
theorem f_229_83 : fe 229 83 = some (.ireturn, 1, 12, some .int) := fe_of pg_229 rfl
set_option maxRecDepth 100000 in
theorem f_229_84 : fe 229 84 = some (.iload_n 3, 1, 12, some .int) := fe_of pg_229 rfl
set_option maxRecDepth 100000 in
theorem f_229_85 : fe 229 85 = some (.aload_n 0, 1, 12, some .int) := fe_of pg_229 rfl
set_option maxRecDepth 100000 in
theorem f_229_86 : fe 229 86 = some (.getfield 303, 3, 12, some .int) := fe_of pg_229 rfl
set_option maxRecDepth 100000 in
theorem f_229_89 : fe 229 89 = some (.if_icmp .ge 14, 3, 12, some .int) := fe_of pg_229 rfl
set_option maxRecDepth 100000 in
theorem f_229_92 : fe 229 92 = some (.aload_n 0, 1, 12, some .int) := fe_of pg_229 rfl
set_option maxRecDepth 100000 in
theorem f_229_93 : fe 229 93 = some (.bipush 11, 2, 12, some .int) := fe_of pg_229 rfl
set_option maxRecDepth 100000 in
theorem f_229_95 : fe 229 95 = some (.iload_n 3, 1, 12, some .int) := fe_of pg_229 rfl
set_option maxRecDepth 100000 in
theorem f_229_96 : fe 229 96 = some (.iadd, 1, 12, some .int) := fe_of pg_229 rfl
set_option maxRecDepth 100000 in
theorem f_229_97 : fe 229 97 = some (.invokevirtual 293, 3, 12, some .int) := fe_of pg_229 rfl
set_option maxRecDepth 100000 in
theorem f_229_100 : fe 229 100 = some (.goto 4, 3, 12, some .int) := fe_of pg_229 rfl
set_option maxRecDepth 100000 in
theorem f_229_103 : fe 229 103 = some (.iconst (-1), 1, 12, some .int) := fe_of pg_229 rfl
set_option maxRecDepth 100000 in
theorem f_229_104 : fe 229 104 = some (.ireturn, 1, 12, some .int) := fe_of pg_229 rfl
set_option maxRecDepth 100000 in
theorem f_229_105 : fe 229 105 = some (.iload_n 3, 1, 12, some .int) := fe_of pg_229 rfl
set_option maxRecDepth 100000 in
theorem f_229_106 : fe 229 106 = some (.aload_n 0, 1, 12, some .int) := fe_of pg_229 rfl
set_option maxRecDepth 100000 in
theorem f_229_107 : fe 229 107 = some (.getfield 303, 3, 12, some .int) := fe_of pg_229 rfl
set_option maxRecDepth 100000 in
theorem f_229_110 : fe 229 110 = some (.if_icmp .ge 14, 3, 12, some .int) := fe_of pg_229 rfl
set_option maxRecDepth 100000 in
theorem f_229_113 : fe 229 113 = some (.aload_n 0, 1, 12, some .int) := fe_of pg_229 rfl
set_option maxRecDepth 100000 in
theorem f_229_114 : fe 229 114 = some (.bipush 19, 2, 12, some .int) := fe_of pg_229 rfl
set_option maxRecDepth 100000 in
theorem f_229_116 : fe 229 116 = some (.iload_n 3, 1, 12, some .int) := fe_of pg_229 rfl
set_option maxRecDepth 100000 in
theorem f_229_117 : fe 229 117 = some (.iadd, 1, 12, some .int) := fe_of pg_229 rfl
set_option maxRecDepth 100000 in
theorem f_229_118 : fe 229 118 = some (.invokevirtual 293, 3, 12, some .int) := fe_of pg_229 rfl
set_option maxRecDepth 100000 in
theorem f_229_121 : fe 229 121 = some (.goto 4, 3, 12, some .int) := fe_of pg_229 rfl
set_option maxRecDepth 100000 in
theorem f_229_124 : fe 229 124 = some (.iconst (-1), 1, 12, some .int) := fe_of pg_229 rfl
set_option maxRecDepth 100000 in
theorem f_229_125 : fe 229 125 = some (.ireturn, 1, 12, some .int) := fe_of pg_229 rfl
set_option maxRecDepth 100000 in
theorem f_229_126 : fe 229 126 = some (.iload_n 3, 1, 12, some .int) := fe_of pg_229 rfl
set_option maxRecDepth 100000 in
theorem f_229_127 : fe 229 127 = some (.iconst 4, 1, 12, some .int) := fe_of pg_229 rfl
set_option maxRecDepth 100000 in
theorem f_229_128 : fe 229 128 = some (.if_icmp .ge 14, 3, 12, some .int) := fe_of pg_229 rfl
set_option maxRecDepth 100000 in
theorem f_229_131 : fe 229 131 = some (.aload_n 0, 1, 12, some .int) := fe_of pg_229 rfl
set_option maxRecDepth 100000 in
theorem f_229_132 : fe 229 132 = some (.bipush 27, 2, 12, some .int) := fe_of pg_229 rfl
set_option maxRecDepth 100000 in
theorem f_229_134 : fe 229 134 = some (.iload_n 3, 1, 12, some .int) := fe_of pg_229 rfl
set_option maxRecDepth 100000 in
theorem f_229_135 : fe 229 135 = some (.iadd, 1, 12, some .int) := fe_of pg_229 rfl
set_option maxRecDepth 100000 in
theorem f_229_136 : fe 229 136 = some (.invokevirtual 293, 3, 12, some .int) := fe_of pg_229 rfl
set_option maxRecDepth 100000 in
theorem f_229_139 : fe 229 139 = some (.goto 4, 3, 12, some .int) := fe_of pg_229 rfl
set_option maxRecDepth 100000 in
theorem f_229_142 : fe 229 142 = some (.iconst (-1), 1, 12, some .int) := fe_of pg_229 rfl
set_option maxRecDepth 100000 in
theorem f_229_143 : fe 229 143 = some (.ireturn, 1, 12, some .int) := fe_of pg_229 rfl
set_option maxRecDepth 100000 in
theorem f_229_144 : fe 229 144 = some (.iload_n 3, 1, 12, some .int) := fe_of pg_229 rfl
set_option maxRecDepth 100000 in
theorem f_229_145 : fe 229 145 = some (.iconst 1, 1, 12, some .int) := fe_of pg_229 rfl
set_option maxRecDepth 100000 in
theorem f_229_146 : fe 229 146 = some (.bipush 8, 2, 12, some .int) := fe_of pg_229 rfl
set_option maxRecDepth 100000 in
theorem f_229_148 : fe 229 148 = some (.invokestatic 121, 3, 12, some .int) := fe_of pg_229 rfl
set_option maxRecDepth 100000 in
theorem f_229_151 : fe 229 151 = some (.ifCond .eq 16, 3, 12, some .int) := fe_of pg_229 rfl
set_option maxRecDepth 100000 in
theorem f_229_154 : fe 229 154 = some (.aload_n 0, 1, 12, some .int) := fe_of pg_229 rfl
set_option maxRecDepth 100000 in
theorem f_229_155 : fe 229 155 = some (.bipush 31, 2, 12, some .int) := fe_of pg_229 rfl
set_option maxRecDepth 100000 in
theorem f_229_157 : fe 229 157 = some (.iload_n 3, 1, 12, some .int) := fe_of pg_229 rfl
set_option maxRecDepth 100000 in
theorem f_229_158 : fe 229 158 = some (.iadd, 1, 12, some .int) := fe_of pg_229 rfl
set_option maxRecDepth 100000 in
theorem f_229_159 : fe 229 159 = some (.iconst 1, 1, 12, some .int) := fe_of pg_229 rfl
set_option maxRecDepth 100000 in
theorem f_229_160 : fe 229 160 = some (.isub, 1, 12, some .int) := fe_of pg_229 rfl
set_option maxRecDepth 100000 in
theorem f_229_161 : fe 229 161 = some (.invokevirtual 293, 3, 12, some .int) := fe_of pg_229 rfl
set_option maxRecDepth 100000 in
theorem f_229_164 : fe 229 164 = some (.goto 4, 3, 12, some .int) := fe_of pg_229 rfl
set_option maxRecDepth 100000 in
theorem f_229_167 : fe 229 167 = some (.iconst (-1), 1, 12, some .int) := fe_of pg_229 rfl
set_option maxRecDepth 100000 in
theorem f_229_168 : fe 229 168 = some (.ireturn, 1, 12, some .int) := fe_of pg_229 rfl
set_option maxRecDepth 100000 in
theorem f_229_169 : fe 229 169 = some (.iload_n 3, 1, 12, some .int) := fe_of pg_229 rfl
set_option maxRecDepth 100000 in
theorem f_229_170 : fe 229 170 = some (.aload_n 0, 1, 12, some .int) := fe_of pg_229 rfl
set_option maxRecDepth 100000 in
theorem f_229_171 : fe 229 171 = some (.getfield 303, 3, 12, some .int) := fe_of pg_229 rfl
set_option maxRecDepth 100000 in
theorem f_229_174 : fe 229 174 = some (.if_icmp .ge 19, 3, 12, some .int) := fe_of pg_229 rfl
set_option maxRecDepth 100000 in
theorem f_229_177 : fe 229 177 = some (.aload_n 0, 1, 12, some .int) := fe_of pg_229 rfl
set_option maxRecDepth 100000 in
theorem f_229_178 : fe 229 178 = some (.iload_n 3, 1, 12, some .int) := fe_of pg_229 rfl
set_option maxRecDepth 100000 in
theorem f_229_179 : fe 229 179 = some (.aload_n 0, 1, 12, some .int) := fe_of pg_229 rfl
set_option maxRecDepth 100000 in
theorem f_229_180 : fe 229 180 = some (.bipush 19, 2, 12, some .int) := fe_of pg_229 rfl
set_option maxRecDepth 100000 in
theorem f_229_182 : fe 229 182 = some (.iload_n 3, 1, 12, some .int) := fe_of pg_229 rfl
set_option maxRecDepth 100000 in
theorem f_229_183 : fe 229 183 = some (.iadd, 1, 12, some .int) := fe_of pg_229 rfl
set_option maxRecDepth 100000 in
theorem f_229_184 : fe 229 184 = some (.invokevirtual 293, 3, 12, some .int) := fe_of pg_229 rfl
set_option maxRecDepth 100000 in
theorem f_229_187 : fe 229 187 = some (.invokevirtual 309, 3, 12, some .int) := fe_of pg_229 rfl
set_option maxRecDepth 100000 in
theorem f_229_190 : fe 229 190 = some (.goto 4, 3, 12, some .int) := fe_of pg_229 rfl
set_option maxRecDepth 100000 in
theorem f_229_193 : fe 229 193 = some (.iconst (-1), 1, 12, some .int) := fe_of pg_229 rfl
set_option maxRecDepth 100000 in
theorem f_229_194 : fe 229 194 = some (.ireturn, 1, 12, some .int) := fe_of pg_229 rfl
set_option maxRecDepth 100000 in
theorem f_229_195 : fe 229 195 = some (.iload_n 2, 1, 12, some .int) := fe_of pg_229 rfl
set_option maxRecDepth 100000 in
theorem f_229_196 : fe 229 196 = some (.iconst 0, 1, 12, some .int) := fe_of pg_229 rfl
set_option maxRecDepth 100000 in
theorem f_229_197 : fe 229 197 = some (.iconst 2, 1, 12, some .int) := fe_of pg_229 rfl
set_option maxRecDepth 100000 in
theorem f_229_198 : fe 229 198 = some (.invokestatic 121, 3, 12, some .int) := fe_of pg_229 rfl
set_option maxRecDepth 100000 in
theorem f_229_201 : fe 229 201 = some (.ifCond .eq 11, 3, 12, some .int) := fe_of pg_229 rfl
set_option maxRecDepth 100000 in
theorem f_229_204 : fe 229 204 = some (.aload_n 0, 1, 12, some .int) := fe_of pg_229 rfl
set_option maxRecDepth 100000 in
theorem f_229_205 : fe 229 205 = some (.iload_n 2, 1, 12, some .int) := fe_of pg_229 rfl
set_option maxRecDepth 100000 in
theorem f_229_206 : fe 229 206 = some (.invokevirtual 293, 3, 12, some .int) := fe_of pg_229 rfl
set_option maxRecDepth 100000 in
theorem f_229_209 : fe 229 209 = some (.goto 4, 3, 12, some .int) := fe_of pg_229 rfl
set_option maxRecDepth 100000 in
theorem f_229_212 : fe 229 212 = some (.iconst (-1), 1, 12, some .int) := fe_of pg_229 rfl
set_option maxRecDepth 100000 in
theorem f_229_213 : fe 229 213 = some (.ireturn, 1, 12, some .int) := fe_of pg_229 rfl
set_option maxRecDepth 100000 in
theorem f_230_0 : fe 230 0 = some (.aload_n 0, 1, 12, some .int) := fe_of pg_230 rfl
set_option maxRecDepth 100000 in
theorem f_230_1 : fe 230 1 = some (.getfield 29, 3, 12, some .int) := fe_of pg_230 rfl
set_option maxRecDepth 100000 in
theorem f_230_4 : fe 230 4 = some (.bipush 121, 2, 12, some .int) := fe_of pg_230 rfl
set_option maxRecDepth 100000 in
theorem f_230_6 : fe 230 6 = some (.aload_n 0, 1, 12, some .int) := fe_of pg_230 rfl
set_option maxRecDepth 100000 in
theorem f_230_7 : fe 230 7 = some (.getfield 313, 3, 12, some .int) := fe_of pg_230 rfl
set_option maxRecDepth 100000 in
theorem f_230_10 : fe 230 10 = some (.imul, 1, 12, some .int) := fe_of pg_230 rfl
set_option maxRecDepth 100000 in
theorem f_230_11 : fe 230 11 = some (.iaload, 1, 12, some .int) := fe_of pg_230 rfl
set_option maxRecDepth 100000 in
theorem f_230_12 : fe 230 12 = some (.ireturn, 1, 12, some .int) := fe_of pg_230 rfl
set_option maxRecDepth 100000 in
theorem f_231_0 : fe 231 0 = some (.aload_n 0, 1, 12, some .int) := fe_of pg_231 rfl
set_option maxRecDepth 100000 in
theorem f_231_1 : fe 231 1 = some (.getfield 29, 3, 12, some .int) := fe_of pg_231 rfl
set_option maxRecDepth 100000 in
theorem f_231_4 : fe 231 4 = some (.bipush 121, 2, 12, some .int) := fe_of pg_231 rfl
set_option maxRecDepth 100000 in
theorem f_231_6 : fe 231 6 = some (.aload_n 0, 1, 12, some .int) := fe_of pg_231 rfl
set_option maxRecDepth 100000 in
theorem f_231_7 : fe 231 7 = some (.getfield 313, 3, 12, some .int) := fe_of pg_231 rfl
set_option maxRecDepth 100000 in
theorem f_231_10 : fe 231 10 = some (.imul, 1, 12, some .int) := fe_of pg_231 rfl
set_option maxRecDepth 100000 in
theorem f_231_11 : fe 231 11 = some (.iconst 1, 1, 12, some .int) := fe_of pg_231 rfl
set_option maxRecDepth 100000 in
theorem f_231_12 : fe 231 12 = some (.iadd, 1, 12, some .int) := fe_of pg_231 rfl
set_option maxRecDepth 100000 in
theorem f_231_13 : fe 231 13 = some (.iconst 3, 1, 12, some .int) := fe_of pg_231 rfl
set_option maxRecDepth 100000 in
theorem f_231_14 : fe 231 14 = some (.iload_n 1, 1, 12, some .int) := fe_of pg_231 rfl
set_option maxRecDepth 100000 in
theorem f_231_15 : fe 231 15 = some (.imul, 1, 12, some .int) := fe_of pg_231 rfl
set_option maxRecDepth 100000 in
theorem f_231_16 : fe 231 16 = some (.iadd, 1, 12, some .int) := fe_of pg_231 rfl
set_option maxRecDepth 100000 in
theorem f_231_17 : fe 231 17 = some (.iload_n 2, 1, 12, some .int) := fe_of pg_231 rfl
set_option maxRecDepth 100000 in
theorem f_231_18 : fe 231 18 = some (.iadd, 1, 12, some .int) := fe_of pg_231 rfl
set_option maxRecDepth 100000 in
theorem f_231_19 : fe 231 19 = some (.iaload, 1, 12, some .int) := fe_of pg_231 rfl
set_option maxRecDepth 100000 in
theorem f_231_20 : fe 231 20 = some (.ireturn, 1, 12, some .int) := fe_of pg_231 rfl
