set_option maxRecDepth 20000 in
theorem ggL_refuses_X4_minute : GoodIn wsL_refuses wsX4_minute := goodIn_r _ [7, 8, 378, 379, 380, 381, 382, 383, 384] (by decide +kernel) (by decide +kernel)
set_option maxRecDepth 20000 in
theorem gL_refuses_X4_minute : GoodIn wsL_refuses (wsV RL 89 RX4 yX4_minute wsX4_minute) := goodIn_app (goodIn_of _ (by decide +kernel)) ggL_refuses_X4_minute
set_option maxRecDepth 20000 in
theorem ggL_refuses_X4_alarms : GoodIn wsL_refuses wsX4_alarms := goodIn_r _ [12, 13, 14, 15, 16, 17, 18, 19, 378, 379, 380, 381, 382, 383, 384, 385, 386, 387] (by decide +kernel) (by decide +kernel)
set_option maxRecDepth 20000 in
theorem gL_refuses_X4_alarms : GoodIn wsL_refuses (wsV RL 93 RX4 yX4_alarms wsX4_alarms) := goodIn_app (goodIn_of _ (by decide +kernel)) ggL_refuses_X4_alarms
set_option maxRecDepth 20000 in
theorem ggL_refuses_L_act : GoodIn wsL_refuses wsL_act := goodIn_ca (goodIn_ca (goodIn_ca (goodIn_r _ [23, 24, 25, 26, 27, 28, 29, 6, 30, 31, 32, 33, 34, 35, 36, 37, 38, 39, 40, 41, 42, 43, 44, 14, 15, 16, 17, 18, 19, 45, 46, 47, 48, 49, 50, 51, 52, 53, 54, 55, 56, 57, 58, 59, 60, 61, 62, 63, 64, 65, 66, 67, 68, 69, 70, 71, 72, 73, 74, 75, 76, 77, 78, 79, 80, 81, 82, 83, 84, 85, 86, 87, 88, 89, 90, 91, 92, 93, 94, 95, 96, 97, 98, 99, 100, 101, 102, 103, 104, 105, 106, 107, 108, 109, 110, 111, 112, 113, 114, 115, 116, 117, 118, 119, 120, 121, 122, 123, 124, 125, 126, 127, 128, 129, 130, 131, 132, 133, 134, 135, 136, 137, 138, 139, 140, 141, 142, 143, 144, 145, 146, 147, 148, 149, 150, 151, 152, 153, 154, 155, 156, 157, 158, 159, 160, 161, 162, 163, 164, 165, 166, 167, 168, 169, 170, 171, 172, 173, 174, 175, 176, 177, 178, 179, 180, 181, 182, 183, 184, 185, 186, 187, 188, 189, 190, 191, 192, 193, 194, 195, 8, 196, 197, 198, 199, 200, 201, 202, 203, 204, 205, 206, 207, 208, 209, 13, 210, 211, 212, 213, 214, 215, 216, 217, 218, 219, 220, 221, 222, 223, 224, 225, 226, 227, 228, 229, 230, 231, 232, 233, 234, 235, 236, 237, 238, 239, 240, 241, 242, 243, 244, 245, 246, 247, 248, 249, 250, 251, 252, 253, 254, 255, 256, 257, 258, 259, 260, 261, 262, 263, 264, 265, 266, 267, 268, 269, 270, 271, 272, 273, 274, 275, 276, 277, 278, 279, 280, 281, 282, 283, 284, 285, 286, 287, 288, 289, 290, 291, 292, 293, 294, 295, 296, 297, 298, 299, 300, 301, 302, 303, 304, 305, 306, 307, 308, 309, 310, 311, 312, 313, 314, 315, 316, 317, 318, 319, 320, 321, 322, 323, 324, 325, 326, 327, 328, 329, 330, 331, 332, 333, 334, 335, 336, 337, 338, 339, 340, 341, 342, 343, 344, 345, 346, 347, 348, 349, 350, 351, 352, 353, 354, 355, 356, 357, 358, 359, 360, 361, 362, 363, 364, 365, 366, 367, 368, 369, 370, 371, 372, 373, 374, 375, 376, 377, 378, 379, 380, 381, 382, 383, 384, 388, 389, 390, 391, 385, 386, 387, 392, 393, 394, 395, 396, 397, 398, 399, 400, 401, 402, 403, 404, 405, 406, 407, 408, 409, 410] (by decide +kernel) (by decide +kernel)) (goodIn_sub (fun _ h => List.mem_cons_of_mem _ (List.mem_append_left _ (List.mem_append_left _ (List.mem_append_right _ h)))) (by decide +kernel))) (goodIn_sub (fun _ h => List.mem_cons_of_mem _ (List.mem_append_left _ (List.mem_append_right _ h))) (by decide +kernel))) (goodIn_sub (fun _ h => List.mem_cons_of_mem _ (List.mem_append_right _ h)) (by decide +kernel))
set_option maxRecDepth 20000 in
theorem gL_refuses_L_act : GoodIn wsL_refuses (va_wsS RL 97 yL_act wsL_act) := goodIn_app (goodIn_of _ (by decide +kernel)) ggL_refuses_L_act
theorem dL_refuses_0 : decode cL_refuses 0 = .ok (.aload_n 0, 1) := by decide +kernel
theorem dL_refuses_1 : decode cL_refuses 1 = .ok (.invokevirtual 89, 3) := by decide +kernel
theorem dL_refuses_4 : decode cL_refuses 4 = .ok (.istore 4, 2) := by decide +kernel
theorem dL_refuses_6 : decode cL_refuses 6 = .ok (.aload_n 0, 1) := by decide +kernel
theorem dL_refuses_7 : decode cL_refuses 7 = .ok (.invokevirtual 93, 3) := by decide +kernel
theorem dL_refuses_10 : decode cL_refuses 10 = .ok (.istore 5, 2) := by decide +kernel
theorem dL_refuses_12 : decode cL_refuses 12 = .ok (.ldc 96, 2) := by decide +kernel
theorem dL_refuses_14 : decode cL_refuses 14 = .ok (.istore 6, 2) := by decide +kernel
theorem dL_refuses_16 : decode cL_refuses 16 = .ok (.iconst 0, 1) := by decide +kernel
theorem dL_refuses_17 : decode cL_refuses 17 = .ok (.istore 7, 2) := by decide +kernel
theorem dL_refuses_19 : decode cL_refuses 19 = .ok (.iload 7, 2) := by decide +kernel
theorem dL_refuses_21 : decode cL_refuses 21 = .ok (.iconst 4, 1) := by decide +kernel
theorem dL_refuses_22 : decode cL_refuses 22 = .ok (.if_icmp .ge 647, 3) := by decide +kernel
theorem dL_refuses_25 : decode cL_refuses 25 = .ok (.iload 7, 2) := by decide +kernel
theorem dL_refuses_27 : decode cL_refuses 27 = .ok (.ifCond .ne 7, 3) := by decide +kernel
theorem dL_refuses_30 : decode cL_refuses 30 = .ok (.iconst (-1), 1) := by decide +kernel
theorem dL_refuses_31 : decode cL_refuses 31 = .ok (.goto 19, 3) := by decide +kernel
theorem dL_refuses_34 : decode cL_refuses 34 = .ok (.iload 7, 2) := by decide +kernel
theorem dL_refuses_36 : decode cL_refuses 36 = .ok (.iconst 2, 1) := by decide +kernel
theorem dL_refuses_37 : decode cL_refuses 37 = .ok (.if_icmp .ne 8, 3) := by decide +kernel
theorem dL_refuses_40 : decode cL_refuses 40 = .ok (.iload 6, 2) := by decide +kernel
theorem dL_refuses_42 : decode cL_refuses 42 = .ok (.goto 8, 3) := by decide +kernel
theorem dL_refuses_45 : decode cL_refuses 45 = .ok (.iload 6, 2) := by decide +kernel
theorem dL_refuses_47 : decode cL_refuses 47 = .ok (.ineg, 1) := by decide +kernel
theorem dL_refuses_48 : decode cL_refuses 48 = .ok (.iconst 1, 1) := by decide +kernel
theorem dL_refuses_49 : decode cL_refuses 49 = .ok (.isub, 1) := by decide +kernel
theorem dL_refuses_50 : decode cL_refuses 50 = .ok (.istore 8, 2) := by decide +kernel
theorem dL_refuses_52 : decode cL_refuses 52 = .ok (.iload 7, 2) := by decide +kernel
theorem dL_refuses_54 : decode cL_refuses 54 = .ok (.iconst 1, 1) := by decide +kernel
theorem dL_refuses_55 : decode cL_refuses 55 = .ok (.if_icmp .ne 7, 3) := by decide +kernel
theorem dL_refuses_58 : decode cL_refuses 58 = .ok (.iload_n 1, 1) := by decide +kernel
theorem dL_refuses_59 : decode cL_refuses 59 = .ok (.goto 5, 3) := by decide +kernel
theorem dL_refuses_62 : decode cL_refuses 62 = .ok (.iload 8, 2) := by decide +kernel
theorem dL_refuses_64 : decode cL_refuses 64 = .ok (.istore 9, 2) := by decide +kernel
theorem dL_refuses_66 : decode cL_refuses 66 = .ok (.iload 7, 2) := by decide +kernel
theorem dL_refuses_68 : decode cL_refuses 68 = .ok (.iconst 1, 1) := by decide +kernel
theorem dL_refuses_69 : decode cL_refuses 69 = .ok (.if_icmp .ne 7, 3) := by decide +kernel
theorem dL_refuses_72 : decode cL_refuses 72 = .ok (.iload_n 2, 1) := by decide +kernel
theorem dL_refuses_73 : decode cL_refuses 73 = .ok (.goto 5, 3) := by decide +kernel
theorem dL_refuses_76 : decode cL_refuses 76 = .ok (.iload 8, 2) := by decide +kernel
theorem dL_refuses_78 : decode cL_refuses 78 = .ok (.istore 10, 2) := by decide +kernel
theorem dL_refuses_80 : decode cL_refuses 80 = .ok (.iload 7, 2) := by decide +kernel
theorem dL_refuses_82 : decode cL_refuses 82 = .ok (.ifCond .ne 7, 3) := by decide +kernel
theorem dL_refuses_85 : decode cL_refuses 85 = .ok (.iconst 0, 1) := by decide +kernel
theorem dL_refuses_86 : decode cL_refuses 86 = .ok (.goto 5, 3) := by decide +kernel
theorem dL_refuses_89 : decode cL_refuses 89 = .ok (.iload 8, 2) := by decide +kernel
theorem dL_refuses_91 : decode cL_refuses 91 = .ok (.istore 11, 2) := by decide +kernel
theorem dL_refuses_93 : decode cL_refuses 93 = .ok (.aload_n 0, 1) := by decide +kernel
theorem dL_refuses_94 : decode cL_refuses 94 = .ok (.iconst 0, 1) := by decide +kernel
theorem dL_refuses_95 : decode cL_refuses 95 = .ok (.iload 7, 2) := by decide +kernel
theorem dL_refuses_97 : decode cL_refuses 97 = .ok (.ifCond .ne 8, 3) := by decide +kernel
theorem dL_refuses_100 : decode cL_refuses 100 = .ok (.bipush (-2), 2) := by decide +kernel
theorem dL_refuses_102 : decode cL_refuses 102 = .ok (.goto 5, 3) := by decide +kernel
theorem dL_refuses_105 : decode cL_refuses 105 = .ok (.iload 9, 2) := by decide +kernel
theorem dL_refuses_107 : decode cL_refuses 107 = .ok (.iconst 0, 1) := by decide +kernel
theorem dL_refuses_108 : decode cL_refuses 108 = .ok (.iconst 0, 1) := by decide +kernel
theorem dL_refuses_109 : decode cL_refuses 109 = .ok (.iconst 0, 1) := by decide +kernel
theorem dL_refuses_110 : decode cL_refuses 110 = .ok (.invokestatic 97, 3) := by decide +kernel
theorem dL_refuses_113 : decode cL_refuses 113 = .ok (.bipush (-41), 2) := by decide +kernel
theorem dL_refuses_115 : decode cL_refuses 115 = .ok (.if_icmp .ne 111, 3) := by decide +kernel
theorem dL_refuses_118 : decode cL_refuses 118 = .ok (.aload_n 0, 1) := by decide +kernel
theorem dL_refuses_119 : decode cL_refuses 119 = .ok (.iconst 1, 1) := by decide +kernel
theorem dL_refuses_120 : decode cL_refuses 120 = .ok (.iload 7, 2) := by decide +kernel
theorem dL_refuses_122 : decode cL_refuses 122 = .ok (.iconst 1, 1) := by decide +kernel
theorem dL_refuses_123 : decode cL_refuses 123 = .ok (.if_icmp .ne 8, 3) := by decide +kernel
theorem dL_refuses_126 : decode cL_refuses 126 = .ok (.bipush 61, 2) := by decide +kernel
theorem dL_refuses_128 : decode cL_refuses 128 = .ok (.goto 5, 3) := by decide +kernel
theorem dL_refuses_131 : decode cL_refuses 131 = .ok (.iload 11, 2) := by decide +kernel
theorem dL_refuses_133 : decode cL_refuses 133 = .ok (.iconst 0, 1) := by decide +kernel
theorem dL_refuses_134 : decode cL_refuses 134 = .ok (.iconst 0, 1) := by decide +kernel
theorem dL_refuses_135 : decode cL_refuses 135 = .ok (.iconst 1, 1) := by decide +kernel
theorem dL_refuses_136 : decode cL_refuses 136 = .ok (.invokestatic 97, 3) := by decide +kernel
theorem dL_refuses_139 : decode cL_refuses 139 = .ok (.bipush (-42), 2) := by decide +kernel
theorem dL_refuses_141 : decode cL_refuses 141 = .ok (.if_icmp .ne 85, 3) := by decide +kernel
theorem dL_refuses_144 : decode cL_refuses 144 = .ok (.aload_n 0, 1) := by decide +kernel
theorem dL_refuses_145 : decode cL_refuses 145 = .ok (.iconst 1, 1) := by decide +kernel
theorem dL_refuses_146 : decode cL_refuses 146 = .ok (.iconst 1, 1) := by decide +kernel
theorem dL_refuses_147 : decode cL_refuses 147 = .ok (.iload 7, 2) := by decide +kernel
theorem dL_refuses_149 : decode cL_refuses 149 = .ok (.iconst 1, 1) := by decide +kernel
theorem dL_refuses_150 : decode cL_refuses 150 = .ok (.if_icmp .ne 9, 3) := by decide +kernel
theorem dL_refuses_153 : decode cL_refuses 153 = .ok (.sipush 1001, 3) := by decide +kernel
theorem dL_refuses_156 : decode cL_refuses 156 = .ok (.goto 5, 3) := by decide +kernel
theorem dL_refuses_159 : decode cL_refuses 159 = .ok (.iload 8, 2) := by decide +kernel
theorem dL_refuses_161 : decode cL_refuses 161 = .ok (.iconst 0, 1) := by decide +kernel
theorem dL_refuses_162 : decode cL_refuses 162 = .ok (.iconst 1, 1) := by decide +kernel
theorem dL_refuses_163 : decode cL_refuses 163 = .ok (.invokestatic 97, 3) := by decide +kernel
theorem dL_refuses_166 : decode cL_refuses 166 = .ok (.bipush (-42), 2) := by decide +kernel
theorem dL_refuses_168 : decode cL_refuses 168 = .ok (.if_icmp .ne 58, 3) := by decide +kernel
theorem dL_refuses_171 : decode cL_refuses 171 = .ok (.aload_n 0, 1) := by decide +kernel
theorem dL_refuses_172 : decode cL_refuses 172 = .ok (.iconst 1, 1) := by decide +kernel
theorem dL_refuses_173 : decode cL_refuses 173 = .ok (.iconst 1, 1) := by decide +kernel
theorem dL_refuses_174 : decode cL_refuses 174 = .ok (.iconst 0, 1) := by decide +kernel
theorem dL_refuses_175 : decode cL_refuses 175 = .ok (.iload 7, 2) := by decide +kernel
theorem dL_refuses_177 : decode cL_refuses 177 = .ok (.iconst 1, 1) := by decide +kernel
theorem dL_refuses_178 : decode cL_refuses 178 = .ok (.if_icmp .ne 7, 3) := by decide +kernel
theorem dL_refuses_181 : decode cL_refuses 181 = .ok (.iconst 4, 1) := by decide +kernel
theorem dL_refuses_182 : decode cL_refuses 182 = .ok (.goto 5, 3) := by decide +kernel
theorem dL_refuses_185 : decode cL_refuses 185 = .ok (.iload 8, 2) := by decide +kernel
theorem dL_refuses_187 : decode cL_refuses 187 = .ok (.iconst 1, 1) := by decide +kernel
theorem dL_refuses_188 : decode cL_refuses 188 = .ok (.invokestatic 97, 3) := by decide +kernel
theorem dL_refuses_191 : decode cL_refuses 191 = .ok (.bipush (-42), 2) := by decide +kernel
theorem dL_refuses_193 : decode cL_refuses 193 = .ok (.if_icmp .ne 33, 3) := by decide +kernel
theorem dL_refuses_196 : decode cL_refuses 196 = .ok (.aload_n 0, 1) := by decide +kernel
theorem dL_refuses_197 : decode cL_refuses 197 = .ok (.iconst 1, 1) := by decide +kernel
theorem dL_refuses_198 : decode cL_refuses 198 = .ok (.iconst 1, 1) := by decide +kernel
theorem dL_refuses_199 : decode cL_refuses 199 = .ok (.iconst 0, 1) := by decide +kernel
theorem dL_refuses_200 : decode cL_refuses 200 = .ok (.iconst 0, 1) := by decide +kernel
theorem dL_refuses_201 : decode cL_refuses 201 = .ok (.iload 7, 2) := by decide +kernel
theorem dL_refuses_203 : decode cL_refuses 203 = .ok (.iconst 1, 1) := by decide +kernel
theorem dL_refuses_204 : decode cL_refuses 204 = .ok (.if_icmp .ne 8, 3) := by decide +kernel
theorem dL_refuses_207 : decode cL_refuses 207 = .ok (.bipush 7, 2) := by decide +kernel
theorem dL_refuses_209 : decode cL_refuses 209 = .ok (.goto 5, 3) := by decide +kernel
theorem dL_refuses_212 : decode cL_refuses 212 = .ok (.iload 11, 2) := by decide +kernel
theorem dL_refuses_214 : decode cL_refuses 214 = .ok (.invokestatic 97, 3) := by decide +kernel
theorem dL_refuses_217 : decode cL_refuses 217 = .ok (.bipush (-42), 2) := by decide +kernel
theorem dL_refuses_219 : decode cL_refuses 219 = .ok (.if_icmp .ne 7, 3) := by decide +kernel
theorem dL_refuses_222 : decode cL_refuses 222 = .ok (.iconst 1, 1) := by decide +kernel
theorem dL_refuses_223 : decode cL_refuses 223 = .ok (.goto 4, 3) := by decide +kernel
theorem dL_refuses_226 : decode cL_refuses 226 = .ok (.iconst 0, 1) := by decide +kernel
theorem dL_refuses_227 : decode cL_refuses 227 = .ok (.istore 12, 2) := by decide +kernel
theorem dL_refuses_229 : decode cL_refuses 229 = .ok (.iload 12, 2) := by decide +kernel
theorem dL_refuses_231 : decode cL_refuses 231 = .ok (.ifCond .eq 215, 3) := by decide +kernel
theorem dL_refuses_234 : decode cL_refuses 234 = .ok (.aload_n 0, 1) := by decide +kernel
theorem dL_refuses_235 : decode cL_refuses 235 = .ok (.iconst 2, 1) := by decide +kernel
theorem dL_refuses_236 : decode cL_refuses 236 = .ok (.iload 10, 2) := by decide +kernel
theorem dL_refuses_238 : decode cL_refuses 238 = .ok (.iconst 0, 1) := by decide +kernel
theorem dL_refuses_239 : decode cL_refuses 239 = .ok (.iconst 1, 1) := by decide +kernel
theorem dL_refuses_240 : decode cL_refuses 240 = .ok (.iconst 0, 1) := by decide +kernel
theorem dL_refuses_241 : decode cL_refuses 241 = .ok (.invokestatic 97, 3) := by decide +kernel
theorem dL_refuses_244 : decode cL_refuses 244 = .ok (.bipush (-41), 2) := by decide +kernel
theorem dL_refuses_246 : decode cL_refuses 246 = .ok (.if_icmp .ne 200, 3) := by decide +kernel
theorem dL_refuses_249 : decode cL_refuses 249 = .ok (.aload_n 0, 1) := by decide +kernel
theorem dL_refuses_250 : decode cL_refuses 250 = .ok (.iconst 2, 1) := by decide +kernel
theorem dL_refuses_251 : decode cL_refuses 251 = .ok (.iconst 0, 1) := by decide +kernel
theorem dL_refuses_252 : decode cL_refuses 252 = .ok (.iload 9, 2) := by decide +kernel
theorem dL_refuses_254 : decode cL_refuses 254 = .ok (.iconst 1, 1) := by decide +kernel
theorem dL_refuses_255 : decode cL_refuses 255 = .ok (.iconst 0, 1) := by decide +kernel
theorem dL_refuses_256 : decode cL_refuses 256 = .ok (.invokestatic 97, 3) := by decide +kernel
theorem dL_refuses_259 : decode cL_refuses 259 = .ok (.bipush (-41), 2) := by decide +kernel
theorem dL_refuses_261 : decode cL_refuses 261 = .ok (.if_icmp .ne 185, 3) := by decide +kernel
theorem dL_refuses_264 : decode cL_refuses 264 = .ok (.aload_n 0, 1) := by decide +kernel
theorem dL_refuses_265 : decode cL_refuses 265 = .ok (.iconst 3, 1) := by decide +kernel
theorem dL_refuses_266 : decode cL_refuses 266 = .ok (.iload 9, 2) := by decide +kernel
theorem dL_refuses_268 : decode cL_refuses 268 = .ok (.iconst 1, 1) := by decide +kernel
theorem dL_refuses_269 : decode cL_refuses 269 = .ok (.iconst 0, 1) := by decide +kernel
theorem dL_refuses_270 : decode cL_refuses 270 = .ok (.iconst 0, 1) := by decide +kernel
theorem dL_refuses_271 : decode cL_refuses 271 = .ok (.invokestatic 97, 3) := by decide +kernel
theorem dL_refuses_274 : decode cL_refuses 274 = .ok (.bipush (-41), 2) := by decide +kernel
theorem dL_refuses_276 : decode cL_refuses 276 = .ok (.if_icmp .ne 170, 3) := by decide +kernel
theorem dL_refuses_279 : decode cL_refuses 279 = .ok (.aload_n 0, 1) := by decide +kernel
theorem dL_refuses_280 : decode cL_refuses 280 = .ok (.iconst 4, 1) := by decide +kernel
theorem dL_refuses_281 : decode cL_refuses 281 = .ok (.iload 10, 2) := by decide +kernel
theorem dL_refuses_283 : decode cL_refuses 283 = .ok (.iconst 0, 1) := by decide +kernel
theorem dL_refuses_284 : decode cL_refuses 284 = .ok (.iconst 0, 1) := by decide +kernel
theorem dL_refuses_285 : decode cL_refuses 285 = .ok (.iconst 0, 1) := by decide +kernel
theorem dL_refuses_286 : decode cL_refuses 286 = .ok (.invokestatic 97, 3) := by decide +kernel
theorem dL_refuses_289 : decode cL_refuses 289 = .ok (.bipush (-41), 2) := by decide +kernel
theorem dL_refuses_291 : decode cL_refuses 291 = .ok (.if_icmp .ne 155, 3) := by decide +kernel
theorem dL_refuses_294 : decode cL_refuses 294 = .ok (.aload_n 0, 1) := by decide +kernel
theorem dL_refuses_295 : decode cL_refuses 295 = .ok (.iconst 4, 1) := by decide +kernel
theorem dL_refuses_296 : decode cL_refuses 296 = .ok (.iconst 0, 1) := by decide +kernel
theorem dL_refuses_297 : decode cL_refuses 297 = .ok (.iload 7, 2) := by decide +kernel
theorem dL_refuses_299 : decode cL_refuses 299 = .ok (.iconst 1, 1) := by decide +kernel
theorem dL_refuses_300 : decode cL_refuses 300 = .ok (.if_icmp .ne 8, 3) := by decide +kernel
theorem dL_refuses_303 : decode cL_refuses 303 = .ok (.bipush 7, 2) := by decide +kernel
theorem dL_refuses_305 : decode cL_refuses 305 = .ok (.goto 5, 3) := by decide +kernel
theorem dL_refuses_308 : decode cL_refuses 308 = .ok (.iload 11, 2) := by decide +kernel
theorem dL_refuses_310 : decode cL_refuses 310 = .ok (.iconst 0, 1) := by decide +kernel
theorem dL_refuses_311 : decode cL_refuses 311 = .ok (.iconst 0, 1) := by decide +kernel
theorem dL_refuses_312 : decode cL_refuses 312 = .ok (.invokestatic 97, 3) := by decide +kernel
theorem dL_refuses_315 : decode cL_refuses 315 = .ok (.bipush (-42), 2) := by decide +kernel
theorem dL_refuses_317 : decode cL_refuses 317 = .ok (.if_icmp .ne 129, 3) := by decide +kernel
theorem dL_refuses_320 : decode cL_refuses 320 = .ok (.aload_n 0, 1) := by decide +kernel
theorem dL_refuses_321 : decode cL_refuses 321 = .ok (.iconst 5, 1) := by decide +kernel
theorem dL_refuses_322 : decode cL_refuses 322 = .ok (.iload 10, 2) := by decide +kernel
theorem dL_refuses_324 : decode cL_refuses 324 = .ok (.iconst (-1), 1) := by decide +kernel
theorem dL_refuses_325 : decode cL_refuses 325 = .ok (.iconst 0, 1) := by decide +kernel
theorem dL_refuses_326 : decode cL_refuses 326 = .ok (.iconst 0, 1) := by decide +kernel
theorem dL_refuses_327 : decode cL_refuses 327 = .ok (.invokestatic 97, 3) := by decide +kernel
theorem dL_refuses_330 : decode cL_refuses 330 = .ok (.bipush (-41), 2) := by decide +kernel
theorem dL_refuses_332 : decode cL_refuses 332 = .ok (.if_icmp .ne 114, 3) := by decide +kernel
theorem dL_refuses_335 : decode cL_refuses 335 = .ok (.aload_n 0, 1) := by decide +kernel
theorem dL_refuses_336 : decode cL_refuses 336 = .ok (.iconst 5, 1) := by decide +kernel
theorem dL_refuses_337 : decode cL_refuses 337 = .ok (.iconst 0, 1) := by decide +kernel
theorem dL_refuses_338 : decode cL_refuses 338 = .ok (.iload 7, 2) := by decide +kernel
theorem dL_refuses_340 : decode cL_refuses 340 = .ok (.iconst 1, 1) := by decide +kernel
theorem dL_refuses_341 : decode cL_refuses 341 = .ok (.if_icmp .ne 8, 3) := by decide +kernel
theorem dL_refuses_344 : decode cL_refuses 344 = .ok (.ldc 103, 2) := by decide +kernel
theorem dL_refuses_346 : decode cL_refuses 346 = .ok (.goto 5, 3) := by decide +kernel
theorem dL_refuses_349 : decode cL_refuses 349 = .ok (.iload 8, 2) := by decide +kernel
theorem dL_refuses_351 : decode cL_refuses 351 = .ok (.iconst 1, 1) := by decide +kernel
theorem dL_refuses_352 : decode cL_refuses 352 = .ok (.iconst 0, 1) := by decide +kernel
theorem dL_refuses_353 : decode cL_refuses 353 = .ok (.invokestatic 97, 3) := by decide +kernel
theorem dL_refuses_356 : decode cL_refuses 356 = .ok (.bipush (-42), 2) := by decide +kernel
theorem dL_refuses_358 : decode cL_refuses 358 = .ok (.if_icmp .ne 88, 3) := by decide +kernel
theorem dL_refuses_361 : decode cL_refuses 361 = .ok (.aload_n 0, 1) := by decide +kernel
theorem dL_refuses_362 : decode cL_refuses 362 = .ok (.iconst 5, 1) := by decide +kernel
theorem dL_refuses_363 : decode cL_refuses 363 = .ok (.iconst 0, 1) := by decide +kernel
theorem dL_refuses_364 : decode cL_refuses 364 = .ok (.iconst 0, 1) := by decide +kernel
theorem dL_refuses_365 : decode cL_refuses 365 = .ok (.iload 7, 2) := by decide +kernel
theorem dL_refuses_367 : decode cL_refuses 367 = .ok (.iconst 1, 1) := by decide +kernel
theorem dL_refuses_368 : decode cL_refuses 368 = .ok (.if_icmp .ne 9, 3) := by decide +kernel
theorem dL_refuses_371 : decode cL_refuses 371 = .ok (.sipush 10001, 3) := by decide +kernel
theorem dL_refuses_374 : decode cL_refuses 374 = .ok (.goto 5, 3) := by decide +kernel
theorem dL_refuses_377 : decode cL_refuses 377 = .ok (.iload 11, 2) := by decide +kernel
theorem dL_refuses_379 : decode cL_refuses 379 = .ok (.iconst 0, 1) := by decide +kernel
theorem dL_refuses_380 : decode cL_refuses 380 = .ok (.invokestatic 97, 3) := by decide +kernel
theorem dL_refuses_383 : decode cL_refuses 383 = .ok (.bipush (-42), 2) := by decide +kernel
theorem dL_refuses_385 : decode cL_refuses 385 = .ok (.if_icmp .ne 61, 3) := by decide +kernel
theorem dL_refuses_388 : decode cL_refuses 388 = .ok (.aload_n 0, 1) := by decide +kernel
theorem dL_refuses_389 : decode cL_refuses 389 = .ok (.bipush 6, 2) := by decide +kernel
theorem dL_refuses_391 : decode cL_refuses 391 = .ok (.iload 7, 2) := by decide +kernel
theorem dL_refuses_393 : decode cL_refuses 393 = .ok (.iconst 1, 1) := by decide +kernel
theorem dL_refuses_394 : decode cL_refuses 394 = .ok (.if_icmp .ne 7, 3) := by decide +kernel
theorem dL_refuses_397 : decode cL_refuses 397 = .ok (.iload_n 3, 1) := by decide +kernel
theorem dL_refuses_398 : decode cL_refuses 398 = .ok (.goto 5, 3) := by decide +kernel
theorem dL_refuses_401 : decode cL_refuses 401 = .ok (.iload 8, 2) := by decide +kernel
theorem dL_refuses_403 : decode cL_refuses 403 = .ok (.iconst 0, 1) := by decide +kernel
theorem dL_refuses_404 : decode cL_refuses 404 = .ok (.iconst 0, 1) := by decide +kernel
theorem dL_refuses_405 : decode cL_refuses 405 = .ok (.iconst 0, 1) := by decide +kernel
theorem dL_refuses_406 : decode cL_refuses 406 = .ok (.invokestatic 97, 3) := by decide +kernel
theorem dL_refuses_409 : decode cL_refuses 409 = .ok (.bipush (-41), 2) := by decide +kernel
theorem dL_refuses_411 : decode cL_refuses 411 = .ok (.if_icmp .ne 35, 3) := by decide +kernel
theorem dL_refuses_414 : decode cL_refuses 414 = .ok (.aload_n 0, 1) := by decide +kernel
theorem dL_refuses_415 : decode cL_refuses 415 = .ok (.bipush 7, 2) := by decide +kernel
theorem dL_refuses_417 : decode cL_refuses 417 = .ok (.iload 7, 2) := by decide +kernel
theorem dL_refuses_419 : decode cL_refuses 419 = .ok (.iconst 1, 1) := by decide +kernel
theorem dL_refuses_420 : decode cL_refuses 420 = .ok (.if_icmp .ne 9, 3) := by decide +kernel
theorem dL_refuses_423 : decode cL_refuses 423 = .ok (.sipush 201, 3) := by decide +kernel
theorem dL_refuses_426 : decode cL_refuses 426 = .ok (.goto 5, 3) := by decide +kernel
theorem dL_refuses_429 : decode cL_refuses 429 = .ok (.iload 11, 2) := by decide +kernel
theorem dL_refuses_431 : decode cL_refuses 431 = .ok (.iconst 0, 1) := by decide +kernel
theorem dL_refuses_432 : decode cL_refuses 432 = .ok (.iconst 0, 1) := by decide +kernel
theorem dL_refuses_433 : decode cL_refuses 433 = .ok (.iconst 0, 1) := by decide +kernel
theorem dL_refuses_434 : decode cL_refuses 434 = .ok (.invokestatic 97, 3) := by decide +kernel
theorem dL_refuses_437 : decode cL_refuses 437 = .ok (.bipush (-42), 2) := by decide +kernel
theorem dL_refuses_439 : decode cL_refuses 439 = .ok (.if_icmp .ne 7, 3) := by decide +kernel
theorem dL_refuses_442 : decode cL_refuses 442 = .ok (.iconst 1, 1) := by decide +kernel
theorem dL_refuses_443 : decode cL_refuses 443 = .ok (.goto 4, 3) := by decide +kernel
theorem dL_refuses_446 : decode cL_refuses 446 = .ok (.iconst 0, 1) := by decide +kernel
theorem dL_refuses_447 : decode cL_refuses 447 = .ok (.istore 12, 2) := by decide +kernel
theorem dL_refuses_449 : decode cL_refuses 449 = .ok (.bipush 8, 2) := by decide +kernel
theorem dL_refuses_451 : decode cL_refuses 451 = .ok (.istore 13, 2) := by decide +kernel
theorem dL_refuses_453 : decode cL_refuses 453 = .ok (.iload 13, 2) := by decide +kernel
theorem dL_refuses_455 : decode cL_refuses 455 = .ok (.bipush 13, 2) := by decide +kernel
theorem dL_refuses_457 : decode cL_refuses 457 = .ok (.if_icmp .ge 37, 3) := by decide +kernel
theorem dL_refuses_460 : decode cL_refuses 460 = .ok (.iload 12, 2) := by decide +kernel
theorem dL_refuses_462 : decode cL_refuses 462 = .ok (.ifCond .eq 23, 3) := by decide +kernel
theorem dL_refuses_465 : decode cL_refuses 465 = .ok (.aload_n 0, 1) := by decide +kernel
theorem dL_refuses_466 : decode cL_refuses 466 = .ok (.iload 13, 2) := by decide +kernel
theorem dL_refuses_468 : decode cL_refuses 468 = .ok (.iload 10, 2) := by decide +kernel
theorem dL_refuses_470 : decode cL_refuses 470 = .ok (.iconst 0, 1) := by decide +kernel
theorem dL_refuses_471 : decode cL_refuses 471 = .ok (.iconst 0, 1) := by decide +kernel
theorem dL_refuses_472 : decode cL_refuses 472 = .ok (.iconst 0, 1) := by decide +kernel
theorem dL_refuses_473 : decode cL_refuses 473 = .ok (.invokestatic 97, 3) := by decide +kernel
theorem dL_refuses_476 : decode cL_refuses 476 = .ok (.bipush (-41), 2) := by decide +kernel
theorem dL_refuses_478 : decode cL_refuses 478 = .ok (.if_icmp .ne 7, 3) := by decide +kernel
theorem dL_refuses_481 : decode cL_refuses 481 = .ok (.iconst 1, 1) := by decide +kernel
theorem dL_refuses_482 : decode cL_refuses 482 = .ok (.goto 4, 3) := by decide +kernel
theorem dL_refuses_485 : decode cL_refuses 485 = .ok (.iconst 0, 1) := by decide +kernel
theorem dL_refuses_486 : decode cL_refuses 486 = .ok (.istore 12, 2) := by decide +kernel
theorem dL_refuses_488 : decode cL_refuses 488 = .ok (.iinc 13 1, 3) := by decide +kernel
theorem dL_refuses_491 : decode cL_refuses 491 = .ok (.goto (-38), 3) := by decide +kernel
theorem dL_refuses_494 : decode cL_refuses 494 = .ok (.bipush 13, 2) := by decide +kernel
theorem dL_refuses_496 : decode cL_refuses 496 = .ok (.istore 13, 2) := by decide +kernel
theorem dL_refuses_498 : decode cL_refuses 498 = .ok (.iload 13, 2) := by decide +kernel
theorem dL_refuses_500 : decode cL_refuses 500 = .ok (.bipush 16, 2) := by decide +kernel
theorem dL_refuses_502 : decode cL_refuses 502 = .ok (.if_icmp .ge 37, 3) := by decide +kernel
theorem dL_refuses_505 : decode cL_refuses 505 = .ok (.iload 12, 2) := by decide +kernel
theorem dL_refuses_507 : decode cL_refuses 507 = .ok (.ifCond .eq 23, 3) := by decide +kernel
theorem dL_refuses_510 : decode cL_refuses 510 = .ok (.aload_n 0, 1) := by decide +kernel
theorem dL_refuses_511 : decode cL_refuses 511 = .ok (.iload 13, 2) := by decide +kernel
theorem dL_refuses_513 : decode cL_refuses 513 = .ok (.iload 9, 2) := by decide +kernel
theorem dL_refuses_515 : decode cL_refuses 515 = .ok (.iconst 0, 1) := by decide +kernel
theorem dL_refuses_516 : decode cL_refuses 516 = .ok (.iconst 0, 1) := by decide +kernel
theorem dL_refuses_517 : decode cL_refuses 517 = .ok (.iconst 0, 1) := by decide +kernel
theorem dL_refuses_518 : decode cL_refuses 518 = .ok (.invokestatic 97, 3) := by decide +kernel
theorem dL_refuses_521 : decode cL_refuses 521 = .ok (.bipush (-41), 2) := by decide +kernel
theorem dL_refuses_523 : decode cL_refuses 523 = .ok (.if_icmp .ne 7, 3) := by decide +kernel
theorem dL_refuses_526 : decode cL_refuses 526 = .ok (.iconst 1, 1) := by decide +kernel
theorem dL_refuses_527 : decode cL_refuses 527 = .ok (.goto 4, 3) := by decide +kernel
theorem dL_refuses_530 : decode cL_refuses 530 = .ok (.iconst 0, 1) := by decide +kernel
theorem dL_refuses_531 : decode cL_refuses 531 = .ok (.istore 12, 2) := by decide +kernel
theorem dL_refuses_533 : decode cL_refuses 533 = .ok (.iinc 13 1, 3) := by decide +kernel
theorem dL_refuses_536 : decode cL_refuses 536 = .ok (.goto (-38), 3) := by decide +kernel
theorem dL_refuses_539 : decode cL_refuses 539 = .ok (.bipush 16, 2) := by decide +kernel
theorem dL_refuses_541 : decode cL_refuses 541 = .ok (.istore 13, 2) := by decide +kernel
theorem dL_refuses_543 : decode cL_refuses 543 = .ok (.iload 13, 2) := by decide +kernel
theorem dL_refuses_545 : decode cL_refuses 545 = .ok (.bipush 19, 2) := by decide +kernel
theorem dL_refuses_547 : decode cL_refuses 547 = .ok (.if_icmp .ge 53, 3) := by decide +kernel
theorem dL_refuses_550 : decode cL_refuses 550 = .ok (.iload 12, 2) := by decide +kernel
theorem dL_refuses_552 : decode cL_refuses 552 = .ok (.ifCond .eq 39, 3) := by decide +kernel
theorem dL_refuses_555 : decode cL_refuses 555 = .ok (.aload_n 0, 1) := by decide +kernel
theorem dL_refuses_556 : decode cL_refuses 556 = .ok (.iload 13, 2) := by decide +kernel
theorem dL_refuses_558 : decode cL_refuses 558 = .ok (.iload 10, 2) := by decide +kernel
theorem dL_refuses_560 : decode cL_refuses 560 = .ok (.iconst 0, 1) := by decide +kernel
theorem dL_refuses_561 : decode cL_refuses 561 = .ok (.iconst 0, 1) := by decide +kernel
theorem dL_refuses_562 : decode cL_refuses 562 = .ok (.iconst 0, 1) := by decide +kernel
theorem dL_refuses_563 : decode cL_refuses 563 = .ok (.invokestatic 97, 3) := by decide +kernel
theorem dL_refuses_566 : decode cL_refuses 566 = .ok (.bipush (-41), 2) := by decide +kernel
theorem dL_refuses_568 : decode cL_refuses 568 = .ok (.if_icmp .ne 23, 3) := by decide +kernel
theorem dL_refuses_571 : decode cL_refuses 571 = .ok (.aload_n 0, 1) := by decide +kernel
theorem dL_refuses_572 : decode cL_refuses 572 = .ok (.iload 13, 2) := by decide +kernel
theorem dL_refuses_574 : decode cL_refuses 574 = .ok (.iconst 0, 1) := by decide +kernel
theorem dL_refuses_575 : decode cL_refuses 575 = .ok (.iload 9, 2) := by decide +kernel
theorem dL_refuses_577 : decode cL_refuses 577 = .ok (.iconst 0, 1) := by decide +kernel
theorem dL_refuses_578 : decode cL_refuses 578 = .ok (.iconst 0, 1) := by decide +kernel
theorem dL_refuses_579 : decode cL_refuses 579 = .ok (.invokestatic 97, 3) := by decide +kernel
theorem dL_refuses_582 : decode cL_refuses 582 = .ok (.bipush (-41), 2) := by decide +kernel
theorem dL_refuses_584 : decode cL_refuses 584 = .ok (.if_icmp .ne 7, 3) := by decide +kernel
theorem dL_refuses_587 : decode cL_refuses 587 = .ok (.iconst 1, 1) := by decide +kernel
theorem dL_refuses_588 : decode cL_refuses 588 = .ok (.goto 4, 3) := by decide +kernel
theorem dL_refuses_591 : decode cL_refuses 591 = .ok (.iconst 0, 1) := by decide +kernel
theorem dL_refuses_592 : decode cL_refuses 592 = .ok (.istore 12, 2) := by decide +kernel
theorem dL_refuses_594 : decode cL_refuses 594 = .ok (.iinc 13 1, 3) := by decide +kernel
theorem dL_refuses_597 : decode cL_refuses 597 = .ok (.goto (-54), 3) := by decide +kernel
theorem dL_refuses_600 : decode cL_refuses 600 = .ok (.bipush 19, 2) := by decide +kernel
theorem dL_refuses_602 : decode cL_refuses 602 = .ok (.istore 13, 2) := by decide +kernel
theorem dL_refuses_604 : decode cL_refuses 604 = .ok (.iload 13, 2) := by decide +kernel
theorem dL_refuses_606 : decode cL_refuses 606 = .ok (.bipush 22, 2) := by decide +kernel
theorem dL_refuses_608 : decode cL_refuses 608 = .ok (.if_icmp .ge 48, 3) := by decide +kernel
theorem dL_refuses_611 : decode cL_refuses 611 = .ok (.iload 12, 2) := by decide +kernel
theorem dL_refuses_613 : decode cL_refuses 613 = .ok (.ifCond .eq 34, 3) := by decide +kernel
theorem dL_refuses_616 : decode cL_refuses 616 = .ok (.aload_n 0, 1) := by decide +kernel
theorem dL_refuses_617 : decode cL_refuses 617 = .ok (.iload 13, 2) := by decide +kernel
theorem dL_refuses_619 : decode cL_refuses 619 = .ok (.iload 7, 2) := by decide +kernel
theorem dL_refuses_621 : decode cL_refuses 621 = .ok (.iconst 1, 1) := by decide +kernel
theorem dL_refuses_622 : decode cL_refuses 622 = .ok (.if_icmp .ne 8, 3) := by decide +kernel
theorem dL_refuses_625 : decode cL_refuses 625 = .ok (.iload 5, 2) := by decide +kernel
theorem dL_refuses_627 : decode cL_refuses 627 = .ok (.goto 5, 3) := by decide +kernel
theorem dL_refuses_630 : decode cL_refuses 630 = .ok (.iload 8, 2) := by decide +kernel
theorem dL_refuses_632 : decode cL_refuses 632 = .ok (.iconst 0, 1) := by decide +kernel
theorem dL_refuses_633 : decode cL_refuses 633 = .ok (.iconst 0, 1) := by decide +kernel
theorem dL_refuses_634 : decode cL_refuses 634 = .ok (.iconst 0, 1) := by decide +kernel
theorem dL_refuses_635 : decode cL_refuses 635 = .ok (.invokestatic 97, 3) := by decide +kernel
theorem dL_refuses_638 : decode cL_refuses 638 = .ok (.bipush (-41), 2) := by decide +kernel
theorem dL_refuses_640 : decode cL_refuses 640 = .ok (.if_icmp .ne 7, 3) := by decide +kernel
theorem dL_refuses_643 : decode cL_refuses 643 = .ok (.iconst 1, 1) := by decide +kernel
theorem dL_refuses_644 : decode cL_refuses 644 = .ok (.goto 4, 3) := by decide +kernel
theorem dL_refuses_647 : decode cL_refuses 647 = .ok (.iconst 0, 1) := by decide +kernel
theorem dL_refuses_648 : decode cL_refuses 648 = .ok (.istore 12, 2) := by decide +kernel
theorem dL_refuses_650 : decode cL_refuses 650 = .ok (.iinc 13 1, 3) := by decide +kernel
theorem dL_refuses_653 : decode cL_refuses 653 = .ok (.goto (-49), 3) := by decide +kernel
theorem dL_refuses_656 : decode cL_refuses 656 = .ok (.iload 12, 2) := by decide +kernel
theorem dL_refuses_658 : decode cL_refuses 658 = .ok (.ifCond .ne 5, 3) := by decide +kernel
theorem dL_refuses_661 : decode cL_refuses 661 = .ok (.iconst 0, 1) := by decide +kernel
theorem dL_refuses_662 : decode cL_refuses 662 = .ok (.ireturn, 1) := by decide +kernel
theorem dL_refuses_663 : decode cL_refuses 663 = .ok (.iinc 7 1, 3) := by decide +kernel
theorem dL_refuses_666 : decode cL_refuses 666 = .ok (.goto (-647), 3) := by decide +kernel
theorem dL_refuses_669 : decode cL_refuses 669 = .ok (.aload_n 0, 1) := by decide +kernel
theorem dL_refuses_670 : decode cL_refuses 670 = .ok (.invokevirtual 89, 3) := by decide +kernel
theorem dL_refuses_673 : decode cL_refuses 673 = .ok (.iload 4, 2) := by decide +kernel
theorem dL_refuses_675 : decode cL_refuses 675 = .ok (.if_icmp .ne 16, 3) := by decide +kernel
theorem dL_refuses_678 : decode cL_refuses 678 = .ok (.aload_n 0, 1) := by decide +kernel
theorem dL_refuses_679 : decode cL_refuses 679 = .ok (.invokevirtual 93, 3) := by decide +kernel
theorem dL_refuses_682 : decode cL_refuses 682 = .ok (.iload 5, 2) := by decide +kernel
theorem dL_refuses_684 : decode cL_refuses 684 = .ok (.if_icmp .ne 7, 3) := by decide +kernel
theorem dL_refuses_687 : decode cL_refuses 687 = .ok (.iconst 1, 1) := by decide +kernel
theorem dL_refuses_688 : decode cL_refuses 688 = .ok (.goto 4, 3) := by decide +kernel
theorem dL_refuses_691 : decode cL_refuses 691 = .ok (.iconst 0, 1) := by decide +kernel
theorem dL_refuses_692 : decode cL_refuses 692 = .ok (.ireturn, 1) := by decide +kernel
