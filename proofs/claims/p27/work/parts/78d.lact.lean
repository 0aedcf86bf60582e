theorem ggL_law_L_act_q0 : GoodIn wsL_law [.codeWith yL_act cL_act 7 (some .int) [(0, 368, 369, 83), (0, 368, 374, 85), (0, 368, 379, 87)]] := goodIn_sub (fun w hw => (List.mem_singleton.mp hw) ▸ (show Cond.codeWith yL_act cL_act 7 (some .int) [(0, 368, 369, 83), (0, 368, 374, 85), (0, 368, 379, 87)] ∈ wsL_law from (List.mem_append_left _ (List.mem_append_left _ (List.mem_append_left _ (show Cond.codeWith yL_act cL_act 7 (some .int) [(0, 368, 369, 83), (0, 368, 374, 85), (0, 368, 379, 87)] ∈ wsL_law0 from (List.mem_append_left _ (List.mem_append_left _ (List.mem_append_left _ (List.mem_append_left _ (List.mem_append_left _ (List.mem_append_left _ (List.mem_append_left _ (List.mem_append_right _ (List.mem_append_right _ (List.mem_append_right _ (List.mem_append_right _ (List.mem_append_right _ (List.mem_append_right _ (List.mem_append_right _ (List.mem_append_right _ (List.mem_append_left _ (List.mem_of_getElem? (i := 0) rfl : Cond.codeWith yL_act cL_act 7 (some .int) [(0, 368, 369, 83), (0, 368, 374, 85), (0, 368, 379, 87)] ∈ wsL_law0_r9))))))))))))))))))))))) (by decide +kernel)
set_option maxRecDepth 20000 in
theorem ggL_law_L_act_q1 : GoodIn wsL_law wsL_act_r1 := goodIn_r _ [193, 194, 195, 54, 55, 56, 2, 57, 58, 59, 19, 60, 61, 62, 63, 64, 65, 66, 67, 68, 69, 70, 49, 50] (by decide +kernel) (by decide +kernel)
set_option maxRecDepth 20000 in
theorem ggL_law_L_act_q2 : GoodIn wsL_law wsL_act_r2 := goodIn_r _ [51, 18, 52, 53, 71, 72, 73, 74, 75, 76, 77, 78, 79, 80, 81, 82, 83, 84, 85, 86, 30, 87, 88, 89] (by decide +kernel) (by decide +kernel)
set_option maxRecDepth 20000 in
theorem ggL_law_L_act_q3 : GoodIn wsL_law wsL_act_r3 := goodIn_r _ [90, 14, 15, 91, 92, 93, 94, 95, 96, 97, 98, 99, 100, 101, 102, 103, 104, 105, 106, 107, 108, 109, 110, 111] (by decide +kernel) (by decide +kernel)
set_option maxRecDepth 20000 in
theorem ggL_law_L_act_q4 : GoodIn wsL_law wsL_act_r4 := goodIn_r _ [112, 29, 113, 114, 115, 116, 117, 118, 119, 120, 121, 122, 123, 124, 125, 126, 127, 128, 129, 130, 131, 132, 133, 134] (by decide +kernel) (by decide +kernel)
set_option maxRecDepth 20000 in
theorem ggL_law_L_act_q5 : GoodIn wsL_law wsL_act_r5 := goodIn_r _ [135, 136, 137, 138, 139, 140, 141, 142, 143, 144, 145, 146, 147, 148, 149, 150, 20, 151, 152, 153, 154, 155, 156, 157] (by decide +kernel) (by decide +kernel)
set_option maxRecDepth 20000 in
theorem ggL_law_L_act_q6 : GoodIn wsL_law wsL_act_r6 := goodIn_r _ [158, 159, 160, 161, 162, 163, 164, 165, 166, 167, 168, 169, 170, 171, 196, 197, 198, 199, 176, 200, 177, 178, 179, 180] (by decide +kernel) (by decide +kernel)
set_option maxRecDepth 20000 in
theorem ggL_law_L_act_q7 : GoodIn wsL_law wsL_act_r7 := goodIn_r _ [201, 202, 203, 204, 205, 206, 207, 208, 23, 209, 210, 211, 212, 213, 214, 215, 216, 217, 218, 21, 219, 220, 221, 222] (by decide +kernel) (by decide +kernel)
set_option maxRecDepth 20000 in
theorem ggL_law_L_act_q8 : GoodIn wsL_law wsL_act_r8 := goodIn_r _ [223, 224, 225, 226, 227, 228, 229, 230, 231, 232, 233, 25, 234, 235, 236, 237, 238, 239, 240, 241, 242, 243, 244, 245] (by decide +kernel) (by decide +kernel)
set_option maxRecDepth 20000 in
theorem ggL_law_L_act_q9 : GoodIn wsL_law wsL_act_r9 := goodIn_r _ [246, 247, 22, 248, 249, 250, 251, 252, 253, 254, 255, 256, 257, 258, 259, 260, 182, 183, 184, 261, 262, 263, 264, 265] (by decide +kernel) (by decide +kernel)
set_option maxRecDepth 20000 in
theorem ggL_law_L_act_q10 : GoodIn wsL_law wsL_act_r10 := goodIn_r _ [266, 267, 268, 269, 270, 271, 272, 273, 274, 275, 276, 277, 278, 279, 280, 281, 282, 283, 24, 284, 285, 286, 287, 288] (by decide +kernel) (by decide +kernel)
set_option maxRecDepth 20000 in
theorem ggL_law_L_act_q11 : GoodIn wsL_law wsL_act_r11 := goodIn_r _ [289, 290, 291, 292, 293, 294, 295, 296, 297, 298, 299, 300, 301, 302, 303, 304, 305, 306, 307, 308, 309, 310, 311, 312] (by decide +kernel) (by decide +kernel)
set_option maxRecDepth 20000 in
theorem ggL_law_L_act_q12 : GoodIn wsL_law wsL_act_r12 := goodIn_r _ [189, 313, 314, 315, 316, 317, 318, 319, 320, 321, 322, 323, 324, 325, 326, 327, 328, 329, 330, 331, 332, 333, 334, 335] (by decide +kernel) (by decide +kernel)
set_option maxRecDepth 20000 in
theorem ggL_law_L_act_q13 : GoodIn wsL_law wsL_act_r13 := goodIn_r _ [336, 337, 338, 339, 340, 341, 342, 343, 344, 345, 346, 347, 348, 349, 185, 186, 187, 188, 350, 351, 352, 353, 354, 355] (by decide +kernel) (by decide +kernel)
set_option maxRecDepth 20000 in
theorem ggL_law_L_act_q14 : GoodIn wsL_law wsL_act_r14 := goodIn_r _ [356, 357, 358, 359, 360, 361, 362, 363, 364, 365, 366, 367, 368, 369, 370, 371, 372, 373, 172, 173, 174, 175, 181, 374] (by decide +kernel) (by decide +kernel)
set_option maxRecDepth 20000 in
theorem ggL_law_L_act_q15 : GoodIn wsL_law wsL_act_r15 := goodIn_r _ [375, 376, 377, 378, 379, 380, 381, 382, 383, 384, 385, 386, 387, 388, 389, 390, 391, 392, 393, 394, 395, 396, 397, 398] (by decide +kernel) (by decide +kernel)
set_option maxRecDepth 20000 in
theorem ggL_law_L_act_q16 : GoodIn wsL_law wsL_act_r16 := goodIn_r _ [399, 400, 401] (by decide +kernel) (by decide +kernel)
set_option maxRecDepth 20000 in
theorem ggL_law_L_act_q17 : GoodIn wsL_law wsX40 := goodIn_r _ [409, 410, 411, 412, 413, 414, 415] (by decide +kernel) (by decide +kernel)
set_option maxRecDepth 20000 in
theorem ggL_law_L_act_q18 : GoodIn wsL_law wsX20 := goodIn_r _ [419, 420, 421, 422] (by decide +kernel) (by decide +kernel)
set_option maxRecDepth 20000 in
theorem ggL_law_L_act_q19 : GoodIn wsL_law wsJx4a65c0 := goodIn_r _ [416, 417, 418] (by decide +kernel) (by decide +kernel)
set_option maxRecDepth 20000 in
theorem ggL_law_L_act_q20 : GoodIn wsL_law wsX10 := goodIn_r _ [423, 424, 425, 426, 427, 428, 429, 430, 431, 432, 433, 434, 435] (by decide +kernel) (by decide +kernel)
set_option maxRecDepth 20000 in
theorem ggL_law_L_act_q21 : GoodIn wsL_law wsX30 := goodIn_r _ [436, 437, 438] (by decide +kernel) (by decide +kernel)
set_option maxRecDepth 20000 in
theorem ggL_law_L_act_q22 : GoodIn wsL_law wsX00 := goodIn_r _ [439, 440, 441] (by decide +kernel) (by decide +kernel)
set_option maxRecDepth 20000 in
theorem ggL_law_L_act : GoodIn wsL_law wsL_act := goodIn_ca (goodIn_ca (goodIn_ca (goodIn_app (a := [.codeWith yL_act cL_act 7 (some .int) [(0, 368, 369, 83), (0, 368, 374, 85), (0, 368, 379, 87)]]) ggL_law_L_act_q0 (goodIn_app (goodIn_app (goodIn_app (goodIn_app (goodIn_app (goodIn_app (goodIn_app ggL_law_L_act_q1 (goodIn_app ggL_law_L_act_q2 (goodIn_app ggL_law_L_act_q3 (goodIn_app ggL_law_L_act_q4 (goodIn_app ggL_law_L_act_q5 (goodIn_app ggL_law_L_act_q6 (goodIn_app ggL_law_L_act_q7 (goodIn_app ggL_law_L_act_q8 (goodIn_app ggL_law_L_act_q9 (goodIn_app ggL_law_L_act_q10 (goodIn_app ggL_law_L_act_q11 (goodIn_app ggL_law_L_act_q12 (goodIn_app ggL_law_L_act_q13 (goodIn_app ggL_law_L_act_q14 (goodIn_app ggL_law_L_act_q15 ggL_law_L_act_q16))))))))))))))) ggL_law_L_act_q17) ggL_law_L_act_q18) ggL_law_L_act_q19) ggL_law_L_act_q20) ggL_law_L_act_q21) ggL_law_L_act_q22)) (goodIn_sub (fun _ h => List.mem_append_left _ (List.mem_append_left _ (List.mem_append_right _ h))) (by decide +kernel))) (goodIn_sub (fun _ h => List.mem_append_left _ (List.mem_append_right _ h)) (by decide +kernel))) (goodIn_sub (fun _ h => List.mem_append_right _ h) (by decide +kernel))
set_option maxRecDepth 20000 in
theorem gL_law_L_act : GoodIn wsL_law (va_wsS RL 97 yL_act wsL_act) := goodIn_app (goodIn_of _ (by decide +kernel)) ggL_law_L_act
