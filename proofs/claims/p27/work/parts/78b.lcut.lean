theorem ggL_law_L_cut_q0 : GoodIn wsL_law [.code yL_cut cL_cut 1 (some .boolean)] := goodIn_sub (fun w hw => (List.mem_singleton.mp hw) ▸ (show Cond.code yL_cut cL_cut 1 (some .boolean) ∈ wsL_law from (List.mem_append_left _ (List.mem_append_left _ (List.mem_append_left _ (show Cond.code yL_cut cL_cut 1 (some .boolean) ∈ wsL_law0 from (List.mem_append_left _ (List.mem_append_left _ (List.mem_append_left _ (List.mem_append_left _ (List.mem_append_left _ (List.mem_append_left _ (List.mem_append_left _ (List.mem_append_right _ (List.mem_append_right _ (List.mem_append_right _ (List.mem_append_right _ (List.mem_append_right _ (List.mem_append_right _ (List.mem_append_right _ (List.mem_append_right _ (List.mem_append_right _ (List.mem_append_right _ (List.mem_append_right _ (List.mem_append_right _ (List.mem_append_right _ (List.mem_append_right _ (List.mem_append_right _ (List.mem_append_right _ (List.mem_append_right _ (List.mem_of_getElem? (i := 0) rfl : Cond.code yL_cut cL_cut 1 (some .boolean) ∈ wsL_law0_r18))))))))))))))))))))))))))))))) (by decide +kernel)
set_option maxRecDepth 20000 in
theorem ggL_law_L_cut_q1 : GoodIn wsL_law wsL_cut_r1 := goodIn_r _ [0, 1, 2, 10, 11, 12, 13, 14, 15, 16, 17, 18, 19, 20, 21, 22, 23, 24, 25, 26, 27, 28, 29, 30] (by decide +kernel) (by decide +kernel)
set_option maxRecDepth 20000 in
theorem ggL_law_L_cut_q2 : GoodIn wsL_law wsL_cut_r2 := goodIn_r _ [31, 32, 33, 34, 35, 36, 37, 38, 39, 40, 54, 55, 56, 57, 58, 59, 60, 61, 62, 63, 64, 65, 66, 67] (by decide +kernel) (by decide +kernel)
set_option maxRecDepth 20000 in
theorem ggL_law_L_cut_q3 : GoodIn wsL_law wsL_cut_r3 := goodIn_r _ [68, 69, 70, 49, 50, 51, 52, 53, 71, 72, 73, 74, 75, 76, 77, 78, 79, 80, 81, 82, 83, 84, 85, 86] (by decide +kernel) (by decide +kernel)
set_option maxRecDepth 20000 in
theorem ggL_law_L_cut_q4 : GoodIn wsL_law wsL_cut_r4 := goodIn_r _ [87, 88, 89, 90, 91, 92, 93, 94, 95, 96, 97, 98, 99, 100, 101, 102, 103, 104, 105, 106, 107, 108, 109, 110] (by decide +kernel) (by decide +kernel)
set_option maxRecDepth 20000 in
theorem ggL_law_L_cut_q5 : GoodIn wsL_law wsL_cut_r5 := goodIn_r _ [111, 112, 113, 114, 115, 116, 117, 118, 119, 120, 121, 122, 123, 124, 125, 126, 127, 128, 129, 130, 131, 132, 133, 134] (by decide +kernel) (by decide +kernel)
set_option maxRecDepth 20000 in
theorem ggL_law_L_cut_q6 : GoodIn wsL_law wsL_cut_r6 := goodIn_r _ [135, 136, 137, 138, 139, 140, 141, 142, 143, 144, 145, 146, 147, 148, 149, 150, 151, 152, 153, 154, 155, 156, 157, 158] (by decide +kernel) (by decide +kernel)
set_option maxRecDepth 20000 in
theorem ggL_law_L_cut_q7 : GoodIn wsL_law wsL_cut_r7 := goodIn_r _ [159, 160, 161, 162, 163, 164, 165, 166, 167, 168, 169, 170, 171, 244, 245, 246, 247, 248, 249, 250, 251, 252, 253, 254] (by decide +kernel) (by decide +kernel)
set_option maxRecDepth 20000 in
theorem ggL_law_L_cut_q8 : GoodIn wsL_law wsL_cut_r8 := goodIn_r _ [255, 176, 256, 257, 258, 259, 260, 182, 183, 184, 261, 262, 263, 264, 265, 266, 267, 268, 269, 270, 271, 200, 201, 202] (by decide +kernel) (by decide +kernel)
set_option maxRecDepth 20000 in
theorem ggL_law_L_cut_q9 : GoodIn wsL_law wsL_cut_r9 := goodIn_r _ [203, 272, 273, 274, 275, 276, 277, 278, 279, 280, 281, 282, 283, 284, 285, 286, 287, 288, 204, 289, 290, 291, 292, 293] (by decide +kernel) (by decide +kernel)
set_option maxRecDepth 20000 in
theorem ggL_law_L_cut_q10 : GoodIn wsL_law wsL_cut_r10 := goodIn_r _ [294, 295, 296, 297, 298, 299, 300, 301, 302, 303, 304, 305, 306, 307, 308, 309, 310, 311, 312, 189, 313, 314, 315, 316] (by decide +kernel) (by decide +kernel)
set_option maxRecDepth 20000 in
theorem ggL_law_L_cut_q11 : GoodIn wsL_law wsL_cut_r11 := goodIn_r _ [317, 318, 233, 319, 320, 321, 322, 323, 221, 324, 227, 228, 325, 326, 327, 328, 329, 330, 331, 332, 333, 334, 335, 336] (by decide +kernel) (by decide +kernel)
set_option maxRecDepth 20000 in
theorem ggL_law_L_cut_q12 : GoodIn wsL_law wsL_cut_r12 := goodIn_r _ [337, 338, 339, 340, 341, 342, 343, 344, 345, 350, 351, 352, 353, 177, 178, 179, 180, 185, 186, 187, 188, 205, 206, 207] (by decide +kernel) (by decide +kernel)
set_option maxRecDepth 20000 in
theorem ggL_law_L_cut_q13 : GoodIn wsL_law wsL_cut_r13 := goodIn_r _ [208, 346, 347, 348, 349, 370, 371, 372, 373, 379, 380, 381, 382, 358, 359, 360, 361, 209, 210, 211, 212, 213, 196, 197] (by decide +kernel) (by decide +kernel)
set_option maxRecDepth 20000 in
theorem ggL_law_L_cut_q14 : GoodIn wsL_law wsL_cut_r14 := goodIn_r _ [198, 199, 214, 215, 216, 217, 218, 219, 220, 222, 223, 224, 225, 226, 393, 394, 395, 396, 387, 397, 389, 390, 391, 392] (by decide +kernel) (by decide +kernel)
set_option maxRecDepth 20000 in
theorem ggL_law_L_cut_q15 : GoodIn wsL_law wsL_cut_r15 := good_split (bad := Cond.code yL_refuses cL_refuses 14 (some .boolean)) 22 (goodIn_r _ [383, 384, 385, 386, 388, 229, 230, 231, 232, 234, 235, 236, 237, 238, 239, 240, 241, 242, 243, 402, 403, 6] (by decide +kernel) (by decide +kernel)) (goodIn_sub (fun w hw => (List.mem_singleton.mp hw) ▸ (show Cond.code yL_refuses cL_refuses 14 (some .boolean) ∈ wsL_law from (List.mem_append_left _ (List.mem_append_left _ (List.mem_append_left _ (show Cond.code yL_refuses cL_refuses 14 (some .boolean) ∈ wsL_law0 from (List.mem_append_left _ (List.mem_append_left _ (List.mem_append_left _ (List.mem_append_left _ (List.mem_append_left _ (List.mem_append_left _ (List.mem_append_left _ (List.mem_append_right _ (List.mem_append_right _ (List.mem_append_right _ (List.mem_append_right _ (List.mem_append_right _ (List.mem_append_right _ (List.mem_append_right _ (List.mem_append_right _ (List.mem_append_right _ (List.mem_append_right _ (List.mem_append_right _ (List.mem_append_right _ (List.mem_append_right _ (List.mem_append_right _ (List.mem_append_right _ (List.mem_append_right _ (List.mem_append_left _ (List.mem_of_getElem? (i := 20) rfl : Cond.code yL_refuses cL_refuses 14 (some .boolean) ∈ wsL_law0_r17))))))))))))))))))))))))))))))) (by decide +kernel)) (goodIn_r _ [405] (by decide +kernel) (by decide +kernel)) rfl
set_option maxRecDepth 20000 in
theorem ggL_law_L_cut_q16 : GoodIn wsL_law wsL_cut_r16 := good_split (bad := Cond.codeWith yL_act cL_act 7 (some .int) [(0, 368, 369, 83), (0, 368, 374, 85), (0, 368, 379, 87)]) 11 (goodIn_r _ [3, 41, 42, 43, 44, 45, 46, 47, 48, 190, 191] (by decide +kernel) (by decide +kernel)) (goodIn_sub (fun w hw => (List.mem_singleton.mp hw) ▸ (show Cond.codeWith yL_act cL_act 7 (some .int) [(0, 368, 369, 83), (0, 368, 374, 85), (0, 368, 379, 87)] ∈ wsL_law from (List.mem_append_left _ (List.mem_append_left _ (List.mem_append_left _ (show Cond.codeWith yL_act cL_act 7 (some .int) [(0, 368, 369, 83), (0, 368, 374, 85), (0, 368, 379, 87)] ∈ wsL_law0 from (List.mem_append_left _ (List.mem_append_left _ (List.mem_append_left _ (List.mem_append_left _ (List.mem_append_left _ (List.mem_append_left _ (List.mem_append_left _ (List.mem_append_right _ (List.mem_append_right _ (List.mem_append_right _ (List.mem_append_right _ (List.mem_append_right _ (List.mem_append_right _ (List.mem_append_right _ (List.mem_append_right _ (List.mem_append_left _ (List.mem_of_getElem? (i := 0) rfl : Cond.codeWith yL_act cL_act 7 (some .int) [(0, 368, 369, 83), (0, 368, 374, 85), (0, 368, 379, 87)] ∈ wsL_law0_r9))))))))))))))))))))))) (by decide +kernel)) (goodIn_r _ [193, 194, 195, 354, 355, 356, 357, 362, 363, 364, 365, 366] (by decide +kernel) (by decide +kernel)) rfl
set_option maxRecDepth 20000 in
theorem ggL_law_L_cut_q17 : GoodIn wsL_law wsL_cut_r17 := goodIn_r _ [367, 368, 369, 172, 173, 174, 175, 181, 374, 375, 376, 377, 378, 398, 399, 400, 401] (by decide +kernel) (by decide +kernel)
set_option maxRecDepth 20000 in
theorem ggL_law_L_cut_q18 : GoodIn wsL_law wsX40 := goodIn_r _ [409, 410, 411, 412, 413, 414, 415] (by decide +kernel) (by decide +kernel)
set_option maxRecDepth 20000 in
theorem ggL_law_L_cut_q19 : GoodIn wsL_law wsJx4a65c0 := goodIn_r _ [416, 417, 418] (by decide +kernel) (by decide +kernel)
set_option maxRecDepth 20000 in
theorem ggL_law_L_cut_q20 : GoodIn wsL_law wsX20 := goodIn_r _ [419, 420, 421, 422] (by decide +kernel) (by decide +kernel)
set_option maxRecDepth 20000 in
theorem ggL_law_L_cut_q21 : GoodIn wsL_law wsX10 := goodIn_r _ [423, 424, 425, 426, 427, 428, 429, 430, 431, 432, 433, 434, 435] (by decide +kernel) (by decide +kernel)
set_option maxRecDepth 20000 in
theorem ggL_law_L_cut_q22 : GoodIn wsL_law wsX00 := goodIn_r _ [439, 440, 441] (by decide +kernel) (by decide +kernel)
set_option maxRecDepth 20000 in
theorem ggL_law_L_cut_q23 : GoodIn wsL_law wsX30 := goodIn_r _ [436, 437, 438] (by decide +kernel) (by decide +kernel)
set_option maxRecDepth 20000 in
theorem ggL_law_L_cut : GoodIn wsL_law wsL_cut := goodIn_ca (goodIn_ca (goodIn_ca (goodIn_app (a := [.code yL_cut cL_cut 1 (some .boolean)]) ggL_law_L_cut_q0 (goodIn_app (goodIn_app (goodIn_app (goodIn_app (goodIn_app (goodIn_app (goodIn_app ggL_law_L_cut_q1 (goodIn_app ggL_law_L_cut_q2 (goodIn_app ggL_law_L_cut_q3 (goodIn_app ggL_law_L_cut_q4 (goodIn_app ggL_law_L_cut_q5 (goodIn_app ggL_law_L_cut_q6 (goodIn_app ggL_law_L_cut_q7 (goodIn_app ggL_law_L_cut_q8 (goodIn_app ggL_law_L_cut_q9 (goodIn_app ggL_law_L_cut_q10 (goodIn_app ggL_law_L_cut_q11 (goodIn_app ggL_law_L_cut_q12 (goodIn_app ggL_law_L_cut_q13 (goodIn_app ggL_law_L_cut_q14 (goodIn_app ggL_law_L_cut_q15 (goodIn_app ggL_law_L_cut_q16 ggL_law_L_cut_q17)))))))))))))))) ggL_law_L_cut_q18) ggL_law_L_cut_q19) ggL_law_L_cut_q20) ggL_law_L_cut_q21) ggL_law_L_cut_q22) ggL_law_L_cut_q23)) (goodIn_sub (fun _ h => List.mem_append_left _ (List.mem_append_left _ (List.mem_append_right _ h))) (by decide +kernel))) (goodIn_sub (fun _ h => List.mem_append_left _ (List.mem_append_right _ h)) (by decide +kernel))) (goodIn_sub (fun _ h => List.mem_append_right _ h) (by decide +kernel))
set_option maxRecDepth 20000 in
theorem gL_law_L_cut : GoodIn wsL_law (va_wsS RL 115 yL_cut wsL_cut) := goodIn_app (goodIn_of _ (by decide +kernel)) ggL_law_L_cut
