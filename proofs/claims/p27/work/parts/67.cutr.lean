theorem ggL_cut_L_refuses_q0 : GoodIn wsL_cut [.code yL_refuses cL_refuses 14 (some .boolean)] := goodIn_sub (fun w hw => (List.mem_singleton.mp hw) ▸ (List.mem_cons_of_mem _ (List.mem_append_left _ (List.mem_append_left _ (List.mem_append_left _ (List.mem_append_left _ (List.mem_append_left _ (List.mem_append_left _ (List.mem_append_left _ (List.mem_append_left _ (List.mem_append_left _ (List.mem_append_right _ (List.mem_append_right _ (List.mem_append_right _ (List.mem_append_right _ (List.mem_append_right _ (List.mem_append_right _ (List.mem_append_right _ (List.mem_append_right _ (List.mem_append_right _ (List.mem_append_right _ (List.mem_append_right _ (List.mem_append_right _ (List.mem_append_right _ (List.mem_append_right _ (List.mem_append_left _ (List.mem_of_getElem? (i := 22) rfl : Cond.code yL_refuses cL_refuses 14 (some .boolean) ∈ wsL_cut_r15))))))))))))))))))))))))))) (by decide +kernel)
set_option maxRecDepth 20000 in
theorem ggL_cut_L_refuses_q1 : GoodIn wsL_cut wsL_refuses_r1 := goodIn_r _ [360, 361, 362, 363, 364, 3, 365, 19, 366, 367, 368, 369, 16, 52, 53, 54, 12, 55, 56, 370, 371, 358, 372, 373] (by decide +kernel) (by decide +kernel)
set_option maxRecDepth 20000 in
theorem ggL_cut_L_refuses_q2 : GoodIn wsL_cut wsL_refuses_r2 := goodIn_r _ [374, 375, 35, 36, 37, 38, 39, 40, 13, 41, 42, 43, 44, 45, 46, 47, 48, 49, 50, 51, 57, 58, 59, 60] (by decide +kernel) (by decide +kernel)
set_option maxRecDepth 20000 in
theorem ggL_cut_L_refuses_q3 : GoodIn wsL_cut wsL_refuses_r3 := goodIn_r _ [61, 62, 63, 64, 65, 66, 67, 68, 69, 70, 71, 72, 24, 73, 74, 75, 76, 8, 9, 77, 78, 79, 80, 81] (by decide +kernel) (by decide +kernel)
set_option maxRecDepth 20000 in
theorem ggL_cut_L_refuses_q4 : GoodIn wsL_cut wsL_refuses_r4 := goodIn_r _ [82, 83, 84, 85, 86, 87, 88, 89, 90, 91, 92, 93, 94, 95, 96, 97, 98, 23, 99, 100, 101, 102, 103, 104] (by decide +kernel) (by decide +kernel)
set_option maxRecDepth 20000 in
theorem ggL_cut_L_refuses_q5 : GoodIn wsL_cut wsL_refuses_r5 := goodIn_r _ [105, 106, 107, 108, 109, 110, 111, 112, 113, 114, 115, 116, 117, 118, 119, 120, 121, 122, 123, 124, 125, 126, 127, 128] (by decide +kernel) (by decide +kernel)
set_option maxRecDepth 20000 in
theorem ggL_cut_L_refuses_q6 : GoodIn wsL_cut wsL_refuses_r6 := goodIn_r _ [129, 130, 131, 132, 133, 134, 135, 136, 14, 137, 138, 139, 140, 141, 142, 143, 144, 145, 146, 147, 148, 149, 150, 151] (by decide +kernel) (by decide +kernel)
set_option maxRecDepth 20000 in
theorem ggL_cut_L_refuses_q7 : GoodIn wsL_cut wsL_refuses_r7 := goodIn_r _ [152, 153, 154, 155, 156, 157, 311, 312, 313, 314, 170, 190, 278, 279, 280, 281, 191, 192, 193, 211, 286, 287, 288, 289] (by decide +kernel) (by decide +kernel)
set_option maxRecDepth 20000 in
theorem ggL_cut_L_refuses_q8 : GoodIn wsL_cut wsL_refuses_r8 := goodIn_r _ [17, 306, 307, 308, 309, 310, 315, 316, 317, 318, 319, 15, 320, 321, 249, 322, 323, 324, 325, 326, 251, 252, 342, 343] (by decide +kernel) (by decide +kernel)
set_option maxRecDepth 20000 in
theorem ggL_cut_L_refuses_q9 : GoodIn wsL_cut wsL_refuses_r9 := goodIn_r _ [344, 345, 243, 346, 347, 348, 349, 350, 351, 352, 353, 354, 355, 158, 159, 160, 161, 162, 163, 164, 165, 166, 167, 168] (by decide +kernel) (by decide +kernel)
set_option maxRecDepth 20000 in
theorem ggL_cut_L_refuses_q10 : GoodIn wsL_cut wsL_refuses_r10 := goodIn_r _ [169, 171, 172, 173, 174, 175, 176, 177, 178, 179, 180, 181, 182, 183, 184, 185, 186, 187, 188, 189, 194, 195, 196, 197] (by decide +kernel) (by decide +kernel)
set_option maxRecDepth 20000 in
theorem ggL_cut_L_refuses_q11 : GoodIn wsL_cut wsL_refuses_r11 := goodIn_r _ [198, 199, 200, 201, 202, 203, 204, 205, 18, 206, 207, 208, 209, 210, 212, 213, 214, 215, 216, 217, 218, 219, 220, 221] (by decide +kernel) (by decide +kernel)
set_option maxRecDepth 20000 in
theorem ggL_cut_L_refuses_q12 : GoodIn wsL_cut wsL_refuses_r12 := goodIn_r _ [222, 223, 224, 225, 226, 227, 228, 229, 230, 231, 232, 233, 234, 235, 236, 237, 238, 239, 240, 241, 242, 244, 245, 246] (by decide +kernel) (by decide +kernel)
set_option maxRecDepth 20000 in
theorem ggL_cut_L_refuses_q13 : GoodIn wsL_cut wsL_refuses_r13 := goodIn_r _ [247, 248, 250, 253, 254, 255, 256, 257, 258, 259, 260, 261, 262, 263, 264, 265, 266, 267, 268, 269, 270, 271, 272, 273] (by decide +kernel) (by decide +kernel)
set_option maxRecDepth 20000 in
theorem ggL_cut_L_refuses_q14 : GoodIn wsL_cut wsL_refuses_r14 := goodIn_r _ [290, 291, 292, 293, 282, 283, 284, 285, 274, 275, 276, 277, 376, 377, 378, 379, 302, 303, 304, 305, 380, 381, 382, 383] (by decide +kernel) (by decide +kernel)
set_option maxRecDepth 20000 in
theorem ggL_cut_L_refuses_q15 : GoodIn wsL_cut wsL_refuses_r15 := goodIn_r _ [384, 385, 386, 387, 294, 295, 296, 297, 388, 389, 390, 391, 392, 393, 394, 395, 396, 397, 298, 299, 300, 301, 337, 338] (by decide +kernel) (by decide +kernel)
set_option maxRecDepth 20000 in
theorem ggL_cut_L_refuses_q16 : GoodIn wsL_cut wsL_refuses_r16 := goodIn_r _ [339, 340, 331, 341, 333, 334, 335, 336, 327, 328, 329, 330, 332, 398, 399, 400, 401] (by decide +kernel) (by decide +kernel)
set_option maxRecDepth 20000 in
theorem ggL_cut_L_refuses_q17 : GoodIn wsL_cut wsX40 := goodIn_r _ [402, 403, 404, 405, 406, 407, 408] (by decide +kernel) (by decide +kernel)
set_option maxRecDepth 20000 in
theorem ggL_cut_L_refuses_q18 : GoodIn wsL_cut wsJx4a65c0 := goodIn_r _ [409, 410, 411] (by decide +kernel) (by decide +kernel)
set_option maxRecDepth 20000 in
theorem ggL_cut_L_refuses_q19 : GoodIn wsL_cut wsX20 := goodIn_r _ [412, 413, 414, 415] (by decide +kernel) (by decide +kernel)
set_option maxRecDepth 20000 in
theorem ggL_cut_L_refuses_q20 : GoodIn wsL_cut wsX10 := goodIn_r _ [416, 417, 418, 419, 420, 421, 422, 423, 424, 425, 426, 427, 428] (by decide +kernel) (by decide +kernel)
set_option maxRecDepth 20000 in
theorem ggL_cut_L_refuses_q21 : GoodIn wsL_cut wsX30 := goodIn_r _ [432, 433, 434] (by decide +kernel) (by decide +kernel)
set_option maxRecDepth 20000 in
theorem ggL_cut_L_refuses_q22 : GoodIn wsL_cut wsX00 := goodIn_r _ [429, 430, 431] (by decide +kernel) (by decide +kernel)
set_option maxRecDepth 20000 in
theorem ggL_cut_L_refuses : GoodIn wsL_cut wsL_refuses := goodIn_ca (goodIn_ca (goodIn_ca (goodIn_app (a := [.code yL_refuses cL_refuses 14 (some .boolean)]) ggL_cut_L_refuses_q0 (goodIn_app (goodIn_app (goodIn_app (goodIn_app (goodIn_app (goodIn_app (goodIn_app ggL_cut_L_refuses_q1 (goodIn_app ggL_cut_L_refuses_q2 (goodIn_app ggL_cut_L_refuses_q3 (goodIn_app ggL_cut_L_refuses_q4 (goodIn_app ggL_cut_L_refuses_q5 (goodIn_app ggL_cut_L_refuses_q6 (goodIn_app ggL_cut_L_refuses_q7 (goodIn_app ggL_cut_L_refuses_q8 (goodIn_app ggL_cut_L_refuses_q9 (goodIn_app ggL_cut_L_refuses_q10 (goodIn_app ggL_cut_L_refuses_q11 (goodIn_app ggL_cut_L_refuses_q12 (goodIn_app ggL_cut_L_refuses_q13 (goodIn_app ggL_cut_L_refuses_q14 (goodIn_app ggL_cut_L_refuses_q15 ggL_cut_L_refuses_q16))))))))))))))) ggL_cut_L_refuses_q17) ggL_cut_L_refuses_q18) ggL_cut_L_refuses_q19) ggL_cut_L_refuses_q20) ggL_cut_L_refuses_q21) ggL_cut_L_refuses_q22)) (goodIn_sub (fun _ h => List.mem_cons_of_mem _ (List.mem_append_left _ (List.mem_append_left _ (List.mem_append_right _ h)))) (by decide +kernel))) (goodIn_sub (fun _ h => List.mem_cons_of_mem _ (List.mem_append_left _ (List.mem_append_right _ h))) (by decide +kernel))) (goodIn_sub (fun _ h => List.mem_cons_of_mem _ (List.mem_append_right _ h)) (by decide +kernel))
