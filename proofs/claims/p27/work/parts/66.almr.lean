theorem ggL_alarm_L_refuses_q0 : GoodIn wsL_alarm [.code yL_refuses cL_refuses 14 (some .boolean)] := goodIn_sub (fun w hw => (List.mem_singleton.mp hw) ▸ (List.mem_cons_of_mem _ (List.mem_append_left _ (List.mem_append_left _ (List.mem_append_left _ (List.mem_append_left _ (List.mem_append_left _ (List.mem_append_left _ (List.mem_append_left _ (List.mem_append_left _ (List.mem_append_left _ (List.mem_append_right _ (List.mem_append_right _ (List.mem_append_right _ (List.mem_append_right _ (List.mem_append_right _ (List.mem_append_right _ (List.mem_append_right _ (List.mem_append_right _ (List.mem_append_right _ (List.mem_append_right _ (List.mem_append_right _ (List.mem_append_right _ (List.mem_append_right _ (List.mem_append_right _ (List.mem_append_right _ (List.mem_append_right _ (List.mem_of_getElem? (i := 16) rfl : Cond.code yL_refuses cL_refuses 14 (some .boolean) ∈ wsL_alarm_r17)))))))))))))))))))))))))))) (by decide +kernel)
set_option maxRecDepth 20000 in
theorem ggL_alarm_L_refuses_q1 : GoodIn wsL_alarm wsL_refuses_r1 := goodIn_r _ [402, 403, 37, 38, 39, 3, 40, 21, 41, 42, 43, 44, 18, 45, 46, 47, 14, 48, 49, 186, 187, 188, 189, 190] (by decide +kernel) (by decide +kernel)
set_option maxRecDepth 20000 in
theorem ggL_alarm_L_refuses_q2 : GoodIn wsL_alarm wsL_refuses_r2 := goodIn_r _ [191, 192, 50, 51, 52, 53, 54, 55, 15, 56, 57, 58, 59, 60, 61, 62, 63, 64, 65, 66, 67, 68, 69, 70] (by decide +kernel) (by decide +kernel)
set_option maxRecDepth 20000 in
theorem ggL_alarm_L_refuses_q3 : GoodIn wsL_alarm wsL_refuses_r3 := goodIn_r _ [71, 72, 73, 74, 75, 76, 77, 78, 79, 80, 81, 82, 26, 83, 84, 85, 86, 10, 11, 87, 88, 89, 90, 91] (by decide +kernel) (by decide +kernel)
set_option maxRecDepth 20000 in
theorem ggL_alarm_L_refuses_q4 : GoodIn wsL_alarm wsL_refuses_r4 := goodIn_r _ [92, 93, 94, 95, 96, 97, 98, 99, 100, 101, 102, 103, 104, 105, 106, 107, 108, 25, 109, 110, 111, 112, 113, 114] (by decide +kernel) (by decide +kernel)
set_option maxRecDepth 20000 in
theorem ggL_alarm_L_refuses_q5 : GoodIn wsL_alarm wsL_refuses_r5 := goodIn_r _ [115, 116, 117, 118, 119, 120, 121, 122, 123, 124, 125, 126, 127, 128, 129, 130, 131, 132, 133, 134, 135, 136, 137, 138] (by decide +kernel) (by decide +kernel)
set_option maxRecDepth 20000 in
theorem ggL_alarm_L_refuses_q6 : GoodIn wsL_alarm wsL_refuses_r6 := goodIn_r _ [139, 140, 141, 142, 143, 144, 145, 146, 16, 147, 148, 149, 150, 151, 152, 153, 154, 155, 156, 157, 158, 159, 160, 161] (by decide +kernel) (by decide +kernel)
set_option maxRecDepth 20000 in
theorem ggL_alarm_L_refuses_q7 : GoodIn wsL_alarm wsL_refuses_r7 := goodIn_r _ [162, 163, 164, 165, 166, 167, 193, 194, 195, 196, 172, 197, 173, 174, 175, 176, 198, 199, 200, 201, 202, 203, 204, 205] (by decide +kernel) (by decide +kernel)
set_option maxRecDepth 20000 in
theorem ggL_alarm_L_refuses_q8 : GoodIn wsL_alarm wsL_refuses_r8 := goodIn_r _ [19, 206, 207, 208, 209, 210, 211, 212, 213, 214, 215, 17, 216, 217, 218, 219, 220, 221, 222, 223, 224, 225, 226, 227] (by decide +kernel) (by decide +kernel)
set_option maxRecDepth 20000 in
theorem ggL_alarm_L_refuses_q9 : GoodIn wsL_alarm wsL_refuses_r9 := goodIn_r _ [228, 229, 230, 231, 232, 233, 234, 235, 236, 237, 238, 239, 240, 241, 242, 243, 244, 245, 246, 247, 248, 249, 250, 251] (by decide +kernel) (by decide +kernel)
set_option maxRecDepth 20000 in
theorem ggL_alarm_L_refuses_q10 : GoodIn wsL_alarm wsL_refuses_r10 := goodIn_r _ [252, 253, 254, 255, 256, 257, 178, 179, 180, 258, 259, 260, 261, 262, 263, 264, 265, 266, 267, 268, 269, 270, 271, 272] (by decide +kernel) (by decide +kernel)
set_option maxRecDepth 20000 in
theorem ggL_alarm_L_refuses_q11 : GoodIn wsL_alarm wsL_refuses_r11 := goodIn_r _ [273, 274, 275, 276, 277, 278, 279, 280, 20, 281, 282, 283, 284, 285, 286, 287, 288, 289, 290, 291, 292, 293, 294, 295] (by decide +kernel) (by decide +kernel)
set_option maxRecDepth 20000 in
theorem ggL_alarm_L_refuses_q12 : GoodIn wsL_alarm wsL_refuses_r12 := goodIn_r _ [296, 297, 298, 299, 300, 301, 302, 303, 304, 305, 306, 307, 308, 309, 185, 310, 311, 312, 313, 314, 315, 316, 317, 318] (by decide +kernel) (by decide +kernel)
set_option maxRecDepth 20000 in
theorem ggL_alarm_L_refuses_q13 : GoodIn wsL_alarm wsL_refuses_r13 := goodIn_r _ [319, 320, 321, 322, 323, 324, 325, 326, 327, 328, 329, 330, 331, 332, 333, 334, 335, 336, 337, 338, 339, 340, 341, 342] (by decide +kernel) (by decide +kernel)
set_option maxRecDepth 20000 in
theorem ggL_alarm_L_refuses_q14 : GoodIn wsL_alarm wsL_refuses_r14 := goodIn_r _ [343, 344, 345, 346, 181, 182, 183, 184, 347, 348, 349, 350, 351, 352, 353, 354, 355, 356, 357, 358, 359, 360, 361, 362] (by decide +kernel) (by decide +kernel)
set_option maxRecDepth 20000 in
theorem ggL_alarm_L_refuses_q15 : GoodIn wsL_alarm wsL_refuses_r15 := goodIn_r _ [363, 364, 365, 366, 367, 368, 369, 370, 168, 169, 170, 171, 177, 371, 372, 373, 374, 375, 376, 377, 378, 379, 380, 381] (by decide +kernel) (by decide +kernel)
set_option maxRecDepth 20000 in
theorem ggL_alarm_L_refuses_q16 : GoodIn wsL_alarm wsL_refuses_r16 := goodIn_r _ [382, 383, 384, 385, 386, 387, 388, 389, 390, 391, 392, 393, 394, 395, 396, 397, 398] (by decide +kernel) (by decide +kernel)
set_option maxRecDepth 20000 in
theorem ggL_alarm_L_refuses_q17 : GoodIn wsL_alarm wsX40 := goodIn_r _ [404, 405, 406, 407, 408, 409, 410] (by decide +kernel) (by decide +kernel)
set_option maxRecDepth 20000 in
theorem ggL_alarm_L_refuses_q18 : GoodIn wsL_alarm wsJx4a65c0 := goodIn_r _ [411, 412, 413] (by decide +kernel) (by decide +kernel)
set_option maxRecDepth 20000 in
theorem ggL_alarm_L_refuses_q19 : GoodIn wsL_alarm wsX20 := goodIn_r _ [414, 415, 416, 417] (by decide +kernel) (by decide +kernel)
set_option maxRecDepth 20000 in
theorem ggL_alarm_L_refuses_q20 : GoodIn wsL_alarm wsX10 := goodIn_r _ [418, 419, 420, 421, 422, 423, 424, 425, 426, 427, 428, 429, 430] (by decide +kernel) (by decide +kernel)
set_option maxRecDepth 20000 in
theorem ggL_alarm_L_refuses_q21 : GoodIn wsL_alarm wsX30 := goodIn_r _ [431, 432, 433] (by decide +kernel) (by decide +kernel)
set_option maxRecDepth 20000 in
theorem ggL_alarm_L_refuses_q22 : GoodIn wsL_alarm wsX00 := goodIn_r _ [434, 435, 436] (by decide +kernel) (by decide +kernel)
set_option maxRecDepth 20000 in
theorem ggL_alarm_L_refuses : GoodIn wsL_alarm wsL_refuses := goodIn_ca (goodIn_ca (goodIn_ca (goodIn_app (a := [.code yL_refuses cL_refuses 14 (some .boolean)]) ggL_alarm_L_refuses_q0 (goodIn_app (goodIn_app (goodIn_app (goodIn_app (goodIn_app (goodIn_app (goodIn_app ggL_alarm_L_refuses_q1 (goodIn_app ggL_alarm_L_refuses_q2 (goodIn_app ggL_alarm_L_refuses_q3 (goodIn_app ggL_alarm_L_refuses_q4 (goodIn_app ggL_alarm_L_refuses_q5 (goodIn_app ggL_alarm_L_refuses_q6 (goodIn_app ggL_alarm_L_refuses_q7 (goodIn_app ggL_alarm_L_refuses_q8 (goodIn_app ggL_alarm_L_refuses_q9 (goodIn_app ggL_alarm_L_refuses_q10 (goodIn_app ggL_alarm_L_refuses_q11 (goodIn_app ggL_alarm_L_refuses_q12 (goodIn_app ggL_alarm_L_refuses_q13 (goodIn_app ggL_alarm_L_refuses_q14 (goodIn_app ggL_alarm_L_refuses_q15 ggL_alarm_L_refuses_q16))))))))))))))) ggL_alarm_L_refuses_q17) ggL_alarm_L_refuses_q18) ggL_alarm_L_refuses_q19) ggL_alarm_L_refuses_q20) ggL_alarm_L_refuses_q21) ggL_alarm_L_refuses_q22)) (goodIn_sub (fun _ h => List.mem_cons_of_mem _ (List.mem_append_left _ (List.mem_append_left _ (List.mem_append_right _ h)))) (by decide +kernel))) (goodIn_sub (fun _ h => List.mem_cons_of_mem _ (List.mem_append_left _ (List.mem_append_right _ h))) (by decide +kernel))) (goodIn_sub (fun _ h => List.mem_cons_of_mem _ (List.mem_append_right _ h)) (by decide +kernel))
