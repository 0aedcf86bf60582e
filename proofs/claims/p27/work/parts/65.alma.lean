theorem ggL_alarm_L_act_q0 : GoodIn wsL_alarm [.codeWith yL_act cL_act 7 (some .int) [(0, 368, 369, 83), (0, 368, 374, 85), (0, 368, 379, 87)]] := goodIn_sub (fun w hw => (List.mem_singleton.mp hw) ▸ (List.mem_cons_of_mem _ (List.mem_append_left _ (List.mem_append_left _ (List.mem_append_left _ (List.mem_append_left _ (List.mem_append_left _ (List.mem_append_left _ (List.mem_append_left _ (List.mem_append_left _ (List.mem_append_left _ (List.mem_append_right _ (List.mem_append_right _ (List.mem_append_right _ (List.mem_append_right _ (List.mem_append_right _ (List.mem_append_right _ (List.mem_append_right _ (List.mem_append_left _ (List.mem_of_getElem? (i := 20) rfl : Cond.codeWith yL_act cL_act 7 (some .int) [(0, 368, 369, 83), (0, 368, 374, 85), (0, 368, 379, 87)] ∈ wsL_alarm_r8)))))))))))))))))))) (by decide +kernel)
set_option maxRecDepth 20000 in
theorem ggL_alarm_L_act_q1 : GoodIn wsL_alarm wsL_act_r1 := goodIn_r _ [190, 191, 192, 50, 51, 52, 3, 53, 54, 55, 15, 56, 57, 58, 59, 60, 61, 62, 63, 64, 65, 66, 45, 46] (by decide +kernel) (by decide +kernel)
set_option maxRecDepth 20000 in
theorem ggL_alarm_L_act_q2 : GoodIn wsL_alarm wsL_act_r2 := goodIn_r _ [47, 14, 48, 49, 67, 68, 69, 70, 71, 72, 73, 74, 75, 76, 77, 78, 79, 80, 81, 82, 26, 83, 84, 85] (by decide +kernel) (by decide +kernel)
set_option maxRecDepth 20000 in
theorem ggL_alarm_L_act_q3 : GoodIn wsL_alarm wsL_act_r3 := goodIn_r _ [86, 10, 11, 87, 88, 89, 90, 91, 92, 93, 94, 95, 96, 97, 98, 99, 100, 101, 102, 103, 104, 105, 106, 107] (by decide +kernel) (by decide +kernel)
set_option maxRecDepth 20000 in
theorem ggL_alarm_L_act_q4 : GoodIn wsL_alarm wsL_act_r4 := goodIn_r _ [108, 25, 109, 110, 111, 112, 113, 114, 115, 116, 117, 118, 119, 120, 121, 122, 123, 124, 125, 126, 127, 128, 129, 130] (by decide +kernel) (by decide +kernel)
set_option maxRecDepth 20000 in
theorem ggL_alarm_L_act_q5 : GoodIn wsL_alarm wsL_act_r5 := goodIn_r _ [131, 132, 133, 134, 135, 136, 137, 138, 139, 140, 141, 142, 143, 144, 145, 146, 16, 147, 148, 149, 150, 151, 152, 153] (by decide +kernel) (by decide +kernel)
set_option maxRecDepth 20000 in
theorem ggL_alarm_L_act_q6 : GoodIn wsL_alarm wsL_act_r6 := goodIn_r _ [154, 155, 156, 157, 158, 159, 160, 161, 162, 163, 164, 165, 166, 167, 193, 194, 195, 196, 172, 197, 173, 174, 175, 176] (by decide +kernel) (by decide +kernel)
set_option maxRecDepth 20000 in
theorem ggL_alarm_L_act_q7 : GoodIn wsL_alarm wsL_act_r7 := goodIn_r _ [198, 199, 200, 201, 202, 203, 204, 205, 19, 206, 207, 208, 209, 210, 211, 212, 213, 214, 215, 17, 216, 217, 218, 219] (by decide +kernel) (by decide +kernel)
set_option maxRecDepth 20000 in
theorem ggL_alarm_L_act_q8 : GoodIn wsL_alarm wsL_act_r8 := goodIn_r _ [220, 221, 222, 223, 224, 225, 226, 227, 228, 229, 230, 21, 231, 232, 233, 234, 235, 236, 237, 238, 239, 240, 241, 242] (by decide +kernel) (by decide +kernel)
set_option maxRecDepth 20000 in
theorem ggL_alarm_L_act_q9 : GoodIn wsL_alarm wsL_act_r9 := goodIn_r _ [243, 244, 18, 245, 246, 247, 248, 249, 250, 251, 252, 253, 254, 255, 256, 257, 178, 179, 180, 258, 259, 260, 261, 262] (by decide +kernel) (by decide +kernel)
set_option maxRecDepth 20000 in
theorem ggL_alarm_L_act_q10 : GoodIn wsL_alarm wsL_act_r10 := goodIn_r _ [263, 264, 265, 266, 267, 268, 269, 270, 271, 272, 273, 274, 275, 276, 277, 278, 279, 280, 20, 281, 282, 283, 284, 285] (by decide +kernel) (by decide +kernel)
set_option maxRecDepth 20000 in
theorem ggL_alarm_L_act_q11 : GoodIn wsL_alarm wsL_act_r11 := goodIn_r _ [286, 287, 288, 289, 290, 291, 292, 293, 294, 295, 296, 297, 298, 299, 300, 301, 302, 303, 304, 305, 306, 307, 308, 309] (by decide +kernel) (by decide +kernel)
set_option maxRecDepth 20000 in
theorem ggL_alarm_L_act_q12 : GoodIn wsL_alarm wsL_act_r12 := goodIn_r _ [185, 310, 311, 312, 313, 314, 315, 316, 317, 318, 319, 320, 321, 322, 323, 324, 325, 326, 327, 328, 329, 330, 331, 332] (by decide +kernel) (by decide +kernel)
set_option maxRecDepth 20000 in
theorem ggL_alarm_L_act_q13 : GoodIn wsL_alarm wsL_act_r13 := goodIn_r _ [333, 334, 335, 336, 337, 338, 339, 340, 341, 342, 343, 344, 345, 346, 181, 182, 183, 184, 347, 348, 349, 350, 351, 352] (by decide +kernel) (by decide +kernel)
set_option maxRecDepth 20000 in
theorem ggL_alarm_L_act_q14 : GoodIn wsL_alarm wsL_act_r14 := goodIn_r _ [353, 354, 355, 356, 357, 358, 359, 360, 361, 362, 363, 364, 365, 366, 367, 368, 369, 370, 168, 169, 170, 171, 177, 371] (by decide +kernel) (by decide +kernel)
set_option maxRecDepth 20000 in
theorem ggL_alarm_L_act_q15 : GoodIn wsL_alarm wsL_act_r15 := goodIn_r _ [372, 373, 374, 375, 376, 377, 378, 379, 380, 381, 382, 383, 384, 385, 386, 387, 388, 389, 390, 391, 392, 393, 394, 395] (by decide +kernel) (by decide +kernel)
set_option maxRecDepth 20000 in
theorem ggL_alarm_L_act_q16 : GoodIn wsL_alarm wsL_act_r16 := goodIn_r _ [396, 397, 398] (by decide +kernel) (by decide +kernel)
set_option maxRecDepth 20000 in
theorem ggL_alarm_L_act_q17 : GoodIn wsL_alarm wsX40 := goodIn_r _ [404, 405, 406, 407, 408, 409, 410] (by decide +kernel) (by decide +kernel)
set_option maxRecDepth 20000 in
theorem ggL_alarm_L_act_q18 : GoodIn wsL_alarm wsX20 := goodIn_r _ [414, 415, 416, 417] (by decide +kernel) (by decide +kernel)
set_option maxRecDepth 20000 in
theorem ggL_alarm_L_act_q19 : GoodIn wsL_alarm wsJx4a65c0 := goodIn_r _ [411, 412, 413] (by decide +kernel) (by decide +kernel)
set_option maxRecDepth 20000 in
theorem ggL_alarm_L_act_q20 : GoodIn wsL_alarm wsX10 := goodIn_r _ [418, 419, 420, 421, 422, 423, 424, 425, 426, 427, 428, 429, 430] (by decide +kernel) (by decide +kernel)
set_option maxRecDepth 20000 in
theorem ggL_alarm_L_act_q21 : GoodIn wsL_alarm wsX30 := goodIn_r _ [431, 432, 433] (by decide +kernel) (by decide +kernel)
set_option maxRecDepth 20000 in
theorem ggL_alarm_L_act_q22 : GoodIn wsL_alarm wsX00 := goodIn_r _ [434, 435, 436] (by decide +kernel) (by decide +kernel)
set_option maxRecDepth 20000 in
theorem ggL_alarm_L_act : GoodIn wsL_alarm wsL_act := goodIn_ca (goodIn_ca (goodIn_ca (goodIn_app (a := [.codeWith yL_act cL_act 7 (some .int) [(0, 368, 369, 83), (0, 368, 374, 85), (0, 368, 379, 87)]]) ggL_alarm_L_act_q0 (goodIn_app (goodIn_app (goodIn_app (goodIn_app (goodIn_app (goodIn_app (goodIn_app ggL_alarm_L_act_q1 (goodIn_app ggL_alarm_L_act_q2 (goodIn_app ggL_alarm_L_act_q3 (goodIn_app ggL_alarm_L_act_q4 (goodIn_app ggL_alarm_L_act_q5 (goodIn_app ggL_alarm_L_act_q6 (goodIn_app ggL_alarm_L_act_q7 (goodIn_app ggL_alarm_L_act_q8 (goodIn_app ggL_alarm_L_act_q9 (goodIn_app ggL_alarm_L_act_q10 (goodIn_app ggL_alarm_L_act_q11 (goodIn_app ggL_alarm_L_act_q12 (goodIn_app ggL_alarm_L_act_q13 (goodIn_app ggL_alarm_L_act_q14 (goodIn_app ggL_alarm_L_act_q15 ggL_alarm_L_act_q16))))))))))))))) ggL_alarm_L_act_q17) ggL_alarm_L_act_q18) ggL_alarm_L_act_q19) ggL_alarm_L_act_q20) ggL_alarm_L_act_q21) ggL_alarm_L_act_q22)) (goodIn_sub (fun _ h => List.mem_cons_of_mem _ (List.mem_append_left _ (List.mem_append_left _ (List.mem_append_right _ h)))) (by decide +kernel))) (goodIn_sub (fun _ h => List.mem_cons_of_mem _ (List.mem_append_left _ (List.mem_append_right _ h))) (by decide +kernel))) (goodIn_sub (fun _ h => List.mem_cons_of_mem _ (List.mem_append_right _ h)) (by decide +kernel))
