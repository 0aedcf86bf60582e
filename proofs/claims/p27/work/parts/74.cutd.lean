set_option maxRecDepth 20000 in
theorem ggL_cut_X4_init : GoodIn wsL_cut wsX4_init := goodIn_r _ [6, 7, 8, 9, 10, 11, 12, 13, 14, 15, 16, 17, 18, 19, 20, 21, 22, 23, 24, 25, 26, 27, 28, 29, 30, 31, 32, 33, 34, 409, 410, 411, 402, 403, 404, 405, 406, 407, 408] (by decide +kernel) (by decide +kernel)
set_option maxRecDepth 20000 in
theorem gL_cut_X4_init : GoodIn wsL_cut (wsX4_init) := ggL_cut_X4_init
set_option maxRecDepth 20000 in
theorem ggL_cut_X4_addRegion : GoodIn wsL_cut wsX4_addRegion := goodIn_ca (goodIn_ca (goodIn_r _ [38, 39, 40, 13, 41, 42, 43, 44, 45, 46, 47, 48, 3, 49, 50, 51, 52, 53, 54, 12, 55, 56, 57, 58, 59, 60, 61, 62, 63, 64, 65, 66, 67, 68, 69, 70, 71, 72, 24, 73, 74, 75, 76, 8, 9, 77, 78, 79, 80, 81, 82, 83, 84, 85, 86, 87, 88, 89, 90, 91, 92, 93, 94, 95, 96, 97, 98, 23, 99, 100, 101, 102, 103, 104, 105, 106, 107, 108, 109, 110, 111, 112, 113, 114, 115, 116, 117, 118, 119, 120, 121, 122, 123, 124, 125, 126, 127, 128, 129, 130, 131, 132, 402, 403, 404, 405, 406, 407, 408, 412, 413, 414, 415, 409, 410, 411] (by decide +kernel) (by decide +kernel)) (goodIn_sub (fun _ h => List.mem_cons_of_mem _ (List.mem_append_left _ (List.mem_append_left _ (List.mem_append_right _ h)))) (by decide +kernel))) (goodIn_sub (fun _ h => List.mem_cons_of_mem _ (List.mem_append_left _ (List.mem_append_right _ h))) (by decide +kernel))
set_option maxRecDepth 20000 in
theorem gL_cut_X4_addRegion : GoodIn wsL_cut (wsV RL 7 RX4 yX4_addRegion wsX4_addRegion) := goodIn_app (goodIn_of _ (by decide +kernel)) ggL_cut_X4_addRegion
set_option maxRecDepth 20000 in
theorem ggL_cut_X4_addCheck : GoodIn wsL_cut wsX4_addCheck := goodIn_ca (goodIn_ca (goodIn_r _ [136, 39, 40, 14, 137, 138, 139, 140, 141, 3, 142, 143, 144, 52, 53, 54, 12, 55, 56, 145, 146, 147, 148, 8, 9, 149, 150, 151, 152, 153, 154, 155, 156, 157, 81, 82, 83, 84, 85, 86, 24, 87, 88, 89, 90, 91, 92, 93, 94, 95, 96, 97, 98, 23, 99, 100, 101, 102, 103, 104, 105, 106, 107, 108, 109, 110, 111, 112, 113, 114, 115, 116, 117, 118, 119, 120, 121, 122, 123, 124, 125, 126, 127, 128, 129, 130, 131, 132, 402, 403, 404, 405, 406, 407, 408, 416, 417, 418, 419, 420, 421, 422, 423, 424, 425, 426, 427, 428, 409, 410, 411] (by decide +kernel) (by decide +kernel)) (goodIn_sub (fun _ h => List.mem_cons_of_mem _ (List.mem_append_left _ (List.mem_append_left _ (List.mem_append_right _ h)))) (by decide +kernel))) (goodIn_sub (fun _ h => List.mem_cons_of_mem _ (List.mem_append_right _ h)) (by decide +kernel))
set_option maxRecDepth 20000 in
theorem gL_cut_X4_addCheck : GoodIn wsL_cut (wsV RL 13 RX4 yX4_addCheck wsX4_addCheck) := goodIn_app (goodIn_of _ (by decide +kernel)) ggL_cut_X4_addCheck
set_option maxRecDepth 20000 in
theorem ggL_cut_X4_pass : GoodIn wsL_cut wsX4_pass := goodIn_ca (goodIn_r _ [161, 16, 140, 141, 3, 142, 143, 144, 52, 53, 54, 12, 55, 56, 162, 163, 164, 165, 19, 166, 167, 168, 169, 14, 13, 170, 41, 57, 58, 59, 60, 61, 62, 63, 64, 65, 66, 67, 68, 69, 70, 71, 72, 24, 171, 172, 173, 139, 174, 175, 176, 177, 178, 156, 157, 151, 150, 179, 180, 181, 182, 183, 184, 185, 186, 187, 188, 189, 190, 42, 17, 191, 192, 193, 194, 195, 196, 197, 155, 152, 149, 198, 199, 200, 201, 202, 203, 204, 205, 18, 206, 207, 208, 209, 210, 211, 79, 80, 212, 213, 214, 215, 216, 217, 218, 219, 220, 221, 222, 223, 153, 224, 225, 226, 227, 228, 229, 230, 231, 232, 233, 234, 235, 236, 237, 238, 239, 240, 241, 242, 15, 243, 244, 245, 246, 247, 248, 249, 250, 251, 252, 253, 254, 255, 256, 257, 258, 259, 260, 261, 262, 263, 264, 8, 9, 265, 266, 267, 81, 82, 83, 84, 85, 86, 87, 88, 89, 90, 91, 92, 93, 94, 95, 96, 97, 98, 23, 99, 100, 101, 102, 103, 104, 105, 106, 107, 108, 109, 110, 111, 112, 113, 114, 115, 116, 117, 118, 119, 120, 121, 122, 123, 124, 125, 126, 127, 128, 129, 130, 131, 132, 268, 269, 270, 271, 272, 273, 402, 403, 404, 405, 406, 407, 408, 409, 410, 411, 416, 417, 418, 419, 420, 421, 422, 423, 424, 425, 426, 427, 428, 412, 413, 414, 415, 429, 430, 431, 432, 433, 434] (by decide +kernel) (by decide +kernel)) (goodIn_sub (fun _ h => List.mem_cons_of_mem _ (List.mem_append_right _ h)) (by decide +kernel))
set_option maxRecDepth 20000 in
theorem gL_cut_X4_pass : GoodIn wsL_cut (wsV RL 36 RX4 yX4_pass wsX4_pass) := goodIn_app (goodIn_of _ (by decide +kernel)) ggL_cut_X4_pass
set_option maxRecDepth 20000 in
theorem ggL_cut_X4_trusted : GoodIn wsL_cut wsX4_trusted := goodIn_ca (goodIn_r _ [277, 14, 170, 278, 279, 280, 3, 281, 50, 51, 52, 53, 54, 12, 55, 56, 57, 58, 59, 60, 61, 62, 63, 64, 65, 66, 67, 68, 69, 70, 71, 72, 24, 216, 217, 218, 219, 13, 210, 41, 42, 18, 211, 79, 80, 402, 403, 404, 405, 406, 407, 408, 409, 410, 411, 416, 417, 418, 419, 420, 421, 422, 423, 424, 425, 426, 427, 428, 412, 413, 414, 415] (by decide +kernel) (by decide +kernel)) (goodIn_sub (fun _ h => List.mem_cons_of_mem _ (List.mem_append_left _ (List.mem_append_right _ h))) (by decide +kernel))
set_option maxRecDepth 20000 in
theorem gL_cut_X4_trusted : GoodIn wsL_cut (wsV RL 45 RX4 yX4_trusted wsX4_trusted) := goodIn_app (goodIn_of _ (by decide +kernel)) ggL_cut_X4_trusted
set_option maxRecDepth 20000 in
theorem ggL_cut_X4_verdict : GoodIn wsL_cut wsX4_verdict := goodIn_ca (goodIn_r _ [285, 14, 170, 236, 278, 279, 280, 3, 281, 50, 51, 52, 53, 54, 12, 55, 56, 57, 58, 59, 60, 61, 62, 63, 64, 65, 66, 67, 68, 69, 70, 71, 72, 24, 402, 403, 404, 405, 406, 407, 408, 416, 417, 418, 419, 420, 421, 422, 423, 424, 425, 426, 427, 428, 409, 410, 411] (by decide +kernel) (by decide +kernel)) (goodIn_sub (fun _ h => List.mem_cons_of_mem _ (List.mem_append_left _ (List.mem_append_right _ h))) (by decide +kernel))
set_option maxRecDepth 20000 in
theorem gL_cut_X4_verdict : GoodIn wsL_cut (wsV RL 42 RX4 yX4_verdict wsX4_verdict) := goodIn_app (goodIn_of _ (by decide +kernel)) ggL_cut_X4_verdict
set_option maxRecDepth 20000 in
theorem ggL_cut_X4_setCut : GoodIn wsL_cut wsX4_setCut := goodIn_ca (goodIn_r _ [289, 17, 46, 47, 48, 3, 49, 50, 51, 13, 52, 53, 54, 12, 55, 56, 191, 192, 193, 211, 79, 80, 402, 403, 404, 405, 406, 407, 408, 409, 410, 411] (by decide +kernel) (by decide +kernel)) (goodIn_sub (fun _ h => List.mem_cons_of_mem _ (List.mem_append_left _ (List.mem_append_right _ h))) (by decide +kernel))
set_option maxRecDepth 20000 in
theorem gL_cut_X4_setCut : GoodIn wsL_cut (wsV RL 21 RX4 yX4_setCut wsX4_setCut) := goodIn_app (goodIn_of _ (by decide +kernel)) ggL_cut_X4_setCut
set_option maxRecDepth 20000 in
theorem ggL_cut_X4_failing : GoodIn wsL_cut wsX4_failing := goodIn_ca (goodIn_r _ [293, 13, 14, 170, 41, 278, 279, 280, 3, 281, 50, 51, 52, 53, 54, 12, 55, 56, 57, 58, 59, 60, 61, 62, 63, 64, 65, 66, 67, 68, 69, 70, 71, 72, 24, 186, 187, 188, 189, 190, 185, 42, 17, 191, 192, 193, 211, 79, 80, 402, 403, 404, 405, 406, 407, 408, 409, 410, 411, 416, 417, 418, 419, 420, 421, 422, 423, 424, 425, 426, 427, 428, 412, 413, 414, 415] (by decide +kernel) (by decide +kernel)) (goodIn_sub (fun _ h => List.mem_cons_of_mem _ (List.mem_append_left _ (List.mem_append_right _ h))) (by decide +kernel))
set_option maxRecDepth 20000 in
theorem gL_cut_X4_failing : GoodIn wsL_cut (wsV RL 39 RX4 yX4_failing wsX4_failing) := goodIn_app (goodIn_of _ (by decide +kernel)) ggL_cut_X4_failing
set_option maxRecDepth 20000 in
theorem ggL_cut_X4_isBad : GoodIn wsL_cut wsX4_isBad := goodIn_ca (goodIn_r _ [297, 18, 46, 47, 48, 3, 49, 50, 51, 13, 52, 53, 54, 12, 55, 56, 191, 192, 193, 402, 403, 404, 405, 406, 407, 408, 409, 410, 411] (by decide +kernel) (by decide +kernel)) (goodIn_sub (fun _ h => List.mem_cons_of_mem _ (List.mem_append_left _ (List.mem_append_right _ h))) (by decide +kernel))
set_option maxRecDepth 20000 in
theorem gL_cut_X4_isBad : GoodIn wsL_cut (wsV RL 62 RX4 yX4_isBad wsX4_isBad) := goodIn_app (goodIn_of _ (by decide +kernel)) ggL_cut_X4_isBad
set_option maxRecDepth 20000 in
theorem ggL_cut_X4_vote : GoodIn wsL_cut wsX4_vote := goodIn_ca (goodIn_r _ [301, 14, 170, 210, 278, 279, 280, 3, 281, 50, 51, 52, 53, 54, 12, 55, 56, 46, 47, 48, 49, 13, 57, 58, 59, 60, 61, 62, 63, 64, 65, 66, 67, 68, 69, 70, 71, 72, 24, 402, 403, 404, 405, 406, 407, 408, 416, 417, 418, 419, 420, 421, 422, 423, 424, 425, 426, 427, 428, 409, 410, 411] (by decide +kernel) (by decide +kernel)) (goodIn_sub (fun _ h => List.mem_cons_of_mem _ (List.mem_append_left _ (List.mem_append_right _ h))) (by decide +kernel))
set_option maxRecDepth 20000 in
theorem gL_cut_X4_vote : GoodIn wsL_cut (wsV RL 71 RX4 yX4_vote wsX4_vote) := goodIn_app (goodIn_of _ (by decide +kernel)) ggL_cut_X4_vote
set_option maxRecDepth 20000 in
theorem ggL_cut_X4_availability : GoodIn wsL_cut wsX4_availability := goodIn_ca (goodIn_ca (goodIn_r _ [305, 39, 40, 14, 170, 272, 273, 278, 279, 280, 3, 281, 50, 51, 52, 53, 54, 12, 55, 56, 57, 58, 59, 60, 61, 62, 63, 64, 65, 66, 67, 68, 69, 70, 71, 72, 24, 402, 403, 404, 405, 406, 407, 408, 416, 417, 418, 419, 420, 421, 422, 423, 424, 425, 426, 427, 428, 409, 410, 411] (by decide +kernel) (by decide +kernel)) (goodIn_sub (fun _ h => List.mem_cons_of_mem _ (List.mem_append_left _ (List.mem_append_left _ (List.mem_append_right _ h)))) (by decide +kernel))) (goodIn_sub (fun _ h => List.mem_cons_of_mem _ (List.mem_append_left _ (List.mem_append_right _ h))) (by decide +kernel))
set_option maxRecDepth 20000 in
theorem gL_cut_X4_availability : GoodIn wsL_cut (wsV RL 52 RX4 yX4_availability wsX4_availability) := goodIn_app (goodIn_of _ (by decide +kernel)) ggL_cut_X4_availability
set_option maxRecDepth 20000 in
theorem ggL_cut_X4_setQuorum : GoodIn wsL_cut wsX4_setQuorum := goodIn_ca (goodIn_ca (goodIn_r _ [309, 14, 170, 310, 278, 279, 280, 3, 281, 50, 51, 52, 53, 54, 12, 55, 56, 140, 141, 142, 143, 144, 57, 58, 59, 60, 61, 62, 63, 64, 65, 66, 67, 68, 69, 70, 71, 72, 24, 402, 403, 404, 405, 406, 407, 408, 416, 417, 418, 419, 420, 421, 422, 423, 424, 425, 426, 427, 428, 409, 410, 411] (by decide +kernel) (by decide +kernel)) (goodIn_sub (fun _ h => List.mem_cons_of_mem _ (List.mem_append_left _ (List.mem_append_right _ h))) (by decide +kernel))) (goodIn_sub (fun _ h => List.mem_cons_of_mem _ (List.mem_append_right _ h)) (by decide +kernel))
set_option maxRecDepth 20000 in
theorem gL_cut_X4_setQuorum : GoodIn wsL_cut (wsV RL 25 RX4 yX4_setQuorum wsX4_setQuorum) := goodIn_app (goodIn_of _ (by decide +kernel)) ggL_cut_X4_setQuorum
set_option maxRecDepth 20000 in
theorem ggL_cut_X4_setDown : GoodIn wsL_cut wsX4_setDown := goodIn_ca (goodIn_r _ [314, 14, 170, 190, 278, 279, 280, 3, 281, 50, 51, 52, 53, 54, 12, 55, 56, 46, 47, 48, 49, 13, 57, 58, 59, 60, 61, 62, 63, 64, 65, 66, 67, 68, 69, 70, 71, 72, 24, 191, 192, 193, 211, 79, 80, 402, 403, 404, 405, 406, 407, 408, 416, 417, 418, 419, 420, 421, 422, 423, 424, 425, 426, 427, 428, 409, 410, 411] (by decide +kernel) (by decide +kernel)) (goodIn_sub (fun _ h => List.mem_cons_of_mem _ (List.mem_append_left _ (List.mem_append_right _ h))) (by decide +kernel))
set_option maxRecDepth 20000 in
theorem gL_cut_X4_setDown : GoodIn wsL_cut (wsV RL 17 RX4 yX4_setDown wsX4_setDown) := goodIn_app (goodIn_of _ (by decide +kernel)) ggL_cut_X4_setDown
set_option maxRecDepth 20000 in
theorem ggL_cut_X4_addWindow : GoodIn wsL_cut wsX4_addWindow := goodIn_ca (goodIn_ca (goodIn_ca (goodIn_r _ [318, 39, 40, 319, 15, 320, 321, 249, 278, 279, 280, 3, 281, 50, 51, 14, 52, 53, 54, 12, 55, 56, 140, 141, 142, 143, 144, 322, 323, 324, 325, 8, 9, 326, 251, 252, 81, 82, 83, 84, 85, 86, 24, 87, 88, 89, 90, 91, 92, 93, 94, 95, 96, 97, 98, 23, 99, 100, 101, 102, 103, 104, 105, 106, 107, 108, 109, 110, 111, 112, 113, 114, 115, 116, 117, 118, 119, 120, 121, 122, 123, 124, 125, 126, 127, 128, 129, 130, 131, 132, 402, 403, 404, 405, 406, 407, 408, 432, 433, 434, 409, 410, 411] (by decide +kernel) (by decide +kernel)) (goodIn_sub (fun _ h => List.mem_cons_of_mem _ (List.mem_append_left _ (List.mem_append_left _ (List.mem_append_right _ h)))) (by decide +kernel))) (goodIn_sub (fun _ h => List.mem_cons_of_mem _ (List.mem_append_left _ (List.mem_append_right _ h))) (by decide +kernel))) (goodIn_sub (fun _ h => List.mem_cons_of_mem _ (List.mem_append_right _ h)) (by decide +kernel))
set_option maxRecDepth 20000 in
theorem gL_cut_X4_addWindow : GoodIn wsL_cut (wsV RL 29 RX4 yX4_addWindow wsX4_addWindow) := goodIn_app (goodIn_of _ (by decide +kernel)) ggL_cut_X4_addWindow
set_option maxRecDepth 20000 in
theorem ggL_cut_X4_alarmRaised : GoodIn wsL_cut wsX4_alarmRaised := goodIn_ca (goodIn_r _ [330, 16, 331, 332, 333, 334, 335, 3, 336, 50, 51, 52, 53, 54, 12, 55, 56, 57, 58, 59, 60, 61, 62, 63, 64, 65, 66, 67, 68, 69, 70, 71, 72, 24, 402, 403, 404, 405, 406, 407, 408, 429, 430, 431, 409, 410, 411] (by decide +kernel) (by decide +kernel)) (goodIn_sub (fun _ h => List.mem_cons_of_mem _ (List.mem_append_left _ (List.mem_append_right _ h))) (by decide +kernel))
set_option maxRecDepth 20000 in
theorem gL_cut_X4_alarmRaised : GoodIn wsL_cut (wsV RL 77 RX4 yX4_alarmRaised wsX4_alarmRaised) := goodIn_app (goodIn_of _ (by decide +kernel)) ggL_cut_X4_alarmRaised
set_option maxRecDepth 20000 in
theorem ggL_cut_X4_alarmCheck : GoodIn wsL_cut wsX4_alarmCheck := goodIn_ca (goodIn_r _ [340, 16, 331, 341, 333, 334, 335, 3, 336, 50, 51, 52, 53, 54, 12, 55, 56, 57, 58, 59, 60, 61, 62, 63, 64, 65, 66, 67, 68, 69, 70, 71, 72, 24, 402, 403, 404, 405, 406, 407, 408, 429, 430, 431, 409, 410, 411] (by decide +kernel) (by decide +kernel)) (goodIn_sub (fun _ h => List.mem_cons_of_mem _ (List.mem_append_left _ (List.mem_append_right _ h))) (by decide +kernel))
set_option maxRecDepth 20000 in
theorem gL_cut_X4_alarmCheck : GoodIn wsL_cut (wsV RL 74 RX4 yX4_alarmCheck wsX4_alarmCheck) := goodIn_app (goodIn_of _ (by decide +kernel)) ggL_cut_X4_alarmCheck
set_option maxRecDepth 20000 in
theorem ggL_cut_X4_endWindow : GoodIn wsL_cut wsX4_endWindow := goodIn_ca (goodIn_r _ [345, 50, 51, 15, 243, 19, 52, 53, 54, 12, 55, 56, 57, 58, 59, 60, 61, 62, 63, 64, 65, 66, 67, 68, 69, 70, 71, 72, 24, 346, 347, 348, 249, 349, 252, 350, 127, 101, 128, 351, 352, 353, 354, 251, 355, 100, 102, 402, 403, 404, 405, 406, 407, 408, 409, 410, 411, 432, 433, 434] (by decide +kernel) (by decide +kernel)) (goodIn_sub (fun _ h => List.mem_cons_of_mem _ (List.mem_append_left _ (List.mem_append_right _ h))) (by decide +kernel))
set_option maxRecDepth 20000 in
theorem gL_cut_X4_endWindow : GoodIn wsL_cut (wsV RL 33 RX4 yX4_endWindow wsX4_endWindow) := goodIn_app (goodIn_of _ (by decide +kernel)) ggL_cut_X4_endWindow
set_option maxRecDepth 20000 in
theorem gL_cut_L_refuses : GoodIn wsL_cut (va_wsS RL 105 yL_refuses wsL_refuses) := goodIn_app (goodIn_of _ (by decide +kernel)) ggL_cut_L_refuses
set_option maxRecDepth 20000 in
theorem ggL_cut_X4_hasAlarm : GoodIn wsL_cut wsX4_hasAlarm := goodIn_ca (goodIn_r _ [379, 14, 170, 237, 278, 279, 280, 3, 281, 50, 51, 52, 53, 54, 12, 55, 56, 57, 58, 59, 60, 61, 62, 63, 64, 65, 66, 67, 68, 69, 70, 71, 72, 24, 402, 403, 404, 405, 406, 407, 408, 416, 417, 418, 419, 420, 421, 422, 423, 424, 425, 426, 427, 428, 409, 410, 411] (by decide +kernel) (by decide +kernel)) (goodIn_sub (fun _ h => List.mem_cons_of_mem _ (List.mem_append_left _ (List.mem_append_right _ h))) (by decide +kernel))
set_option maxRecDepth 20000 in
theorem gL_cut_X4_hasAlarm : GoodIn wsL_cut (wsV RL 48 RX4 yX4_hasAlarm wsX4_hasAlarm) := goodIn_app (goodIn_of _ (by decide +kernel)) ggL_cut_X4_hasAlarm
set_option maxRecDepth 20000 in
theorem ggL_cut_X4_alarmClosed : GoodIn wsL_cut wsX4_alarmClosed := goodIn_ca (goodIn_r _ [401, 16, 331, 238, 333, 334, 335, 3, 336, 50, 51, 52, 53, 54, 12, 55, 56, 57, 58, 59, 60, 61, 62, 63, 64, 65, 66, 67, 68, 69, 70, 71, 72, 24, 402, 403, 404, 405, 406, 407, 408, 429, 430, 431, 409, 410, 411] (by decide +kernel) (by decide +kernel)) (goodIn_sub (fun _ h => List.mem_cons_of_mem _ (List.mem_append_left _ (List.mem_append_right _ h))) (by decide +kernel))
set_option maxRecDepth 20000 in
theorem gL_cut_X4_alarmClosed : GoodIn wsL_cut (wsV RL 80 RX4 yX4_alarmClosed wsX4_alarmClosed) := goodIn_app (goodIn_of _ (by decide +kernel)) ggL_cut_X4_alarmClosed
set_option maxRecDepth 20000 in
theorem ggL_cut_X4_nextProbe : GoodIn wsL_cut wsX4_nextProbe := goodIn_ca (goodIn_r _ [391, 14, 170, 19, 278, 279, 280, 3, 281, 50, 51, 52, 53, 54, 12, 55, 56, 46, 47, 48, 49, 13, 57, 58, 59, 60, 61, 62, 63, 64, 65, 66, 67, 68, 69, 70, 71, 72, 24, 392, 176, 177, 139, 178, 156, 157, 151, 150, 402, 403, 404, 405, 406, 407, 408, 409, 410, 411, 416, 417, 418, 419, 420, 421, 422, 423, 424, 425, 426, 427, 428] (by decide +kernel) (by decide +kernel)) (goodIn_sub (fun _ h => List.mem_cons_of_mem _ (List.mem_append_left _ (List.mem_append_right _ h))) (by decide +kernel))
set_option maxRecDepth 20000 in
theorem gL_cut_X4_nextProbe : GoodIn wsL_cut (wsV RL 65 RX4 yX4_nextProbe wsX4_nextProbe) := goodIn_app (goodIn_of _ (by decide +kernel)) ggL_cut_X4_nextProbe
theorem dL_cut_0 : decode cL_cut 0 = .ok (.new 8, 3) := by decide +kernel
theorem dL_cut_3 : decode cL_cut 3 = .ok (.dup, 1) := by decide +kernel
theorem dL_cut_4 : decode cL_cut 4 = .ok (.invokespecial 104, 3) := by decide +kernel
theorem dL_cut_7 : decode cL_cut 7 = .ok (.astore_n 0, 1) := by decide +kernel
theorem dL_cut_8 : decode cL_cut 8 = .ok (.aload_n 0, 1) := by decide +kernel
theorem dL_cut_9 : decode cL_cut 9 = .ok (.iconst (-1), 1) := by decide +kernel
theorem dL_cut_10 : decode cL_cut 10 = .ok (.invokevirtual 7, 3) := by decide +kernel
theorem dL_cut_13 : decode cL_cut 13 = .ok (.ifCond .ne 193, 3) := by decide +kernel
theorem dL_cut_16 : decode cL_cut 16 = .ok (.aload_n 0, 1) := by decide +kernel
theorem dL_cut_17 : decode cL_cut 17 = .ok (.iconst (-1), 1) := by decide +kernel
theorem dL_cut_18 : decode cL_cut 18 = .ok (.invokevirtual 7, 3) := by decide +kernel
theorem dL_cut_21 : decode cL_cut 21 = .ok (.iconst 1, 1) := by decide +kernel
theorem dL_cut_22 : decode cL_cut 22 = .ok (.if_icmp .ne 184, 3) := by decide +kernel
theorem dL_cut_25 : decode cL_cut 25 = .ok (.aload_n 0, 1) := by decide +kernel
theorem dL_cut_26 : decode cL_cut 26 = .ok (.iconst 1, 1) := by decide +kernel
theorem dL_cut_27 : decode cL_cut 27 = .ok (.invokevirtual 7, 3) := by decide +kernel
theorem dL_cut_30 : decode cL_cut 30 = .ok (.iconst 2, 1) := by decide +kernel
theorem dL_cut_31 : decode cL_cut 31 = .ok (.if_icmp .ne 175, 3) := by decide +kernel
theorem dL_cut_34 : decode cL_cut 34 = .ok (.aload_n 0, 1) := by decide +kernel
theorem dL_cut_35 : decode cL_cut 35 = .ok (.iconst 1, 1) := by decide +kernel
theorem dL_cut_36 : decode cL_cut 36 = .ok (.iconst 0, 1) := by decide +kernel
theorem dL_cut_37 : decode cL_cut 37 = .ok (.iconst 0, 1) := by decide +kernel
theorem dL_cut_38 : decode cL_cut 38 = .ok (.iconst 2, 1) := by decide +kernel
theorem dL_cut_39 : decode cL_cut 39 = .ok (.invokevirtual 13, 3) := by decide +kernel
theorem dL_cut_42 : decode cL_cut 42 = .ok (.ifCond .ne 164, 3) := by decide +kernel
theorem dL_cut_45 : decode cL_cut 45 = .ok (.aload_n 0, 1) := by decide +kernel
theorem dL_cut_46 : decode cL_cut 46 = .ok (.iconst 1, 1) := by decide +kernel
theorem dL_cut_47 : decode cL_cut 47 = .ok (.iconst 0, 1) := by decide +kernel
theorem dL_cut_48 : decode cL_cut 48 = .ok (.iconst 0, 1) := by decide +kernel
theorem dL_cut_49 : decode cL_cut 49 = .ok (.iconst 2, 1) := by decide +kernel
theorem dL_cut_50 : decode cL_cut 50 = .ok (.invokevirtual 13, 3) := by decide +kernel
theorem dL_cut_53 : decode cL_cut 53 = .ok (.iconst 1, 1) := by decide +kernel
theorem dL_cut_54 : decode cL_cut 54 = .ok (.if_icmp .ne 152, 3) := by decide +kernel
theorem dL_cut_57 : decode cL_cut 57 = .ok (.aload_n 0, 1) := by decide +kernel
theorem dL_cut_58 : decode cL_cut 58 = .ok (.iconst 1, 1) := by decide +kernel
theorem dL_cut_59 : decode cL_cut 59 = .ok (.invokevirtual 36, 3) := by decide +kernel
theorem dL_cut_62 : decode cL_cut 62 = .ok (.ifCond .ne 144, 3) := by decide +kernel
theorem dL_cut_65 : decode cL_cut 65 = .ok (.aload_n 0, 1) := by decide +kernel
theorem dL_cut_66 : decode cL_cut 66 = .ok (.iconst 0, 1) := by decide +kernel
theorem dL_cut_67 : decode cL_cut 67 = .ok (.invokevirtual 45, 3) := by decide +kernel
theorem dL_cut_70 : decode cL_cut 70 = .ok (.iconst 3, 1) := by decide +kernel
theorem dL_cut_71 : decode cL_cut 71 = .ok (.if_icmp .ne 135, 3) := by decide +kernel
theorem dL_cut_74 : decode cL_cut 74 = .ok (.aload_n 0, 1) := by decide +kernel
theorem dL_cut_75 : decode cL_cut 75 = .ok (.iconst 0, 1) := by decide +kernel
theorem dL_cut_76 : decode cL_cut 76 = .ok (.invokevirtual 42, 3) := by decide +kernel
theorem dL_cut_79 : decode cL_cut 79 = .ok (.iconst 1, 1) := by decide +kernel
theorem dL_cut_80 : decode cL_cut 80 = .ok (.if_icmp .ne 126, 3) := by decide +kernel
theorem dL_cut_83 : decode cL_cut 83 = .ok (.aload_n 0, 1) := by decide +kernel
theorem dL_cut_84 : decode cL_cut 84 = .ok (.iconst 1, 1) := by decide +kernel
theorem dL_cut_85 : decode cL_cut 85 = .ok (.invokevirtual 36, 3) := by decide +kernel
theorem dL_cut_88 : decode cL_cut 88 = .ok (.ifCond .ne 118, 3) := by decide +kernel
theorem dL_cut_91 : decode cL_cut 91 = .ok (.aload_n 0, 1) := by decide +kernel
theorem dL_cut_92 : decode cL_cut 92 = .ok (.iconst 0, 1) := by decide +kernel
theorem dL_cut_93 : decode cL_cut 93 = .ok (.invokevirtual 45, 3) := by decide +kernel
theorem dL_cut_96 : decode cL_cut 96 = .ok (.bipush 7, 2) := by decide +kernel
theorem dL_cut_98 : decode cL_cut 98 = .ok (.if_icmp .ne 108, 3) := by decide +kernel
theorem dL_cut_101 : decode cL_cut 101 = .ok (.aload_n 0, 1) := by decide +kernel
theorem dL_cut_102 : decode cL_cut 102 = .ok (.iconst 1, 1) := by decide +kernel
theorem dL_cut_103 : decode cL_cut 103 = .ok (.iconst 1, 1) := by decide +kernel
theorem dL_cut_104 : decode cL_cut 104 = .ok (.invokevirtual 21, 3) := by decide +kernel
theorem dL_cut_107 : decode cL_cut 107 = .ok (.ifCond .ne 99, 3) := by decide +kernel
theorem dL_cut_110 : decode cL_cut 110 = .ok (.aload_n 0, 1) := by decide +kernel
theorem dL_cut_111 : decode cL_cut 111 = .ok (.iconst 1, 1) := by decide +kernel
theorem dL_cut_112 : decode cL_cut 112 = .ok (.iconst 1, 1) := by decide +kernel
theorem dL_cut_113 : decode cL_cut 113 = .ok (.invokevirtual 21, 3) := by decide +kernel
theorem dL_cut_116 : decode cL_cut 116 = .ok (.ifCond .eq 90, 3) := by decide +kernel
theorem dL_cut_119 : decode cL_cut 119 = .ok (.aload_n 0, 1) := by decide +kernel
theorem dL_cut_120 : decode cL_cut 120 = .ok (.iconst 0, 1) := by decide +kernel
theorem dL_cut_121 : decode cL_cut 121 = .ok (.invokevirtual 39, 3) := by decide +kernel
theorem dL_cut_124 : decode cL_cut 124 = .ok (.bipush 6, 2) := by decide +kernel
theorem dL_cut_126 : decode cL_cut 126 = .ok (.if_icmp .ne 80, 3) := by decide +kernel
theorem dL_cut_129 : decode cL_cut 129 = .ok (.aload_n 0, 1) := by decide +kernel
theorem dL_cut_130 : decode cL_cut 130 = .ok (.iconst 1, 1) := by decide +kernel
theorem dL_cut_131 : decode cL_cut 131 = .ok (.invokevirtual 36, 3) := by decide +kernel
theorem dL_cut_134 : decode cL_cut 134 = .ok (.ifCond .ne 72, 3) := by decide +kernel
theorem dL_cut_137 : decode cL_cut 137 = .ok (.aload_n 0, 1) := by decide +kernel
theorem dL_cut_138 : decode cL_cut 138 = .ok (.iconst 1, 1) := by decide +kernel
theorem dL_cut_139 : decode cL_cut 139 = .ok (.invokevirtual 62, 3) := by decide +kernel
theorem dL_cut_142 : decode cL_cut 142 = .ok (.ifCond .eq 64, 3) := by decide +kernel
theorem dL_cut_145 : decode cL_cut 145 = .ok (.aload_n 0, 1) := by decide +kernel
theorem dL_cut_146 : decode cL_cut 146 = .ok (.iconst 2, 1) := by decide +kernel
theorem dL_cut_147 : decode cL_cut 147 = .ok (.invokevirtual 62, 3) := by decide +kernel
theorem dL_cut_150 : decode cL_cut 150 = .ok (.ifCond .eq 56, 3) := by decide +kernel
theorem dL_cut_153 : decode cL_cut 153 = .ok (.aload_n 0, 1) := by decide +kernel
theorem dL_cut_154 : decode cL_cut 154 = .ok (.iconst 0, 1) := by decide +kernel
theorem dL_cut_155 : decode cL_cut 155 = .ok (.invokevirtual 62, 3) := by decide +kernel
theorem dL_cut_158 : decode cL_cut 158 = .ok (.ifCond .ne 48, 3) := by decide +kernel
theorem dL_cut_161 : decode cL_cut 161 = .ok (.aload_n 0, 1) := by decide +kernel
theorem dL_cut_162 : decode cL_cut 162 = .ok (.iconst 0, 1) := by decide +kernel
theorem dL_cut_163 : decode cL_cut 163 = .ok (.iconst 2, 1) := by decide +kernel
theorem dL_cut_164 : decode cL_cut 164 = .ok (.invokevirtual 71, 3) := by decide +kernel
theorem dL_cut_167 : decode cL_cut 167 = .ok (.iconst 2, 1) := by decide +kernel
theorem dL_cut_168 : decode cL_cut 168 = .ok (.if_icmp .ne 38, 3) := by decide +kernel
theorem dL_cut_171 : decode cL_cut 171 = .ok (.aload_n 0, 1) := by decide +kernel
theorem dL_cut_172 : decode cL_cut 172 = .ok (.iconst 0, 1) := by decide +kernel
theorem dL_cut_173 : decode cL_cut 173 = .ok (.invokevirtual 42, 3) := by decide +kernel
theorem dL_cut_176 : decode cL_cut 176 = .ok (.ifCond .ne 30, 3) := by decide +kernel
theorem dL_cut_179 : decode cL_cut 179 = .ok (.aload_n 0, 1) := by decide +kernel
theorem dL_cut_180 : decode cL_cut 180 = .ok (.iconst 1, 1) := by decide +kernel
theorem dL_cut_181 : decode cL_cut 181 = .ok (.invokevirtual 42, 3) := by decide +kernel
theorem dL_cut_184 : decode cL_cut 184 = .ok (.ifCond .ne 22, 3) := by decide +kernel
theorem dL_cut_187 : decode cL_cut 187 = .ok (.aload_n 0, 1) := by decide +kernel
theorem dL_cut_188 : decode cL_cut 188 = .ok (.iconst 0, 1) := by decide +kernel
theorem dL_cut_189 : decode cL_cut 189 = .ok (.invokevirtual 45, 3) := by decide +kernel
theorem dL_cut_192 : decode cL_cut 192 = .ok (.iconst 1, 1) := by decide +kernel
theorem dL_cut_193 : decode cL_cut 193 = .ok (.if_icmp .ne 13, 3) := by decide +kernel
theorem dL_cut_196 : decode cL_cut 196 = .ok (.aload_n 0, 1) := by decide +kernel
theorem dL_cut_197 : decode cL_cut 197 = .ok (.iconst 0, 1) := by decide +kernel
theorem dL_cut_198 : decode cL_cut 198 = .ok (.invokevirtual 52, 3) := by decide +kernel
theorem dL_cut_201 : decode cL_cut 201 = .ok (.fconst 1, 1) := by decide +kernel
theorem dL_cut_202 : decode cL_cut 202 = .ok (.fcmp .l, 1) := by decide +kernel
theorem dL_cut_203 : decode cL_cut 203 = .ok (.ifCond .eq 5, 3) := by decide +kernel
theorem dL_cut_206 : decode cL_cut 206 = .ok (.iconst 0, 1) := by decide +kernel
theorem dL_cut_207 : decode cL_cut 207 = .ok (.ireturn, 1) := by decide +kernel
theorem dL_cut_208 : decode cL_cut 208 = .ok (.aload_n 0, 1) := by decide +kernel
theorem dL_cut_209 : decode cL_cut 209 = .ok (.iconst 0, 1) := by decide +kernel
theorem dL_cut_210 : decode cL_cut 210 = .ok (.iconst 1, 1) := by decide +kernel
theorem dL_cut_211 : decode cL_cut 211 = .ok (.invokevirtual 25, 3) := by decide +kernel
theorem dL_cut_214 : decode cL_cut 214 = .ok (.iconst 2, 1) := by decide +kernel
theorem dL_cut_215 : decode cL_cut 215 = .ok (.if_icmp .ne 180, 3) := by decide +kernel
theorem dL_cut_218 : decode cL_cut 218 = .ok (.aload_n 0, 1) := by decide +kernel
theorem dL_cut_219 : decode cL_cut 219 = .ok (.iconst 0, 1) := by decide +kernel
theorem dL_cut_220 : decode cL_cut 220 = .ok (.invokevirtual 42, 3) := by decide +kernel
theorem dL_cut_223 : decode cL_cut 223 = .ok (.ifCond .ne 172, 3) := by decide +kernel
theorem dL_cut_226 : decode cL_cut 226 = .ok (.aload_n 0, 1) := by decide +kernel
theorem dL_cut_227 : decode cL_cut 227 = .ok (.iconst 1, 1) := by decide +kernel
theorem dL_cut_228 : decode cL_cut 228 = .ok (.invokevirtual 36, 3) := by decide +kernel
theorem dL_cut_231 : decode cL_cut 231 = .ok (.ifCond .ne 164, 3) := by decide +kernel
theorem dL_cut_234 : decode cL_cut 234 = .ok (.aload_n 0, 1) := by decide +kernel
theorem dL_cut_235 : decode cL_cut 235 = .ok (.iconst 0, 1) := by decide +kernel
theorem dL_cut_236 : decode cL_cut 236 = .ok (.invokevirtual 42, 3) := by decide +kernel
theorem dL_cut_239 : decode cL_cut 239 = .ok (.iconst 1, 1) := by decide +kernel
theorem dL_cut_240 : decode cL_cut 240 = .ok (.if_icmp .ne 155, 3) := by decide +kernel
theorem dL_cut_243 : decode cL_cut 243 = .ok (.aload_n 0, 1) := by decide +kernel
theorem dL_cut_244 : decode cL_cut 244 = .ok (.iconst 1, 1) := by decide +kernel
theorem dL_cut_245 : decode cL_cut 245 = .ok (.invokevirtual 42, 3) := by decide +kernel
theorem dL_cut_248 : decode cL_cut 248 = .ok (.ifCond .ne 147, 3) := by decide +kernel
theorem dL_cut_251 : decode cL_cut 251 = .ok (.aload_n 0, 1) := by decide +kernel
theorem dL_cut_252 : decode cL_cut 252 = .ok (.iconst 0, 1) := by decide +kernel
theorem dL_cut_253 : decode cL_cut 253 = .ok (.iconst 0, 1) := by decide +kernel
theorem dL_cut_254 : decode cL_cut 254 = .ok (.iconst 1, 1) := by decide +kernel
theorem dL_cut_255 : decode cL_cut 255 = .ok (.invokevirtual 17, 3) := by decide +kernel
theorem dL_cut_258 : decode cL_cut 258 = .ok (.ifCond .ne 137, 3) := by decide +kernel
theorem dL_cut_261 : decode cL_cut 261 = .ok (.aload_n 0, 1) := by decide +kernel
theorem dL_cut_262 : decode cL_cut 262 = .ok (.iconst 0, 1) := by decide +kernel
theorem dL_cut_263 : decode cL_cut 263 = .ok (.iconst 5, 1) := by decide +kernel
theorem dL_cut_264 : decode cL_cut 264 = .ok (.iconst 3, 1) := by decide +kernel
theorem dL_cut_265 : decode cL_cut 265 = .ok (.invokevirtual 29, 3) := by decide +kernel
theorem dL_cut_268 : decode cL_cut 268 = .ok (.ifCond .ne 127, 3) := by decide +kernel
theorem dL_cut_271 : decode cL_cut 271 = .ok (.aload_n 0, 1) := by decide +kernel
theorem dL_cut_272 : decode cL_cut 272 = .ok (.iconst 3, 1) := by decide +kernel
theorem dL_cut_273 : decode cL_cut 273 = .ok (.invokevirtual 36, 3) := by decide +kernel
theorem dL_cut_276 : decode cL_cut 276 = .ok (.ifCond .ne 119, 3) := by decide +kernel
theorem dL_cut_279 : decode cL_cut 279 = .ok (.aload_n 0, 1) := by decide +kernel
theorem dL_cut_280 : decode cL_cut 280 = .ok (.iconst 0, 1) := by decide +kernel
theorem dL_cut_281 : decode cL_cut 281 = .ok (.invokevirtual 42, 3) := by decide +kernel
theorem dL_cut_284 : decode cL_cut 284 = .ok (.iconst 2, 1) := by decide +kernel
theorem dL_cut_285 : decode cL_cut 285 = .ok (.if_icmp .ne 110, 3) := by decide +kernel
theorem dL_cut_288 : decode cL_cut 288 = .ok (.aload_n 0, 1) := by decide +kernel
theorem dL_cut_289 : decode cL_cut 289 = .ok (.iconst 0, 1) := by decide +kernel
theorem dL_cut_290 : decode cL_cut 290 = .ok (.invokevirtual 62, 3) := by decide +kernel
theorem dL_cut_293 : decode cL_cut 293 = .ok (.ifCond .ne 102, 3) := by decide +kernel
theorem dL_cut_296 : decode cL_cut 296 = .ok (.aload_n 0, 1) := by decide +kernel
theorem dL_cut_297 : decode cL_cut 297 = .ok (.iconst 1, 1) := by decide +kernel
theorem dL_cut_298 : decode cL_cut 298 = .ok (.invokevirtual 36, 3) := by decide +kernel
theorem dL_cut_301 : decode cL_cut 301 = .ok (.iconst 1, 1) := by decide +kernel
theorem dL_cut_302 : decode cL_cut 302 = .ok (.if_icmp .ne 93, 3) := by decide +kernel
theorem dL_cut_305 : decode cL_cut 305 = .ok (.aload_n 0, 1) := by decide +kernel
theorem dL_cut_306 : decode cL_cut 306 = .ok (.iconst 0, 1) := by decide +kernel
theorem dL_cut_307 : decode cL_cut 307 = .ok (.invokevirtual 77, 3) := by decide +kernel
theorem dL_cut_310 : decode cL_cut 310 = .ok (.bipush 8, 2) := by decide +kernel
theorem dL_cut_312 : decode cL_cut 312 = .ok (.if_icmp .ne 83, 3) := by decide +kernel
theorem dL_cut_315 : decode cL_cut 315 = .ok (.aload_n 0, 1) := by decide +kernel
theorem dL_cut_316 : decode cL_cut 316 = .ok (.iconst 0, 1) := by decide +kernel
theorem dL_cut_317 : decode cL_cut 317 = .ok (.invokevirtual 74, 3) := by decide +kernel
theorem dL_cut_320 : decode cL_cut 320 = .ok (.ifCond .ne 75, 3) := by decide +kernel
theorem dL_cut_323 : decode cL_cut 323 = .ok (.aload_n 0, 1) := by decide +kernel
theorem dL_cut_324 : decode cL_cut 324 = .ok (.iconst 0, 1) := by decide +kernel
theorem dL_cut_325 : decode cL_cut 325 = .ok (.invokevirtual 33, 3) := by decide +kernel
theorem dL_cut_328 : decode cL_cut 328 = .ok (.iconst 3, 1) := by decide +kernel
theorem dL_cut_329 : decode cL_cut 329 = .ok (.if_icmp .ne 66, 3) := by decide +kernel
theorem dL_cut_332 : decode cL_cut 332 = .ok (.aload_n 0, 1) := by decide +kernel
theorem dL_cut_333 : decode cL_cut 333 = .ok (.iconst 1, 1) := by decide +kernel
theorem dL_cut_334 : decode cL_cut 334 = .ok (.bipush 10, 2) := by decide +kernel
theorem dL_cut_336 : decode cL_cut 336 = .ok (.bipush 100, 2) := by decide +kernel
theorem dL_cut_338 : decode cL_cut 338 = .ok (.invokevirtual 29, 3) := by decide +kernel
theorem dL_cut_341 : decode cL_cut 341 = .ok (.iconst 1, 1) := by decide +kernel
theorem dL_cut_342 : decode cL_cut 342 = .ok (.if_icmp .ne 53, 3) := by decide +kernel
theorem dL_cut_345 : decode cL_cut 345 = .ok (.aload_n 0, 1) := by decide +kernel
theorem dL_cut_346 : decode cL_cut 346 = .ok (.iconst 1, 1) := by decide +kernel
theorem dL_cut_347 : decode cL_cut 347 = .ok (.invokevirtual 33, 3) := by decide +kernel
theorem dL_cut_350 : decode cL_cut 350 = .ok (.ifCond .ne 45, 3) := by decide +kernel
theorem dL_cut_353 : decode cL_cut 353 = .ok (.aload_n 0, 1) := by decide +kernel
theorem dL_cut_354 : decode cL_cut 354 = .ok (.iconst 1, 1) := by decide +kernel
theorem dL_cut_355 : decode cL_cut 355 = .ok (.iconst 0, 1) := by decide +kernel
theorem dL_cut_356 : decode cL_cut 356 = .ok (.bipush 100, 2) := by decide +kernel
theorem dL_cut_358 : decode cL_cut 358 = .ok (.invokevirtual 29, 3) := by decide +kernel
theorem dL_cut_361 : decode cL_cut 361 = .ok (.iconst 2, 1) := by decide +kernel
theorem dL_cut_362 : decode cL_cut 362 = .ok (.if_icmp .ne 33, 3) := by decide +kernel
theorem dL_cut_365 : decode cL_cut 365 = .ok (.aload_n 0, 1) := by decide +kernel
theorem dL_cut_366 : decode cL_cut 366 = .ok (.iconst 2, 1) := by decide +kernel
theorem dL_cut_367 : decode cL_cut 367 = .ok (.invokevirtual 33, 3) := by decide +kernel
theorem dL_cut_370 : decode cL_cut 370 = .ok (.bipush 9, 2) := by decide +kernel
theorem dL_cut_372 : decode cL_cut 372 = .ok (.if_icmp .ne 23, 3) := by decide +kernel
theorem dL_cut_375 : decode cL_cut 375 = .ok (.aload_n 0, 1) := by decide +kernel
theorem dL_cut_376 : decode cL_cut 376 = .ok (.iconst 2, 1) := by decide +kernel
theorem dL_cut_377 : decode cL_cut 377 = .ok (.invokevirtual 33, 3) := by decide +kernel
theorem dL_cut_380 : decode cL_cut 380 = .ok (.bipush 9, 2) := by decide +kernel
theorem dL_cut_382 : decode cL_cut 382 = .ok (.if_icmp .ne 13, 3) := by decide +kernel
theorem dL_cut_385 : decode cL_cut 385 = .ok (.aload_n 0, 1) := by decide +kernel
theorem dL_cut_386 : decode cL_cut 386 = .ok (.iconst 3, 1) := by decide +kernel
theorem dL_cut_387 : decode cL_cut 387 = .ok (.iconst 2, 1) := by decide +kernel
theorem dL_cut_388 : decode cL_cut 388 = .ok (.iconst 3, 1) := by decide +kernel
theorem dL_cut_389 : decode cL_cut 389 = .ok (.invokestatic 105, 3) := by decide +kernel
theorem dL_cut_392 : decode cL_cut 392 = .ok (.ifCond .ne 5, 3) := by decide +kernel
theorem dL_cut_395 : decode cL_cut 395 = .ok (.iconst 0, 1) := by decide +kernel
theorem dL_cut_396 : decode cL_cut 396 = .ok (.ireturn, 1) := by decide +kernel
theorem dL_cut_397 : decode cL_cut 397 = .ok (.aload_n 0, 1) := by decide +kernel
theorem dL_cut_398 : decode cL_cut 398 = .ok (.iconst 1, 1) := by decide +kernel
theorem dL_cut_399 : decode cL_cut 399 = .ok (.iconst 0, 1) := by decide +kernel
theorem dL_cut_400 : decode cL_cut 400 = .ok (.iconst 1, 1) := by decide +kernel
theorem dL_cut_401 : decode cL_cut 401 = .ok (.invokevirtual 17, 3) := by decide +kernel
theorem dL_cut_404 : decode cL_cut 404 = .ok (.ifCond .ne 123, 3) := by decide +kernel
theorem dL_cut_407 : decode cL_cut 407 = .ok (.aload_n 0, 1) := by decide +kernel
theorem dL_cut_408 : decode cL_cut 408 = .ok (.iconst 1, 1) := by decide +kernel
theorem dL_cut_409 : decode cL_cut 409 = .ok (.invokevirtual 36, 3) := by decide +kernel
theorem dL_cut_412 : decode cL_cut 412 = .ok (.ifCond .ne 115, 3) := by decide +kernel
theorem dL_cut_415 : decode cL_cut 415 = .ok (.aload_n 0, 1) := by decide +kernel
theorem dL_cut_416 : decode cL_cut 416 = .ok (.iconst 0, 1) := by decide +kernel
theorem dL_cut_417 : decode cL_cut 417 = .ok (.invokevirtual 62, 3) := by decide +kernel
theorem dL_cut_420 : decode cL_cut 420 = .ok (.ifCond .eq 107, 3) := by decide +kernel
theorem dL_cut_423 : decode cL_cut 423 = .ok (.aload_n 0, 1) := by decide +kernel
theorem dL_cut_424 : decode cL_cut 424 = .ok (.iconst 0, 1) := by decide +kernel
theorem dL_cut_425 : decode cL_cut 425 = .ok (.invokevirtual 42, 3) := by decide +kernel
theorem dL_cut_428 : decode cL_cut 428 = .ok (.ifCond .ne 99, 3) := by decide +kernel
theorem dL_cut_431 : decode cL_cut 431 = .ok (.aload_n 0, 1) := by decide +kernel
theorem dL_cut_432 : decode cL_cut 432 = .ok (.iconst 0, 1) := by decide +kernel
theorem dL_cut_433 : decode cL_cut 433 = .ok (.invokevirtual 48, 3) := by decide +kernel
theorem dL_cut_436 : decode cL_cut 436 = .ok (.ifCond .eq 91, 3) := by decide +kernel
theorem dL_cut_439 : decode cL_cut 439 = .ok (.aload_n 0, 1) := by decide +kernel
theorem dL_cut_440 : decode cL_cut 440 = .ok (.iconst 0, 1) := by decide +kernel
theorem dL_cut_441 : decode cL_cut 441 = .ok (.invokevirtual 45, 3) := by decide +kernel
theorem dL_cut_444 : decode cL_cut 444 = .ok (.ifCond .ne 83, 3) := by decide +kernel
theorem dL_cut_447 : decode cL_cut 447 = .ok (.aload_n 0, 1) := by decide +kernel
theorem dL_cut_448 : decode cL_cut 448 = .ok (.iconst 0, 1) := by decide +kernel
theorem dL_cut_449 : decode cL_cut 449 = .ok (.invokevirtual 80, 3) := by decide +kernel
theorem dL_cut_452 : decode cL_cut 452 = .ok (.iconst (-1), 1) := by decide +kernel
theorem dL_cut_453 : decode cL_cut 453 = .ok (.if_icmp .ne 74, 3) := by decide +kernel
theorem dL_cut_456 : decode cL_cut 456 = .ok (.aload_n 0, 1) := by decide +kernel
theorem dL_cut_457 : decode cL_cut 457 = .ok (.iconst 0, 1) := by decide +kernel
theorem dL_cut_458 : decode cL_cut 458 = .ok (.invokevirtual 7, 3) := by decide +kernel
theorem dL_cut_461 : decode cL_cut 461 = .ok (.iconst 3, 1) := by decide +kernel
theorem dL_cut_462 : decode cL_cut 462 = .ok (.if_icmp .ne 65, 3) := by decide +kernel
theorem dL_cut_465 : decode cL_cut 465 = .ok (.aload_n 0, 1) := by decide +kernel
theorem dL_cut_466 : decode cL_cut 466 = .ok (.iconst 0, 1) := by decide +kernel
theorem dL_cut_467 : decode cL_cut 467 = .ok (.iconst 3, 1) := by decide +kernel
theorem dL_cut_468 : decode cL_cut 468 = .ok (.invokevirtual 71, 3) := by decide +kernel
theorem dL_cut_471 : decode cL_cut 471 = .ok (.ifCond .ne 56, 3) := by decide +kernel
theorem dL_cut_474 : decode cL_cut 474 = .ok (.aload_n 0, 1) := by decide +kernel
theorem dL_cut_475 : decode cL_cut 475 = .ok (.iconst 0, 1) := by decide +kernel
theorem dL_cut_476 : decode cL_cut 476 = .ok (.iconst 3, 1) := by decide +kernel
theorem dL_cut_477 : decode cL_cut 477 = .ok (.invokevirtual 65, 3) := by decide +kernel
theorem dL_cut_480 : decode cL_cut 480 = .ok (.bipush 10, 2) := by decide +kernel
theorem dL_cut_482 : decode cL_cut 482 = .ok (.if_icmp .ne 45, 3) := by decide +kernel
theorem dL_cut_485 : decode cL_cut 485 = .ok (.aload_n 0, 1) := by decide +kernel
theorem dL_cut_486 : decode cL_cut 486 = .ok (.iconst 1, 1) := by decide +kernel
theorem dL_cut_487 : decode cL_cut 487 = .ok (.invokevirtual 36, 3) := by decide +kernel
theorem dL_cut_490 : decode cL_cut 490 = .ok (.ifCond .ne 37, 3) := by decide +kernel
theorem dL_cut_493 : decode cL_cut 493 = .ok (.aload_n 0, 1) := by decide +kernel
theorem dL_cut_494 : decode cL_cut 494 = .ok (.iconst 0, 1) := by decide +kernel
theorem dL_cut_495 : decode cL_cut 495 = .ok (.iconst 3, 1) := by decide +kernel
theorem dL_cut_496 : decode cL_cut 496 = .ok (.invokevirtual 71, 3) := by decide +kernel
theorem dL_cut_499 : decode cL_cut 499 = .ok (.iconst 1, 1) := by decide +kernel
theorem dL_cut_500 : decode cL_cut 500 = .ok (.if_icmp .ne 27, 3) := by decide +kernel
theorem dL_cut_503 : decode cL_cut 503 = .ok (.aload_n 0, 1) := by decide +kernel
theorem dL_cut_504 : decode cL_cut 504 = .ok (.iconst 3, 1) := by decide +kernel
theorem dL_cut_505 : decode cL_cut 505 = .ok (.invokevirtual 62, 3) := by decide +kernel
theorem dL_cut_508 : decode cL_cut 508 = .ok (.ifCond .ne 19, 3) := by decide +kernel
theorem dL_cut_511 : decode cL_cut 511 = .ok (.aload_n 0, 1) := by decide +kernel
theorem dL_cut_512 : decode cL_cut 512 = .ok (.iconst 0, 1) := by decide +kernel
theorem dL_cut_513 : decode cL_cut 513 = .ok (.invokevirtual 45, 3) := by decide +kernel
theorem dL_cut_516 : decode cL_cut 516 = .ok (.ifCond .ne 11, 3) := by decide +kernel
theorem dL_cut_519 : decode cL_cut 519 = .ok (.aload_n 0, 1) := by decide +kernel
theorem dL_cut_520 : decode cL_cut 520 = .ok (.iconst 0, 1) := by decide +kernel
theorem dL_cut_521 : decode cL_cut 521 = .ok (.invokevirtual 42, 3) := by decide +kernel
theorem dL_cut_524 : decode cL_cut 524 = .ok (.ifCond .eq 5, 3) := by decide +kernel
theorem dL_cut_527 : decode cL_cut 527 = .ok (.iconst 0, 1) := by decide +kernel
theorem dL_cut_528 : decode cL_cut 528 = .ok (.ireturn, 1) := by decide +kernel
theorem dL_cut_529 : decode cL_cut 529 = .ok (.aload_n 0, 1) := by decide +kernel
theorem dL_cut_530 : decode cL_cut 530 = .ok (.iconst 1, 1) := by decide +kernel
theorem dL_cut_531 : decode cL_cut 531 = .ok (.iconst 0, 1) := by decide +kernel
theorem dL_cut_532 : decode cL_cut 532 = .ok (.invokevirtual 21, 3) := by decide +kernel
theorem dL_cut_535 : decode cL_cut 535 = .ok (.ifCond .eq 61, 3) := by decide +kernel
theorem dL_cut_538 : decode cL_cut 538 = .ok (.aload_n 0, 1) := by decide +kernel
theorem dL_cut_539 : decode cL_cut 539 = .ok (.iconst 1, 1) := by decide +kernel
theorem dL_cut_540 : decode cL_cut 540 = .ok (.invokevirtual 36, 3) := by decide +kernel
theorem dL_cut_543 : decode cL_cut 543 = .ok (.ifCond .ne 53, 3) := by decide +kernel
theorem dL_cut_546 : decode cL_cut 546 = .ok (.aload_n 0, 1) := by decide +kernel
theorem dL_cut_547 : decode cL_cut 547 = .ok (.iconst 1, 1) := by decide +kernel
theorem dL_cut_548 : decode cL_cut 548 = .ok (.invokevirtual 62, 3) := by decide +kernel
theorem dL_cut_551 : decode cL_cut 551 = .ok (.ifCond .ne 45, 3) := by decide +kernel
theorem dL_cut_554 : decode cL_cut 554 = .ok (.aload_n 0, 1) := by decide +kernel
theorem dL_cut_555 : decode cL_cut 555 = .ok (.iconst 0, 1) := by decide +kernel
theorem dL_cut_556 : decode cL_cut 556 = .ok (.invokevirtual 42, 3) := by decide +kernel
theorem dL_cut_559 : decode cL_cut 559 = .ok (.iconst 1, 1) := by decide +kernel
theorem dL_cut_560 : decode cL_cut 560 = .ok (.if_icmp .ne 36, 3) := by decide +kernel
theorem dL_cut_563 : decode cL_cut 563 = .ok (.aload_n 0, 1) := by decide +kernel
theorem dL_cut_564 : decode cL_cut 564 = .ok (.iconst 0, 1) := by decide +kernel
theorem dL_cut_565 : decode cL_cut 565 = .ok (.invokevirtual 80, 3) := by decide +kernel
theorem dL_cut_568 : decode cL_cut 568 = .ok (.bipush 11, 2) := by decide +kernel
theorem dL_cut_570 : decode cL_cut 570 = .ok (.if_icmp .ne 26, 3) := by decide +kernel
theorem dL_cut_573 : decode cL_cut 573 = .ok (.aload_n 0, 1) := by decide +kernel
theorem dL_cut_574 : decode cL_cut 574 = .ok (.iconst 1, 1) := by decide +kernel
theorem dL_cut_575 : decode cL_cut 575 = .ok (.invokevirtual 45, 3) := by decide +kernel
theorem dL_cut_578 : decode cL_cut 578 = .ok (.bipush 6, 2) := by decide +kernel
theorem dL_cut_580 : decode cL_cut 580 = .ok (.if_icmp .ne 16, 3) := by decide +kernel
theorem dL_cut_583 : decode cL_cut 583 = .ok (.aload_n 0, 1) := by decide +kernel
theorem dL_cut_584 : decode cL_cut 584 = .ok (.iconst 1, 1) := by decide +kernel
theorem dL_cut_585 : decode cL_cut 585 = .ok (.invokevirtual 42, 3) := by decide +kernel
theorem dL_cut_588 : decode cL_cut 588 = .ok (.iconst 1, 1) := by decide +kernel
theorem dL_cut_589 : decode cL_cut 589 = .ok (.if_icmp .ne 7, 3) := by decide +kernel
theorem dL_cut_592 : decode cL_cut 592 = .ok (.iconst 1, 1) := by decide +kernel
theorem dL_cut_593 : decode cL_cut 593 = .ok (.goto 4, 3) := by decide +kernel
theorem dL_cut_596 : decode cL_cut 596 = .ok (.iconst 0, 1) := by decide +kernel
theorem dL_cut_597 : decode cL_cut 597 = .ok (.ireturn, 1) := by decide +kernel
