set_option maxRecDepth 20000 in
theorem ggL_act_X4_addRegion : GoodIn wsL_act wsX4_addRegion := goodIn_ca (goodIn_ca (goodIn_r _ [8, 9, 10, 11, 12, 13, 14, 15, 16, 17, 18, 19, 7, 20, 21, 22, 23, 24, 25, 26, 27, 28, 29, 30, 31, 32, 33, 34, 35, 36, 37, 38, 39, 40, 41, 42, 43, 44, 45, 46, 47, 48, 49, 50, 51, 52, 53, 54, 55, 56, 57, 58, 59, 60, 61, 62, 63, 64, 65, 66, 67, 68, 69, 70, 71, 72, 73, 74, 75, 76, 77, 78, 79, 80, 81, 82, 83, 84, 85, 86, 87, 88, 89, 90, 91, 92, 93, 94, 95, 96, 97, 98, 99, 100, 101, 102, 103, 104, 105, 106, 107, 108, 364, 365, 366, 367, 368, 369, 370, 371, 372, 373, 374, 375, 376, 377] (by decide +kernel) (by decide +kernel)) (goodIn_sub (fun _ h => List.mem_cons_of_mem _ (List.mem_append_left _ (List.mem_append_left _ (List.mem_append_right _ h)))) (by decide +kernel))) (goodIn_sub (fun _ h => List.mem_cons_of_mem _ (List.mem_append_left _ (List.mem_append_right _ h))) (by decide +kernel))
set_option maxRecDepth 20000 in
theorem gL_act_X4_addRegion : GoodIn wsL_act (wsV RL 7 RX4 yX4_addRegion wsX4_addRegion) := goodIn_app (goodIn_of _ (by decide +kernel)) ggL_act_X4_addRegion
set_option maxRecDepth 20000 in
theorem ggL_act_X4_addCheck : GoodIn wsL_act wsX4_addCheck := goodIn_ca (goodIn_ca (goodIn_r _ [112, 9, 10, 113, 114, 115, 116, 117, 118, 7, 119, 120, 121, 23, 24, 25, 26, 27, 28, 122, 123, 124, 125, 50, 51, 126, 127, 128, 129, 130, 131, 132, 133, 134, 56, 57, 58, 59, 60, 61, 45, 62, 63, 64, 65, 66, 67, 68, 69, 70, 71, 72, 73, 74, 75, 76, 77, 78, 79, 80, 81, 82, 83, 84, 85, 86, 87, 88, 89, 90, 91, 92, 93, 94, 95, 96, 97, 98, 99, 100, 101, 102, 103, 104, 105, 106, 107, 108, 364, 365, 366, 367, 368, 369, 370, 378, 379, 380, 381, 382, 383, 384, 385, 386, 387, 388, 389, 390, 375, 376, 377] (by decide +kernel) (by decide +kernel)) (goodIn_sub (fun _ h => List.mem_cons_of_mem _ (List.mem_append_left _ (List.mem_append_left _ (List.mem_append_right _ h)))) (by decide +kernel))) (goodIn_sub (fun _ h => List.mem_cons_of_mem _ (List.mem_append_right _ h)) (by decide +kernel))
set_option maxRecDepth 20000 in
theorem gL_act_X4_addCheck : GoodIn wsL_act (wsV RL 13 RX4 yX4_addCheck wsX4_addCheck) := goodIn_app (goodIn_of _ (by decide +kernel)) ggL_act_X4_addCheck
set_option maxRecDepth 20000 in
theorem ggL_act_X4_setDown : GoodIn wsL_act wsX4_setDown := goodIn_ca (goodIn_r _ [138, 113, 139, 140, 141, 142, 143, 7, 144, 21, 22, 23, 24, 25, 26, 27, 28, 17, 18, 19, 20, 11, 29, 30, 31, 32, 33, 34, 35, 36, 37, 38, 39, 40, 41, 42, 43, 44, 45, 145, 146, 147, 148, 54, 55, 364, 365, 366, 367, 368, 369, 370, 378, 379, 380, 381, 382, 383, 384, 385, 386, 387, 388, 389, 390, 375, 376, 377] (by decide +kernel) (by decide +kernel)) (goodIn_sub (fun _ h => List.mem_cons_of_mem _ (List.mem_append_left _ (List.mem_append_right _ h))) (by decide +kernel))
set_option maxRecDepth 20000 in
theorem gL_act_X4_setDown : GoodIn wsL_act (wsV RL 17 RX4 yX4_setDown wsX4_setDown) := goodIn_app (goodIn_of _ (by decide +kernel)) ggL_act_X4_setDown
set_option maxRecDepth 20000 in
theorem ggL_act_X4_setCut : GoodIn wsL_act wsX4_setCut := goodIn_ca (goodIn_r _ [152, 153, 17, 18, 19, 7, 20, 21, 22, 11, 23, 24, 25, 26, 27, 28, 145, 146, 147, 148, 54, 55, 364, 365, 366, 367, 368, 369, 370, 375, 376, 377] (by decide +kernel) (by decide +kernel)) (goodIn_sub (fun _ h => List.mem_cons_of_mem _ (List.mem_append_left _ (List.mem_append_right _ h))) (by decide +kernel))
set_option maxRecDepth 20000 in
theorem gL_act_X4_setCut : GoodIn wsL_act (wsV RL 21 RX4 yX4_setCut wsX4_setCut) := goodIn_app (goodIn_of _ (by decide +kernel)) ggL_act_X4_setCut
set_option maxRecDepth 20000 in
theorem ggL_act_X4_setQuorum : GoodIn wsL_act wsX4_setQuorum := goodIn_ca (goodIn_ca (goodIn_r _ [157, 113, 139, 158, 141, 142, 143, 7, 144, 21, 22, 23, 24, 25, 26, 27, 28, 117, 118, 119, 120, 121, 29, 30, 31, 32, 33, 34, 35, 36, 37, 38, 39, 40, 41, 42, 43, 44, 45, 364, 365, 366, 367, 368, 369, 370, 378, 379, 380, 381, 382, 383, 384, 385, 386, 387, 388, 389, 390, 375, 376, 377] (by decide +kernel) (by decide +kernel)) (goodIn_sub (fun _ h => List.mem_cons_of_mem _ (List.mem_append_left _ (List.mem_append_right _ h))) (by decide +kernel))) (goodIn_sub (fun _ h => List.mem_cons_of_mem _ (List.mem_append_right _ h)) (by decide +kernel))
set_option maxRecDepth 20000 in
theorem gL_act_X4_setQuorum : GoodIn wsL_act (wsV RL 25 RX4 yX4_setQuorum wsX4_setQuorum) := goodIn_app (goodIn_of _ (by decide +kernel)) ggL_act_X4_setQuorum
set_option maxRecDepth 20000 in
theorem ggL_act_X4_addWindow : GoodIn wsL_act wsX4_addWindow := goodIn_ca (goodIn_ca (goodIn_ca (goodIn_r _ [162, 9, 10, 163, 164, 165, 166, 167, 141, 142, 143, 7, 144, 21, 22, 113, 23, 24, 25, 26, 27, 28, 117, 118, 119, 120, 121, 168, 169, 170, 171, 50, 51, 172, 173, 174, 56, 57, 58, 59, 60, 61, 45, 62, 63, 64, 65, 66, 67, 68, 69, 70, 71, 72, 73, 74, 75, 76, 77, 78, 79, 80, 81, 82, 83, 84, 85, 86, 87, 88, 89, 90, 91, 92, 93, 94, 95, 96, 97, 98, 99, 100, 101, 102, 103, 104, 105, 106, 107, 108, 364, 365, 366, 367, 368, 369, 370, 391, 392, 393, 375, 376, 377] (by decide +kernel) (by decide +kernel)) (goodIn_sub (fun _ h => List.mem_cons_of_mem _ (List.mem_append_left _ (List.mem_append_left _ (List.mem_append_right _ h)))) (by decide +kernel))) (goodIn_sub (fun _ h => List.mem_cons_of_mem _ (List.mem_append_left _ (List.mem_append_right _ h))) (by decide +kernel))) (goodIn_sub (fun _ h => List.mem_cons_of_mem _ (List.mem_append_right _ h)) (by decide +kernel))
set_option maxRecDepth 20000 in
theorem gL_act_X4_addWindow : GoodIn wsL_act (wsV RL 29 RX4 yX4_addWindow wsX4_addWindow) := goodIn_app (goodIn_of _ (by decide +kernel)) ggL_act_X4_addWindow
set_option maxRecDepth 20000 in
theorem ggL_act_X4_endWindow : GoodIn wsL_act wsX4_endWindow := goodIn_ca (goodIn_r _ [178, 21, 22, 164, 179, 180, 23, 24, 25, 26, 27, 28, 29, 30, 31, 32, 33, 34, 35, 36, 37, 38, 39, 40, 41, 42, 43, 44, 45, 181, 182, 183, 167, 184, 174, 185, 103, 77, 104, 186, 187, 188, 189, 173, 190, 76, 78, 364, 365, 366, 367, 368, 369, 370, 375, 376, 377, 391, 392, 393] (by decide +kernel) (by decide +kernel)) (goodIn_sub (fun _ h => List.mem_cons_of_mem _ (List.mem_append_left _ (List.mem_append_right _ h))) (by decide +kernel))
set_option maxRecDepth 20000 in
theorem gL_act_X4_endWindow : GoodIn wsL_act (wsV RL 33 RX4 yX4_endWindow wsX4_endWindow) := goodIn_app (goodIn_of _ (by decide +kernel)) ggL_act_X4_endWindow
set_option maxRecDepth 20000 in
theorem ggL_act_X4_pass : GoodIn wsL_act wsX4_pass := goodIn_ca (goodIn_r _ [194, 195, 117, 118, 7, 119, 120, 121, 23, 24, 25, 26, 27, 28, 196, 197, 198, 199, 180, 200, 201, 202, 203, 113, 11, 139, 12, 29, 30, 31, 32, 33, 34, 35, 36, 37, 38, 39, 40, 41, 42, 43, 44, 45, 204, 205, 206, 116, 207, 208, 209, 210, 211, 133, 134, 128, 127, 212, 213, 214, 215, 216, 217, 218, 219, 220, 221, 222, 140, 13, 153, 145, 146, 147, 223, 224, 225, 226, 132, 129, 126, 227, 228, 229, 230, 231, 232, 233, 234, 235, 236, 237, 238, 239, 240, 148, 54, 55, 241, 242, 243, 244, 245, 246, 247, 248, 249, 250, 251, 252, 130, 253, 254, 255, 256, 257, 258, 259, 260, 261, 262, 263, 264, 265, 266, 267, 268, 269, 270, 271, 164, 179, 272, 273, 274, 275, 276, 167, 277, 173, 174, 278, 279, 280, 281, 282, 283, 284, 285, 286, 287, 288, 289, 50, 51, 290, 291, 292, 56, 57, 58, 59, 60, 61, 62, 63, 64, 65, 66, 67, 68, 69, 70, 71, 72, 73, 74, 75, 76, 77, 78, 79, 80, 81, 82, 83, 84, 85, 86, 87, 88, 89, 90, 91, 92, 93, 94, 95, 96, 97, 98, 99, 100, 101, 102, 103, 104, 105, 106, 107, 108, 293, 294, 295, 296, 297, 298, 364, 365, 366, 367, 368, 369, 370, 375, 376, 377, 378, 379, 380, 381, 382, 383, 384, 385, 386, 387, 388, 389, 390, 371, 372, 373, 374, 394, 395, 396, 391, 392, 393] (by decide +kernel) (by decide +kernel)) (goodIn_sub (fun _ h => List.mem_cons_of_mem _ (List.mem_append_right _ h)) (by decide +kernel))
set_option maxRecDepth 20000 in
theorem gL_act_X4_pass : GoodIn wsL_act (wsV RL 36 RX4 yX4_pass wsX4_pass) := goodIn_app (goodIn_of _ (by decide +kernel)) ggL_act_X4_pass
set_option maxRecDepth 20000 in
theorem ggL_act_X4_failing : GoodIn wsL_act wsX4_failing := goodIn_ca (goodIn_r _ [302, 11, 113, 139, 12, 141, 142, 143, 7, 144, 21, 22, 23, 24, 25, 26, 27, 28, 29, 30, 31, 32, 33, 34, 35, 36, 37, 38, 39, 40, 41, 42, 43, 44, 45, 219, 220, 221, 222, 140, 218, 13, 153, 145, 146, 147, 148, 54, 55, 364, 365, 366, 367, 368, 369, 370, 375, 376, 377, 378, 379, 380, 381, 382, 383, 384, 385, 386, 387, 388, 389, 390, 371, 372, 373, 374] (by decide +kernel) (by decide +kernel)) (goodIn_sub (fun _ h => List.mem_cons_of_mem _ (List.mem_append_left _ (List.mem_append_right _ h))) (by decide +kernel))
set_option maxRecDepth 20000 in
theorem gL_act_X4_failing : GoodIn wsL_act (wsV RL 39 RX4 yX4_failing wsX4_failing) := goodIn_app (goodIn_of _ (by decide +kernel)) ggL_act_X4_failing
set_option maxRecDepth 20000 in
theorem ggL_act_X4_verdict : GoodIn wsL_act wsX4_verdict := goodIn_ca (goodIn_r _ [306, 113, 139, 265, 141, 142, 143, 7, 144, 21, 22, 23, 24, 25, 26, 27, 28, 29, 30, 31, 32, 33, 34, 35, 36, 37, 38, 39, 40, 41, 42, 43, 44, 45, 364, 365, 366, 367, 368, 369, 370, 378, 379, 380, 381, 382, 383, 384, 385, 386, 387, 388, 389, 390, 375, 376, 377] (by decide +kernel) (by decide +kernel)) (goodIn_sub (fun _ h => List.mem_cons_of_mem _ (List.mem_append_left _ (List.mem_append_right _ h))) (by decide +kernel))
set_option maxRecDepth 20000 in
theorem gL_act_X4_verdict : GoodIn wsL_act (wsV RL 42 RX4 yX4_verdict wsX4_verdict) := goodIn_app (goodIn_of _ (by decide +kernel)) ggL_act_X4_verdict
set_option maxRecDepth 20000 in
theorem ggL_act_X4_trusted : GoodIn wsL_act wsX4_trusted := goodIn_ca (goodIn_r _ [310, 113, 139, 141, 142, 143, 7, 144, 21, 22, 23, 24, 25, 26, 27, 28, 29, 30, 31, 32, 33, 34, 35, 36, 37, 38, 39, 40, 41, 42, 43, 44, 45, 245, 246, 247, 248, 11, 240, 12, 13, 235, 148, 54, 55, 364, 365, 366, 367, 368, 369, 370, 375, 376, 377, 378, 379, 380, 381, 382, 383, 384, 385, 386, 387, 388, 389, 390, 371, 372, 373, 374] (by decide +kernel) (by decide +kernel)) (goodIn_sub (fun _ h => List.mem_cons_of_mem _ (List.mem_append_left _ (List.mem_append_right _ h))) (by decide +kernel))
set_option maxRecDepth 20000 in
theorem gL_act_X4_trusted : GoodIn wsL_act (wsV RL 45 RX4 yX4_trusted wsX4_trusted) := goodIn_app (goodIn_of _ (by decide +kernel)) ggL_act_X4_trusted
set_option maxRecDepth 20000 in
theorem ggL_act_X4_hasAlarm : GoodIn wsL_act wsX4_hasAlarm := goodIn_ca (goodIn_r _ [314, 113, 139, 266, 141, 142, 143, 7, 144, 21, 22, 23, 24, 25, 26, 27, 28, 29, 30, 31, 32, 33, 34, 35, 36, 37, 38, 39, 40, 41, 42, 43, 44, 45, 364, 365, 366, 367, 368, 369, 370, 378, 379, 380, 381, 382, 383, 384, 385, 386, 387, 388, 389, 390, 375, 376, 377] (by decide +kernel) (by decide +kernel)) (goodIn_sub (fun _ h => List.mem_cons_of_mem _ (List.mem_append_left _ (List.mem_append_right _ h))) (by decide +kernel))
set_option maxRecDepth 20000 in
theorem gL_act_X4_hasAlarm : GoodIn wsL_act (wsV RL 48 RX4 yX4_hasAlarm wsX4_hasAlarm) := goodIn_app (goodIn_of _ (by decide +kernel)) ggL_act_X4_hasAlarm
set_option maxRecDepth 20000 in
theorem ggL_act_X4_availability : GoodIn wsL_act wsX4_availability := goodIn_ca (goodIn_ca (goodIn_r _ [318, 9, 10, 113, 139, 297, 298, 141, 142, 143, 7, 144, 21, 22, 23, 24, 25, 26, 27, 28, 29, 30, 31, 32, 33, 34, 35, 36, 37, 38, 39, 40, 41, 42, 43, 44, 45, 364, 365, 366, 367, 368, 369, 370, 378, 379, 380, 381, 382, 383, 384, 385, 386, 387, 388, 389, 390, 375, 376, 377] (by decide +kernel) (by decide +kernel)) (goodIn_sub (fun _ h => List.mem_cons_of_mem _ (List.mem_append_left _ (List.mem_append_left _ (List.mem_append_right _ h)))) (by decide +kernel))) (goodIn_sub (fun _ h => List.mem_cons_of_mem _ (List.mem_append_left _ (List.mem_append_right _ h))) (by decide +kernel))
set_option maxRecDepth 20000 in
theorem gL_act_X4_availability : GoodIn wsL_act (wsV RL 52 RX4 yX4_availability wsX4_availability) := goodIn_app (goodIn_of _ (by decide +kernel)) ggL_act_X4_availability
set_option maxRecDepth 20000 in
theorem ggL_act_X4_probes : GoodIn wsL_act wsX4_probes := goodIn_ca (goodIn_r _ [322, 11, 12, 216, 17, 18, 19, 7, 20, 21, 22, 23, 24, 25, 26, 27, 28, 29, 30, 31, 32, 33, 34, 35, 36, 37, 38, 39, 40, 41, 42, 43, 44, 45, 364, 365, 366, 367, 368, 369, 370, 371, 372, 373, 374, 375, 376, 377] (by decide +kernel) (by decide +kernel)) (goodIn_sub (fun _ h => List.mem_cons_of_mem _ (List.mem_append_left _ (List.mem_append_right _ h))) (by decide +kernel))
set_option maxRecDepth 20000 in
theorem gL_act_X4_probes : GoodIn wsL_act (wsV RL 56 RX4 yX4_probes wsX4_probes) := goodIn_app (goodIn_of _ (by decide +kernel)) ggL_act_X4_probes
set_option maxRecDepth 20000 in
theorem ggL_act_X4_failures : GoodIn wsL_act wsX4_failures := goodIn_ca (goodIn_r _ [326, 11, 12, 217, 17, 18, 19, 7, 20, 21, 22, 23, 24, 25, 26, 27, 28, 29, 30, 31, 32, 33, 34, 35, 36, 37, 38, 39, 40, 41, 42, 43, 44, 45, 364, 365, 366, 367, 368, 369, 370, 371, 372, 373, 374, 375, 376, 377] (by decide +kernel) (by decide +kernel)) (goodIn_sub (fun _ h => List.mem_cons_of_mem _ (List.mem_append_left _ (List.mem_append_right _ h))) (by decide +kernel))
set_option maxRecDepth 20000 in
theorem gL_act_X4_failures : GoodIn wsL_act (wsV RL 59 RX4 yX4_failures wsX4_failures) := goodIn_app (goodIn_of _ (by decide +kernel)) ggL_act_X4_failures
set_option maxRecDepth 20000 in
theorem ggL_act_X4_isBad : GoodIn wsL_act wsX4_isBad := goodIn_ca (goodIn_r _ [330, 235, 17, 18, 19, 7, 20, 21, 22, 11, 23, 24, 25, 26, 27, 28, 145, 146, 147, 364, 365, 366, 367, 368, 369, 370, 375, 376, 377] (by decide +kernel) (by decide +kernel)) (goodIn_sub (fun _ h => List.mem_cons_of_mem _ (List.mem_append_left _ (List.mem_append_right _ h))) (by decide +kernel))
set_option maxRecDepth 20000 in
theorem gL_act_X4_isBad : GoodIn wsL_act (wsV RL 62 RX4 yX4_isBad wsX4_isBad) := goodIn_app (goodIn_of _ (by decide +kernel)) ggL_act_X4_isBad
set_option maxRecDepth 20000 in
theorem ggL_act_X4_nextProbe : GoodIn wsL_act wsX4_nextProbe := goodIn_ca (goodIn_r _ [334, 113, 139, 180, 141, 142, 143, 7, 144, 21, 22, 23, 24, 25, 26, 27, 28, 17, 18, 19, 20, 11, 29, 30, 31, 32, 33, 34, 35, 36, 37, 38, 39, 40, 41, 42, 43, 44, 45, 335, 209, 210, 116, 211, 133, 134, 128, 127, 364, 365, 366, 367, 368, 369, 370, 375, 376, 377, 378, 379, 380, 381, 382, 383, 384, 385, 386, 387, 388, 389, 390] (by decide +kernel) (by decide +kernel)) (goodIn_sub (fun _ h => List.mem_cons_of_mem _ (List.mem_append_left _ (List.mem_append_right _ h))) (by decide +kernel))
set_option maxRecDepth 20000 in
theorem gL_act_X4_nextProbe : GoodIn wsL_act (wsV RL 65 RX4 yX4_nextProbe wsX4_nextProbe) := goodIn_app (goodIn_of _ (by decide +kernel)) ggL_act_X4_nextProbe
set_option maxRecDepth 20000 in
theorem ggL_act_X4_repetition : GoodIn wsL_act wsX4_repetition := goodIn_ca (goodIn_r _ [339, 113, 139, 340, 141, 142, 143, 7, 144, 21, 22, 23, 24, 25, 26, 27, 28, 17, 18, 19, 20, 11, 29, 30, 31, 32, 33, 34, 35, 36, 37, 38, 39, 40, 41, 42, 43, 44, 45, 364, 365, 366, 367, 368, 369, 370, 378, 379, 380, 381, 382, 383, 384, 385, 386, 387, 388, 389, 390, 375, 376, 377] (by decide +kernel) (by decide +kernel)) (goodIn_sub (fun _ h => List.mem_cons_of_mem _ (List.mem_append_left _ (List.mem_append_right _ h))) (by decide +kernel))
set_option maxRecDepth 20000 in
theorem gL_act_X4_repetition : GoodIn wsL_act (wsV RL 68 RX4 yX4_repetition wsX4_repetition) := goodIn_app (goodIn_of _ (by decide +kernel)) ggL_act_X4_repetition
set_option maxRecDepth 20000 in
theorem ggL_act_X4_vote : GoodIn wsL_act wsX4_vote := goodIn_ca (goodIn_r _ [344, 113, 139, 240, 141, 142, 143, 7, 144, 21, 22, 23, 24, 25, 26, 27, 28, 17, 18, 19, 20, 11, 29, 30, 31, 32, 33, 34, 35, 36, 37, 38, 39, 40, 41, 42, 43, 44, 45, 364, 365, 366, 367, 368, 369, 370, 378, 379, 380, 381, 382, 383, 384, 385, 386, 387, 388, 389, 390, 375, 376, 377] (by decide +kernel) (by decide +kernel)) (goodIn_sub (fun _ h => List.mem_cons_of_mem _ (List.mem_append_left _ (List.mem_append_right _ h))) (by decide +kernel))
set_option maxRecDepth 20000 in
theorem gL_act_X4_vote : GoodIn wsL_act (wsV RL 71 RX4 yX4_vote wsX4_vote) := goodIn_app (goodIn_of _ (by decide +kernel)) ggL_act_X4_vote
set_option maxRecDepth 20000 in
theorem ggL_act_X4_alarmCheck : GoodIn wsL_act wsX4_alarmCheck := goodIn_ca (goodIn_r _ [348, 195, 349, 350, 351, 352, 353, 7, 354, 21, 22, 23, 24, 25, 26, 27, 28, 29, 30, 31, 32, 33, 34, 35, 36, 37, 38, 39, 40, 41, 42, 43, 44, 45, 364, 365, 366, 367, 368, 369, 370, 394, 395, 396, 375, 376, 377] (by decide +kernel) (by decide +kernel)) (goodIn_sub (fun _ h => List.mem_cons_of_mem _ (List.mem_append_left _ (List.mem_append_right _ h))) (by decide +kernel))
set_option maxRecDepth 20000 in
theorem gL_act_X4_alarmCheck : GoodIn wsL_act (wsV RL 74 RX4 yX4_alarmCheck wsX4_alarmCheck) := goodIn_app (goodIn_of _ (by decide +kernel)) ggL_act_X4_alarmCheck
set_option maxRecDepth 20000 in
theorem ggL_act_X4_alarmRaised : GoodIn wsL_act wsX4_alarmRaised := goodIn_ca (goodIn_r _ [358, 195, 349, 359, 351, 352, 353, 7, 354, 21, 22, 23, 24, 25, 26, 27, 28, 29, 30, 31, 32, 33, 34, 35, 36, 37, 38, 39, 40, 41, 42, 43, 44, 45, 364, 365, 366, 367, 368, 369, 370, 394, 395, 396, 375, 376, 377] (by decide +kernel) (by decide +kernel)) (goodIn_sub (fun _ h => List.mem_cons_of_mem _ (List.mem_append_left _ (List.mem_append_right _ h))) (by decide +kernel))
set_option maxRecDepth 20000 in
theorem gL_act_X4_alarmRaised : GoodIn wsL_act (wsV RL 77 RX4 yX4_alarmRaised wsX4_alarmRaised) := goodIn_app (goodIn_of _ (by decide +kernel)) ggL_act_X4_alarmRaised
set_option maxRecDepth 20000 in
theorem ggL_act_X4_alarmClosed : GoodIn wsL_act wsX4_alarmClosed := goodIn_ca (goodIn_r _ [363, 195, 349, 267, 351, 352, 353, 7, 354, 21, 22, 23, 24, 25, 26, 27, 28, 29, 30, 31, 32, 33, 34, 35, 36, 37, 38, 39, 40, 41, 42, 43, 44, 45, 364, 365, 366, 367, 368, 369, 370, 394, 395, 396, 375, 376, 377] (by decide +kernel) (by decide +kernel)) (goodIn_sub (fun _ h => List.mem_cons_of_mem _ (List.mem_append_left _ (List.mem_append_right _ h))) (by decide +kernel))
set_option maxRecDepth 20000 in
theorem gL_act_X4_alarmClosed : GoodIn wsL_act (wsV RL 80 RX4 yX4_alarmClosed wsX4_alarmClosed) := goodIn_app (goodIn_of _ (by decide +kernel)) ggL_act_X4_alarmClosed
theorem dL_act_0 : decode cL_act 0 = .ok (.iload_n 1, 1) := by decide +kernel
theorem dL_act_1 : decode cL_act 1 = .ok (.ifCond .ne 11, 3) := by decide +kernel
theorem dL_act_4 : decode cL_act 4 = .ok (.aload_n 0, 1) := by decide +kernel
theorem dL_act_5 : decode cL_act 5 = .ok (.iload_n 2, 1) := by decide +kernel
theorem dL_act_6 : decode cL_act 6 = .ok (.invokevirtual 7, 3) := by decide +kernel
theorem dL_act_9 : decode cL_act 9 = .ok (.goto 359, 3) := by decide +kernel
theorem dL_act_12 : decode cL_act 12 = .ok (.iload_n 1, 1) := by decide +kernel
theorem dL_act_13 : decode cL_act 13 = .ok (.iconst 1, 1) := by decide +kernel
theorem dL_act_14 : decode cL_act 14 = .ok (.if_icmp .ne 16, 3) := by decide +kernel
theorem dL_act_17 : decode cL_act 17 = .ok (.aload_n 0, 1) := by decide +kernel
theorem dL_act_18 : decode cL_act 18 = .ok (.iload_n 2, 1) := by decide +kernel
theorem dL_act_19 : decode cL_act 19 = .ok (.iload_n 3, 1) := by decide +kernel
theorem dL_act_20 : decode cL_act 20 = .ok (.iload 4, 2) := by decide +kernel
theorem dL_act_22 : decode cL_act 22 = .ok (.iload 5, 2) := by decide +kernel
theorem dL_act_24 : decode cL_act 24 = .ok (.invokevirtual 13, 3) := by decide +kernel
theorem dL_act_27 : decode cL_act 27 = .ok (.goto 341, 3) := by decide +kernel
theorem dL_act_30 : decode cL_act 30 = .ok (.iload_n 1, 1) := by decide +kernel
theorem dL_act_31 : decode cL_act 31 = .ok (.iconst 2, 1) := by decide +kernel
theorem dL_act_32 : decode cL_act 32 = .ok (.if_icmp .ne 31, 3) := by decide +kernel
theorem dL_act_35 : decode cL_act 35 = .ok (.aload_n 0, 1) := by decide +kernel
theorem dL_act_36 : decode cL_act 36 = .ok (.iload_n 2, 1) := by decide +kernel
theorem dL_act_37 : decode cL_act 37 = .ok (.iload_n 3, 1) := by decide +kernel
theorem dL_act_38 : decode cL_act 38 = .ok (.iload 4, 2) := by decide +kernel
theorem dL_act_40 : decode cL_act 40 = .ok (.iconst 1, 1) := by decide +kernel
theorem dL_act_41 : decode cL_act 41 = .ok (.if_icmp .ne 7, 3) := by decide +kernel
theorem dL_act_44 : decode cL_act 44 = .ok (.iconst 1, 1) := by decide +kernel
theorem dL_act_45 : decode cL_act 45 = .ok (.goto 4, 3) := by decide +kernel
theorem dL_act_48 : decode cL_act 48 = .ok (.iconst 0, 1) := by decide +kernel
theorem dL_act_49 : decode cL_act 49 = .ok (.invokevirtual 17, 3) := by decide +kernel
theorem dL_act_52 : decode cL_act 52 = .ok (.ifCond .eq 7, 3) := by decide +kernel
theorem dL_act_55 : decode cL_act 55 = .ok (.iconst 1, 1) := by decide +kernel
theorem dL_act_56 : decode cL_act 56 = .ok (.goto 312, 3) := by decide +kernel
theorem dL_act_59 : decode cL_act 59 = .ok (.iconst 0, 1) := by decide +kernel
theorem dL_act_60 : decode cL_act 60 = .ok (.goto 308, 3) := by decide +kernel
theorem dL_act_63 : decode cL_act 63 = .ok (.iload_n 1, 1) := by decide +kernel
theorem dL_act_64 : decode cL_act 64 = .ok (.iconst 3, 1) := by decide +kernel
theorem dL_act_65 : decode cL_act 65 = .ok (.if_icmp .ne 29, 3) := by decide +kernel
theorem dL_act_68 : decode cL_act 68 = .ok (.aload_n 0, 1) := by decide +kernel
theorem dL_act_69 : decode cL_act 69 = .ok (.iload_n 2, 1) := by decide +kernel
theorem dL_act_70 : decode cL_act 70 = .ok (.iload_n 3, 1) := by decide +kernel
theorem dL_act_71 : decode cL_act 71 = .ok (.iconst 1, 1) := by decide +kernel
theorem dL_act_72 : decode cL_act 72 = .ok (.if_icmp .ne 7, 3) := by decide +kernel
theorem dL_act_75 : decode cL_act 75 = .ok (.iconst 1, 1) := by decide +kernel
theorem dL_act_76 : decode cL_act 76 = .ok (.goto 4, 3) := by decide +kernel
theorem dL_act_79 : decode cL_act 79 = .ok (.iconst 0, 1) := by decide +kernel
theorem dL_act_80 : decode cL_act 80 = .ok (.invokevirtual 21, 3) := by decide +kernel
theorem dL_act_83 : decode cL_act 83 = .ok (.ifCond .eq 7, 3) := by decide +kernel
theorem dL_act_86 : decode cL_act 86 = .ok (.iconst 1, 1) := by decide +kernel
theorem dL_act_87 : decode cL_act 87 = .ok (.goto 281, 3) := by decide +kernel
theorem dL_act_90 : decode cL_act 90 = .ok (.iconst 0, 1) := by decide +kernel
theorem dL_act_91 : decode cL_act 91 = .ok (.goto 277, 3) := by decide +kernel
theorem dL_act_94 : decode cL_act 94 = .ok (.iload_n 1, 1) := by decide +kernel
theorem dL_act_95 : decode cL_act 95 = .ok (.iconst 4, 1) := by decide +kernel
theorem dL_act_96 : decode cL_act 96 = .ok (.if_icmp .ne 12, 3) := by decide +kernel
theorem dL_act_99 : decode cL_act 99 = .ok (.aload_n 0, 1) := by decide +kernel
theorem dL_act_100 : decode cL_act 100 = .ok (.iload_n 2, 1) := by decide +kernel
theorem dL_act_101 : decode cL_act 101 = .ok (.iload_n 3, 1) := by decide +kernel
theorem dL_act_102 : decode cL_act 102 = .ok (.invokevirtual 25, 3) := by decide +kernel
theorem dL_act_105 : decode cL_act 105 = .ok (.goto 263, 3) := by decide +kernel
theorem dL_act_108 : decode cL_act 108 = .ok (.iload_n 1, 1) := by decide +kernel
theorem dL_act_109 : decode cL_act 109 = .ok (.iconst 5, 1) := by decide +kernel
theorem dL_act_110 : decode cL_act 110 = .ok (.if_icmp .ne 14, 3) := by decide +kernel
theorem dL_act_113 : decode cL_act 113 = .ok (.aload_n 0, 1) := by decide +kernel
theorem dL_act_114 : decode cL_act 114 = .ok (.iload_n 2, 1) := by decide +kernel
theorem dL_act_115 : decode cL_act 115 = .ok (.iload_n 3, 1) := by decide +kernel
theorem dL_act_116 : decode cL_act 116 = .ok (.iload 4, 2) := by decide +kernel
theorem dL_act_118 : decode cL_act 118 = .ok (.invokevirtual 29, 3) := by decide +kernel
theorem dL_act_121 : decode cL_act 121 = .ok (.goto 247, 3) := by decide +kernel
theorem dL_act_124 : decode cL_act 124 = .ok (.iload_n 1, 1) := by decide +kernel
theorem dL_act_125 : decode cL_act 125 = .ok (.bipush 6, 2) := by decide +kernel
theorem dL_act_127 : decode cL_act 127 = .ok (.if_icmp .ne 11, 3) := by decide +kernel
theorem dL_act_130 : decode cL_act 130 = .ok (.aload_n 0, 1) := by decide +kernel
theorem dL_act_131 : decode cL_act 131 = .ok (.iload_n 2, 1) := by decide +kernel
theorem dL_act_132 : decode cL_act 132 = .ok (.invokevirtual 33, 3) := by decide +kernel
theorem dL_act_135 : decode cL_act 135 = .ok (.goto 233, 3) := by decide +kernel
theorem dL_act_138 : decode cL_act 138 = .ok (.iload_n 1, 1) := by decide +kernel
theorem dL_act_139 : decode cL_act 139 = .ok (.bipush 7, 2) := by decide +kernel
theorem dL_act_141 : decode cL_act 141 = .ok (.if_icmp .ne 11, 3) := by decide +kernel
theorem dL_act_144 : decode cL_act 144 = .ok (.aload_n 0, 1) := by decide +kernel
theorem dL_act_145 : decode cL_act 145 = .ok (.iload_n 2, 1) := by decide +kernel
theorem dL_act_146 : decode cL_act 146 = .ok (.invokevirtual 36, 3) := by decide +kernel
theorem dL_act_149 : decode cL_act 149 = .ok (.goto 219, 3) := by decide +kernel
theorem dL_act_152 : decode cL_act 152 = .ok (.iload_n 1, 1) := by decide +kernel
theorem dL_act_153 : decode cL_act 153 = .ok (.bipush 8, 2) := by decide +kernel
theorem dL_act_155 : decode cL_act 155 = .ok (.if_icmp .ne 11, 3) := by decide +kernel
theorem dL_act_158 : decode cL_act 158 = .ok (.aload_n 0, 1) := by decide +kernel
theorem dL_act_159 : decode cL_act 159 = .ok (.iload_n 2, 1) := by decide +kernel
theorem dL_act_160 : decode cL_act 160 = .ok (.invokevirtual 39, 3) := by decide +kernel
theorem dL_act_163 : decode cL_act 163 = .ok (.goto 205, 3) := by decide +kernel
theorem dL_act_166 : decode cL_act 166 = .ok (.iload_n 1, 1) := by decide +kernel
theorem dL_act_167 : decode cL_act 167 = .ok (.bipush 9, 2) := by decide +kernel
theorem dL_act_169 : decode cL_act 169 = .ok (.if_icmp .ne 11, 3) := by decide +kernel
theorem dL_act_172 : decode cL_act 172 = .ok (.aload_n 0, 1) := by decide +kernel
theorem dL_act_173 : decode cL_act 173 = .ok (.iload_n 2, 1) := by decide +kernel
theorem dL_act_174 : decode cL_act 174 = .ok (.invokevirtual 42, 3) := by decide +kernel
theorem dL_act_177 : decode cL_act 177 = .ok (.goto 191, 3) := by decide +kernel
theorem dL_act_180 : decode cL_act 180 = .ok (.iload_n 1, 1) := by decide +kernel
theorem dL_act_181 : decode cL_act 181 = .ok (.bipush 10, 2) := by decide +kernel
theorem dL_act_183 : decode cL_act 183 = .ok (.if_icmp .ne 11, 3) := by decide +kernel
theorem dL_act_186 : decode cL_act 186 = .ok (.aload_n 0, 1) := by decide +kernel
theorem dL_act_187 : decode cL_act 187 = .ok (.iload_n 2, 1) := by decide +kernel
theorem dL_act_188 : decode cL_act 188 = .ok (.invokevirtual 45, 3) := by decide +kernel
theorem dL_act_191 : decode cL_act 191 = .ok (.goto 177, 3) := by decide +kernel
theorem dL_act_194 : decode cL_act 194 = .ok (.iload_n 1, 1) := by decide +kernel
theorem dL_act_195 : decode cL_act 195 = .ok (.bipush 11, 2) := by decide +kernel
theorem dL_act_197 : decode cL_act 197 = .ok (.if_icmp .ne 19, 3) := by decide +kernel
theorem dL_act_200 : decode cL_act 200 = .ok (.aload_n 0, 1) := by decide +kernel
theorem dL_act_201 : decode cL_act 201 = .ok (.iload_n 2, 1) := by decide +kernel
theorem dL_act_202 : decode cL_act 202 = .ok (.invokevirtual 48, 3) := by decide +kernel
theorem dL_act_205 : decode cL_act 205 = .ok (.ifCond .eq 7, 3) := by decide +kernel
theorem dL_act_208 : decode cL_act 208 = .ok (.iconst 1, 1) := by decide +kernel
theorem dL_act_209 : decode cL_act 209 = .ok (.goto 159, 3) := by decide +kernel
theorem dL_act_212 : decode cL_act 212 = .ok (.iconst 0, 1) := by decide +kernel
theorem dL_act_213 : decode cL_act 213 = .ok (.goto 155, 3) := by decide +kernel
theorem dL_act_216 : decode cL_act 216 = .ok (.iload_n 1, 1) := by decide +kernel
theorem dL_act_217 : decode cL_act 217 = .ok (.bipush 12, 2) := by decide +kernel
theorem dL_act_219 : decode cL_act 219 = .ok (.if_icmp .ne 21, 3) := by decide +kernel
theorem dL_act_222 : decode cL_act 222 = .ok (.aload_n 0, 1) := by decide +kernel
theorem dL_act_223 : decode cL_act 223 = .ok (.iload_n 2, 1) := by decide +kernel
theorem dL_act_224 : decode cL_act 224 = .ok (.invokevirtual 52, 3) := by decide +kernel
theorem dL_act_227 : decode cL_act 227 = .ok (.fconst 0, 1) := by decide +kernel
theorem dL_act_228 : decode cL_act 228 = .ok (.fcmp .l, 1) := by decide +kernel
theorem dL_act_229 : decode cL_act 229 = .ok (.ifCond .lt 7, 3) := by decide +kernel
theorem dL_act_232 : decode cL_act 232 = .ok (.iconst 1, 1) := by decide +kernel
theorem dL_act_233 : decode cL_act 233 = .ok (.goto 135, 3) := by decide +kernel
theorem dL_act_236 : decode cL_act 236 = .ok (.iconst 0, 1) := by decide +kernel
theorem dL_act_237 : decode cL_act 237 = .ok (.goto 131, 3) := by decide +kernel
theorem dL_act_240 : decode cL_act 240 = .ok (.iload_n 1, 1) := by decide +kernel
theorem dL_act_241 : decode cL_act 241 = .ok (.bipush 13, 2) := by decide +kernel
theorem dL_act_243 : decode cL_act 243 = .ok (.if_icmp .ne 11, 3) := by decide +kernel
theorem dL_act_246 : decode cL_act 246 = .ok (.aload_n 0, 1) := by decide +kernel
theorem dL_act_247 : decode cL_act 247 = .ok (.iload_n 2, 1) := by decide +kernel
theorem dL_act_248 : decode cL_act 248 = .ok (.invokevirtual 56, 3) := by decide +kernel
theorem dL_act_251 : decode cL_act 251 = .ok (.goto 117, 3) := by decide +kernel
theorem dL_act_254 : decode cL_act 254 = .ok (.iload_n 1, 1) := by decide +kernel
theorem dL_act_255 : decode cL_act 255 = .ok (.bipush 14, 2) := by decide +kernel
theorem dL_act_257 : decode cL_act 257 = .ok (.if_icmp .ne 11, 3) := by decide +kernel
theorem dL_act_260 : decode cL_act 260 = .ok (.aload_n 0, 1) := by decide +kernel
theorem dL_act_261 : decode cL_act 261 = .ok (.iload_n 2, 1) := by decide +kernel
theorem dL_act_262 : decode cL_act 262 = .ok (.invokevirtual 59, 3) := by decide +kernel
theorem dL_act_265 : decode cL_act 265 = .ok (.goto 103, 3) := by decide +kernel
theorem dL_act_268 : decode cL_act 268 = .ok (.iload_n 1, 1) := by decide +kernel
theorem dL_act_269 : decode cL_act 269 = .ok (.bipush 15, 2) := by decide +kernel
theorem dL_act_271 : decode cL_act 271 = .ok (.if_icmp .ne 19, 3) := by decide +kernel
theorem dL_act_274 : decode cL_act 274 = .ok (.aload_n 0, 1) := by decide +kernel
theorem dL_act_275 : decode cL_act 275 = .ok (.iload_n 2, 1) := by decide +kernel
theorem dL_act_276 : decode cL_act 276 = .ok (.invokevirtual 62, 3) := by decide +kernel
theorem dL_act_279 : decode cL_act 279 = .ok (.ifCond .eq 7, 3) := by decide +kernel
theorem dL_act_282 : decode cL_act 282 = .ok (.iconst 1, 1) := by decide +kernel
theorem dL_act_283 : decode cL_act 283 = .ok (.goto 85, 3) := by decide +kernel
theorem dL_act_286 : decode cL_act 286 = .ok (.iconst 0, 1) := by decide +kernel
theorem dL_act_287 : decode cL_act 287 = .ok (.goto 81, 3) := by decide +kernel
theorem dL_act_290 : decode cL_act 290 = .ok (.iload_n 1, 1) := by decide +kernel
theorem dL_act_291 : decode cL_act 291 = .ok (.bipush 16, 2) := by decide +kernel
theorem dL_act_293 : decode cL_act 293 = .ok (.if_icmp .ne 12, 3) := by decide +kernel
theorem dL_act_296 : decode cL_act 296 = .ok (.aload_n 0, 1) := by decide +kernel
theorem dL_act_297 : decode cL_act 297 = .ok (.iload_n 2, 1) := by decide +kernel
theorem dL_act_298 : decode cL_act 298 = .ok (.iload_n 3, 1) := by decide +kernel
theorem dL_act_299 : decode cL_act 299 = .ok (.invokevirtual 65, 3) := by decide +kernel
theorem dL_act_302 : decode cL_act 302 = .ok (.goto 66, 3) := by decide +kernel
theorem dL_act_305 : decode cL_act 305 = .ok (.iload_n 1, 1) := by decide +kernel
theorem dL_act_306 : decode cL_act 306 = .ok (.bipush 17, 2) := by decide +kernel
theorem dL_act_308 : decode cL_act 308 = .ok (.if_icmp .ne 12, 3) := by decide +kernel
theorem dL_act_311 : decode cL_act 311 = .ok (.aload_n 0, 1) := by decide +kernel
theorem dL_act_312 : decode cL_act 312 = .ok (.iload_n 2, 1) := by decide +kernel
theorem dL_act_313 : decode cL_act 313 = .ok (.iload_n 3, 1) := by decide +kernel
theorem dL_act_314 : decode cL_act 314 = .ok (.invokevirtual 68, 3) := by decide +kernel
theorem dL_act_317 : decode cL_act 317 = .ok (.goto 51, 3) := by decide +kernel
theorem dL_act_320 : decode cL_act 320 = .ok (.iload_n 1, 1) := by decide +kernel
theorem dL_act_321 : decode cL_act 321 = .ok (.bipush 18, 2) := by decide +kernel
theorem dL_act_323 : decode cL_act 323 = .ok (.if_icmp .ne 12, 3) := by decide +kernel
theorem dL_act_326 : decode cL_act 326 = .ok (.aload_n 0, 1) := by decide +kernel
theorem dL_act_327 : decode cL_act 327 = .ok (.iload_n 2, 1) := by decide +kernel
theorem dL_act_328 : decode cL_act 328 = .ok (.iload_n 3, 1) := by decide +kernel
theorem dL_act_329 : decode cL_act 329 = .ok (.invokevirtual 71, 3) := by decide +kernel
theorem dL_act_332 : decode cL_act 332 = .ok (.goto 36, 3) := by decide +kernel
theorem dL_act_335 : decode cL_act 335 = .ok (.iload_n 1, 1) := by decide +kernel
theorem dL_act_336 : decode cL_act 336 = .ok (.bipush 19, 2) := by decide +kernel
theorem dL_act_338 : decode cL_act 338 = .ok (.if_icmp .ne 11, 3) := by decide +kernel
theorem dL_act_341 : decode cL_act 341 = .ok (.aload_n 0, 1) := by decide +kernel
theorem dL_act_342 : decode cL_act 342 = .ok (.iload_n 2, 1) := by decide +kernel
theorem dL_act_343 : decode cL_act 343 = .ok (.invokevirtual 74, 3) := by decide +kernel
theorem dL_act_346 : decode cL_act 346 = .ok (.goto 22, 3) := by decide +kernel
theorem dL_act_349 : decode cL_act 349 = .ok (.iload_n 1, 1) := by decide +kernel
theorem dL_act_350 : decode cL_act 350 = .ok (.bipush 20, 2) := by decide +kernel
theorem dL_act_352 : decode cL_act 352 = .ok (.if_icmp .ne 11, 3) := by decide +kernel
theorem dL_act_355 : decode cL_act 355 = .ok (.aload_n 0, 1) := by decide +kernel
theorem dL_act_356 : decode cL_act 356 = .ok (.iload_n 2, 1) := by decide +kernel
theorem dL_act_357 : decode cL_act 357 = .ok (.invokevirtual 77, 3) := by decide +kernel
theorem dL_act_360 : decode cL_act 360 = .ok (.goto 8, 3) := by decide +kernel
theorem dL_act_363 : decode cL_act 363 = .ok (.aload_n 0, 1) := by decide +kernel
theorem dL_act_364 : decode cL_act 364 = .ok (.iload_n 2, 1) := by decide +kernel
theorem dL_act_365 : decode cL_act 365 = .ok (.invokevirtual 80, 3) := by decide +kernel
theorem dL_act_368 : decode cL_act 368 = .ok (.ireturn, 1) := by decide +kernel
theorem dL_act_369 : decode cL_act 369 = .ok (.astore 6, 2) := by decide +kernel
theorem dL_act_371 : decode cL_act 371 = .ok (.bipush (-41), 2) := by decide +kernel
theorem dL_act_373 : decode cL_act 373 = .ok (.ireturn, 1) := by decide +kernel
theorem dL_act_374 : decode cL_act 374 = .ok (.astore 6, 2) := by decide +kernel
theorem dL_act_376 : decode cL_act 376 = .ok (.bipush (-42), 2) := by decide +kernel
theorem dL_act_378 : decode cL_act 378 = .ok (.ireturn, 1) := by decide +kernel
theorem dL_act_379 : decode cL_act 379 = .ok (.astore 6, 2) := by decide +kernel
theorem dL_act_381 : decode cL_act 381 = .ok (.bipush (-43), 2) := by decide +kernel
theorem dL_act_383 : decode cL_act 383 = .ok (.ireturn, 1) := by decide +kernel
