set_option maxRecDepth 20000 in
theorem ggL_alarm_X4_init : GoodIn wsL_alarm wsX4_init := goodIn_r _ [8, 9, 10, 11, 12, 13, 14, 15, 16, 17, 18, 19, 20, 21, 22, 23, 24, 25, 26, 27, 28, 29, 30, 31, 32, 33, 34, 35, 36, 411, 412, 413, 404, 405, 406, 407, 408, 409, 410] (by decide +kernel) (by decide +kernel)
set_option maxRecDepth 20000 in
theorem gL_alarm_X4_init : GoodIn wsL_alarm (wsX4_init) := ggL_alarm_X4_init
set_option maxRecDepth 20000 in
theorem ggL_alarm_X4_minute : GoodIn wsL_alarm wsX4_minute := goodIn_r _ [40, 21, 404, 405, 406, 407, 408, 409, 410] (by decide +kernel) (by decide +kernel)
set_option maxRecDepth 20000 in
theorem gL_alarm_X4_minute : GoodIn wsL_alarm (wsV RL 89 RX4 yX4_minute wsX4_minute) := goodIn_app (goodIn_of _ (by decide +kernel)) ggL_alarm_X4_minute
set_option maxRecDepth 20000 in
theorem ggL_alarm_X4_alarms : GoodIn wsL_alarm wsX4_alarms := goodIn_r _ [44, 18, 45, 46, 47, 14, 48, 49, 404, 405, 406, 407, 408, 409, 410, 411, 412, 413] (by decide +kernel) (by decide +kernel)
set_option maxRecDepth 20000 in
theorem gL_alarm_X4_alarms : GoodIn wsL_alarm (wsV RL 93 RX4 yX4_alarms wsX4_alarms) := goodIn_app (goodIn_of _ (by decide +kernel)) ggL_alarm_X4_alarms
set_option maxRecDepth 20000 in
theorem ggL_alarm_X4_addRegion : GoodIn wsL_alarm wsX4_addRegion := goodIn_ca (goodIn_ca (goodIn_r _ [53, 54, 55, 15, 56, 57, 58, 59, 60, 61, 62, 63, 3, 64, 65, 66, 45, 46, 47, 14, 48, 49, 67, 68, 69, 70, 71, 72, 73, 74, 75, 76, 77, 78, 79, 80, 81, 82, 26, 83, 84, 85, 86, 10, 11, 87, 88, 89, 90, 91, 92, 93, 94, 95, 96, 97, 98, 99, 100, 101, 102, 103, 104, 105, 106, 107, 108, 25, 109, 110, 111, 112, 113, 114, 115, 116, 117, 118, 119, 120, 121, 122, 123, 124, 125, 126, 127, 128, 129, 130, 131, 132, 133, 134, 135, 136, 137, 138, 139, 140, 141, 142, 404, 405, 406, 407, 408, 409, 410, 414, 415, 416, 417, 411, 412, 413] (by decide +kernel) (by decide +kernel)) (goodIn_sub (fun _ h => List.mem_cons_of_mem _ (List.mem_append_left _ (List.mem_append_left _ (List.mem_append_right _ h)))) (by decide +kernel))) (goodIn_sub (fun _ h => List.mem_cons_of_mem _ (List.mem_append_left _ (List.mem_append_right _ h))) (by decide +kernel))
set_option maxRecDepth 20000 in
theorem gL_alarm_X4_addRegion : GoodIn wsL_alarm (wsV RL 7 RX4 yX4_addRegion wsX4_addRegion) := goodIn_app (goodIn_of _ (by decide +kernel)) ggL_alarm_X4_addRegion
set_option maxRecDepth 20000 in
theorem ggL_alarm_X4_addCheck : GoodIn wsL_alarm wsX4_addCheck := goodIn_ca (goodIn_ca (goodIn_r _ [146, 54, 55, 16, 147, 148, 149, 150, 151, 3, 152, 153, 154, 45, 46, 47, 14, 48, 49, 155, 156, 157, 158, 10, 11, 159, 160, 161, 162, 163, 164, 165, 166, 167, 91, 92, 93, 94, 95, 96, 26, 97, 98, 99, 100, 101, 102, 103, 104, 105, 106, 107, 108, 25, 109, 110, 111, 112, 113, 114, 115, 116, 117, 118, 119, 120, 121, 122, 123, 124, 125, 126, 127, 128, 129, 130, 131, 132, 133, 134, 135, 136, 137, 138, 139, 140, 141, 142, 404, 405, 406, 407, 408, 409, 410, 418, 419, 420, 421, 422, 423, 424, 425, 426, 427, 428, 429, 430, 411, 412, 413] (by decide +kernel) (by decide +kernel)) (goodIn_sub (fun _ h => List.mem_cons_of_mem _ (List.mem_append_left _ (List.mem_append_left _ (List.mem_append_right _ h)))) (by decide +kernel))) (goodIn_sub (fun _ h => List.mem_cons_of_mem _ (List.mem_append_right _ h)) (by decide +kernel))
set_option maxRecDepth 20000 in
theorem gL_alarm_X4_addCheck : GoodIn wsL_alarm (wsV RL 13 RX4 yX4_addCheck wsX4_addCheck) := goodIn_app (goodIn_of _ (by decide +kernel)) ggL_alarm_X4_addCheck
set_option maxRecDepth 20000 in
theorem ggL_alarm_X4_nextProbe : GoodIn wsL_alarm wsX4_nextProbe := goodIn_ca (goodIn_r _ [171, 16, 172, 21, 173, 174, 175, 3, 176, 65, 66, 45, 46, 47, 14, 48, 49, 61, 62, 63, 64, 15, 67, 68, 69, 70, 71, 72, 73, 74, 75, 76, 77, 78, 79, 80, 81, 82, 26, 177, 178, 179, 149, 180, 166, 167, 161, 160, 404, 405, 406, 407, 408, 409, 410, 411, 412, 413, 418, 419, 420, 421, 422, 423, 424, 425, 426, 427, 428, 429, 430] (by decide +kernel) (by decide +kernel)) (goodIn_sub (fun _ h => List.mem_cons_of_mem _ (List.mem_append_left _ (List.mem_append_right _ h))) (by decide +kernel))
set_option maxRecDepth 20000 in
theorem gL_alarm_X4_nextProbe : GoodIn wsL_alarm (wsV RL 65 RX4 yX4_nextProbe wsX4_nextProbe) := goodIn_app (goodIn_of _ (by decide +kernel)) ggL_alarm_X4_nextProbe
set_option maxRecDepth 20000 in
theorem ggL_alarm_X4_verdict : GoodIn wsL_alarm wsX4_verdict := goodIn_ca (goodIn_r _ [184, 16, 172, 185, 173, 174, 175, 3, 176, 65, 66, 45, 46, 47, 14, 48, 49, 67, 68, 69, 70, 71, 72, 73, 74, 75, 76, 77, 78, 79, 80, 81, 82, 26, 404, 405, 406, 407, 408, 409, 410, 418, 419, 420, 421, 422, 423, 424, 425, 426, 427, 428, 429, 430, 411, 412, 413] (by decide +kernel) (by decide +kernel)) (goodIn_sub (fun _ h => List.mem_cons_of_mem _ (List.mem_append_left _ (List.mem_append_right _ h))) (by decide +kernel))
set_option maxRecDepth 20000 in
theorem gL_alarm_X4_verdict : GoodIn wsL_alarm (wsV RL 42 RX4 yX4_verdict wsX4_verdict) := goodIn_app (goodIn_of _ (by decide +kernel)) ggL_alarm_X4_verdict
set_option maxRecDepth 20000 in
theorem gL_alarm_L_act : GoodIn wsL_alarm (va_wsS RL 97 yL_act wsL_act) := goodIn_app (goodIn_of _ (by decide +kernel)) ggL_alarm_L_act
set_option maxRecDepth 20000 in
theorem gL_alarm_L_refuses : GoodIn wsL_alarm (va_wsS RL 105 yL_refuses wsL_refuses) := goodIn_app (goodIn_of _ (by decide +kernel)) ggL_alarm_L_refuses
set_option maxRecDepth 20000 in
theorem ggL_alarm_X4_pass : GoodIn wsL_alarm wsX4_pass := goodIn_ca (goodIn_r _ [244, 18, 150, 151, 3, 152, 153, 154, 45, 46, 47, 14, 48, 49, 245, 246, 247, 248, 21, 249, 250, 251, 252, 16, 15, 172, 56, 67, 68, 69, 70, 71, 72, 73, 74, 75, 76, 77, 78, 79, 80, 81, 82, 26, 253, 254, 255, 149, 256, 257, 178, 179, 180, 166, 167, 161, 160, 258, 259, 260, 261, 262, 263, 264, 265, 266, 267, 268, 197, 57, 19, 198, 199, 200, 269, 270, 271, 272, 165, 162, 159, 273, 274, 275, 276, 277, 278, 279, 280, 20, 281, 282, 283, 284, 285, 201, 89, 90, 286, 287, 288, 289, 290, 291, 292, 293, 294, 295, 296, 297, 163, 298, 299, 300, 301, 302, 303, 304, 305, 306, 307, 308, 309, 185, 310, 311, 312, 313, 314, 315, 17, 230, 316, 317, 318, 319, 320, 218, 321, 224, 225, 322, 323, 324, 325, 326, 327, 328, 329, 330, 331, 332, 333, 10, 11, 334, 335, 336, 91, 92, 93, 94, 95, 96, 97, 98, 99, 100, 101, 102, 103, 104, 105, 106, 107, 108, 25, 109, 110, 111, 112, 113, 114, 115, 116, 117, 118, 119, 120, 121, 122, 123, 124, 125, 126, 127, 128, 129, 130, 131, 132, 133, 134, 135, 136, 137, 138, 139, 140, 141, 142, 337, 338, 339, 340, 341, 342, 404, 405, 406, 407, 408, 409, 410, 411, 412, 413, 418, 419, 420, 421, 422, 423, 424, 425, 426, 427, 428, 429, 430, 414, 415, 416, 417, 434, 435, 436, 431, 432, 433] (by decide +kernel) (by decide +kernel)) (goodIn_sub (fun _ h => List.mem_cons_of_mem _ (List.mem_append_right _ h)) (by decide +kernel))
set_option maxRecDepth 20000 in
theorem gL_alarm_X4_pass : GoodIn wsL_alarm (wsV RL 36 RX4 yX4_pass wsX4_pass) := goodIn_app (goodIn_of _ (by decide +kernel)) ggL_alarm_X4_pass
set_option maxRecDepth 20000 in
theorem ggL_alarm_X4_vote : GoodIn wsL_alarm wsX4_vote := goodIn_ca (goodIn_r _ [379, 16, 172, 285, 173, 174, 175, 3, 176, 65, 66, 45, 46, 47, 14, 48, 49, 61, 62, 63, 64, 15, 67, 68, 69, 70, 71, 72, 73, 74, 75, 76, 77, 78, 79, 80, 81, 82, 26, 404, 405, 406, 407, 408, 409, 410, 418, 419, 420, 421, 422, 423, 424, 425, 426, 427, 428, 429, 430, 411, 412, 413] (by decide +kernel) (by decide +kernel)) (goodIn_sub (fun _ h => List.mem_cons_of_mem _ (List.mem_append_left _ (List.mem_append_right _ h))) (by decide +kernel))
set_option maxRecDepth 20000 in
theorem gL_alarm_X4_vote : GoodIn wsL_alarm (wsV RL 71 RX4 yX4_vote wsX4_vote) := goodIn_app (goodIn_of _ (by decide +kernel)) ggL_alarm_X4_vote
set_option maxRecDepth 20000 in
theorem ggL_alarm_X4_probes : GoodIn wsL_alarm wsX4_probes := goodIn_ca (goodIn_r _ [362, 15, 56, 262, 61, 62, 63, 3, 64, 65, 66, 45, 46, 47, 14, 48, 49, 67, 68, 69, 70, 71, 72, 73, 74, 75, 76, 77, 78, 79, 80, 81, 82, 26, 404, 405, 406, 407, 408, 409, 410, 414, 415, 416, 417, 411, 412, 413] (by decide +kernel) (by decide +kernel)) (goodIn_sub (fun _ h => List.mem_cons_of_mem _ (List.mem_append_left _ (List.mem_append_right _ h))) (by decide +kernel))
set_option maxRecDepth 20000 in
theorem gL_alarm_X4_probes : GoodIn wsL_alarm (wsV RL 56 RX4 yX4_probes wsX4_probes) := goodIn_app (goodIn_of _ (by decide +kernel)) ggL_alarm_X4_probes
set_option maxRecDepth 20000 in
theorem ggL_alarm_X4_failures : GoodIn wsL_alarm wsX4_failures := goodIn_ca (goodIn_r _ [366, 15, 56, 263, 61, 62, 63, 3, 64, 65, 66, 45, 46, 47, 14, 48, 49, 67, 68, 69, 70, 71, 72, 73, 74, 75, 76, 77, 78, 79, 80, 81, 82, 26, 404, 405, 406, 407, 408, 409, 410, 414, 415, 416, 417, 411, 412, 413] (by decide +kernel) (by decide +kernel)) (goodIn_sub (fun _ h => List.mem_cons_of_mem _ (List.mem_append_left _ (List.mem_append_right _ h))) (by decide +kernel))
set_option maxRecDepth 20000 in
theorem gL_alarm_X4_failures : GoodIn wsL_alarm (wsV RL 59 RX4 yX4_failures wsX4_failures) := goodIn_app (goodIn_of _ (by decide +kernel)) ggL_alarm_X4_failures
set_option maxRecDepth 20000 in
theorem ggL_alarm_X4_trusted : GoodIn wsL_alarm wsX4_trusted := goodIn_ca (goodIn_r _ [350, 16, 172, 173, 174, 175, 3, 176, 65, 66, 45, 46, 47, 14, 48, 49, 67, 68, 69, 70, 71, 72, 73, 74, 75, 76, 77, 78, 79, 80, 81, 82, 26, 290, 291, 292, 293, 15, 285, 56, 57, 20, 201, 89, 90, 404, 405, 406, 407, 408, 409, 410, 411, 412, 413, 418, 419, 420, 421, 422, 423, 424, 425, 426, 427, 428, 429, 430, 414, 415, 416, 417] (by decide +kernel) (by decide +kernel)) (goodIn_sub (fun _ h => List.mem_cons_of_mem _ (List.mem_append_left _ (List.mem_append_right _ h))) (by decide +kernel))
set_option maxRecDepth 20000 in
theorem gL_alarm_X4_trusted : GoodIn wsL_alarm (wsV RL 45 RX4 yX4_trusted wsX4_trusted) := goodIn_app (goodIn_of _ (by decide +kernel)) ggL_alarm_X4_trusted
set_option maxRecDepth 20000 in
theorem ggL_alarm_X4_availability : GoodIn wsL_alarm wsX4_availability := goodIn_ca (goodIn_ca (goodIn_r _ [358, 54, 55, 16, 172, 341, 342, 173, 174, 175, 3, 176, 65, 66, 45, 46, 47, 14, 48, 49, 67, 68, 69, 70, 71, 72, 73, 74, 75, 76, 77, 78, 79, 80, 81, 82, 26, 404, 405, 406, 407, 408, 409, 410, 418, 419, 420, 421, 422, 423, 424, 425, 426, 427, 428, 429, 430, 411, 412, 413] (by decide +kernel) (by decide +kernel)) (goodIn_sub (fun _ h => List.mem_cons_of_mem _ (List.mem_append_left _ (List.mem_append_left _ (List.mem_append_right _ h)))) (by decide +kernel))) (goodIn_sub (fun _ h => List.mem_cons_of_mem _ (List.mem_append_left _ (List.mem_append_right _ h))) (by decide +kernel))
set_option maxRecDepth 20000 in
theorem gL_alarm_X4_availability : GoodIn wsL_alarm (wsV RL 52 RX4 yX4_availability wsX4_availability) := goodIn_app (goodIn_of _ (by decide +kernel)) ggL_alarm_X4_availability
set_option maxRecDepth 20000 in
theorem ggL_alarm_X4_setDown : GoodIn wsL_alarm wsX4_setDown := goodIn_ca (goodIn_r _ [196, 16, 172, 197, 173, 174, 175, 3, 176, 65, 66, 45, 46, 47, 14, 48, 49, 61, 62, 63, 64, 15, 67, 68, 69, 70, 71, 72, 73, 74, 75, 76, 77, 78, 79, 80, 81, 82, 26, 198, 199, 200, 201, 89, 90, 404, 405, 406, 407, 408, 409, 410, 418, 419, 420, 421, 422, 423, 424, 425, 426, 427, 428, 429, 430, 411, 412, 413] (by decide +kernel) (by decide +kernel)) (goodIn_sub (fun _ h => List.mem_cons_of_mem _ (List.mem_append_left _ (List.mem_append_right _ h))) (by decide +kernel))
set_option maxRecDepth 20000 in
theorem gL_alarm_X4_setDown : GoodIn wsL_alarm (wsV RL 17 RX4 yX4_setDown wsX4_setDown) := goodIn_app (goodIn_of _ (by decide +kernel)) ggL_alarm_X4_setDown
set_option maxRecDepth 20000 in
theorem ggL_alarm_X4_failing : GoodIn wsL_alarm wsX4_failing := goodIn_ca (goodIn_r _ [346, 15, 16, 172, 56, 173, 174, 175, 3, 176, 65, 66, 45, 46, 47, 14, 48, 49, 67, 68, 69, 70, 71, 72, 73, 74, 75, 76, 77, 78, 79, 80, 81, 82, 26, 265, 266, 267, 268, 197, 264, 57, 19, 198, 199, 200, 201, 89, 90, 404, 405, 406, 407, 408, 409, 410, 411, 412, 413, 418, 419, 420, 421, 422, 423, 424, 425, 426, 427, 428, 429, 430, 414, 415, 416, 417] (by decide +kernel) (by decide +kernel)) (goodIn_sub (fun _ h => List.mem_cons_of_mem _ (List.mem_append_left _ (List.mem_append_right _ h))) (by decide +kernel))
set_option maxRecDepth 20000 in
theorem gL_alarm_X4_failing : GoodIn wsL_alarm (wsV RL 39 RX4 yX4_failing wsX4_failing) := goodIn_app (goodIn_of _ (by decide +kernel)) ggL_alarm_X4_failing
set_option maxRecDepth 20000 in
theorem ggL_alarm_X4_repetition : GoodIn wsL_alarm wsX4_repetition := goodIn_ca (goodIn_r _ [374, 16, 172, 375, 173, 174, 175, 3, 176, 65, 66, 45, 46, 47, 14, 48, 49, 61, 62, 63, 64, 15, 67, 68, 69, 70, 71, 72, 73, 74, 75, 76, 77, 78, 79, 80, 81, 82, 26, 404, 405, 406, 407, 408, 409, 410, 418, 419, 420, 421, 422, 423, 424, 425, 426, 427, 428, 429, 430, 411, 412, 413] (by decide +kernel) (by decide +kernel)) (goodIn_sub (fun _ h => List.mem_cons_of_mem _ (List.mem_append_left _ (List.mem_append_right _ h))) (by decide +kernel))
set_option maxRecDepth 20000 in
theorem gL_alarm_X4_repetition : GoodIn wsL_alarm (wsV RL 68 RX4 yX4_repetition wsX4_repetition) := goodIn_app (goodIn_of _ (by decide +kernel)) ggL_alarm_X4_repetition
set_option maxRecDepth 20000 in
theorem ggL_alarm_X4_isBad : GoodIn wsL_alarm wsX4_isBad := goodIn_ca (goodIn_r _ [370, 20, 61, 62, 63, 3, 64, 65, 66, 15, 45, 46, 47, 14, 48, 49, 198, 199, 200, 404, 405, 406, 407, 408, 409, 410, 411, 412, 413] (by decide +kernel) (by decide +kernel)) (goodIn_sub (fun _ h => List.mem_cons_of_mem _ (List.mem_append_left _ (List.mem_append_right _ h))) (by decide +kernel))
set_option maxRecDepth 20000 in
theorem gL_alarm_X4_isBad : GoodIn wsL_alarm (wsV RL 62 RX4 yX4_isBad wsX4_isBad) := goodIn_app (goodIn_of _ (by decide +kernel)) ggL_alarm_X4_isBad
set_option maxRecDepth 20000 in
theorem ggL_alarm_X4_alarmCheck : GoodIn wsL_alarm wsX4_alarmCheck := goodIn_ca (goodIn_r _ [383, 18, 384, 385, 386, 387, 388, 3, 389, 65, 66, 45, 46, 47, 14, 48, 49, 67, 68, 69, 70, 71, 72, 73, 74, 75, 76, 77, 78, 79, 80, 81, 82, 26, 404, 405, 406, 407, 408, 409, 410, 434, 435, 436, 411, 412, 413] (by decide +kernel) (by decide +kernel)) (goodIn_sub (fun _ h => List.mem_cons_of_mem _ (List.mem_append_left _ (List.mem_append_right _ h))) (by decide +kernel))
set_option maxRecDepth 20000 in
theorem gL_alarm_X4_alarmCheck : GoodIn wsL_alarm (wsV RL 74 RX4 yX4_alarmCheck wsX4_alarmCheck) := goodIn_app (goodIn_of _ (by decide +kernel)) ggL_alarm_X4_alarmCheck
set_option maxRecDepth 20000 in
theorem ggL_alarm_X4_alarmRaised : GoodIn wsL_alarm wsX4_alarmRaised := goodIn_ca (goodIn_r _ [393, 18, 384, 394, 386, 387, 388, 3, 389, 65, 66, 45, 46, 47, 14, 48, 49, 67, 68, 69, 70, 71, 72, 73, 74, 75, 76, 77, 78, 79, 80, 81, 82, 26, 404, 405, 406, 407, 408, 409, 410, 434, 435, 436, 411, 412, 413] (by decide +kernel) (by decide +kernel)) (goodIn_sub (fun _ h => List.mem_cons_of_mem _ (List.mem_append_left _ (List.mem_append_right _ h))) (by decide +kernel))
set_option maxRecDepth 20000 in
theorem gL_alarm_X4_alarmRaised : GoodIn wsL_alarm (wsV RL 77 RX4 yX4_alarmRaised wsX4_alarmRaised) := goodIn_app (goodIn_of _ (by decide +kernel)) ggL_alarm_X4_alarmRaised
set_option maxRecDepth 20000 in
theorem ggL_alarm_X4_alarmClosed : GoodIn wsL_alarm wsX4_alarmClosed := goodIn_ca (goodIn_r _ [398, 18, 384, 311, 386, 387, 388, 3, 389, 65, 66, 45, 46, 47, 14, 48, 49, 67, 68, 69, 70, 71, 72, 73, 74, 75, 76, 77, 78, 79, 80, 81, 82, 26, 404, 405, 406, 407, 408, 409, 410, 434, 435, 436, 411, 412, 413] (by decide +kernel) (by decide +kernel)) (goodIn_sub (fun _ h => List.mem_cons_of_mem _ (List.mem_append_left _ (List.mem_append_right _ h))) (by decide +kernel))
set_option maxRecDepth 20000 in
theorem gL_alarm_X4_alarmClosed : GoodIn wsL_alarm (wsV RL 80 RX4 yX4_alarmClosed wsX4_alarmClosed) := goodIn_app (goodIn_of _ (by decide +kernel)) ggL_alarm_X4_alarmClosed
set_option maxRecDepth 20000 in
theorem ggL_alarm_X4_hasAlarm : GoodIn wsL_alarm wsX4_hasAlarm := goodIn_ca (goodIn_r _ [354, 16, 172, 310, 173, 174, 175, 3, 176, 65, 66, 45, 46, 47, 14, 48, 49, 67, 68, 69, 70, 71, 72, 73, 74, 75, 76, 77, 78, 79, 80, 81, 82, 26, 404, 405, 406, 407, 408, 409, 410, 418, 419, 420, 421, 422, 423, 424, 425, 426, 427, 428, 429, 430, 411, 412, 413] (by decide +kernel) (by decide +kernel)) (goodIn_sub (fun _ h => List.mem_cons_of_mem _ (List.mem_append_left _ (List.mem_append_right _ h))) (by decide +kernel))
set_option maxRecDepth 20000 in
theorem gL_alarm_X4_hasAlarm : GoodIn wsL_alarm (wsV RL 48 RX4 yX4_hasAlarm wsX4_hasAlarm) := goodIn_app (goodIn_of _ (by decide +kernel)) ggL_alarm_X4_hasAlarm
theorem dL_alarm_0 : decode cL_alarm 0 = .ok (.new 8, 3) := by decide +kernel
theorem dL_alarm_3 : decode cL_alarm 3 = .ok (.dup, 1) := by decide +kernel
theorem dL_alarm_4 : decode cL_alarm 4 = .ok (.invokespecial 104, 3) := by decide +kernel
theorem dL_alarm_7 : decode cL_alarm 7 = .ok (.astore_n 0, 1) := by decide +kernel
theorem dL_alarm_8 : decode cL_alarm 8 = .ok (.aload_n 0, 1) := by decide +kernel
theorem dL_alarm_9 : decode cL_alarm 9 = .ok (.invokevirtual 89, 3) := by decide +kernel
theorem dL_alarm_12 : decode cL_alarm 12 = .ok (.ifCond .ne 152, 3) := by decide +kernel
theorem dL_alarm_15 : decode cL_alarm 15 = .ok (.aload_n 0, 1) := by decide +kernel
theorem dL_alarm_16 : decode cL_alarm 16 = .ok (.invokevirtual 93, 3) := by decide +kernel
theorem dL_alarm_19 : decode cL_alarm 19 = .ok (.ifCond .ne 145, 3) := by decide +kernel
theorem dL_alarm_22 : decode cL_alarm 22 = .ok (.aload_n 0, 1) := by decide +kernel
theorem dL_alarm_23 : decode cL_alarm 23 = .ok (.iconst (-1), 1) := by decide +kernel
theorem dL_alarm_24 : decode cL_alarm 24 = .ok (.invokevirtual 7, 3) := by decide +kernel
theorem dL_alarm_27 : decode cL_alarm 27 = .ok (.ifCond .ne 137, 3) := by decide +kernel
theorem dL_alarm_30 : decode cL_alarm 30 = .ok (.aload_n 0, 1) := by decide +kernel
theorem dL_alarm_31 : decode cL_alarm 31 = .ok (.iconst (-1), 1) := by decide +kernel
theorem dL_alarm_32 : decode cL_alarm 32 = .ok (.invokevirtual 7, 3) := by decide +kernel
theorem dL_alarm_35 : decode cL_alarm 35 = .ok (.iconst 1, 1) := by decide +kernel
theorem dL_alarm_36 : decode cL_alarm 36 = .ok (.if_icmp .ne 128, 3) := by decide +kernel
theorem dL_alarm_39 : decode cL_alarm 39 = .ok (.aload_n 0, 1) := by decide +kernel
theorem dL_alarm_40 : decode cL_alarm 40 = .ok (.iconst 1, 1) := by decide +kernel
theorem dL_alarm_41 : decode cL_alarm 41 = .ok (.invokevirtual 7, 3) := by decide +kernel
theorem dL_alarm_44 : decode cL_alarm 44 = .ok (.iconst 2, 1) := by decide +kernel
theorem dL_alarm_45 : decode cL_alarm 45 = .ok (.if_icmp .ne 119, 3) := by decide +kernel
theorem dL_alarm_48 : decode cL_alarm 48 = .ok (.aload_n 0, 1) := by decide +kernel
theorem dL_alarm_49 : decode cL_alarm 49 = .ok (.iconst 5, 1) := by decide +kernel
theorem dL_alarm_50 : decode cL_alarm 50 = .ok (.iconst 0, 1) := by decide +kernel
theorem dL_alarm_51 : decode cL_alarm 51 = .ok (.iconst 2, 1) := by decide +kernel
theorem dL_alarm_52 : decode cL_alarm 52 = .ok (.iconst 2, 1) := by decide +kernel
theorem dL_alarm_53 : decode cL_alarm 53 = .ok (.invokevirtual 13, 3) := by decide +kernel
theorem dL_alarm_56 : decode cL_alarm 56 = .ok (.ifCond .ne 108, 3) := by decide +kernel
theorem dL_alarm_59 : decode cL_alarm 59 = .ok (.aload_n 0, 1) := by decide +kernel
theorem dL_alarm_60 : decode cL_alarm 60 = .ok (.iconst 3, 1) := by decide +kernel
theorem dL_alarm_61 : decode cL_alarm 61 = .ok (.iconst 1, 1) := by decide +kernel
theorem dL_alarm_62 : decode cL_alarm 62 = .ok (.iconst 0, 1) := by decide +kernel
theorem dL_alarm_63 : decode cL_alarm 63 = .ok (.iconst 1, 1) := by decide +kernel
theorem dL_alarm_64 : decode cL_alarm 64 = .ok (.invokevirtual 13, 3) := by decide +kernel
theorem dL_alarm_67 : decode cL_alarm 67 = .ok (.iconst 1, 1) := by decide +kernel
theorem dL_alarm_68 : decode cL_alarm 68 = .ok (.if_icmp .ne 96, 3) := by decide +kernel
theorem dL_alarm_71 : decode cL_alarm 71 = .ok (.aload_n 0, 1) := by decide +kernel
theorem dL_alarm_72 : decode cL_alarm 72 = .ok (.iconst 0, 1) := by decide +kernel
theorem dL_alarm_73 : decode cL_alarm 73 = .ok (.iconst 0, 1) := by decide +kernel
theorem dL_alarm_74 : decode cL_alarm 74 = .ok (.invokevirtual 65, 3) := by decide +kernel
theorem dL_alarm_77 : decode cL_alarm 77 = .ok (.iconst 5, 1) := by decide +kernel
theorem dL_alarm_78 : decode cL_alarm 78 = .ok (.if_icmp .ne 86, 3) := by decide +kernel
theorem dL_alarm_81 : decode cL_alarm 81 = .ok (.aload_n 0, 1) := by decide +kernel
theorem dL_alarm_82 : decode cL_alarm 82 = .ok (.iconst 0, 1) := by decide +kernel
theorem dL_alarm_83 : decode cL_alarm 83 = .ok (.iconst 1, 1) := by decide +kernel
theorem dL_alarm_84 : decode cL_alarm 84 = .ok (.invokevirtual 65, 3) := by decide +kernel
theorem dL_alarm_87 : decode cL_alarm 87 = .ok (.iconst 1, 1) := by decide +kernel
theorem dL_alarm_88 : decode cL_alarm 88 = .ok (.if_icmp .ne 76, 3) := by decide +kernel
theorem dL_alarm_91 : decode cL_alarm 91 = .ok (.aload_n 0, 1) := by decide +kernel
theorem dL_alarm_92 : decode cL_alarm 92 = .ok (.iconst 0, 1) := by decide +kernel
theorem dL_alarm_93 : decode cL_alarm 93 = .ok (.iconst 2, 1) := by decide +kernel
theorem dL_alarm_94 : decode cL_alarm 94 = .ok (.invokevirtual 65, 3) := by decide +kernel
theorem dL_alarm_97 : decode cL_alarm 97 = .ok (.iconst 2, 1) := by decide +kernel
theorem dL_alarm_98 : decode cL_alarm 98 = .ok (.if_icmp .ne 66, 3) := by decide +kernel
theorem dL_alarm_101 : decode cL_alarm 101 = .ok (.aload_n 0, 1) := by decide +kernel
theorem dL_alarm_102 : decode cL_alarm 102 = .ok (.iconst 1, 1) := by decide +kernel
theorem dL_alarm_103 : decode cL_alarm 103 = .ok (.iconst 0, 1) := by decide +kernel
theorem dL_alarm_104 : decode cL_alarm 104 = .ok (.invokevirtual 65, 3) := by decide +kernel
theorem dL_alarm_107 : decode cL_alarm 107 = .ok (.iconst 1, 1) := by decide +kernel
theorem dL_alarm_108 : decode cL_alarm 108 = .ok (.if_icmp .ne 56, 3) := by decide +kernel
theorem dL_alarm_111 : decode cL_alarm 111 = .ok (.aload_n 0, 1) := by decide +kernel
theorem dL_alarm_112 : decode cL_alarm 112 = .ok (.iconst 1, 1) := by decide +kernel
theorem dL_alarm_113 : decode cL_alarm 113 = .ok (.iconst 1, 1) := by decide +kernel
theorem dL_alarm_114 : decode cL_alarm 114 = .ok (.invokevirtual 65, 3) := by decide +kernel
theorem dL_alarm_117 : decode cL_alarm 117 = .ok (.iconst 2, 1) := by decide +kernel
theorem dL_alarm_118 : decode cL_alarm 118 = .ok (.if_icmp .ne 46, 3) := by decide +kernel
theorem dL_alarm_121 : decode cL_alarm 121 = .ok (.aload_n 0, 1) := by decide +kernel
theorem dL_alarm_122 : decode cL_alarm 122 = .ok (.iconst 1, 1) := by decide +kernel
theorem dL_alarm_123 : decode cL_alarm 123 = .ok (.iconst 2, 1) := by decide +kernel
theorem dL_alarm_124 : decode cL_alarm 124 = .ok (.invokevirtual 65, 3) := by decide +kernel
theorem dL_alarm_127 : decode cL_alarm 127 = .ok (.iconst 3, 1) := by decide +kernel
theorem dL_alarm_128 : decode cL_alarm 128 = .ok (.if_icmp .ne 36, 3) := by decide +kernel
theorem dL_alarm_131 : decode cL_alarm 131 = .ok (.aload_n 0, 1) := by decide +kernel
theorem dL_alarm_132 : decode cL_alarm 132 = .ok (.iconst 0, 1) := by decide +kernel
theorem dL_alarm_133 : decode cL_alarm 133 = .ok (.invokevirtual 42, 3) := by decide +kernel
theorem dL_alarm_136 : decode cL_alarm 136 = .ok (.ifCond .ne 28, 3) := by decide +kernel
theorem dL_alarm_139 : decode cL_alarm 139 = .ok (.aload_n 0, 1) := by decide +kernel
theorem dL_alarm_140 : decode cL_alarm 140 = .ok (.bipush 12, 2) := by decide +kernel
theorem dL_alarm_142 : decode cL_alarm 142 = .ok (.iconst 0, 1) := by decide +kernel
theorem dL_alarm_143 : decode cL_alarm 143 = .ok (.iconst 0, 1) := by decide +kernel
theorem dL_alarm_144 : decode cL_alarm 144 = .ok (.iconst 0, 1) := by decide +kernel
theorem dL_alarm_145 : decode cL_alarm 145 = .ok (.iconst 0, 1) := by decide +kernel
theorem dL_alarm_146 : decode cL_alarm 146 = .ok (.invokestatic 97, 3) := by decide +kernel
theorem dL_alarm_149 : decode cL_alarm 149 = .ok (.bipush (-43), 2) := by decide +kernel
theorem dL_alarm_151 : decode cL_alarm 151 = .ok (.if_icmp .ne 13, 3) := by decide +kernel
theorem dL_alarm_154 : decode cL_alarm 154 = .ok (.aload_n 0, 1) := by decide +kernel
theorem dL_alarm_155 : decode cL_alarm 155 = .ok (.iconst 3, 1) := by decide +kernel
theorem dL_alarm_156 : decode cL_alarm 156 = .ok (.iconst 2, 1) := by decide +kernel
theorem dL_alarm_157 : decode cL_alarm 157 = .ok (.iconst 0, 1) := by decide +kernel
theorem dL_alarm_158 : decode cL_alarm 158 = .ok (.invokestatic 105, 3) := by decide +kernel
theorem dL_alarm_161 : decode cL_alarm 161 = .ok (.ifCond .ne 5, 3) := by decide +kernel
theorem dL_alarm_164 : decode cL_alarm 164 = .ok (.iconst 0, 1) := by decide +kernel
theorem dL_alarm_165 : decode cL_alarm 165 = .ok (.ireturn, 1) := by decide +kernel
theorem dL_alarm_166 : decode cL_alarm 166 = .ok (.aload_n 0, 1) := by decide +kernel
theorem dL_alarm_167 : decode cL_alarm 167 = .ok (.iconst 3, 1) := by decide +kernel
theorem dL_alarm_168 : decode cL_alarm 168 = .ok (.invokevirtual 36, 3) := by decide +kernel
theorem dL_alarm_171 : decode cL_alarm 171 = .ok (.ifCond .ne 191, 3) := by decide +kernel
theorem dL_alarm_174 : decode cL_alarm 174 = .ok (.aload_n 0, 1) := by decide +kernel
theorem dL_alarm_175 : decode cL_alarm 175 = .ok (.invokevirtual 89, 3) := by decide +kernel
theorem dL_alarm_178 : decode cL_alarm 178 = .ok (.iconst 3, 1) := by decide +kernel
theorem dL_alarm_179 : decode cL_alarm 179 = .ok (.if_icmp .ne 183, 3) := by decide +kernel
theorem dL_alarm_182 : decode cL_alarm 182 = .ok (.aload_n 0, 1) := by decide +kernel
theorem dL_alarm_183 : decode cL_alarm 183 = .ok (.iconst 0, 1) := by decide +kernel
theorem dL_alarm_184 : decode cL_alarm 184 = .ok (.iconst 0, 1) := by decide +kernel
theorem dL_alarm_185 : decode cL_alarm 185 = .ok (.invokevirtual 71, 3) := by decide +kernel
theorem dL_alarm_188 : decode cL_alarm 188 = .ok (.ifCond .ne 174, 3) := by decide +kernel
theorem dL_alarm_191 : decode cL_alarm 191 = .ok (.aload_n 0, 1) := by decide +kernel
theorem dL_alarm_192 : decode cL_alarm 192 = .ok (.iconst 0, 1) := by decide +kernel
theorem dL_alarm_193 : decode cL_alarm 193 = .ok (.iconst 1, 1) := by decide +kernel
theorem dL_alarm_194 : decode cL_alarm 194 = .ok (.invokevirtual 71, 3) := by decide +kernel
theorem dL_alarm_197 : decode cL_alarm 197 = .ok (.iconst 1, 1) := by decide +kernel
theorem dL_alarm_198 : decode cL_alarm 198 = .ok (.if_icmp .ne 164, 3) := by decide +kernel
theorem dL_alarm_201 : decode cL_alarm 201 = .ok (.aload_n 0, 1) := by decide +kernel
theorem dL_alarm_202 : decode cL_alarm 202 = .ok (.iconst 0, 1) := by decide +kernel
theorem dL_alarm_203 : decode cL_alarm 203 = .ok (.iconst 2, 1) := by decide +kernel
theorem dL_alarm_204 : decode cL_alarm 204 = .ok (.invokevirtual 71, 3) := by decide +kernel
theorem dL_alarm_207 : decode cL_alarm 207 = .ok (.iconst 1, 1) := by decide +kernel
theorem dL_alarm_208 : decode cL_alarm 208 = .ok (.if_icmp .ne 154, 3) := by decide +kernel
theorem dL_alarm_211 : decode cL_alarm 211 = .ok (.aload_n 0, 1) := by decide +kernel
theorem dL_alarm_212 : decode cL_alarm 212 = .ok (.iconst 1, 1) := by decide +kernel
theorem dL_alarm_213 : decode cL_alarm 213 = .ok (.iconst 0, 1) := by decide +kernel
theorem dL_alarm_214 : decode cL_alarm 214 = .ok (.invokevirtual 71, 3) := by decide +kernel
theorem dL_alarm_217 : decode cL_alarm 217 = .ok (.iconst 1, 1) := by decide +kernel
theorem dL_alarm_218 : decode cL_alarm 218 = .ok (.if_icmp .ne 144, 3) := by decide +kernel
theorem dL_alarm_221 : decode cL_alarm 221 = .ok (.aload_n 0, 1) := by decide +kernel
theorem dL_alarm_222 : decode cL_alarm 222 = .ok (.iconst 1, 1) := by decide +kernel
theorem dL_alarm_223 : decode cL_alarm 223 = .ok (.iconst 2, 1) := by decide +kernel
theorem dL_alarm_224 : decode cL_alarm 224 = .ok (.invokevirtual 71, 3) := by decide +kernel
theorem dL_alarm_227 : decode cL_alarm 227 = .ok (.iconst 1, 1) := by decide +kernel
theorem dL_alarm_228 : decode cL_alarm 228 = .ok (.if_icmp .ne 134, 3) := by decide +kernel
theorem dL_alarm_231 : decode cL_alarm 231 = .ok (.aload_n 0, 1) := by decide +kernel
theorem dL_alarm_232 : decode cL_alarm 232 = .ok (.iconst 0, 1) := by decide +kernel
theorem dL_alarm_233 : decode cL_alarm 233 = .ok (.invokevirtual 56, 3) := by decide +kernel
theorem dL_alarm_236 : decode cL_alarm 236 = .ok (.iconst 1, 1) := by decide +kernel
theorem dL_alarm_237 : decode cL_alarm 237 = .ok (.if_icmp .ne 125, 3) := by decide +kernel
theorem dL_alarm_240 : decode cL_alarm 240 = .ok (.aload_n 0, 1) := by decide +kernel
theorem dL_alarm_241 : decode cL_alarm 241 = .ok (.iconst 1, 1) := by decide +kernel
theorem dL_alarm_242 : decode cL_alarm 242 = .ok (.invokevirtual 56, 3) := by decide +kernel
theorem dL_alarm_245 : decode cL_alarm 245 = .ok (.iconst 2, 1) := by decide +kernel
theorem dL_alarm_246 : decode cL_alarm 246 = .ok (.if_icmp .ne 116, 3) := by decide +kernel
theorem dL_alarm_249 : decode cL_alarm 249 = .ok (.aload_n 0, 1) := by decide +kernel
theorem dL_alarm_250 : decode cL_alarm 250 = .ok (.iconst 2, 1) := by decide +kernel
theorem dL_alarm_251 : decode cL_alarm 251 = .ok (.invokevirtual 56, 3) := by decide +kernel
theorem dL_alarm_254 : decode cL_alarm 254 = .ok (.iconst 2, 1) := by decide +kernel
theorem dL_alarm_255 : decode cL_alarm 255 = .ok (.if_icmp .ne 107, 3) := by decide +kernel
theorem dL_alarm_258 : decode cL_alarm 258 = .ok (.aload_n 0, 1) := by decide +kernel
theorem dL_alarm_259 : decode cL_alarm 259 = .ok (.iconst 1, 1) := by decide +kernel
theorem dL_alarm_260 : decode cL_alarm 260 = .ok (.invokevirtual 59, 3) := by decide +kernel
theorem dL_alarm_263 : decode cL_alarm 263 = .ok (.ifCond .ne 99, 3) := by decide +kernel
theorem dL_alarm_266 : decode cL_alarm 266 = .ok (.aload_n 0, 1) := by decide +kernel
theorem dL_alarm_267 : decode cL_alarm 267 = .ok (.iconst 0, 1) := by decide +kernel
theorem dL_alarm_268 : decode cL_alarm 268 = .ok (.invokevirtual 42, 3) := by decide +kernel
theorem dL_alarm_271 : decode cL_alarm 271 = .ok (.iconst 1, 1) := by decide +kernel
theorem dL_alarm_272 : decode cL_alarm 272 = .ok (.if_icmp .ne 90, 3) := by decide +kernel
theorem dL_alarm_275 : decode cL_alarm 275 = .ok (.aload_n 0, 1) := by decide +kernel
theorem dL_alarm_276 : decode cL_alarm 276 = .ok (.iconst 1, 1) := by decide +kernel
theorem dL_alarm_277 : decode cL_alarm 277 = .ok (.invokevirtual 42, 3) := by decide +kernel
theorem dL_alarm_280 : decode cL_alarm 280 = .ok (.iconst 1, 1) := by decide +kernel
theorem dL_alarm_281 : decode cL_alarm 281 = .ok (.if_icmp .ne 81, 3) := by decide +kernel
theorem dL_alarm_284 : decode cL_alarm 284 = .ok (.aload_n 0, 1) := by decide +kernel
theorem dL_alarm_285 : decode cL_alarm 285 = .ok (.iconst 0, 1) := by decide +kernel
theorem dL_alarm_286 : decode cL_alarm 286 = .ok (.invokevirtual 45, 3) := by decide +kernel
theorem dL_alarm_289 : decode cL_alarm 289 = .ok (.bipush 6, 2) := by decide +kernel
theorem dL_alarm_291 : decode cL_alarm 291 = .ok (.if_icmp .ne 71, 3) := by decide +kernel
theorem dL_alarm_294 : decode cL_alarm 294 = .ok (.aload_n 0, 1) := by decide +kernel
theorem dL_alarm_295 : decode cL_alarm 295 = .ok (.iconst 1, 1) := by decide +kernel
theorem dL_alarm_296 : decode cL_alarm 296 = .ok (.invokevirtual 45, 3) := by decide +kernel
theorem dL_alarm_299 : decode cL_alarm 299 = .ok (.bipush 7, 2) := by decide +kernel
theorem dL_alarm_301 : decode cL_alarm 301 = .ok (.if_icmp .ne 61, 3) := by decide +kernel
theorem dL_alarm_304 : decode cL_alarm 304 = .ok (.aload_n 0, 1) := by decide +kernel
theorem dL_alarm_305 : decode cL_alarm 305 = .ok (.iconst 0, 1) := by decide +kernel
theorem dL_alarm_306 : decode cL_alarm 306 = .ok (.invokevirtual 52, 3) := by decide +kernel
theorem dL_alarm_309 : decode cL_alarm 309 = .ok (.fconst 1, 1) := by decide +kernel
theorem dL_alarm_310 : decode cL_alarm 310 = .ok (.fcmp .l, 1) := by decide +kernel
theorem dL_alarm_311 : decode cL_alarm 311 = .ok (.ifCond .ne 51, 3) := by decide +kernel
theorem dL_alarm_314 : decode cL_alarm 314 = .ok (.aload_n 0, 1) := by decide +kernel
theorem dL_alarm_315 : decode cL_alarm 315 = .ok (.iconst 0, 1) := by decide +kernel
theorem dL_alarm_316 : decode cL_alarm 316 = .ok (.iconst 1, 1) := by decide +kernel
theorem dL_alarm_317 : decode cL_alarm 317 = .ok (.iconst 1, 1) := by decide +kernel
theorem dL_alarm_318 : decode cL_alarm 318 = .ok (.invokevirtual 17, 3) := by decide +kernel
theorem dL_alarm_321 : decode cL_alarm 321 = .ok (.ifCond .ne 41, 3) := by decide +kernel
theorem dL_alarm_324 : decode cL_alarm 324 = .ok (.aload_n 0, 1) := by decide +kernel
theorem dL_alarm_325 : decode cL_alarm 325 = .ok (.iconst 0, 1) := by decide +kernel
theorem dL_alarm_326 : decode cL_alarm 326 = .ok (.iconst 2, 1) := by decide +kernel
theorem dL_alarm_327 : decode cL_alarm 327 = .ok (.iconst 1, 1) := by decide +kernel
theorem dL_alarm_328 : decode cL_alarm 328 = .ok (.invokevirtual 17, 3) := by decide +kernel
theorem dL_alarm_331 : decode cL_alarm 331 = .ok (.ifCond .ne 31, 3) := by decide +kernel
theorem dL_alarm_334 : decode cL_alarm 334 = .ok (.aload_n 0, 1) := by decide +kernel
theorem dL_alarm_335 : decode cL_alarm 335 = .ok (.iconst 0, 1) := by decide +kernel
theorem dL_alarm_336 : decode cL_alarm 336 = .ok (.iconst 1, 1) := by decide +kernel
theorem dL_alarm_337 : decode cL_alarm 337 = .ok (.iconst 1, 1) := by decide +kernel
theorem dL_alarm_338 : decode cL_alarm 338 = .ok (.invokevirtual 17, 3) := by decide +kernel
theorem dL_alarm_341 : decode cL_alarm 341 = .ok (.ifCond .eq 21, 3) := by decide +kernel
theorem dL_alarm_344 : decode cL_alarm 344 = .ok (.aload_n 0, 1) := by decide +kernel
theorem dL_alarm_345 : decode cL_alarm 345 = .ok (.iconst 0, 1) := by decide +kernel
theorem dL_alarm_346 : decode cL_alarm 346 = .ok (.invokevirtual 39, 3) := by decide +kernel
theorem dL_alarm_349 : decode cL_alarm 349 = .ok (.bipush 6, 2) := by decide +kernel
theorem dL_alarm_351 : decode cL_alarm 351 = .ok (.if_icmp .ne 11, 3) := by decide +kernel
theorem dL_alarm_354 : decode cL_alarm 354 = .ok (.aload_n 0, 1) := by decide +kernel
theorem dL_alarm_355 : decode cL_alarm 355 = .ok (.iconst 1, 1) := by decide +kernel
theorem dL_alarm_356 : decode cL_alarm 356 = .ok (.invokevirtual 39, 3) := by decide +kernel
theorem dL_alarm_359 : decode cL_alarm 359 = .ok (.ifCond .eq 5, 3) := by decide +kernel
theorem dL_alarm_362 : decode cL_alarm 362 = .ok (.iconst 0, 1) := by decide +kernel
theorem dL_alarm_363 : decode cL_alarm 363 = .ok (.ireturn, 1) := by decide +kernel
theorem dL_alarm_364 : decode cL_alarm 364 = .ok (.aload_n 0, 1) := by decide +kernel
theorem dL_alarm_365 : decode cL_alarm 365 = .ok (.iconst 4, 1) := by decide +kernel
theorem dL_alarm_366 : decode cL_alarm 366 = .ok (.invokevirtual 36, 3) := by decide +kernel
theorem dL_alarm_369 : decode cL_alarm 369 = .ok (.ifCond .ne 128, 3) := by decide +kernel
theorem dL_alarm_372 : decode cL_alarm 372 = .ok (.aload_n 0, 1) := by decide +kernel
theorem dL_alarm_373 : decode cL_alarm 373 = .ok (.iconst 0, 1) := by decide +kernel
theorem dL_alarm_374 : decode cL_alarm 374 = .ok (.iconst 1, 1) := by decide +kernel
theorem dL_alarm_375 : decode cL_alarm 375 = .ok (.invokevirtual 68, 3) := by decide +kernel
theorem dL_alarm_378 : decode cL_alarm 378 = .ok (.iconst 2, 1) := by decide +kernel
theorem dL_alarm_379 : decode cL_alarm 379 = .ok (.if_icmp .ne 118, 3) := by decide +kernel
theorem dL_alarm_382 : decode cL_alarm 382 = .ok (.aload_n 0, 1) := by decide +kernel
theorem dL_alarm_383 : decode cL_alarm 383 = .ok (.iconst 0, 1) := by decide +kernel
theorem dL_alarm_384 : decode cL_alarm 384 = .ok (.iconst 1, 1) := by decide +kernel
theorem dL_alarm_385 : decode cL_alarm 385 = .ok (.invokevirtual 65, 3) := by decide +kernel
theorem dL_alarm_388 : decode cL_alarm 388 = .ok (.bipush 11, 2) := by decide +kernel
theorem dL_alarm_390 : decode cL_alarm 390 = .ok (.if_icmp .ne 107, 3) := by decide +kernel
theorem dL_alarm_393 : decode cL_alarm 393 = .ok (.aload_n 0, 1) := by decide +kernel
theorem dL_alarm_394 : decode cL_alarm 394 = .ok (.iconst 0, 1) := by decide +kernel
theorem dL_alarm_395 : decode cL_alarm 395 = .ok (.iconst 2, 1) := by decide +kernel
theorem dL_alarm_396 : decode cL_alarm 396 = .ok (.invokevirtual 68, 3) := by decide +kernel
theorem dL_alarm_399 : decode cL_alarm 399 = .ok (.iconst 1, 1) := by decide +kernel
theorem dL_alarm_400 : decode cL_alarm 400 = .ok (.if_icmp .ne 97, 3) := by decide +kernel
theorem dL_alarm_403 : decode cL_alarm 403 = .ok (.aload_n 0, 1) := by decide +kernel
theorem dL_alarm_404 : decode cL_alarm 404 = .ok (.iconst 0, 1) := by decide +kernel
theorem dL_alarm_405 : decode cL_alarm 405 = .ok (.iconst 2, 1) := by decide +kernel
theorem dL_alarm_406 : decode cL_alarm 406 = .ok (.invokevirtual 65, 3) := by decide +kernel
theorem dL_alarm_409 : decode cL_alarm 409 = .ok (.bipush 9, 2) := by decide +kernel
theorem dL_alarm_411 : decode cL_alarm 411 = .ok (.if_icmp .ne 86, 3) := by decide +kernel
theorem dL_alarm_414 : decode cL_alarm 414 = .ok (.aload_n 0, 1) := by decide +kernel
theorem dL_alarm_415 : decode cL_alarm 415 = .ok (.iconst 0, 1) := by decide +kernel
theorem dL_alarm_416 : decode cL_alarm 416 = .ok (.iconst 0, 1) := by decide +kernel
theorem dL_alarm_417 : decode cL_alarm 417 = .ok (.invokevirtual 68, 3) := by decide +kernel
theorem dL_alarm_420 : decode cL_alarm 420 = .ok (.ifCond .ne 77, 3) := by decide +kernel
theorem dL_alarm_423 : decode cL_alarm 423 = .ok (.aload_n 0, 1) := by decide +kernel
theorem dL_alarm_424 : decode cL_alarm 424 = .ok (.iconst 0, 1) := by decide +kernel
theorem dL_alarm_425 : decode cL_alarm 425 = .ok (.iconst 1, 1) := by decide +kernel
theorem dL_alarm_426 : decode cL_alarm 426 = .ok (.invokevirtual 71, 3) := by decide +kernel
theorem dL_alarm_429 : decode cL_alarm 429 = .ok (.iconst 1, 1) := by decide +kernel
theorem dL_alarm_430 : decode cL_alarm 430 = .ok (.if_icmp .ne 67, 3) := by decide +kernel
theorem dL_alarm_433 : decode cL_alarm 433 = .ok (.aload_n 0, 1) := by decide +kernel
theorem dL_alarm_434 : decode cL_alarm 434 = .ok (.iconst 0, 1) := by decide +kernel
theorem dL_alarm_435 : decode cL_alarm 435 = .ok (.iconst 0, 1) := by decide +kernel
theorem dL_alarm_436 : decode cL_alarm 436 = .ok (.invokevirtual 71, 3) := by decide +kernel
theorem dL_alarm_439 : decode cL_alarm 439 = .ok (.iconst 1, 1) := by decide +kernel
theorem dL_alarm_440 : decode cL_alarm 440 = .ok (.if_icmp .ne 57, 3) := by decide +kernel
theorem dL_alarm_443 : decode cL_alarm 443 = .ok (.aload_n 0, 1) := by decide +kernel
theorem dL_alarm_444 : decode cL_alarm 444 = .ok (.iconst 1, 1) := by decide +kernel
theorem dL_alarm_445 : decode cL_alarm 445 = .ok (.invokevirtual 59, 3) := by decide +kernel
theorem dL_alarm_448 : decode cL_alarm 448 = .ok (.iconst 2, 1) := by decide +kernel
theorem dL_alarm_449 : decode cL_alarm 449 = .ok (.if_icmp .ne 48, 3) := by decide +kernel
theorem dL_alarm_452 : decode cL_alarm 452 = .ok (.aload_n 0, 1) := by decide +kernel
theorem dL_alarm_453 : decode cL_alarm 453 = .ok (.iconst 2, 1) := by decide +kernel
theorem dL_alarm_454 : decode cL_alarm 454 = .ok (.invokevirtual 59, 3) := by decide +kernel
theorem dL_alarm_457 : decode cL_alarm 457 = .ok (.iconst 1, 1) := by decide +kernel
theorem dL_alarm_458 : decode cL_alarm 458 = .ok (.if_icmp .ne 39, 3) := by decide +kernel
theorem dL_alarm_461 : decode cL_alarm 461 = .ok (.aload_n 0, 1) := by decide +kernel
theorem dL_alarm_462 : decode cL_alarm 462 = .ok (.iconst 0, 1) := by decide +kernel
theorem dL_alarm_463 : decode cL_alarm 463 = .ok (.invokevirtual 56, 3) := by decide +kernel
theorem dL_alarm_466 : decode cL_alarm 466 = .ok (.iconst 4, 1) := by decide +kernel
theorem dL_alarm_467 : decode cL_alarm 467 = .ok (.if_icmp .ne 30, 3) := by decide +kernel
theorem dL_alarm_470 : decode cL_alarm 470 = .ok (.aload_n 0, 1) := by decide +kernel
theorem dL_alarm_471 : decode cL_alarm 471 = .ok (.iconst 1, 1) := by decide +kernel
theorem dL_alarm_472 : decode cL_alarm 472 = .ok (.invokevirtual 56, 3) := by decide +kernel
theorem dL_alarm_475 : decode cL_alarm 475 = .ok (.iconst 5, 1) := by decide +kernel
theorem dL_alarm_476 : decode cL_alarm 476 = .ok (.if_icmp .ne 21, 3) := by decide +kernel
theorem dL_alarm_479 : decode cL_alarm 479 = .ok (.aload_n 0, 1) := by decide +kernel
theorem dL_alarm_480 : decode cL_alarm 480 = .ok (.iconst 2, 1) := by decide +kernel
theorem dL_alarm_481 : decode cL_alarm 481 = .ok (.invokevirtual 56, 3) := by decide +kernel
theorem dL_alarm_484 : decode cL_alarm 484 = .ok (.iconst 4, 1) := by decide +kernel
theorem dL_alarm_485 : decode cL_alarm 485 = .ok (.if_icmp .ne 12, 3) := by decide +kernel
theorem dL_alarm_488 : decode cL_alarm 488 = .ok (.aload_n 0, 1) := by decide +kernel
theorem dL_alarm_489 : decode cL_alarm 489 = .ok (.iconst 0, 1) := by decide +kernel
theorem dL_alarm_490 : decode cL_alarm 490 = .ok (.invokevirtual 42, 3) := by decide +kernel
theorem dL_alarm_493 : decode cL_alarm 493 = .ok (.iconst 1, 1) := by decide +kernel
theorem dL_alarm_494 : decode cL_alarm 494 = .ok (.if_icmp .eq 5, 3) := by decide +kernel
theorem dL_alarm_497 : decode cL_alarm 497 = .ok (.iconst 0, 1) := by decide +kernel
theorem dL_alarm_498 : decode cL_alarm 498 = .ok (.ireturn, 1) := by decide +kernel
theorem dL_alarm_499 : decode cL_alarm 499 = .ok (.aload_n 0, 1) := by decide +kernel
theorem dL_alarm_500 : decode cL_alarm 500 = .ok (.iconst 4, 1) := by decide +kernel
theorem dL_alarm_501 : decode cL_alarm 501 = .ok (.invokevirtual 36, 3) := by decide +kernel
theorem dL_alarm_504 : decode cL_alarm 504 = .ok (.iconst 1, 1) := by decide +kernel
theorem dL_alarm_505 : decode cL_alarm 505 = .ok (.if_icmp .ne 170, 3) := by decide +kernel
theorem dL_alarm_508 : decode cL_alarm 508 = .ok (.aload_n 0, 1) := by decide +kernel
theorem dL_alarm_509 : decode cL_alarm 509 = .ok (.invokevirtual 89, 3) := by decide +kernel
theorem dL_alarm_512 : decode cL_alarm 512 = .ok (.bipush 11, 2) := by decide +kernel
theorem dL_alarm_514 : decode cL_alarm 514 = .ok (.if_icmp .ne 161, 3) := by decide +kernel
theorem dL_alarm_517 : decode cL_alarm 517 = .ok (.aload_n 0, 1) := by decide +kernel
theorem dL_alarm_518 : decode cL_alarm 518 = .ok (.iconst 0, 1) := by decide +kernel
theorem dL_alarm_519 : decode cL_alarm 519 = .ok (.iconst 1, 1) := by decide +kernel
theorem dL_alarm_520 : decode cL_alarm 520 = .ok (.invokevirtual 71, 3) := by decide +kernel
theorem dL_alarm_523 : decode cL_alarm 523 = .ok (.iconst 2, 1) := by decide +kernel
theorem dL_alarm_524 : decode cL_alarm 524 = .ok (.if_icmp .ne 151, 3) := by decide +kernel
theorem dL_alarm_527 : decode cL_alarm 527 = .ok (.aload_n 0, 1) := by decide +kernel
theorem dL_alarm_528 : decode cL_alarm 528 = .ok (.iconst 0, 1) := by decide +kernel
theorem dL_alarm_529 : decode cL_alarm 529 = .ok (.iconst 2, 1) := by decide +kernel
theorem dL_alarm_530 : decode cL_alarm 530 = .ok (.invokevirtual 71, 3) := by decide +kernel
theorem dL_alarm_533 : decode cL_alarm 533 = .ok (.iconst 2, 1) := by decide +kernel
theorem dL_alarm_534 : decode cL_alarm 534 = .ok (.if_icmp .ne 141, 3) := by decide +kernel
theorem dL_alarm_537 : decode cL_alarm 537 = .ok (.aload_n 0, 1) := by decide +kernel
theorem dL_alarm_538 : decode cL_alarm 538 = .ok (.iconst 0, 1) := by decide +kernel
theorem dL_alarm_539 : decode cL_alarm 539 = .ok (.iconst 1, 1) := by decide +kernel
theorem dL_alarm_540 : decode cL_alarm 540 = .ok (.invokevirtual 68, 3) := by decide +kernel
theorem dL_alarm_543 : decode cL_alarm 543 = .ok (.ifCond .ne 132, 3) := by decide +kernel
theorem dL_alarm_546 : decode cL_alarm 546 = .ok (.aload_n 0, 1) := by decide +kernel
theorem dL_alarm_547 : decode cL_alarm 547 = .ok (.iconst 1, 1) := by decide +kernel
theorem dL_alarm_548 : decode cL_alarm 548 = .ok (.invokevirtual 62, 3) := by decide +kernel
theorem dL_alarm_551 : decode cL_alarm 551 = .ok (.ifCond .ne 124, 3) := by decide +kernel
theorem dL_alarm_554 : decode cL_alarm 554 = .ok (.aload_n 0, 1) := by decide +kernel
theorem dL_alarm_555 : decode cL_alarm 555 = .ok (.iconst 2, 1) := by decide +kernel
theorem dL_alarm_556 : decode cL_alarm 556 = .ok (.invokevirtual 62, 3) := by decide +kernel
theorem dL_alarm_559 : decode cL_alarm 559 = .ok (.ifCond .ne 116, 3) := by decide +kernel
theorem dL_alarm_562 : decode cL_alarm 562 = .ok (.aload_n 0, 1) := by decide +kernel
theorem dL_alarm_563 : decode cL_alarm 563 = .ok (.iconst 0, 1) := by decide +kernel
theorem dL_alarm_564 : decode cL_alarm 564 = .ok (.invokevirtual 42, 3) := by decide +kernel
theorem dL_alarm_567 : decode cL_alarm 567 = .ok (.iconst 2, 1) := by decide +kernel
theorem dL_alarm_568 : decode cL_alarm 568 = .ok (.if_icmp .ne 107, 3) := by decide +kernel
theorem dL_alarm_571 : decode cL_alarm 571 = .ok (.aload_n 0, 1) := by decide +kernel
theorem dL_alarm_572 : decode cL_alarm 572 = .ok (.invokevirtual 93, 3) := by decide +kernel
theorem dL_alarm_575 : decode cL_alarm 575 = .ok (.iconst 1, 1) := by decide +kernel
theorem dL_alarm_576 : decode cL_alarm 576 = .ok (.if_icmp .ne 99, 3) := by decide +kernel
theorem dL_alarm_579 : decode cL_alarm 579 = .ok (.aload_n 0, 1) := by decide +kernel
theorem dL_alarm_580 : decode cL_alarm 580 = .ok (.iconst 0, 1) := by decide +kernel
theorem dL_alarm_581 : decode cL_alarm 581 = .ok (.invokevirtual 74, 3) := by decide +kernel
theorem dL_alarm_584 : decode cL_alarm 584 = .ok (.ifCond .ne 91, 3) := by decide +kernel
theorem dL_alarm_587 : decode cL_alarm 587 = .ok (.aload_n 0, 1) := by decide +kernel
theorem dL_alarm_588 : decode cL_alarm 588 = .ok (.iconst 0, 1) := by decide +kernel
theorem dL_alarm_589 : decode cL_alarm 589 = .ok (.invokevirtual 77, 3) := by decide +kernel
theorem dL_alarm_592 : decode cL_alarm 592 = .ok (.bipush 11, 2) := by decide +kernel
theorem dL_alarm_594 : decode cL_alarm 594 = .ok (.if_icmp .ne 81, 3) := by decide +kernel
theorem dL_alarm_597 : decode cL_alarm 597 = .ok (.aload_n 0, 1) := by decide +kernel
theorem dL_alarm_598 : decode cL_alarm 598 = .ok (.iconst 0, 1) := by decide +kernel
theorem dL_alarm_599 : decode cL_alarm 599 = .ok (.invokevirtual 80, 3) := by decide +kernel
theorem dL_alarm_602 : decode cL_alarm 602 = .ok (.iconst (-1), 1) := by decide +kernel
theorem dL_alarm_603 : decode cL_alarm 603 = .ok (.if_icmp .ne 72, 3) := by decide +kernel
theorem dL_alarm_606 : decode cL_alarm 606 = .ok (.aload_n 0, 1) := by decide +kernel
theorem dL_alarm_607 : decode cL_alarm 607 = .ok (.iconst 0, 1) := by decide +kernel
theorem dL_alarm_608 : decode cL_alarm 608 = .ok (.invokevirtual 48, 3) := by decide +kernel
theorem dL_alarm_611 : decode cL_alarm 611 = .ok (.ifCond .eq 64, 3) := by decide +kernel
theorem dL_alarm_614 : decode cL_alarm 614 = .ok (.aload_n 0, 1) := by decide +kernel
theorem dL_alarm_615 : decode cL_alarm 615 = .ok (.iconst 1, 1) := by decide +kernel
theorem dL_alarm_616 : decode cL_alarm 616 = .ok (.invokevirtual 48, 3) := by decide +kernel
theorem dL_alarm_619 : decode cL_alarm 619 = .ok (.ifCond .ne 56, 3) := by decide +kernel
theorem dL_alarm_622 : decode cL_alarm 622 = .ok (.aload_n 0, 1) := by decide +kernel
theorem dL_alarm_623 : decode cL_alarm 623 = .ok (.iconst 0, 1) := by decide +kernel
theorem dL_alarm_624 : decode cL_alarm 624 = .ok (.invokevirtual 52, 3) := by decide +kernel
theorem dL_alarm_627 : decode cL_alarm 627 = .ok (.ldc 109, 2) := by decide +kernel
theorem dL_alarm_629 : decode cL_alarm 629 = .ok (.fcmp .l, 1) := by decide +kernel
theorem dL_alarm_630 : decode cL_alarm 630 = .ok (.ifCond .ne 45, 3) := by decide +kernel
theorem dL_alarm_633 : decode cL_alarm 633 = .ok (.aload_n 0, 1) := by decide +kernel
theorem dL_alarm_634 : decode cL_alarm 634 = .ok (.iconst 1, 1) := by decide +kernel
theorem dL_alarm_635 : decode cL_alarm 635 = .ok (.invokevirtual 52, 3) := by decide +kernel
theorem dL_alarm_638 : decode cL_alarm 638 = .ok (.fconst 1, 1) := by decide +kernel
theorem dL_alarm_639 : decode cL_alarm 639 = .ok (.fcmp .l, 1) := by decide +kernel
theorem dL_alarm_640 : decode cL_alarm 640 = .ok (.ifCond .ne 35, 3) := by decide +kernel
theorem dL_alarm_643 : decode cL_alarm 643 = .ok (.aload_n 0, 1) := by decide +kernel
theorem dL_alarm_644 : decode cL_alarm 644 = .ok (.iconst 0, 1) := by decide +kernel
theorem dL_alarm_645 : decode cL_alarm 645 = .ok (.iconst 1, 1) := by decide +kernel
theorem dL_alarm_646 : decode cL_alarm 646 = .ok (.invokevirtual 65, 3) := by decide +kernel
theorem dL_alarm_649 : decode cL_alarm 649 = .ok (.bipush 16, 2) := by decide +kernel
theorem dL_alarm_651 : decode cL_alarm 651 = .ok (.if_icmp .ne 24, 3) := by decide +kernel
theorem dL_alarm_654 : decode cL_alarm 654 = .ok (.aload_n 0, 1) := by decide +kernel
theorem dL_alarm_655 : decode cL_alarm 655 = .ok (.iconst 0, 1) := by decide +kernel
theorem dL_alarm_656 : decode cL_alarm 656 = .ok (.iconst 2, 1) := by decide +kernel
theorem dL_alarm_657 : decode cL_alarm 657 = .ok (.invokevirtual 65, 3) := by decide +kernel
theorem dL_alarm_660 : decode cL_alarm 660 = .ok (.bipush 12, 2) := by decide +kernel
theorem dL_alarm_662 : decode cL_alarm 662 = .ok (.if_icmp .ne 13, 3) := by decide +kernel
theorem dL_alarm_665 : decode cL_alarm 665 = .ok (.aload_n 0, 1) := by decide +kernel
theorem dL_alarm_666 : decode cL_alarm 666 = .ok (.iconst 3, 1) := by decide +kernel
theorem dL_alarm_667 : decode cL_alarm 667 = .ok (.iconst 2, 1) := by decide +kernel
theorem dL_alarm_668 : decode cL_alarm 668 = .ok (.iconst 0, 1) := by decide +kernel
theorem dL_alarm_669 : decode cL_alarm 669 = .ok (.invokestatic 105, 3) := by decide +kernel
theorem dL_alarm_672 : decode cL_alarm 672 = .ok (.ifCond .ne 5, 3) := by decide +kernel
theorem dL_alarm_675 : decode cL_alarm 675 = .ok (.iconst 0, 1) := by decide +kernel
theorem dL_alarm_676 : decode cL_alarm 676 = .ok (.ireturn, 1) := by decide +kernel
theorem dL_alarm_677 : decode cL_alarm 677 = .ok (.aload_n 0, 1) := by decide +kernel
theorem dL_alarm_678 : decode cL_alarm 678 = .ok (.iconst 0, 1) := by decide +kernel
theorem dL_alarm_679 : decode cL_alarm 679 = .ok (.iconst 1, 1) := by decide +kernel
theorem dL_alarm_680 : decode cL_alarm 680 = .ok (.iconst 0, 1) := by decide +kernel
theorem dL_alarm_681 : decode cL_alarm 681 = .ok (.invokevirtual 17, 3) := by decide +kernel
theorem dL_alarm_684 : decode cL_alarm 684 = .ok (.ifCond .eq 97, 3) := by decide +kernel
theorem dL_alarm_687 : decode cL_alarm 687 = .ok (.aload_n 0, 1) := by decide +kernel
theorem dL_alarm_688 : decode cL_alarm 688 = .ok (.iconst 4, 1) := by decide +kernel
theorem dL_alarm_689 : decode cL_alarm 689 = .ok (.invokevirtual 36, 3) := by decide +kernel
theorem dL_alarm_692 : decode cL_alarm 692 = .ok (.ifCond .ne 89, 3) := by decide +kernel
theorem dL_alarm_695 : decode cL_alarm 695 = .ok (.aload_n 0, 1) := by decide +kernel
theorem dL_alarm_696 : decode cL_alarm 696 = .ok (.iconst 0, 1) := by decide +kernel
theorem dL_alarm_697 : decode cL_alarm 697 = .ok (.invokevirtual 48, 3) := by decide +kernel
theorem dL_alarm_700 : decode cL_alarm 700 = .ok (.ifCond .eq 81, 3) := by decide +kernel
theorem dL_alarm_703 : decode cL_alarm 703 = .ok (.aload_n 0, 1) := by decide +kernel
theorem dL_alarm_704 : decode cL_alarm 704 = .ok (.iconst 1, 1) := by decide +kernel
theorem dL_alarm_705 : decode cL_alarm 705 = .ok (.invokevirtual 36, 3) := by decide +kernel
theorem dL_alarm_708 : decode cL_alarm 708 = .ok (.ifCond .ne 73, 3) := by decide +kernel
theorem dL_alarm_711 : decode cL_alarm 711 = .ok (.aload_n 0, 1) := by decide +kernel
theorem dL_alarm_712 : decode cL_alarm 712 = .ok (.iconst 0, 1) := by decide +kernel
theorem dL_alarm_713 : decode cL_alarm 713 = .ok (.iconst 1, 1) := by decide +kernel
theorem dL_alarm_714 : decode cL_alarm 714 = .ok (.invokevirtual 71, 3) := by decide +kernel
theorem dL_alarm_717 : decode cL_alarm 717 = .ok (.iconst 1, 1) := by decide +kernel
theorem dL_alarm_718 : decode cL_alarm 718 = .ok (.if_icmp .ne 63, 3) := by decide +kernel
theorem dL_alarm_721 : decode cL_alarm 721 = .ok (.aload_n 0, 1) := by decide +kernel
theorem dL_alarm_722 : decode cL_alarm 722 = .ok (.iconst 0, 1) := by decide +kernel
theorem dL_alarm_723 : decode cL_alarm 723 = .ok (.iconst 2, 1) := by decide +kernel
theorem dL_alarm_724 : decode cL_alarm 724 = .ok (.invokevirtual 71, 3) := by decide +kernel
theorem dL_alarm_727 : decode cL_alarm 727 = .ok (.iconst 2, 1) := by decide +kernel
theorem dL_alarm_728 : decode cL_alarm 728 = .ok (.if_icmp .ne 53, 3) := by decide +kernel
theorem dL_alarm_731 : decode cL_alarm 731 = .ok (.aload_n 0, 1) := by decide +kernel
theorem dL_alarm_732 : decode cL_alarm 732 = .ok (.iconst 0, 1) := by decide +kernel
theorem dL_alarm_733 : decode cL_alarm 733 = .ok (.invokevirtual 42, 3) := by decide +kernel
theorem dL_alarm_736 : decode cL_alarm 736 = .ok (.iconst 1, 1) := by decide +kernel
theorem dL_alarm_737 : decode cL_alarm 737 = .ok (.if_icmp .ne 44, 3) := by decide +kernel
theorem dL_alarm_740 : decode cL_alarm 740 = .ok (.aload_n 0, 1) := by decide +kernel
theorem dL_alarm_741 : decode cL_alarm 741 = .ok (.iconst 0, 1) := by decide +kernel
theorem dL_alarm_742 : decode cL_alarm 742 = .ok (.invokevirtual 48, 3) := by decide +kernel
theorem dL_alarm_745 : decode cL_alarm 745 = .ok (.ifCond .ne 36, 3) := by decide +kernel
theorem dL_alarm_748 : decode cL_alarm 748 = .ok (.aload_n 0, 1) := by decide +kernel
theorem dL_alarm_749 : decode cL_alarm 749 = .ok (.iconst 0, 1) := by decide +kernel
theorem dL_alarm_750 : decode cL_alarm 750 = .ok (.invokevirtual 80, 3) := by decide +kernel
theorem dL_alarm_753 : decode cL_alarm 753 = .ok (.bipush 16, 2) := by decide +kernel
theorem dL_alarm_755 : decode cL_alarm 755 = .ok (.if_icmp .ne 26, 3) := by decide +kernel
theorem dL_alarm_758 : decode cL_alarm 758 = .ok (.aload_n 0, 1) := by decide +kernel
theorem dL_alarm_759 : decode cL_alarm 759 = .ok (.invokevirtual 93, 3) := by decide +kernel
theorem dL_alarm_762 : decode cL_alarm 762 = .ok (.iconst 1, 1) := by decide +kernel
theorem dL_alarm_763 : decode cL_alarm 763 = .ok (.if_icmp .ne 18, 3) := by decide +kernel
theorem dL_alarm_766 : decode cL_alarm 766 = .ok (.aload_n 0, 1) := by decide +kernel
theorem dL_alarm_767 : decode cL_alarm 767 = .ok (.iconst 0, 1) := by decide +kernel
theorem dL_alarm_768 : decode cL_alarm 768 = .ok (.invokevirtual 52, 3) := by decide +kernel
theorem dL_alarm_771 : decode cL_alarm 771 = .ok (.ldc 110, 2) := by decide +kernel
theorem dL_alarm_773 : decode cL_alarm 773 = .ok (.fcmp .l, 1) := by decide +kernel
theorem dL_alarm_774 : decode cL_alarm 774 = .ok (.ifCond .ne 7, 3) := by decide +kernel
theorem dL_alarm_777 : decode cL_alarm 777 = .ok (.iconst 1, 1) := by decide +kernel
theorem dL_alarm_778 : decode cL_alarm 778 = .ok (.goto 4, 3) := by decide +kernel
theorem dL_alarm_781 : decode cL_alarm 781 = .ok (.iconst 0, 1) := by decide +kernel
theorem dL_alarm_782 : decode cL_alarm 782 = .ok (.ireturn, 1) := by decide +kernel
