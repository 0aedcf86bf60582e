set_option maxRecDepth 20000 in
theorem ggL_law_X4_init : GoodIn wsL_law wsX4_init := goodIn_r _ [10, 11, 12, 13, 14, 15, 16, 17, 18, 19, 20, 21, 22, 23, 24, 25, 26, 27, 28, 29, 30, 31, 32, 33, 34, 35, 36, 37, 38, 689, 690, 691, 654, 655, 656, 657, 658, 659, 660] (by decide +kernel) (by decide +kernel)
set_option maxRecDepth 20000 in
theorem gL_law_X4_init : GoodIn wsL_law (wsX4_init) := ggL_law_X4_init
set_option maxRecDepth 20000 in
theorem ggL_law_X5_init : GoodIn wsL_law wsX5_init := goodIn_r _ [41, 42, 12, 13, 43, 44, 45, 46, 47, 48, 49, 50, 51, 52, 53, 54, 55, 56, 57, 58, 59, 60, 61, 62, 63, 64, 65, 66, 67, 661, 662, 663, 664, 665, 666, 667, 668, 669, 670, 671, 672, 673, 674, 675, 676, 677, 678, 679, 680, 681, 682, 683, 684, 685, 686, 687, 688] (by decide +kernel) (by decide +kernel)
set_option maxRecDepth 20000 in
theorem gL_law_X5_init : GoodIn wsL_law (wsX5_init) := ggL_law_X5_init
set_option maxRecDepth 20000 in
theorem ggL_law_L_addRegion : GoodIn wsL_law wsL_addRegion := goodIn_ca (goodIn_ca (goodIn_r _ [71, 72, 73, 74, 75, 76, 2, 77, 78, 79, 17, 80, 81, 82, 83, 84, 85, 86, 87, 88, 89, 90, 91, 92, 93, 16, 94, 95, 96, 97, 98, 99, 100, 101, 102, 103, 104, 105, 106, 107, 108, 109, 110, 111, 28, 112, 113, 114, 115, 12, 13, 116, 117, 118, 119, 120, 121, 122, 123, 124, 125, 126, 127, 128, 129, 130, 131, 132, 133, 134, 135, 136, 137, 27, 138, 139, 140, 141, 142, 143, 144, 145, 146, 147, 148, 149, 150, 151, 152, 153, 154, 155, 156, 157, 158, 159, 160, 161, 162, 163, 164, 165, 166, 167, 168, 169, 170, 171, 654, 655, 656, 657, 658, 659, 660, 692, 693, 694, 695, 689, 690, 691] (by decide +kernel) (by decide +kernel)) (goodIn_sub (fun _ h => List.mem_append_left _ (List.mem_append_left _ (List.mem_append_right _ h))) (by decide +kernel))) (goodIn_sub (fun _ h => List.mem_append_left _ (List.mem_append_right _ h)) (by decide +kernel))
set_option maxRecDepth 20000 in
theorem gL_law_L_addRegion : GoodIn wsL_law (va_wsS RL 93 yL_addRegion wsL_addRegion) := goodIn_app (goodIn_of _ (by decide +kernel)) ggL_law_L_addRegion
set_option maxRecDepth 20000 in
theorem ggL_law_X5_addRegion : GoodIn wsL_law wsX5_addRegion := goodIn_r _ [175, 176, 177, 44, 178, 179, 180, 5, 181, 182, 183, 184, 661, 662, 663, 664, 665, 666, 667, 668, 669, 670, 671, 672, 673, 674, 675, 676, 677, 678, 679, 680, 681, 682, 683, 684, 685, 686, 687, 688] (by decide +kernel) (by decide +kernel)
set_option maxRecDepth 20000 in
theorem gL_law_X5_addRegion : GoodIn wsL_law (wsV RL 98 RX5 yX5_addRegion wsX5_addRegion) := goodIn_app (goodIn_of _ (by decide +kernel)) ggL_law_X5_addRegion
set_option maxRecDepth 20000 in
theorem ggL_law_X5_thrown : GoodIn wsL_law wsX5_thrown := goodIn_r _ [188, 177, 661, 662, 663, 664, 665, 666, 667, 668, 669, 670, 671, 672, 673, 674, 675, 676, 677, 678, 679, 680, 681, 682, 683, 684, 685, 686, 687, 688] (by decide +kernel) (by decide +kernel)
set_option maxRecDepth 20000 in
theorem gL_law_X5_thrown : GoodIn wsL_law (wsV RL 99 RX5 yX5_thrown wsX5_thrown) := goodIn_app (goodIn_of _ (by decide +kernel)) ggL_law_X5_thrown
set_option maxRecDepth 20000 in
theorem ggL_law_L_addCheck : GoodIn wsL_law wsL_addCheck := goodIn_ca (goodIn_ca (goodIn_r _ [191, 192, 73, 193, 194, 195, 2, 196, 78, 79, 18, 197, 198, 199, 200, 201, 202, 203, 204, 91, 92, 93, 16, 94, 95, 205, 206, 207, 208, 12, 13, 209, 210, 211, 212, 213, 43, 214, 215, 216, 120, 121, 122, 123, 124, 125, 28, 126, 127, 128, 129, 130, 131, 132, 133, 134, 135, 136, 137, 27, 138, 139, 140, 141, 142, 143, 144, 145, 146, 147, 148, 149, 150, 151, 152, 153, 154, 155, 156, 157, 158, 159, 160, 161, 162, 163, 164, 165, 166, 167, 168, 169, 170, 171, 654, 655, 656, 657, 658, 659, 660, 696, 697, 698, 699, 700, 701, 702, 703, 704, 705, 706, 707, 708, 689, 690, 691] (by decide +kernel) (by decide +kernel)) (goodIn_sub (fun _ h => List.mem_append_left _ (List.mem_append_left _ (List.mem_append_right _ h))) (by decide +kernel))) (goodIn_sub (fun _ h => List.mem_append_right _ h) (by decide +kernel))
set_option maxRecDepth 20000 in
theorem gL_law_L_addCheck : GoodIn wsL_law (va_wsS RL 103 yL_addCheck wsL_addCheck) := goodIn_app (goodIn_of _ (by decide +kernel)) ggL_law_L_addCheck
set_option maxRecDepth 20000 in
theorem ggL_law_X5_addCheck : GoodIn wsL_law wsX5_addCheck := goodIn_r _ [220, 221, 177, 50, 51, 52, 53, 55, 182, 183, 5, 184, 661, 662, 663, 664, 665, 666, 667, 668, 669, 670, 671, 672, 673, 674, 675, 676, 677, 678, 679, 680, 681, 682, 683, 684, 685, 686, 687, 688] (by decide +kernel) (by decide +kernel)
set_option maxRecDepth 20000 in
theorem gL_law_X5_addCheck : GoodIn wsL_law (wsV RL 106 RX5 yX5_addCheck wsX5_addCheck) := goodIn_app (goodIn_of _ (by decide +kernel)) ggL_law_X5_addCheck
set_option maxRecDepth 20000 in
theorem ggL_law_L_setDown : GoodIn wsL_law wsL_setDown := goodIn_ca (goodIn_r _ [224, 72, 225, 226, 227, 2, 228, 18, 229, 230, 231, 232, 233, 234, 89, 90, 91, 92, 93, 16, 94, 95, 85, 86, 87, 88, 17, 96, 97, 98, 99, 100, 101, 102, 103, 104, 105, 106, 107, 108, 109, 110, 111, 28, 235, 236, 237, 238, 118, 119, 654, 655, 656, 657, 658, 659, 660, 696, 697, 698, 699, 700, 701, 702, 703, 704, 705, 706, 707, 708, 689, 690, 691] (by decide +kernel) (by decide +kernel)) (goodIn_sub (fun _ h => List.mem_append_left _ (List.mem_append_right _ h)) (by decide +kernel))
set_option maxRecDepth 20000 in
theorem gL_law_L_setDown : GoodIn wsL_law (va_wsS RL 107 yL_setDown wsL_setDown) := goodIn_app (goodIn_of _ (by decide +kernel)) ggL_law_L_setDown
set_option maxRecDepth 20000 in
theorem ggL_law_X5_setDown : GoodIn wsL_law wsX5_setDown := goodIn_r _ [242, 177, 58, 243, 244, 245, 5, 246, 221, 182, 183, 184, 178, 179, 180, 181, 176, 661, 662, 663, 664, 665, 666, 667, 668, 669, 670, 671, 672, 673, 674, 675, 676, 677, 678, 679, 680, 681, 682, 683, 684, 685, 686, 687, 688] (by decide +kernel) (by decide +kernel)
set_option maxRecDepth 20000 in
theorem gL_law_X5_setDown : GoodIn wsL_law (wsV RL 110 RX5 yX5_setDown wsX5_setDown) := goodIn_app (goodIn_of _ (by decide +kernel)) ggL_law_X5_setDown
set_option maxRecDepth 20000 in
theorem ggL_law_L_setCut : GoodIn wsL_law wsL_setCut := goodIn_ca (goodIn_r _ [249, 72, 250, 251, 252, 2, 253, 21, 85, 86, 87, 88, 89, 90, 17, 91, 92, 93, 16, 94, 95, 235, 236, 237, 238, 118, 119, 654, 655, 656, 657, 658, 659, 660, 689, 690, 691] (by decide +kernel) (by decide +kernel)) (goodIn_sub (fun _ h => List.mem_append_left _ (List.mem_append_right _ h)) (by decide +kernel))
set_option maxRecDepth 20000 in
theorem gL_law_L_setCut : GoodIn wsL_law (va_wsS RL 111 yL_setCut wsL_setCut) := goodIn_app (goodIn_of _ (by decide +kernel)) ggL_law_L_setCut
set_option maxRecDepth 20000 in
theorem ggL_law_X5_setCut : GoodIn wsL_law wsX5_setCut := goodIn_r _ [257, 177, 46, 178, 179, 180, 5, 181, 176, 182, 183, 184, 661, 662, 663, 664, 665, 666, 667, 668, 669, 670, 671, 672, 673, 674, 675, 676, 677, 678, 679, 680, 681, 682, 683, 684, 685, 686, 687, 688] (by decide +kernel) (by decide +kernel)
set_option maxRecDepth 20000 in
theorem gL_law_X5_setCut : GoodIn wsL_law (wsV RL 114 RX5 yX5_setCut wsX5_setCut) := goodIn_app (goodIn_of _ (by decide +kernel)) ggL_law_X5_setCut
set_option maxRecDepth 20000 in
theorem ggL_law_L_setQuorum : GoodIn wsL_law wsL_setQuorum := goodIn_ca (goodIn_ca (goodIn_r _ [260, 72, 192, 261, 262, 263, 2, 264, 18, 229, 265, 231, 232, 233, 234, 89, 90, 91, 92, 93, 16, 94, 95, 200, 201, 202, 203, 204, 96, 97, 98, 99, 100, 101, 102, 103, 104, 105, 106, 107, 108, 109, 110, 111, 28, 654, 655, 656, 657, 658, 659, 660, 696, 697, 698, 699, 700, 701, 702, 703, 704, 705, 706, 707, 708, 689, 690, 691] (by decide +kernel) (by decide +kernel)) (goodIn_sub (fun _ h => List.mem_append_left _ (List.mem_append_right _ h)) (by decide +kernel))) (goodIn_sub (fun _ h => List.mem_append_right _ h) (by decide +kernel))
set_option maxRecDepth 20000 in
theorem gL_law_L_setQuorum : GoodIn wsL_law (va_wsS RL 115 yL_setQuorum wsL_setQuorum) := goodIn_app (goodIn_of _ (by decide +kernel)) ggL_law_L_setQuorum
set_option maxRecDepth 20000 in
theorem ggL_law_X5_setQuorum : GoodIn wsL_law wsX5_setQuorum := goodIn_r _ [269, 177, 53, 243, 244, 245, 5, 246, 221, 182, 183, 184, 661, 662, 663, 664, 665, 666, 667, 668, 669, 670, 671, 672, 673, 674, 675, 676, 677, 678, 679, 680, 681, 682, 683, 684, 685, 686, 687, 688] (by decide +kernel) (by decide +kernel)
set_option maxRecDepth 20000 in
theorem gL_law_X5_setQuorum : GoodIn wsL_law (wsV RL 118 RX5 yX5_setQuorum wsX5_setQuorum) := goodIn_app (goodIn_of _ (by decide +kernel)) ggL_law_X5_setQuorum
set_option maxRecDepth 20000 in
theorem ggL_law_L_addWindow : GoodIn wsL_law wsL_addWindow := goodIn_ca (goodIn_ca (goodIn_ca (goodIn_r _ [272, 72, 192, 73, 273, 274, 275, 2, 276, 78, 79, 277, 19, 278, 279, 280, 231, 232, 233, 234, 89, 90, 18, 91, 92, 93, 16, 94, 95, 200, 201, 202, 203, 204, 281, 282, 283, 284, 12, 13, 285, 286, 287, 120, 121, 122, 123, 124, 125, 28, 126, 127, 128, 129, 130, 131, 132, 133, 134, 135, 136, 137, 27, 138, 139, 140, 141, 142, 143, 144, 145, 146, 147, 148, 149, 150, 151, 152, 153, 154, 155, 156, 157, 158, 159, 160, 161, 162, 163, 164, 165, 166, 167, 168, 169, 170, 171, 654, 655, 656, 657, 658, 659, 660, 709, 710, 711, 689, 690, 691] (by decide +kernel) (by decide +kernel)) (goodIn_sub (fun _ h => List.mem_append_left _ (List.mem_append_left _ (List.mem_append_right _ h))) (by decide +kernel))) (goodIn_sub (fun _ h => List.mem_append_left _ (List.mem_append_right _ h)) (by decide +kernel))) (goodIn_sub (fun _ h => List.mem_append_right _ h) (by decide +kernel))
set_option maxRecDepth 20000 in
theorem gL_law_L_addWindow : GoodIn wsL_law (va_wsS RL 119 yL_addWindow wsL_addWindow) := goodIn_app (goodIn_of _ (by decide +kernel)) ggL_law_L_addWindow
set_option maxRecDepth 20000 in
theorem ggL_law_X5_addWindow : GoodIn wsL_law wsX5_addWindow := goodIn_r _ [291, 292, 177, 293, 62, 63, 64, 243, 244, 245, 5, 246, 221, 182, 183, 184, 661, 662, 663, 664, 665, 666, 667, 668, 669, 670, 671, 672, 673, 674, 675, 676, 677, 678, 679, 680, 681, 682, 683, 684, 685, 686, 687, 688] (by decide +kernel) (by decide +kernel)
set_option maxRecDepth 20000 in
theorem gL_law_X5_addWindow : GoodIn wsL_law (wsV RL 122 RX5 yX5_addWindow wsX5_addWindow) := goodIn_app (goodIn_of _ (by decide +kernel)) ggL_law_X5_addWindow
set_option maxRecDepth 20000 in
theorem ggL_law_L_endWindow : GoodIn wsL_law wsL_endWindow := goodIn_ca (goodIn_r _ [296, 72, 297, 298, 299, 2, 300, 89, 90, 19, 301, 23, 91, 92, 93, 16, 94, 95, 96, 97, 98, 99, 100, 101, 102, 103, 104, 105, 106, 107, 108, 109, 110, 111, 28, 302, 303, 304, 280, 305, 287, 306, 166, 140, 167, 307, 308, 309, 310, 286, 311, 139, 141, 654, 655, 656, 657, 658, 659, 660, 689, 690, 691, 709, 710, 711] (by decide +kernel) (by decide +kernel)) (goodIn_sub (fun _ h => List.mem_append_left _ (List.mem_append_right _ h)) (by decide +kernel))
set_option maxRecDepth 20000 in
theorem gL_law_L_endWindow : GoodIn wsL_law (va_wsS RL 123 yL_endWindow wsL_endWindow) := goodIn_app (goodIn_of _ (by decide +kernel)) ggL_law_L_endWindow
set_option maxRecDepth 20000 in
theorem ggL_law_X5_endWindow : GoodIn wsL_law wsX5_endWindow := goodIn_r _ [315, 293, 177, 64, 316, 63, 182, 183, 5, 184, 661, 662, 663, 664, 665, 666, 667, 668, 669, 670, 671, 672, 673, 674, 675, 676, 677, 678, 679, 680, 681, 682, 683, 684, 685, 686, 687, 688] (by decide +kernel) (by decide +kernel)
set_option maxRecDepth 20000 in
theorem gL_law_X5_endWindow : GoodIn wsL_law (wsV RL 125 RX5 yX5_endWindow wsX5_endWindow) := goodIn_app (goodIn_of _ (by decide +kernel)) ggL_law_X5_endWindow
set_option maxRecDepth 20000 in
theorem ggL_law_L_pass : GoodIn wsL_law wsL_pass := goodIn_ca (goodIn_r _ [319, 192, 320, 321, 322, 2, 323, 20, 200, 201, 202, 203, 204, 91, 92, 93, 16, 94, 95, 324, 325, 326, 327, 23, 328, 329, 330, 331, 18, 17, 229, 80, 96, 97, 98, 99, 100, 101, 102, 103, 104, 105, 106, 107, 108, 109, 110, 111, 28, 332, 333, 334, 199, 335, 336, 337, 338, 339, 215, 216, 211, 210, 340, 341, 342, 343, 344, 345, 346, 347, 348, 349, 350, 230, 81, 21, 235, 236, 237, 351, 352, 353, 354, 214, 212, 209, 355, 356, 357, 358, 359, 360, 361, 362, 22, 363, 364, 365, 366, 367, 238, 118, 119, 368, 369, 370, 371, 372, 373, 374, 375, 376, 377, 378, 379, 213, 380, 381, 382, 383, 384, 385, 386, 387, 388, 389, 390, 391, 392, 393, 394, 395, 396, 397, 398, 19, 301, 399, 400, 401, 402, 403, 280, 404, 286, 287, 405, 406, 407, 408, 409, 410, 411, 412, 413, 414, 415, 416, 12, 13, 417, 418, 419, 120, 121, 122, 123, 124, 125, 126, 127, 128, 129, 130, 131, 132, 133, 134, 135, 136, 137, 27, 138, 139, 140, 141, 142, 143, 144, 145, 146, 147, 148, 149, 150, 151, 152, 153, 154, 155, 156, 157, 158, 159, 160, 161, 162, 163, 164, 165, 166, 167, 168, 169, 170, 171, 420, 421, 422, 423, 424, 425, 654, 655, 656, 657, 658, 659, 660, 689, 690, 691, 696, 697, 698, 699, 700, 701, 702, 703, 704, 705, 706, 707, 708, 692, 693, 694, 695, 712, 713, 714, 709, 710, 711] (by decide +kernel) (by decide +kernel)) (goodIn_sub (fun _ h => List.mem_append_right _ h) (by decide +kernel))
set_option maxRecDepth 20000 in
theorem gL_law_L_pass : GoodIn wsL_law (va_wsS RL 126 yL_pass wsL_pass) := goodIn_app (goodIn_of _ (by decide +kernel)) ggL_law_L_pass
set_option maxRecDepth 20000 in
theorem ggL_law_X5_pass : GoodIn wsL_law wsX5_pass := goodIn_r _ [429, 177, 430, 182, 183, 5, 184, 431, 432, 433, 434, 316, 221, 176, 47, 54, 56, 57, 435, 436, 437, 438, 60, 61, 48, 59, 49, 52, 439, 440, 441, 442, 51, 50, 443, 444, 445, 446, 58, 46, 44, 447, 448, 449, 450, 451, 452, 453, 454, 53, 455, 456, 457, 458, 459, 460, 461, 462, 55, 66, 67, 463, 464, 465, 466, 293, 62, 63, 64, 661, 662, 663, 664, 665, 666, 667, 668, 669, 670, 671, 672, 673, 674, 675, 676, 677, 678, 679, 680, 681, 682, 683, 684, 685, 686, 687, 688] (by decide +kernel) (by decide +kernel)
set_option maxRecDepth 20000 in
theorem gL_law_X5_pass : GoodIn wsL_law (wsV RL 128 RX5 yX5_pass wsX5_pass) := goodIn_app (goodIn_of _ (by decide +kernel)) ggL_law_X5_pass
set_option maxRecDepth 20000 in
theorem ggL_law_X4_minute : GoodIn wsL_law wsX4_minute := goodIn_r _ [470, 23, 654, 655, 656, 657, 658, 659, 660] (by decide +kernel) (by decide +kernel)
set_option maxRecDepth 20000 in
theorem gL_law_X4_minute : GoodIn wsL_law (wsV RL 129 RX4 yX4_minute wsX4_minute) := goodIn_app (goodIn_of _ (by decide +kernel)) ggL_law_X4_minute
set_option maxRecDepth 20000 in
theorem ggL_law_X5_minute : GoodIn wsL_law wsX5_minute := goodIn_r _ [474, 177, 316, 661, 662, 663, 664, 665, 666, 667, 668, 669, 670, 671, 672, 673, 674, 675, 676, 677, 678, 679, 680, 681, 682, 683, 684, 685, 686, 687, 688] (by decide +kernel) (by decide +kernel)
set_option maxRecDepth 20000 in
theorem gL_law_X5_minute : GoodIn wsL_law (wsV RL 132 RX5 yX5_minute wsX5_minute) := goodIn_app (goodIn_of _ (by decide +kernel)) ggL_law_X5_minute
set_option maxRecDepth 20000 in
theorem ggL_law_L_failing : GoodIn wsL_law wsL_failing := goodIn_ca (goodIn_r _ [477, 72, 478, 479, 480, 2, 481, 17, 18, 229, 80, 231, 232, 233, 234, 89, 90, 91, 92, 93, 16, 94, 95, 96, 97, 98, 99, 100, 101, 102, 103, 104, 105, 106, 107, 108, 109, 110, 111, 28, 347, 348, 349, 350, 230, 346, 81, 21, 235, 236, 237, 238, 118, 119, 654, 655, 656, 657, 658, 659, 660, 689, 690, 691, 696, 697, 698, 699, 700, 701, 702, 703, 704, 705, 706, 707, 708, 692, 693, 694, 695] (by decide +kernel) (by decide +kernel)) (goodIn_sub (fun _ h => List.mem_append_left _ (List.mem_append_right _ h)) (by decide +kernel))
set_option maxRecDepth 20000 in
theorem gL_law_L_failing : GoodIn wsL_law (va_wsS RL 133 yL_failing wsL_failing) := goodIn_app (goodIn_of _ (by decide +kernel)) ggL_law_L_failing
set_option maxRecDepth 20000 in
theorem ggL_law_X5_failing : GoodIn wsL_law wsX5_failing := goodIn_r _ [485, 177, 176, 243, 244, 245, 5, 246, 221, 182, 183, 184, 443, 444, 445, 446, 58, 46, 44, 661, 662, 663, 664, 665, 666, 667, 668, 669, 670, 671, 672, 673, 674, 675, 676, 677, 678, 679, 680, 681, 682, 683, 684, 685, 686, 687, 688] (by decide +kernel) (by decide +kernel)
set_option maxRecDepth 20000 in
theorem gL_law_X5_failing : GoodIn wsL_law (wsV RL 135 RX5 yX5_failing wsX5_failing) := goodIn_app (goodIn_of _ (by decide +kernel)) ggL_law_X5_failing
set_option maxRecDepth 20000 in
theorem ggL_law_L_nextProbe : GoodIn wsL_law wsL_nextProbe := goodIn_ca (goodIn_r _ [488, 72, 489, 490, 491, 2, 492, 18, 229, 23, 231, 232, 233, 234, 89, 90, 91, 92, 93, 16, 94, 95, 85, 86, 87, 88, 17, 96, 97, 98, 99, 100, 101, 102, 103, 104, 105, 106, 107, 108, 109, 110, 111, 28, 493, 337, 338, 199, 339, 215, 216, 211, 210, 654, 655, 656, 657, 658, 659, 660, 689, 690, 691, 696, 697, 698, 699, 700, 701, 702, 703, 704, 705, 706, 707, 708] (by decide +kernel) (by decide +kernel)) (goodIn_sub (fun _ h => List.mem_append_left _ (List.mem_append_right _ h)) (by decide +kernel))
set_option maxRecDepth 20000 in
theorem gL_law_L_nextProbe : GoodIn wsL_law (va_wsS RL 136 yL_nextProbe wsL_nextProbe) := goodIn_app (goodIn_of _ (by decide +kernel)) ggL_law_L_nextProbe
set_option maxRecDepth 20000 in
theorem ggL_law_X5_nextProbe : GoodIn wsL_law wsX5_nextProbe := goodIn_r _ [497, 60, 61, 316, 498, 499, 500, 5, 501, 177, 243, 244, 245, 246, 221, 182, 183, 184, 178, 179, 180, 181, 176, 439, 440, 441, 442, 51, 50, 661, 662, 663, 664, 665, 666, 667, 668, 669, 670, 671, 672, 673, 674, 675, 676, 677, 678, 679, 680, 681, 682, 683, 684, 685, 686, 687, 688] (by decide +kernel) (by decide +kernel)
set_option maxRecDepth 20000 in
theorem gL_law_X5_nextProbe : GoodIn wsL_law (wsV RL 138 RX5 yX5_nextProbe wsX5_nextProbe) := goodIn_app (goodIn_of _ (by decide +kernel)) ggL_law_X5_nextProbe
set_option maxRecDepth 20000 in
theorem ggL_law_L_repetition : GoodIn wsL_law wsL_repetition := goodIn_ca (goodIn_r _ [504, 72, 505, 506, 507, 2, 508, 18, 229, 509, 231, 232, 233, 234, 89, 90, 91, 92, 93, 16, 94, 95, 85, 86, 87, 88, 17, 96, 97, 98, 99, 100, 101, 102, 103, 104, 105, 106, 107, 108, 109, 110, 111, 28, 654, 655, 656, 657, 658, 659, 660, 696, 697, 698, 699, 700, 701, 702, 703, 704, 705, 706, 707, 708, 689, 690, 691] (by decide +kernel) (by decide +kernel)) (goodIn_sub (fun _ h => List.mem_append_left _ (List.mem_append_right _ h)) (by decide +kernel))
set_option maxRecDepth 20000 in
theorem gL_law_L_repetition : GoodIn wsL_law (va_wsS RL 139 yL_repetition wsL_repetition) := goodIn_app (goodIn_of _ (by decide +kernel)) ggL_law_L_repetition
set_option maxRecDepth 20000 in
theorem ggL_law_X5_repetition : GoodIn wsL_law wsX5_repetition := goodIn_r _ [513, 60, 498, 499, 500, 5, 501, 177, 243, 244, 245, 246, 221, 182, 183, 184, 178, 179, 180, 181, 176, 661, 662, 663, 664, 665, 666, 667, 668, 669, 670, 671, 672, 673, 674, 675, 676, 677, 678, 679, 680, 681, 682, 683, 684, 685, 686, 687, 688] (by decide +kernel) (by decide +kernel)
set_option maxRecDepth 20000 in
theorem gL_law_X5_repetition : GoodIn wsL_law (wsV RL 141 RX5 yX5_repetition wsX5_repetition) := goodIn_app (goodIn_of _ (by decide +kernel)) ggL_law_X5_repetition
set_option maxRecDepth 20000 in
theorem ggL_law_L_vote : GoodIn wsL_law wsL_vote := goodIn_ca (goodIn_r _ [516, 72, 517, 518, 519, 2, 520, 18, 229, 367, 231, 232, 233, 234, 89, 90, 91, 92, 93, 16, 94, 95, 85, 86, 87, 88, 17, 96, 97, 98, 99, 100, 101, 102, 103, 104, 105, 106, 107, 108, 109, 110, 111, 28, 654, 655, 656, 657, 658, 659, 660, 696, 697, 698, 699, 700, 701, 702, 703, 704, 705, 706, 707, 708, 689, 690, 691] (by decide +kernel) (by decide +kernel)) (goodIn_sub (fun _ h => List.mem_append_left _ (List.mem_append_right _ h)) (by decide +kernel))
set_option maxRecDepth 20000 in
theorem gL_law_L_vote : GoodIn wsL_law (va_wsS RL 142 yL_vote wsL_vote) := goodIn_app (goodIn_of _ (by decide +kernel)) ggL_law_L_vote
set_option maxRecDepth 20000 in
theorem ggL_law_X5_vote : GoodIn wsL_law wsX5_vote := goodIn_r _ [524, 59, 498, 499, 500, 5, 501, 177, 243, 244, 245, 246, 221, 182, 183, 184, 178, 179, 180, 181, 176, 661, 662, 663, 664, 665, 666, 667, 668, 669, 670, 671, 672, 673, 674, 675, 676, 677, 678, 679, 680, 681, 682, 683, 684, 685, 686, 687, 688] (by decide +kernel) (by decide +kernel)
set_option maxRecDepth 20000 in
theorem gL_law_X5_vote : GoodIn wsL_law (wsV RL 144 RX5 yX5_vote wsX5_vote) := goodIn_app (goodIn_of _ (by decide +kernel)) ggL_law_X5_vote
set_option maxRecDepth 20000 in
theorem ggL_law_L_probes : GoodIn wsL_law wsL_probes := goodIn_ca (goodIn_r _ [527, 72, 528, 529, 530, 2, 531, 17, 80, 344, 85, 86, 87, 88, 89, 90, 91, 92, 93, 16, 94, 95, 96, 97, 98, 99, 100, 101, 102, 103, 104, 105, 106, 107, 108, 109, 110, 111, 28, 654, 655, 656, 657, 658, 659, 660, 692, 693, 694, 695, 689, 690, 691] (by decide +kernel) (by decide +kernel)) (goodIn_sub (fun _ h => List.mem_append_left _ (List.mem_append_right _ h)) (by decide +kernel))
set_option maxRecDepth 20000 in
theorem gL_law_L_probes : GoodIn wsL_law (va_wsS RL 145 yL_probes wsL_probes) := goodIn_app (goodIn_of _ (by decide +kernel)) ggL_law_L_probes
set_option maxRecDepth 20000 in
theorem ggL_law_X5_probes : GoodIn wsL_law wsX5_probes := goodIn_r _ [535, 177, 48, 178, 179, 180, 5, 181, 176, 182, 183, 184, 661, 662, 663, 664, 665, 666, 667, 668, 669, 670, 671, 672, 673, 674, 675, 676, 677, 678, 679, 680, 681, 682, 683, 684, 685, 686, 687, 688] (by decide +kernel) (by decide +kernel)
set_option maxRecDepth 20000 in
theorem gL_law_X5_probes : GoodIn wsL_law (wsV RL 147 RX5 yX5_probes wsX5_probes) := goodIn_app (goodIn_of _ (by decide +kernel)) ggL_law_X5_probes
set_option maxRecDepth 20000 in
theorem ggL_law_L_failures : GoodIn wsL_law wsL_failures := goodIn_ca (goodIn_r _ [538, 72, 539, 540, 541, 2, 542, 17, 80, 345, 85, 86, 87, 88, 89, 90, 91, 92, 93, 16, 94, 95, 96, 97, 98, 99, 100, 101, 102, 103, 104, 105, 106, 107, 108, 109, 110, 111, 28, 654, 655, 656, 657, 658, 659, 660, 692, 693, 694, 695, 689, 690, 691] (by decide +kernel) (by decide +kernel)) (goodIn_sub (fun _ h => List.mem_append_left _ (List.mem_append_right _ h)) (by decide +kernel))
set_option maxRecDepth 20000 in
theorem gL_law_L_failures : GoodIn wsL_law (va_wsS RL 148 yL_failures wsL_failures) := goodIn_app (goodIn_of _ (by decide +kernel)) ggL_law_L_failures
set_option maxRecDepth 20000 in
theorem ggL_law_X5_failures : GoodIn wsL_law wsX5_failures := goodIn_r _ [546, 177, 49, 178, 179, 180, 5, 181, 176, 182, 183, 184, 661, 662, 663, 664, 665, 666, 667, 668, 669, 670, 671, 672, 673, 674, 675, 676, 677, 678, 679, 680, 681, 682, 683, 684, 685, 686, 687, 688] (by decide +kernel) (by decide +kernel)
set_option maxRecDepth 20000 in
theorem gL_law_X5_failures : GoodIn wsL_law (wsV RL 150 RX5 yX5_failures wsX5_failures) := goodIn_app (goodIn_of _ (by decide +kernel)) ggL_law_X5_failures
set_option maxRecDepth 20000 in
theorem ggL_law_L_isBad : GoodIn wsL_law wsL_isBad := goodIn_ca (goodIn_r _ [549, 72, 550, 551, 552, 2, 553, 22, 85, 86, 87, 88, 89, 90, 17, 91, 92, 93, 16, 94, 95, 235, 236, 237, 654, 655, 656, 657, 658, 659, 660, 689, 690, 691] (by decide +kernel) (by decide +kernel)) (goodIn_sub (fun _ h => List.mem_append_left _ (List.mem_append_right _ h)) (by decide +kernel))
set_option maxRecDepth 20000 in
theorem gL_law_L_isBad : GoodIn wsL_law (va_wsS RL 151 yL_isBad wsL_isBad) := goodIn_app (goodIn_of _ (by decide +kernel)) ggL_law_L_isBad
set_option maxRecDepth 20000 in
theorem ggL_law_X5_isBad : GoodIn wsL_law wsX5_isBad := goodIn_r _ [557, 177, 47, 178, 179, 180, 5, 181, 176, 182, 183, 184, 661, 662, 663, 664, 665, 666, 667, 668, 669, 670, 671, 672, 673, 674, 675, 676, 677, 678, 679, 680, 681, 682, 683, 684, 685, 686, 687, 688] (by decide +kernel) (by decide +kernel)
set_option maxRecDepth 20000 in
theorem gL_law_X5_isBad : GoodIn wsL_law (wsV RL 153 RX5 yX5_isBad wsX5_isBad) := goodIn_app (goodIn_of _ (by decide +kernel)) ggL_law_X5_isBad
set_option maxRecDepth 20000 in
theorem ggL_law_L_verdict : GoodIn wsL_law wsL_verdict := goodIn_ca (goodIn_r _ [560, 72, 561, 562, 563, 2, 564, 18, 229, 392, 231, 232, 233, 234, 89, 90, 91, 92, 93, 16, 94, 95, 96, 97, 98, 99, 100, 101, 102, 103, 104, 105, 106, 107, 108, 109, 110, 111, 28, 654, 655, 656, 657, 658, 659, 660, 696, 697, 698, 699, 700, 701, 702, 703, 704, 705, 706, 707, 708, 689, 690, 691] (by decide +kernel) (by decide +kernel)) (goodIn_sub (fun _ h => List.mem_append_left _ (List.mem_append_right _ h)) (by decide +kernel))
set_option maxRecDepth 20000 in
theorem gL_law_L_verdict : GoodIn wsL_law (va_wsS RL 154 yL_verdict wsL_verdict) := goodIn_app (goodIn_of _ (by decide +kernel)) ggL_law_L_verdict
set_option maxRecDepth 20000 in
theorem ggL_law_X5_verdict : GoodIn wsL_law wsX5_verdict := goodIn_r _ [568, 177, 54, 243, 244, 245, 5, 246, 221, 182, 183, 184, 661, 662, 663, 664, 665, 666, 667, 668, 669, 670, 671, 672, 673, 674, 675, 676, 677, 678, 679, 680, 681, 682, 683, 684, 685, 686, 687, 688] (by decide +kernel) (by decide +kernel)
set_option maxRecDepth 20000 in
theorem gL_law_X5_verdict : GoodIn wsL_law (wsV RL 156 RX5 yX5_verdict wsX5_verdict) := goodIn_app (goodIn_of _ (by decide +kernel)) ggL_law_X5_verdict
set_option maxRecDepth 20000 in
theorem ggL_law_L_trusted : GoodIn wsL_law wsL_trusted := goodIn_ca (goodIn_r _ [571, 72, 572, 573, 574, 2, 575, 18, 229, 231, 232, 233, 234, 89, 90, 91, 92, 93, 16, 94, 95, 96, 97, 98, 99, 100, 101, 102, 103, 104, 105, 106, 107, 108, 109, 110, 111, 28, 372, 373, 374, 375, 17, 367, 80, 81, 22, 238, 118, 119, 654, 655, 656, 657, 658, 659, 660, 689, 690, 691, 696, 697, 698, 699, 700, 701, 702, 703, 704, 705, 706, 707, 708, 692, 693, 694, 695] (by decide +kernel) (by decide +kernel)) (goodIn_sub (fun _ h => List.mem_append_left _ (List.mem_append_right _ h)) (by decide +kernel))
set_option maxRecDepth 20000 in
theorem gL_law_L_trusted : GoodIn wsL_law (va_wsS RL 157 yL_trusted wsL_trusted) := goodIn_app (goodIn_of _ (by decide +kernel)) ggL_law_L_trusted
set_option maxRecDepth 20000 in
theorem ggL_law_X5_trusted : GoodIn wsL_law wsX5_trusted := goodIn_r _ [579, 177, 176, 243, 244, 245, 5, 246, 221, 182, 183, 184, 455, 456, 457, 458, 59, 47, 44, 661, 662, 663, 664, 665, 666, 667, 668, 669, 670, 671, 672, 673, 674, 675, 676, 677, 678, 679, 680, 681, 682, 683, 684, 685, 686, 687, 688] (by decide +kernel) (by decide +kernel)
set_option maxRecDepth 20000 in
theorem gL_law_X5_trusted : GoodIn wsL_law (wsV RL 159 RX5 yX5_trusted wsX5_trusted) := goodIn_app (goodIn_of _ (by decide +kernel)) ggL_law_X5_trusted
set_option maxRecDepth 20000 in
theorem ggL_law_X4_alarms : GoodIn wsL_law wsX4_alarms := goodIn_r _ [583, 20, 91, 92, 93, 16, 94, 95, 654, 655, 656, 657, 658, 659, 660, 689, 690, 691] (by decide +kernel) (by decide +kernel)
set_option maxRecDepth 20000 in
theorem gL_law_X4_alarms : GoodIn wsL_law (wsV RL 160 RX4 yX4_alarms wsX4_alarms) := goodIn_app (goodIn_of _ (by decide +kernel)) ggL_law_X4_alarms
set_option maxRecDepth 20000 in
theorem ggL_law_X5_alarms : GoodIn wsL_law wsX5_alarms := goodIn_r _ [587, 177, 430, 661, 662, 663, 664, 665, 666, 667, 668, 669, 670, 671, 672, 673, 674, 675, 676, 677, 678, 679, 680, 681, 682, 683, 684, 685, 686, 687, 688] (by decide +kernel) (by decide +kernel)
set_option maxRecDepth 20000 in
theorem gL_law_X5_alarms : GoodIn wsL_law (wsV RL 163 RX5 yX5_alarms wsX5_alarms) := goodIn_app (goodIn_of _ (by decide +kernel)) ggL_law_X5_alarms
set_option maxRecDepth 20000 in
theorem ggL_law_L_hasAlarm : GoodIn wsL_law wsL_hasAlarm := goodIn_ca (goodIn_r _ [590, 72, 591, 592, 593, 2, 594, 18, 229, 393, 231, 232, 233, 234, 89, 90, 91, 92, 93, 16, 94, 95, 96, 97, 98, 99, 100, 101, 102, 103, 104, 105, 106, 107, 108, 109, 110, 111, 28, 654, 655, 656, 657, 658, 659, 660, 696, 697, 698, 699, 700, 701, 702, 703, 704, 705, 706, 707, 708, 689, 690, 691] (by decide +kernel) (by decide +kernel)) (goodIn_sub (fun _ h => List.mem_append_left _ (List.mem_append_right _ h)) (by decide +kernel))
set_option maxRecDepth 20000 in
theorem gL_law_L_hasAlarm : GoodIn wsL_law (va_wsS RL 164 yL_hasAlarm wsL_hasAlarm) := goodIn_app (goodIn_of _ (by decide +kernel)) ggL_law_L_hasAlarm
set_option maxRecDepth 20000 in
theorem ggL_law_X5_hasAlarm : GoodIn wsL_law wsX5_hasAlarm := goodIn_r _ [598, 177, 55, 243, 244, 245, 5, 246, 221, 182, 183, 184, 661, 662, 663, 664, 665, 666, 667, 668, 669, 670, 671, 672, 673, 674, 675, 676, 677, 678, 679, 680, 681, 682, 683, 684, 685, 686, 687, 688] (by decide +kernel) (by decide +kernel)
set_option maxRecDepth 20000 in
theorem gL_law_X5_hasAlarm : GoodIn wsL_law (wsV RL 166 RX5 yX5_hasAlarm wsX5_hasAlarm) := goodIn_app (goodIn_of _ (by decide +kernel)) ggL_law_X5_hasAlarm
set_option maxRecDepth 20000 in
theorem ggL_law_L_alarmCheck : GoodIn wsL_law wsL_alarmCheck := goodIn_ca (goodIn_r _ [601, 72, 602, 603, 604, 2, 605, 20, 606, 607, 608, 609, 610, 611, 89, 90, 91, 92, 93, 16, 94, 95, 96, 97, 98, 99, 100, 101, 102, 103, 104, 105, 106, 107, 108, 109, 110, 111, 28, 654, 655, 656, 657, 658, 659, 660, 712, 713, 714, 689, 690, 691] (by decide +kernel) (by decide +kernel)) (goodIn_sub (fun _ h => List.mem_append_left _ (List.mem_append_right _ h)) (by decide +kernel))
set_option maxRecDepth 20000 in
theorem gL_law_L_alarmCheck : GoodIn wsL_law (va_wsS RL 167 yL_alarmCheck wsL_alarmCheck) := goodIn_app (goodIn_of _ (by decide +kernel)) ggL_law_L_alarmCheck
set_option maxRecDepth 20000 in
theorem ggL_law_X5_alarmCheck : GoodIn wsL_law wsX5_alarmCheck := goodIn_r _ [615, 66, 616, 617, 618, 5, 619, 430, 177, 182, 183, 184, 661, 662, 663, 664, 665, 666, 667, 668, 669, 670, 671, 672, 673, 674, 675, 676, 677, 678, 679, 680, 681, 682, 683, 684, 685, 686, 687, 688] (by decide +kernel) (by decide +kernel)
set_option maxRecDepth 20000 in
theorem gL_law_X5_alarmCheck : GoodIn wsL_law (wsV RL 169 RX5 yX5_alarmCheck wsX5_alarmCheck) := goodIn_app (goodIn_of _ (by decide +kernel)) ggL_law_X5_alarmCheck
set_option maxRecDepth 20000 in
theorem ggL_law_L_alarmRaised : GoodIn wsL_law wsL_alarmRaised := goodIn_ca (goodIn_r _ [622, 72, 623, 624, 625, 2, 626, 20, 606, 627, 608, 609, 610, 611, 89, 90, 91, 92, 93, 16, 94, 95, 96, 97, 98, 99, 100, 101, 102, 103, 104, 105, 106, 107, 108, 109, 110, 111, 28, 654, 655, 656, 657, 658, 659, 660, 712, 713, 714, 689, 690, 691] (by decide +kernel) (by decide +kernel)) (goodIn_sub (fun _ h => List.mem_append_left _ (List.mem_append_right _ h)) (by decide +kernel))
set_option maxRecDepth 20000 in
theorem gL_law_L_alarmRaised : GoodIn wsL_law (va_wsS RL 170 yL_alarmRaised wsL_alarmRaised) := goodIn_app (goodIn_of _ (by decide +kernel)) ggL_law_L_alarmRaised
set_option maxRecDepth 20000 in
theorem ggL_law_X5_alarmRaised : GoodIn wsL_law wsX5_alarmRaised := goodIn_r _ [631, 66, 616, 617, 618, 5, 619, 430, 177, 182, 183, 184, 661, 662, 663, 664, 665, 666, 667, 668, 669, 670, 671, 672, 673, 674, 675, 676, 677, 678, 679, 680, 681, 682, 683, 684, 685, 686, 687, 688] (by decide +kernel) (by decide +kernel)
set_option maxRecDepth 20000 in
theorem gL_law_X5_alarmRaised : GoodIn wsL_law (wsV RL 172 RX5 yX5_alarmRaised wsX5_alarmRaised) := goodIn_app (goodIn_of _ (by decide +kernel)) ggL_law_X5_alarmRaised
set_option maxRecDepth 20000 in
theorem ggL_law_L_alarmClosed : GoodIn wsL_law wsL_alarmClosed := goodIn_ca (goodIn_r _ [634, 72, 635, 636, 637, 2, 638, 20, 606, 394, 608, 609, 610, 611, 89, 90, 91, 92, 93, 16, 94, 95, 96, 97, 98, 99, 100, 101, 102, 103, 104, 105, 106, 107, 108, 109, 110, 111, 28, 654, 655, 656, 657, 658, 659, 660, 712, 713, 714, 689, 690, 691] (by decide +kernel) (by decide +kernel)) (goodIn_sub (fun _ h => List.mem_append_left _ (List.mem_append_right _ h)) (by decide +kernel))
set_option maxRecDepth 20000 in
theorem gL_law_L_alarmClosed : GoodIn wsL_law (va_wsS RL 173 yL_alarmClosed wsL_alarmClosed) := goodIn_app (goodIn_of _ (by decide +kernel)) ggL_law_L_alarmClosed
set_option maxRecDepth 20000 in
theorem ggL_law_X5_alarmClosed : GoodIn wsL_law wsX5_alarmClosed := goodIn_r _ [642, 67, 616, 617, 618, 5, 619, 430, 177, 182, 183, 184, 661, 662, 663, 664, 665, 666, 667, 668, 669, 670, 671, 672, 673, 674, 675, 676, 677, 678, 679, 680, 681, 682, 683, 684, 685, 686, 687, 688] (by decide +kernel) (by decide +kernel)
set_option maxRecDepth 20000 in
theorem gL_law_X5_alarmClosed : GoodIn wsL_law (wsV RL 175 RX5 yX5_alarmClosed wsX5_alarmClosed) := goodIn_app (goodIn_of _ (by decide +kernel)) ggL_law_X5_alarmClosed
set_option maxRecDepth 20000 in
theorem ggL_law_L_availability : GoodIn wsL_law wsL_availability := goodIn_ca (goodIn_ca (goodIn_r _ [645, 72, 73, 646, 647, 648, 2, 649, 78, 79, 18, 229, 424, 425, 231, 232, 233, 234, 89, 90, 91, 92, 93, 16, 94, 95, 96, 97, 98, 99, 100, 101, 102, 103, 104, 105, 106, 107, 108, 109, 110, 111, 28, 654, 655, 656, 657, 658, 659, 660, 696, 697, 698, 699, 700, 701, 702, 703, 704, 705, 706, 707, 708, 689, 690, 691] (by decide +kernel) (by decide +kernel)) (goodIn_sub (fun _ h => List.mem_append_left _ (List.mem_append_left _ (List.mem_append_right _ h))) (by decide +kernel))) (goodIn_sub (fun _ h => List.mem_append_left _ (List.mem_append_right _ h)) (by decide +kernel))
set_option maxRecDepth 20000 in
theorem gL_law_L_availability : GoodIn wsL_law (va_wsS RL 176 yL_availability wsL_availability) := goodIn_app (goodIn_of _ (by decide +kernel)) ggL_law_L_availability
set_option maxRecDepth 20000 in
theorem ggL_law_X5_availability : GoodIn wsL_law wsX5_availability := goodIn_r _ [653, 57, 177, 56, 243, 244, 245, 5, 246, 221, 182, 183, 184, 661, 662, 663, 664, 665, 666, 667, 668, 669, 670, 671, 672, 673, 674, 675, 676, 677, 678, 679, 680, 681, 682, 683, 684, 685, 686, 687, 688] (by decide +kernel) (by decide +kernel)
set_option maxRecDepth 20000 in
theorem gL_law_X5_availability : GoodIn wsL_law (wsV RL 179 RX5 yX5_availability wsX5_availability) := goodIn_app (goodIn_of _ (by decide +kernel)) ggL_law_X5_availability
theorem dL_law_0 : decode cL_law 0 = .ok (.new 8, 3) := by decide +kernel
theorem dL_law_3 : decode cL_law 3 = .ok (.dup, 1) := by decide +kernel
theorem dL_law_4 : decode cL_law 4 = .ok (.invokespecial 89, 3) := by decide +kernel
theorem dL_law_7 : decode cL_law 7 = .ok (.astore_n 1, 1) := by decide +kernel
theorem dL_law_8 : decode cL_law 8 = .ok (.new 90, 3) := by decide +kernel
theorem dL_law_11 : decode cL_law 11 = .ok (.dup, 1) := by decide +kernel
theorem dL_law_12 : decode cL_law 12 = .ok (.invokespecial 92, 3) := by decide +kernel
theorem dL_law_15 : decode cL_law 15 = .ok (.astore_n 2, 1) := by decide +kernel
theorem dL_law_16 : decode cL_law 16 = .ok (.iconst 1, 1) := by decide +kernel
theorem dL_law_17 : decode cL_law 17 = .ok (.newarray .long, 2) := by decide +kernel
theorem dL_law_19 : decode cL_law 19 = .ok (.astore_n 3, 1) := by decide +kernel
theorem dL_law_20 : decode cL_law 20 = .ok (.iconst 1, 1) := by decide +kernel
theorem dL_law_21 : decode cL_law 21 = .ok (.newarray .double, 2) := by decide +kernel
theorem dL_law_23 : decode cL_law 23 = .ok (.astore 4, 2) := by decide +kernel
theorem dL_law_25 : decode cL_law 25 = .ok (.iconst 0, 1) := by decide +kernel
theorem dL_law_26 : decode cL_law 26 = .ok (.istore 5, 2) := by decide +kernel
theorem dL_law_28 : decode cL_law 28 = .ok (.iload 5, 2) := by decide +kernel
theorem dL_law_30 : decode cL_law 30 = .ok (.aload_n 0, 1) := by decide +kernel
theorem dL_law_31 : decode cL_law 31 = .ok (.arraylength, 1) := by decide +kernel
theorem dL_law_32 : decode cL_law 32 = .ok (.iconst 5, 1) := by decide +kernel
theorem dL_law_33 : decode cL_law 33 = .ok (.isub, 1) := by decide +kernel
theorem dL_law_34 : decode cL_law 34 = .ok (.if_icmp .gt 1612, 3) := by decide +kernel
theorem dL_law_37 : decode cL_law 37 = .ok (.aload_n 0, 1) := by decide +kernel
theorem dL_law_38 : decode cL_law 38 = .ok (.iload 5, 2) := by decide +kernel
theorem dL_law_40 : decode cL_law 40 = .ok (.iaload, 1) := by decide +kernel
theorem dL_law_41 : decode cL_law 41 = .ok (.bipush 31, 2) := by decide +kernel
theorem dL_law_43 : decode cL_law 43 = .ok (.iand, 1) := by decide +kernel
theorem dL_law_44 : decode cL_law 44 = .ok (.tableswitch 1596 0 23 #[112, 168, 260, 363, 454, 522, 602, 658, 714, 727, 783, 851, 919, 987, 1043, 1099, 1162, 1218, 1274, 1287, 1350, 1406, 1462, 1518], 112) := by decide +kernel
