set_option maxRecDepth 20000 in
theorem ggL_addRegion_X4_addRegion : GoodIn wsL_addRegion wsX4_addRegion := goodIn_ca (goodIn_ca (goodIn_r _ [7, 8, 9, 10, 11, 12, 13, 14, 15, 16, 17, 18, 6, 19, 20, 21, 22, 23, 24, 25, 26, 27, 28, 29, 30, 31, 32, 33, 34, 35, 36, 37, 38, 39, 40, 41, 42, 43, 44, 45, 46, 47, 48, 49, 50, 51, 52, 53, 54, 55, 56, 57, 58, 59, 60, 61, 62, 63, 64, 65, 66, 67, 68, 69, 70, 71, 72, 73, 74, 75, 76, 77, 78, 79, 80, 81, 82, 83, 84, 85, 86, 87, 88, 89, 90, 91, 92, 93, 94, 95, 96, 97, 98, 99, 100, 101, 102, 103, 104, 105, 106, 107, 108, 109, 110, 111, 112, 113, 114, 115, 116, 117, 118, 119, 120, 121] (by decide +kernel) (by decide +kernel)) (goodIn_sub (fun _ h => List.mem_cons_of_mem _ (List.mem_append_left _ (List.mem_append_right _ h))) (by decide +kernel))) (goodIn_sub (fun _ h => List.mem_cons_of_mem _ (List.mem_append_right _ h)) (by decide +kernel))
set_option maxRecDepth 20000 in
theorem gL_addRegion_X4_addRegion : GoodIn wsL_addRegion (wsV RL 7 RX4 yX4_addRegion wsX4_addRegion) := goodIn_app (goodIn_of _ (by decide +kernel)) ggL_addRegion_X4_addRegion
theorem dL_addRegion_0 : decode cL_addRegion 0 = .ok (.aload_n 2, 1) := by decide +kernel
theorem dL_addRegion_1 : decode cL_addRegion 1 = .ok (.iconst 0, 1) := by decide +kernel
theorem dL_addRegion_2 : decode cL_addRegion 2 = .ok (.aload_n 0, 1) := by decide +kernel
theorem dL_addRegion_3 : decode cL_addRegion 3 = .ok (.iload_n 1, 1) := by decide +kernel
theorem dL_addRegion_4 : decode cL_addRegion 4 = .ok (.invokevirtual 7, 3) := by decide +kernel
theorem dL_addRegion_7 : decode cL_addRegion 7 = .ok (.i2l, 1) := by decide +kernel
theorem dL_addRegion_8 : decode cL_addRegion 8 = .ok (.lastore, 1) := by decide +kernel
theorem dL_addRegion_9 : decode cL_addRegion 9 = .ok (.goto 9, 3) := by decide +kernel
theorem dL_addRegion_12 : decode cL_addRegion 12 = .ok (.astore_n 3, 1) := by decide +kernel
theorem dL_addRegion_13 : decode cL_addRegion 13 = .ok (.iconst 1, 1) := by decide +kernel
theorem dL_addRegion_14 : decode cL_addRegion 14 = .ok (.ireturn, 1) := by decide +kernel
theorem dL_addRegion_15 : decode cL_addRegion 15 = .ok (.astore_n 3, 1) := by decide +kernel
theorem dL_addRegion_16 : decode cL_addRegion 16 = .ok (.iconst 2, 1) := by decide +kernel
theorem dL_addRegion_17 : decode cL_addRegion 17 = .ok (.ireturn, 1) := by decide +kernel
theorem dL_addRegion_18 : decode cL_addRegion 18 = .ok (.iconst 0, 1) := by decide +kernel
theorem dL_addRegion_19 : decode cL_addRegion 19 = .ok (.ireturn, 1) := by decide +kernel
set_option maxRecDepth 20000 in
theorem ggL_addCheck_X4_addCheck : GoodIn wsL_addCheck wsX4_addCheck := goodIn_ca (goodIn_ca (goodIn_r _ [7, 8, 9, 10, 11, 12, 13, 14, 15, 6, 16, 17, 18, 19, 20, 21, 22, 23, 24, 25, 26, 27, 28, 29, 30, 31, 32, 33, 34, 35, 36, 37, 38, 39, 40, 41, 42, 43, 44, 45, 46, 47, 48, 49, 50, 51, 52, 53, 54, 55, 56, 57, 58, 59, 60, 61, 62, 63, 64, 65, 66, 67, 68, 69, 70, 71, 72, 73, 74, 75, 76, 77, 78, 79, 80, 81, 82, 83, 84, 85, 86, 87, 88, 89, 90, 91, 92, 93, 94, 95, 96, 97, 98, 99, 100, 101, 102, 103, 104, 105, 106, 107, 108, 109, 110, 111, 112, 113, 114, 115, 116] (by decide +kernel) (by decide +kernel)) (goodIn_sub (fun _ h => List.mem_cons_of_mem _ (List.mem_append_left _ (List.mem_append_right _ h))) (by decide +kernel))) (goodIn_sub (fun _ h => List.mem_cons_of_mem _ (List.mem_append_right _ h)) (by decide +kernel))
set_option maxRecDepth 20000 in
theorem gL_addCheck_X4_addCheck : GoodIn wsL_addCheck (wsV RL 17 RX4 yX4_addCheck wsX4_addCheck) := goodIn_app (goodIn_of _ (by decide +kernel)) ggL_addCheck_X4_addCheck
theorem dL_addCheck_0 : decode cL_addCheck 0 = .ok (.aload 5, 2) := by decide +kernel
theorem dL_addCheck_2 : decode cL_addCheck 2 = .ok (.iconst 0, 1) := by decide +kernel
theorem dL_addCheck_3 : decode cL_addCheck 3 = .ok (.aload_n 0, 1) := by decide +kernel
theorem dL_addCheck_4 : decode cL_addCheck 4 = .ok (.iload_n 1, 1) := by decide +kernel
theorem dL_addCheck_5 : decode cL_addCheck 5 = .ok (.iload_n 2, 1) := by decide +kernel
theorem dL_addCheck_6 : decode cL_addCheck 6 = .ok (.iload_n 3, 1) := by decide +kernel
theorem dL_addCheck_7 : decode cL_addCheck 7 = .ok (.iload 4, 2) := by decide +kernel
theorem dL_addCheck_9 : decode cL_addCheck 9 = .ok (.invokevirtual 17, 3) := by decide +kernel
theorem dL_addCheck_12 : decode cL_addCheck 12 = .ok (.i2l, 1) := by decide +kernel
theorem dL_addCheck_13 : decode cL_addCheck 13 = .ok (.lastore, 1) := by decide +kernel
theorem dL_addCheck_14 : decode cL_addCheck 14 = .ok (.goto 11, 3) := by decide +kernel
theorem dL_addCheck_17 : decode cL_addCheck 17 = .ok (.astore 6, 2) := by decide +kernel
theorem dL_addCheck_19 : decode cL_addCheck 19 = .ok (.iconst 1, 1) := by decide +kernel
theorem dL_addCheck_20 : decode cL_addCheck 20 = .ok (.ireturn, 1) := by decide +kernel
theorem dL_addCheck_21 : decode cL_addCheck 21 = .ok (.astore 6, 2) := by decide +kernel
theorem dL_addCheck_23 : decode cL_addCheck 23 = .ok (.iconst 2, 1) := by decide +kernel
theorem dL_addCheck_24 : decode cL_addCheck 24 = .ok (.ireturn, 1) := by decide +kernel
theorem dL_addCheck_25 : decode cL_addCheck 25 = .ok (.iconst 0, 1) := by decide +kernel
theorem dL_addCheck_26 : decode cL_addCheck 26 = .ok (.ireturn, 1) := by decide +kernel
set_option maxRecDepth 20000 in
theorem ggL_setDown_X4_setDown : GoodIn wsL_setDown wsX4_setDown := goodIn_ca (goodIn_r _ [6, 7, 8, 9, 10, 11, 12, 5, 13, 14, 15, 16, 17, 18, 19, 20, 21, 22, 23, 24, 25, 26, 27, 28, 29, 30, 31, 32, 33, 34, 35, 36, 37, 38, 39, 40, 41, 42, 43, 44, 45, 46, 47, 48, 49, 50, 51, 52, 53, 54, 55, 56, 57, 58, 59, 60, 61, 62, 63, 64, 65, 66, 67, 68, 69, 70, 71, 72] (by decide +kernel) (by decide +kernel)) (goodIn_sub (fun _ h => List.mem_cons_of_mem _ (List.mem_append_right _ h)) (by decide +kernel))
set_option maxRecDepth 20000 in
theorem gL_setDown_X4_setDown : GoodIn wsL_setDown (wsV RL 23 RX4 yX4_setDown wsX4_setDown) := goodIn_app (goodIn_of _ (by decide +kernel)) ggL_setDown_X4_setDown
theorem dL_setDown_0 : decode cL_setDown 0 = .ok (.aload 4, 2) := by decide +kernel
theorem dL_setDown_2 : decode cL_setDown 2 = .ok (.iconst 0, 1) := by decide +kernel
theorem dL_setDown_3 : decode cL_setDown 3 = .ok (.aload_n 0, 1) := by decide +kernel
theorem dL_setDown_4 : decode cL_setDown 4 = .ok (.iload_n 1, 1) := by decide +kernel
theorem dL_setDown_5 : decode cL_setDown 5 = .ok (.iload_n 2, 1) := by decide +kernel
theorem dL_setDown_6 : decode cL_setDown 6 = .ok (.iload_n 3, 1) := by decide +kernel
theorem dL_setDown_7 : decode cL_setDown 7 = .ok (.invokevirtual 23, 3) := by decide +kernel
theorem dL_setDown_10 : decode cL_setDown 10 = .ok (.ifCond .eq 7, 3) := by decide +kernel
theorem dL_setDown_13 : decode cL_setDown 13 = .ok (.lconst 1, 1) := by decide +kernel
theorem dL_setDown_14 : decode cL_setDown 14 = .ok (.goto 4, 3) := by decide +kernel
theorem dL_setDown_17 : decode cL_setDown 17 = .ok (.lconst 0, 1) := by decide +kernel
theorem dL_setDown_18 : decode cL_setDown 18 = .ok (.lastore, 1) := by decide +kernel
theorem dL_setDown_19 : decode cL_setDown 19 = .ok (.goto 7, 3) := by decide +kernel
theorem dL_setDown_22 : decode cL_setDown 22 = .ok (.astore 5, 2) := by decide +kernel
theorem dL_setDown_24 : decode cL_setDown 24 = .ok (.iconst 1, 1) := by decide +kernel
theorem dL_setDown_25 : decode cL_setDown 25 = .ok (.ireturn, 1) := by decide +kernel
theorem dL_setDown_26 : decode cL_setDown 26 = .ok (.iconst 0, 1) := by decide +kernel
theorem dL_setDown_27 : decode cL_setDown 27 = .ok (.ireturn, 1) := by decide +kernel
set_option maxRecDepth 20000 in
theorem ggL_setCut_X4_setCut : GoodIn wsL_setCut wsX4_setCut := goodIn_ca (goodIn_r _ [6, 7, 8, 9, 10, 5, 11, 12, 13, 14, 15, 16, 17, 18, 19, 20, 21, 22, 23, 24, 25, 26, 27, 28, 29, 30, 31, 32, 33, 34, 35, 36] (by decide +kernel) (by decide +kernel)) (goodIn_sub (fun _ h => List.mem_cons_of_mem _ (List.mem_append_right _ h)) (by decide +kernel))
set_option maxRecDepth 20000 in
theorem gL_setCut_X4_setCut : GoodIn wsL_setCut (wsV RL 27 RX4 yX4_setCut wsX4_setCut) := goodIn_app (goodIn_of _ (by decide +kernel)) ggL_setCut_X4_setCut
theorem dL_setCut_0 : decode cL_setCut 0 = .ok (.aload_n 3, 1) := by decide +kernel
theorem dL_setCut_1 : decode cL_setCut 1 = .ok (.iconst 0, 1) := by decide +kernel
theorem dL_setCut_2 : decode cL_setCut 2 = .ok (.aload_n 0, 1) := by decide +kernel
theorem dL_setCut_3 : decode cL_setCut 3 = .ok (.iload_n 1, 1) := by decide +kernel
theorem dL_setCut_4 : decode cL_setCut 4 = .ok (.iload_n 2, 1) := by decide +kernel
theorem dL_setCut_5 : decode cL_setCut 5 = .ok (.invokevirtual 27, 3) := by decide +kernel
theorem dL_setCut_8 : decode cL_setCut 8 = .ok (.ifCond .eq 7, 3) := by decide +kernel
theorem dL_setCut_11 : decode cL_setCut 11 = .ok (.lconst 1, 1) := by decide +kernel
theorem dL_setCut_12 : decode cL_setCut 12 = .ok (.goto 4, 3) := by decide +kernel
theorem dL_setCut_15 : decode cL_setCut 15 = .ok (.lconst 0, 1) := by decide +kernel
theorem dL_setCut_16 : decode cL_setCut 16 = .ok (.lastore, 1) := by decide +kernel
theorem dL_setCut_17 : decode cL_setCut 17 = .ok (.goto 7, 3) := by decide +kernel
theorem dL_setCut_20 : decode cL_setCut 20 = .ok (.astore 4, 2) := by decide +kernel
theorem dL_setCut_22 : decode cL_setCut 22 = .ok (.iconst 1, 1) := by decide +kernel
theorem dL_setCut_23 : decode cL_setCut 23 = .ok (.ireturn, 1) := by decide +kernel
theorem dL_setCut_24 : decode cL_setCut 24 = .ok (.iconst 0, 1) := by decide +kernel
theorem dL_setCut_25 : decode cL_setCut 25 = .ok (.ireturn, 1) := by decide +kernel
set_option maxRecDepth 20000 in
theorem ggL_setQuorum_X4_setQuorum : GoodIn wsL_setQuorum wsX4_setQuorum := goodIn_ca (goodIn_ca (goodIn_r _ [7, 8, 9, 10, 11, 12, 13, 6, 14, 15, 16, 17, 18, 19, 20, 21, 22, 23, 24, 25, 26, 27, 28, 29, 30, 31, 32, 33, 34, 35, 36, 37, 38, 39, 40, 41, 42, 43, 44, 45, 46, 47, 48, 49, 50, 51, 52, 53, 54, 55, 56, 57, 58, 59, 60, 61, 62, 63, 64, 65, 66, 67] (by decide +kernel) (by decide +kernel)) (goodIn_sub (fun _ h => List.mem_cons_of_mem _ (List.mem_append_left _ (List.mem_append_right _ h))) (by decide +kernel))) (goodIn_sub (fun _ h => List.mem_cons_of_mem _ (List.mem_append_right _ h)) (by decide +kernel))
set_option maxRecDepth 20000 in
theorem gL_setQuorum_X4_setQuorum : GoodIn wsL_setQuorum (wsV RL 31 RX4 yX4_setQuorum wsX4_setQuorum) := goodIn_app (goodIn_of _ (by decide +kernel)) ggL_setQuorum_X4_setQuorum
theorem dL_setQuorum_0 : decode cL_setQuorum 0 = .ok (.aload_n 3, 1) := by decide +kernel
theorem dL_setQuorum_1 : decode cL_setQuorum 1 = .ok (.iconst 0, 1) := by decide +kernel
theorem dL_setQuorum_2 : decode cL_setQuorum 2 = .ok (.aload_n 0, 1) := by decide +kernel
theorem dL_setQuorum_3 : decode cL_setQuorum 3 = .ok (.iload_n 1, 1) := by decide +kernel
theorem dL_setQuorum_4 : decode cL_setQuorum 4 = .ok (.iload_n 2, 1) := by decide +kernel
theorem dL_setQuorum_5 : decode cL_setQuorum 5 = .ok (.invokevirtual 31, 3) := by decide +kernel
theorem dL_setQuorum_8 : decode cL_setQuorum 8 = .ok (.i2l, 1) := by decide +kernel
theorem dL_setQuorum_9 : decode cL_setQuorum 9 = .ok (.lastore, 1) := by decide +kernel
theorem dL_setQuorum_10 : decode cL_setQuorum 10 = .ok (.goto 11, 3) := by decide +kernel
theorem dL_setQuorum_13 : decode cL_setQuorum 13 = .ok (.astore 4, 2) := by decide +kernel
theorem dL_setQuorum_15 : decode cL_setQuorum 15 = .ok (.iconst 1, 1) := by decide +kernel
theorem dL_setQuorum_16 : decode cL_setQuorum 16 = .ok (.ireturn, 1) := by decide +kernel
theorem dL_setQuorum_17 : decode cL_setQuorum 17 = .ok (.astore 4, 2) := by decide +kernel
theorem dL_setQuorum_19 : decode cL_setQuorum 19 = .ok (.iconst 2, 1) := by decide +kernel
theorem dL_setQuorum_20 : decode cL_setQuorum 20 = .ok (.ireturn, 1) := by decide +kernel
theorem dL_setQuorum_21 : decode cL_setQuorum 21 = .ok (.iconst 0, 1) := by decide +kernel
theorem dL_setQuorum_22 : decode cL_setQuorum 22 = .ok (.ireturn, 1) := by decide +kernel
set_option maxRecDepth 20000 in
theorem ggL_addWindow_X4_addWindow : GoodIn wsL_addWindow wsX4_addWindow := goodIn_ca (goodIn_ca (goodIn_ca (goodIn_r _ [8, 9, 10, 11, 12, 13, 14, 15, 16, 17, 18, 7, 19, 20, 21, 22, 23, 24, 25, 26, 27, 28, 29, 30, 31, 32, 33, 34, 35, 36, 37, 38, 39, 40, 41, 42, 43, 44, 45, 46, 47, 48, 49, 50, 51, 52, 53, 54, 55, 56, 57, 58, 59, 60, 61, 62, 63, 64, 65, 66, 67, 68, 69, 70, 71, 72, 73, 74, 75, 76, 77, 78, 79, 80, 81, 82, 83, 84, 85, 86, 87, 88, 89, 90, 91, 92, 93, 94, 95, 96, 97, 98, 99, 100, 101, 102, 103, 104, 105, 106, 107, 108, 109] (by decide +kernel) (by decide +kernel)) (goodIn_sub (fun _ h => List.mem_cons_of_mem _ (List.mem_append_left _ (List.mem_append_left _ (List.mem_append_right _ h)))) (by decide +kernel))) (goodIn_sub (fun _ h => List.mem_cons_of_mem _ (List.mem_append_left _ (List.mem_append_right _ h))) (by decide +kernel))) (goodIn_sub (fun _ h => List.mem_cons_of_mem _ (List.mem_append_right _ h)) (by decide +kernel))
set_option maxRecDepth 20000 in
theorem gL_addWindow_X4_addWindow : GoodIn wsL_addWindow (wsV RL 35 RX4 yX4_addWindow wsX4_addWindow) := goodIn_app (goodIn_of _ (by decide +kernel)) ggL_addWindow_X4_addWindow
theorem dL_addWindow_0 : decode cL_addWindow 0 = .ok (.aload 4, 2) := by decide +kernel
theorem dL_addWindow_2 : decode cL_addWindow 2 = .ok (.iconst 0, 1) := by decide +kernel
theorem dL_addWindow_3 : decode cL_addWindow 3 = .ok (.aload_n 0, 1) := by decide +kernel
theorem dL_addWindow_4 : decode cL_addWindow 4 = .ok (.iload_n 1, 1) := by decide +kernel
theorem dL_addWindow_5 : decode cL_addWindow 5 = .ok (.iload_n 2, 1) := by decide +kernel
theorem dL_addWindow_6 : decode cL_addWindow 6 = .ok (.iload_n 3, 1) := by decide +kernel
theorem dL_addWindow_7 : decode cL_addWindow 7 = .ok (.invokevirtual 35, 3) := by decide +kernel
theorem dL_addWindow_10 : decode cL_addWindow 10 = .ok (.i2l, 1) := by decide +kernel
theorem dL_addWindow_11 : decode cL_addWindow 11 = .ok (.lastore, 1) := by decide +kernel
theorem dL_addWindow_12 : decode cL_addWindow 12 = .ok (.goto 15, 3) := by decide +kernel
theorem dL_addWindow_15 : decode cL_addWindow 15 = .ok (.astore 5, 2) := by decide +kernel
theorem dL_addWindow_17 : decode cL_addWindow 17 = .ok (.iconst 1, 1) := by decide +kernel
theorem dL_addWindow_18 : decode cL_addWindow 18 = .ok (.ireturn, 1) := by decide +kernel
theorem dL_addWindow_19 : decode cL_addWindow 19 = .ok (.astore 5, 2) := by decide +kernel
theorem dL_addWindow_21 : decode cL_addWindow 21 = .ok (.iconst 2, 1) := by decide +kernel
theorem dL_addWindow_22 : decode cL_addWindow 22 = .ok (.ireturn, 1) := by decide +kernel
theorem dL_addWindow_23 : decode cL_addWindow 23 = .ok (.astore 5, 2) := by decide +kernel
theorem dL_addWindow_25 : decode cL_addWindow 25 = .ok (.iconst 3, 1) := by decide +kernel
theorem dL_addWindow_26 : decode cL_addWindow 26 = .ok (.ireturn, 1) := by decide +kernel
theorem dL_addWindow_27 : decode cL_addWindow 27 = .ok (.iconst 0, 1) := by decide +kernel
theorem dL_addWindow_28 : decode cL_addWindow 28 = .ok (.ireturn, 1) := by decide +kernel
set_option maxRecDepth 20000 in
theorem ggL_endWindow_X4_endWindow : GoodIn wsL_endWindow wsX4_endWindow := goodIn_ca (goodIn_r _ [6, 7, 8, 9, 10, 11, 12, 13, 14, 15, 16, 17, 18, 19, 20, 21, 22, 23, 24, 25, 26, 27, 28, 29, 30, 31, 32, 33, 34, 35, 36, 37, 38, 39, 40, 41, 42, 43, 44, 45, 46, 47, 48, 49, 50, 51, 52, 53, 54, 55, 56, 57, 58, 59, 60, 61, 62, 63, 64, 65] (by decide +kernel) (by decide +kernel)) (goodIn_sub (fun _ h => List.mem_cons_of_mem _ (List.mem_append_right _ h)) (by decide +kernel))
set_option maxRecDepth 20000 in
theorem gL_endWindow_X4_endWindow : GoodIn wsL_endWindow (wsV RL 39 RX4 yX4_endWindow wsX4_endWindow) := goodIn_app (goodIn_of _ (by decide +kernel)) ggL_endWindow_X4_endWindow
theorem dL_endWindow_0 : decode cL_endWindow 0 = .ok (.aload_n 2, 1) := by decide +kernel
theorem dL_endWindow_1 : decode cL_endWindow 1 = .ok (.iconst 0, 1) := by decide +kernel
theorem dL_endWindow_2 : decode cL_endWindow 2 = .ok (.aload_n 0, 1) := by decide +kernel
theorem dL_endWindow_3 : decode cL_endWindow 3 = .ok (.iload_n 1, 1) := by decide +kernel
theorem dL_endWindow_4 : decode cL_endWindow 4 = .ok (.invokevirtual 39, 3) := by decide +kernel
theorem dL_endWindow_7 : decode cL_endWindow 7 = .ok (.i2l, 1) := by decide +kernel
theorem dL_endWindow_8 : decode cL_endWindow 8 = .ok (.lastore, 1) := by decide +kernel
theorem dL_endWindow_9 : decode cL_endWindow 9 = .ok (.goto 6, 3) := by decide +kernel
theorem dL_endWindow_12 : decode cL_endWindow 12 = .ok (.astore_n 3, 1) := by decide +kernel
theorem dL_endWindow_13 : decode cL_endWindow 13 = .ok (.iconst 1, 1) := by decide +kernel
theorem dL_endWindow_14 : decode cL_endWindow 14 = .ok (.ireturn, 1) := by decide +kernel
theorem dL_endWindow_15 : decode cL_endWindow 15 = .ok (.iconst 0, 1) := by decide +kernel
theorem dL_endWindow_16 : decode cL_endWindow 16 = .ok (.ireturn, 1) := by decide +kernel
set_option maxRecDepth 20000 in
theorem ggL_pass_X4_pass : GoodIn wsL_pass wsX4_pass := goodIn_ca (goodIn_r _ [6, 7, 8, 9, 5, 10, 11, 12, 13, 14, 15, 16, 17, 18, 19, 20, 21, 22, 23, 24, 25, 26, 27, 28, 29, 30, 31, 32, 33, 34, 35, 36, 37, 38, 39, 40, 41, 42, 43, 44, 45, 46, 47, 48, 49, 50, 51, 52, 53, 54, 55, 56, 57, 58, 59, 60, 61, 62, 63, 64, 65, 66, 67, 68, 69, 70, 71, 72, 73, 74, 75, 76, 77, 78, 79, 80, 81, 82, 83, 84, 85, 86, 87, 88, 89, 90, 91, 92, 93, 94, 95, 96, 97, 98, 99, 100, 101, 102, 103, 104, 105, 106, 107, 108, 109, 110, 111, 112, 113, 114, 115, 116, 117, 118, 119, 120, 121, 122, 123, 124, 125, 126, 127, 128, 129, 130, 131, 132, 133, 134, 135, 136, 137, 138, 139, 140, 141, 142, 143, 144, 145, 146, 147, 148, 149, 150, 151, 152, 153, 154, 155, 156, 157, 158, 159, 160, 161, 162, 163, 164, 165, 166, 167, 168, 169, 170, 171, 172, 173, 174, 175, 176, 177, 178, 179, 180, 181, 182, 183, 184, 185, 186, 187, 188, 189, 190, 191, 192, 193, 194, 195, 196, 197, 198, 199, 200, 201, 202, 203, 204, 205, 206, 207, 208, 209, 210, 211, 212, 213, 214, 215, 216, 217, 218, 219, 220, 221, 222, 223, 224, 225, 226, 227, 228, 229, 230, 231, 232, 233, 234, 235, 236, 237, 238, 239, 240, 241, 242, 243, 244, 245, 246, 247, 248, 249, 250, 251, 252, 253, 254] (by decide +kernel) (by decide +kernel)) (goodIn_sub (fun _ h => List.mem_cons_of_mem _ (List.mem_append_right _ h)) (by decide +kernel))
set_option maxRecDepth 20000 in
theorem gL_pass_X4_pass : GoodIn wsL_pass (wsV RL 42 RX4 yX4_pass wsX4_pass) := goodIn_app (goodIn_of _ (by decide +kernel)) ggL_pass_X4_pass
theorem dL_pass_0 : decode cL_pass 0 = .ok (.aload_n 2, 1) := by decide +kernel
theorem dL_pass_1 : decode cL_pass 1 = .ok (.iconst 0, 1) := by decide +kernel
theorem dL_pass_2 : decode cL_pass 2 = .ok (.aload_n 0, 1) := by decide +kernel
theorem dL_pass_3 : decode cL_pass 3 = .ok (.iload_n 1, 1) := by decide +kernel
theorem dL_pass_4 : decode cL_pass 4 = .ok (.invokevirtual 42, 3) := by decide +kernel
theorem dL_pass_7 : decode cL_pass 7 = .ok (.i2l, 1) := by decide +kernel
theorem dL_pass_8 : decode cL_pass 8 = .ok (.lastore, 1) := by decide +kernel
theorem dL_pass_9 : decode cL_pass 9 = .ok (.goto 6, 3) := by decide +kernel
theorem dL_pass_12 : decode cL_pass 12 = .ok (.astore_n 3, 1) := by decide +kernel
theorem dL_pass_13 : decode cL_pass 13 = .ok (.iconst 1, 1) := by decide +kernel
theorem dL_pass_14 : decode cL_pass 14 = .ok (.ireturn, 1) := by decide +kernel
theorem dL_pass_15 : decode cL_pass 15 = .ok (.iconst 0, 1) := by decide +kernel
theorem dL_pass_16 : decode cL_pass 16 = .ok (.ireturn, 1) := by decide +kernel
set_option maxRecDepth 20000 in
theorem ggL_failing_X4_failing : GoodIn wsL_failing wsX4_failing := goodIn_ca (goodIn_r _ [6, 7, 8, 9, 10, 11, 12, 13, 5, 14, 15, 16, 17, 18, 19, 20, 21, 22, 23, 24, 25, 26, 27, 28, 29, 30, 31, 32, 33, 34, 35, 36, 37, 38, 39, 40, 41, 42, 43, 44, 45, 46, 47, 48, 49, 50, 51, 52, 53, 54, 55, 56, 57, 58, 59, 60, 61, 62, 63, 64, 65, 66, 67, 68, 69, 70, 71, 72, 73, 74, 75, 76, 77, 78, 79, 80] (by decide +kernel) (by decide +kernel)) (goodIn_sub (fun _ h => List.mem_cons_of_mem _ (List.mem_append_right _ h)) (by decide +kernel))
set_option maxRecDepth 20000 in
theorem gL_failing_X4_failing : GoodIn wsL_failing (wsV RL 45 RX4 yX4_failing wsX4_failing) := goodIn_app (goodIn_of _ (by decide +kernel)) ggL_failing_X4_failing
theorem dL_failing_0 : decode cL_failing 0 = .ok (.aload_n 2, 1) := by decide +kernel
theorem dL_failing_1 : decode cL_failing 1 = .ok (.iconst 0, 1) := by decide +kernel
theorem dL_failing_2 : decode cL_failing 2 = .ok (.aload_n 0, 1) := by decide +kernel
theorem dL_failing_3 : decode cL_failing 3 = .ok (.iload_n 1, 1) := by decide +kernel
theorem dL_failing_4 : decode cL_failing 4 = .ok (.invokevirtual 45, 3) := by decide +kernel
theorem dL_failing_7 : decode cL_failing 7 = .ok (.i2l, 1) := by decide +kernel
theorem dL_failing_8 : decode cL_failing 8 = .ok (.lastore, 1) := by decide +kernel
theorem dL_failing_9 : decode cL_failing 9 = .ok (.goto 6, 3) := by decide +kernel
theorem dL_failing_12 : decode cL_failing 12 = .ok (.astore_n 3, 1) := by decide +kernel
theorem dL_failing_13 : decode cL_failing 13 = .ok (.iconst 1, 1) := by decide +kernel
theorem dL_failing_14 : decode cL_failing 14 = .ok (.ireturn, 1) := by decide +kernel
theorem dL_failing_15 : decode cL_failing 15 = .ok (.iconst 0, 1) := by decide +kernel
theorem dL_failing_16 : decode cL_failing 16 = .ok (.ireturn, 1) := by decide +kernel
set_option maxRecDepth 20000 in
theorem ggL_nextProbe_X4_nextProbe : GoodIn wsL_nextProbe wsX4_nextProbe := goodIn_ca (goodIn_r _ [6, 7, 8, 9, 10, 11, 12, 5, 13, 14, 15, 16, 17, 18, 19, 20, 21, 22, 23, 24, 25, 26, 27, 28, 29, 30, 31, 32, 33, 34, 35, 36, 37, 38, 39, 40, 41, 42, 43, 44, 45, 46, 47, 48, 49, 50, 51, 52, 53, 54, 55, 56, 57, 58, 59, 60, 61, 62, 63, 64, 65, 66, 67, 68, 69, 70, 71, 72, 73, 74, 75] (by decide +kernel) (by decide +kernel)) (goodIn_sub (fun _ h => List.mem_cons_of_mem _ (List.mem_append_right _ h)) (by decide +kernel))
set_option maxRecDepth 20000 in
theorem gL_nextProbe_X4_nextProbe : GoodIn wsL_nextProbe (wsV RL 48 RX4 yX4_nextProbe wsX4_nextProbe) := goodIn_app (goodIn_of _ (by decide +kernel)) ggL_nextProbe_X4_nextProbe
theorem dL_nextProbe_0 : decode cL_nextProbe 0 = .ok (.aload_n 3, 1) := by decide +kernel
theorem dL_nextProbe_1 : decode cL_nextProbe 1 = .ok (.iconst 0, 1) := by decide +kernel
theorem dL_nextProbe_2 : decode cL_nextProbe 2 = .ok (.aload_n 0, 1) := by decide +kernel
theorem dL_nextProbe_3 : decode cL_nextProbe 3 = .ok (.iload_n 1, 1) := by decide +kernel
theorem dL_nextProbe_4 : decode cL_nextProbe 4 = .ok (.iload_n 2, 1) := by decide +kernel
theorem dL_nextProbe_5 : decode cL_nextProbe 5 = .ok (.invokevirtual 48, 3) := by decide +kernel
theorem dL_nextProbe_8 : decode cL_nextProbe 8 = .ok (.i2l, 1) := by decide +kernel
theorem dL_nextProbe_9 : decode cL_nextProbe 9 = .ok (.lastore, 1) := by decide +kernel
theorem dL_nextProbe_10 : decode cL_nextProbe 10 = .ok (.goto 7, 3) := by decide +kernel
theorem dL_nextProbe_13 : decode cL_nextProbe 13 = .ok (.astore 4, 2) := by decide +kernel
theorem dL_nextProbe_15 : decode cL_nextProbe 15 = .ok (.iconst 1, 1) := by decide +kernel
theorem dL_nextProbe_16 : decode cL_nextProbe 16 = .ok (.ireturn, 1) := by decide +kernel
theorem dL_nextProbe_17 : decode cL_nextProbe 17 = .ok (.iconst 0, 1) := by decide +kernel
theorem dL_nextProbe_18 : decode cL_nextProbe 18 = .ok (.ireturn, 1) := by decide +kernel
set_option maxRecDepth 20000 in
theorem ggL_repetition_X4_repetition : GoodIn wsL_repetition wsX4_repetition := goodIn_ca (goodIn_r _ [6, 7, 8, 9, 10, 11, 12, 5, 13, 14, 15, 16, 17, 18, 19, 20, 21, 22, 23, 24, 25, 26, 27, 28, 29, 30, 31, 32, 33, 34, 35, 36, 37, 38, 39, 40, 41, 42, 43, 44, 45, 46, 47, 48, 49, 50, 51, 52, 53, 54, 55, 56, 57, 58, 59, 60, 61, 62, 63, 64, 65, 66] (by decide +kernel) (by decide +kernel)) (goodIn_sub (fun _ h => List.mem_cons_of_mem _ (List.mem_append_right _ h)) (by decide +kernel))
set_option maxRecDepth 20000 in
theorem gL_repetition_X4_repetition : GoodIn wsL_repetition (wsV RL 51 RX4 yX4_repetition wsX4_repetition) := goodIn_app (goodIn_of _ (by decide +kernel)) ggL_repetition_X4_repetition
theorem dL_repetition_0 : decode cL_repetition 0 = .ok (.aload_n 3, 1) := by decide +kernel
theorem dL_repetition_1 : decode cL_repetition 1 = .ok (.iconst 0, 1) := by decide +kernel
theorem dL_repetition_2 : decode cL_repetition 2 = .ok (.aload_n 0, 1) := by decide +kernel
theorem dL_repetition_3 : decode cL_repetition 3 = .ok (.iload_n 1, 1) := by decide +kernel
theorem dL_repetition_4 : decode cL_repetition 4 = .ok (.iload_n 2, 1) := by decide +kernel
theorem dL_repetition_5 : decode cL_repetition 5 = .ok (.invokevirtual 51, 3) := by decide +kernel
theorem dL_repetition_8 : decode cL_repetition 8 = .ok (.i2l, 1) := by decide +kernel
theorem dL_repetition_9 : decode cL_repetition 9 = .ok (.lastore, 1) := by decide +kernel
theorem dL_repetition_10 : decode cL_repetition 10 = .ok (.goto 7, 3) := by decide +kernel
theorem dL_repetition_13 : decode cL_repetition 13 = .ok (.astore 4, 2) := by decide +kernel
theorem dL_repetition_15 : decode cL_repetition 15 = .ok (.iconst 1, 1) := by decide +kernel
theorem dL_repetition_16 : decode cL_repetition 16 = .ok (.ireturn, 1) := by decide +kernel
theorem dL_repetition_17 : decode cL_repetition 17 = .ok (.iconst 0, 1) := by decide +kernel
theorem dL_repetition_18 : decode cL_repetition 18 = .ok (.ireturn, 1) := by decide +kernel
set_option maxRecDepth 20000 in
theorem ggL_vote_X4_vote : GoodIn wsL_vote wsX4_vote := goodIn_ca (goodIn_r _ [6, 7, 8, 9, 10, 11, 12, 5, 13, 14, 15, 16, 17, 18, 19, 20, 21, 22, 23, 24, 25, 26, 27, 28, 29, 30, 31, 32, 33, 34, 35, 36, 37, 38, 39, 40, 41, 42, 43, 44, 45, 46, 47, 48, 49, 50, 51, 52, 53, 54, 55, 56, 57, 58, 59, 60, 61, 62, 63, 64, 65, 66] (by decide +kernel) (by decide +kernel)) (goodIn_sub (fun _ h => List.mem_cons_of_mem _ (List.mem_append_right _ h)) (by decide +kernel))
set_option maxRecDepth 20000 in
theorem gL_vote_X4_vote : GoodIn wsL_vote (wsV RL 54 RX4 yX4_vote wsX4_vote) := goodIn_app (goodIn_of _ (by decide +kernel)) ggL_vote_X4_vote
theorem dL_vote_0 : decode cL_vote 0 = .ok (.aload_n 3, 1) := by decide +kernel
theorem dL_vote_1 : decode cL_vote 1 = .ok (.iconst 0, 1) := by decide +kernel
theorem dL_vote_2 : decode cL_vote 2 = .ok (.aload_n 0, 1) := by decide +kernel
theorem dL_vote_3 : decode cL_vote 3 = .ok (.iload_n 1, 1) := by decide +kernel
theorem dL_vote_4 : decode cL_vote 4 = .ok (.iload_n 2, 1) := by decide +kernel
theorem dL_vote_5 : decode cL_vote 5 = .ok (.invokevirtual 54, 3) := by decide +kernel
theorem dL_vote_8 : decode cL_vote 8 = .ok (.i2l, 1) := by decide +kernel
theorem dL_vote_9 : decode cL_vote 9 = .ok (.lastore, 1) := by decide +kernel
theorem dL_vote_10 : decode cL_vote 10 = .ok (.goto 7, 3) := by decide +kernel
theorem dL_vote_13 : decode cL_vote 13 = .ok (.astore 4, 2) := by decide +kernel
theorem dL_vote_15 : decode cL_vote 15 = .ok (.iconst 1, 1) := by decide +kernel
theorem dL_vote_16 : decode cL_vote 16 = .ok (.ireturn, 1) := by decide +kernel
theorem dL_vote_17 : decode cL_vote 17 = .ok (.iconst 0, 1) := by decide +kernel
theorem dL_vote_18 : decode cL_vote 18 = .ok (.ireturn, 1) := by decide +kernel
set_option maxRecDepth 20000 in
theorem ggL_probes_X4_probes : GoodIn wsL_probes wsX4_probes := goodIn_ca (goodIn_r _ [6, 7, 8, 9, 10, 11, 12, 5, 13, 14, 15, 16, 17, 18, 19, 20, 21, 22, 23, 24, 25, 26, 27, 28, 29, 30, 31, 32, 33, 34, 35, 36, 37, 38, 39, 40, 41, 42, 43, 44, 45, 46, 47, 48, 49, 50, 51, 52] (by decide +kernel) (by decide +kernel)) (goodIn_sub (fun _ h => List.mem_cons_of_mem _ (List.mem_append_right _ h)) (by decide +kernel))
set_option maxRecDepth 20000 in
theorem gL_probes_X4_probes : GoodIn wsL_probes (wsV RL 57 RX4 yX4_probes wsX4_probes) := goodIn_app (goodIn_of _ (by decide +kernel)) ggL_probes_X4_probes
theorem dL_probes_0 : decode cL_probes 0 = .ok (.aload_n 2, 1) := by decide +kernel
theorem dL_probes_1 : decode cL_probes 1 = .ok (.iconst 0, 1) := by decide +kernel
theorem dL_probes_2 : decode cL_probes 2 = .ok (.aload_n 0, 1) := by decide +kernel
theorem dL_probes_3 : decode cL_probes 3 = .ok (.iload_n 1, 1) := by decide +kernel
theorem dL_probes_4 : decode cL_probes 4 = .ok (.invokevirtual 57, 3) := by decide +kernel
theorem dL_probes_7 : decode cL_probes 7 = .ok (.i2l, 1) := by decide +kernel
theorem dL_probes_8 : decode cL_probes 8 = .ok (.lastore, 1) := by decide +kernel
theorem dL_probes_9 : decode cL_probes 9 = .ok (.goto 6, 3) := by decide +kernel
theorem dL_probes_12 : decode cL_probes 12 = .ok (.astore_n 3, 1) := by decide +kernel
theorem dL_probes_13 : decode cL_probes 13 = .ok (.iconst 1, 1) := by decide +kernel
theorem dL_probes_14 : decode cL_probes 14 = .ok (.ireturn, 1) := by decide +kernel
theorem dL_probes_15 : decode cL_probes 15 = .ok (.iconst 0, 1) := by decide +kernel
theorem dL_probes_16 : decode cL_probes 16 = .ok (.ireturn, 1) := by decide +kernel
set_option maxRecDepth 20000 in
theorem ggL_failures_X4_failures : GoodIn wsL_failures wsX4_failures := goodIn_ca (goodIn_r _ [6, 7, 8, 9, 10, 11, 12, 5, 13, 14, 15, 16, 17, 18, 19, 20, 21, 22, 23, 24, 25, 26, 27, 28, 29, 30, 31, 32, 33, 34, 35, 36, 37, 38, 39, 40, 41, 42, 43, 44, 45, 46, 47, 48, 49, 50, 51, 52] (by decide +kernel) (by decide +kernel)) (goodIn_sub (fun _ h => List.mem_cons_of_mem _ (List.mem_append_right _ h)) (by decide +kernel))
set_option maxRecDepth 20000 in
theorem gL_failures_X4_failures : GoodIn wsL_failures (wsV RL 60 RX4 yX4_failures wsX4_failures) := goodIn_app (goodIn_of _ (by decide +kernel)) ggL_failures_X4_failures
theorem dL_failures_0 : decode cL_failures 0 = .ok (.aload_n 2, 1) := by decide +kernel
theorem dL_failures_1 : decode cL_failures 1 = .ok (.iconst 0, 1) := by decide +kernel
theorem dL_failures_2 : decode cL_failures 2 = .ok (.aload_n 0, 1) := by decide +kernel
theorem dL_failures_3 : decode cL_failures 3 = .ok (.iload_n 1, 1) := by decide +kernel
theorem dL_failures_4 : decode cL_failures 4 = .ok (.invokevirtual 60, 3) := by decide +kernel
theorem dL_failures_7 : decode cL_failures 7 = .ok (.i2l, 1) := by decide +kernel
theorem dL_failures_8 : decode cL_failures 8 = .ok (.lastore, 1) := by decide +kernel
theorem dL_failures_9 : decode cL_failures 9 = .ok (.goto 6, 3) := by decide +kernel
theorem dL_failures_12 : decode cL_failures 12 = .ok (.astore_n 3, 1) := by decide +kernel
theorem dL_failures_13 : decode cL_failures 13 = .ok (.iconst 1, 1) := by decide +kernel
theorem dL_failures_14 : decode cL_failures 14 = .ok (.ireturn, 1) := by decide +kernel
theorem dL_failures_15 : decode cL_failures 15 = .ok (.iconst 0, 1) := by decide +kernel
theorem dL_failures_16 : decode cL_failures 16 = .ok (.ireturn, 1) := by decide +kernel
set_option maxRecDepth 20000 in
theorem ggL_isBad_X4_isBad : GoodIn wsL_isBad wsX4_isBad := goodIn_ca (goodIn_r _ [6, 7, 8, 9, 10, 5, 11, 12, 13, 14, 15, 16, 17, 18, 19, 20, 21, 22, 23, 24, 25, 26, 27, 28, 29, 30, 31, 32, 33] (by decide +kernel) (by decide +kernel)) (goodIn_sub (fun _ h => List.mem_cons_of_mem _ (List.mem_append_right _ h)) (by decide +kernel))
set_option maxRecDepth 20000 in
theorem gL_isBad_X4_isBad : GoodIn wsL_isBad (wsV RL 63 RX4 yX4_isBad wsX4_isBad) := goodIn_app (goodIn_of _ (by decide +kernel)) ggL_isBad_X4_isBad
theorem dL_isBad_0 : decode cL_isBad 0 = .ok (.aload_n 2, 1) := by decide +kernel
theorem dL_isBad_1 : decode cL_isBad 1 = .ok (.iconst 0, 1) := by decide +kernel
theorem dL_isBad_2 : decode cL_isBad 2 = .ok (.aload_n 0, 1) := by decide +kernel
theorem dL_isBad_3 : decode cL_isBad 3 = .ok (.iload_n 1, 1) := by decide +kernel
theorem dL_isBad_4 : decode cL_isBad 4 = .ok (.invokevirtual 63, 3) := by decide +kernel
theorem dL_isBad_7 : decode cL_isBad 7 = .ok (.ifCond .eq 7, 3) := by decide +kernel
theorem dL_isBad_10 : decode cL_isBad 10 = .ok (.lconst 1, 1) := by decide +kernel
theorem dL_isBad_11 : decode cL_isBad 11 = .ok (.goto 4, 3) := by decide +kernel
theorem dL_isBad_14 : decode cL_isBad 14 = .ok (.lconst 0, 1) := by decide +kernel
theorem dL_isBad_15 : decode cL_isBad 15 = .ok (.lastore, 1) := by decide +kernel
theorem dL_isBad_16 : decode cL_isBad 16 = .ok (.goto 6, 3) := by decide +kernel
theorem dL_isBad_19 : decode cL_isBad 19 = .ok (.astore_n 3, 1) := by decide +kernel
theorem dL_isBad_20 : decode cL_isBad 20 = .ok (.iconst 1, 1) := by decide +kernel
theorem dL_isBad_21 : decode cL_isBad 21 = .ok (.ireturn, 1) := by decide +kernel
theorem dL_isBad_22 : decode cL_isBad 22 = .ok (.iconst 0, 1) := by decide +kernel
theorem dL_isBad_23 : decode cL_isBad 23 = .ok (.ireturn, 1) := by decide +kernel
set_option maxRecDepth 20000 in
theorem ggL_verdict_X4_verdict : GoodIn wsL_verdict wsX4_verdict := goodIn_ca (goodIn_r _ [6, 7, 8, 9, 10, 11, 12, 5, 13, 14, 15, 16, 17, 18, 19, 20, 21, 22, 23, 24, 25, 26, 27, 28, 29, 30, 31, 32, 33, 34, 35, 36, 37, 38, 39, 40, 41, 42, 43, 44, 45, 46, 47, 48, 49, 50, 51, 52, 53, 54, 55, 56, 57, 58, 59, 60, 61] (by decide +kernel) (by decide +kernel)) (goodIn_sub (fun _ h => List.mem_cons_of_mem _ (List.mem_append_right _ h)) (by decide +kernel))
set_option maxRecDepth 20000 in
theorem gL_verdict_X4_verdict : GoodIn wsL_verdict (wsV RL 67 RX4 yX4_verdict wsX4_verdict) := goodIn_app (goodIn_of _ (by decide +kernel)) ggL_verdict_X4_verdict
theorem dL_verdict_0 : decode cL_verdict 0 = .ok (.aload_n 2, 1) := by decide +kernel
theorem dL_verdict_1 : decode cL_verdict 1 = .ok (.iconst 0, 1) := by decide +kernel
theorem dL_verdict_2 : decode cL_verdict 2 = .ok (.aload_n 0, 1) := by decide +kernel
theorem dL_verdict_3 : decode cL_verdict 3 = .ok (.iload_n 1, 1) := by decide +kernel
theorem dL_verdict_4 : decode cL_verdict 4 = .ok (.invokevirtual 67, 3) := by decide +kernel
theorem dL_verdict_7 : decode cL_verdict 7 = .ok (.i2l, 1) := by decide +kernel
theorem dL_verdict_8 : decode cL_verdict 8 = .ok (.lastore, 1) := by decide +kernel
theorem dL_verdict_9 : decode cL_verdict 9 = .ok (.goto 6, 3) := by decide +kernel
theorem dL_verdict_12 : decode cL_verdict 12 = .ok (.astore_n 3, 1) := by decide +kernel
theorem dL_verdict_13 : decode cL_verdict 13 = .ok (.iconst 1, 1) := by decide +kernel
theorem dL_verdict_14 : decode cL_verdict 14 = .ok (.ireturn, 1) := by decide +kernel
theorem dL_verdict_15 : decode cL_verdict 15 = .ok (.iconst 0, 1) := by decide +kernel
theorem dL_verdict_16 : decode cL_verdict 16 = .ok (.ireturn, 1) := by decide +kernel
set_option maxRecDepth 20000 in
theorem ggL_trusted_X4_trusted : GoodIn wsL_trusted wsX4_trusted := goodIn_ca (goodIn_r _ [6, 7, 8, 9, 10, 11, 5, 12, 13, 14, 15, 16, 17, 18, 19, 20, 21, 22, 23, 24, 25, 26, 27, 28, 29, 30, 31, 32, 33, 34, 35, 36, 37, 38, 39, 40, 41, 42, 43, 44, 45, 46, 47, 48, 49, 50, 51, 52, 53, 54, 55, 56, 57, 58, 59, 60, 61, 62, 63, 64, 65, 66, 67, 68, 69, 70, 71, 72, 73, 74, 75, 76] (by decide +kernel) (by decide +kernel)) (goodIn_sub (fun _ h => List.mem_cons_of_mem _ (List.mem_append_right _ h)) (by decide +kernel))
set_option maxRecDepth 20000 in
theorem gL_trusted_X4_trusted : GoodIn wsL_trusted (wsV RL 70 RX4 yX4_trusted wsX4_trusted) := goodIn_app (goodIn_of _ (by decide +kernel)) ggL_trusted_X4_trusted
theorem dL_trusted_0 : decode cL_trusted 0 = .ok (.aload_n 2, 1) := by decide +kernel
theorem dL_trusted_1 : decode cL_trusted 1 = .ok (.iconst 0, 1) := by decide +kernel
theorem dL_trusted_2 : decode cL_trusted 2 = .ok (.aload_n 0, 1) := by decide +kernel
theorem dL_trusted_3 : decode cL_trusted 3 = .ok (.iload_n 1, 1) := by decide +kernel
theorem dL_trusted_4 : decode cL_trusted 4 = .ok (.invokevirtual 70, 3) := by decide +kernel
theorem dL_trusted_7 : decode cL_trusted 7 = .ok (.i2l, 1) := by decide +kernel
theorem dL_trusted_8 : decode cL_trusted 8 = .ok (.lastore, 1) := by decide +kernel
theorem dL_trusted_9 : decode cL_trusted 9 = .ok (.goto 6, 3) := by decide +kernel
theorem dL_trusted_12 : decode cL_trusted 12 = .ok (.astore_n 3, 1) := by decide +kernel
theorem dL_trusted_13 : decode cL_trusted 13 = .ok (.iconst 1, 1) := by decide +kernel
theorem dL_trusted_14 : decode cL_trusted 14 = .ok (.ireturn, 1) := by decide +kernel
theorem dL_trusted_15 : decode cL_trusted 15 = .ok (.iconst 0, 1) := by decide +kernel
theorem dL_trusted_16 : decode cL_trusted 16 = .ok (.ireturn, 1) := by decide +kernel
set_option maxRecDepth 20000 in
theorem ggL_hasAlarm_X4_hasAlarm : GoodIn wsL_hasAlarm wsX4_hasAlarm := goodIn_ca (goodIn_r _ [6, 7, 8, 9, 10, 11, 12, 5, 13, 14, 15, 16, 17, 18, 19, 20, 21, 22, 23, 24, 25, 26, 27, 28, 29, 30, 31, 32, 33, 34, 35, 36, 37, 38, 39, 40, 41, 42, 43, 44, 45, 46, 47, 48, 49, 50, 51, 52, 53, 54, 55, 56, 57, 58, 59, 60, 61] (by decide +kernel) (by decide +kernel)) (goodIn_sub (fun _ h => List.mem_cons_of_mem _ (List.mem_append_right _ h)) (by decide +kernel))
set_option maxRecDepth 20000 in
theorem gL_hasAlarm_X4_hasAlarm : GoodIn wsL_hasAlarm (wsV RL 73 RX4 yX4_hasAlarm wsX4_hasAlarm) := goodIn_app (goodIn_of _ (by decide +kernel)) ggL_hasAlarm_X4_hasAlarm
theorem dL_hasAlarm_0 : decode cL_hasAlarm 0 = .ok (.aload_n 2, 1) := by decide +kernel
theorem dL_hasAlarm_1 : decode cL_hasAlarm 1 = .ok (.iconst 0, 1) := by decide +kernel
theorem dL_hasAlarm_2 : decode cL_hasAlarm 2 = .ok (.aload_n 0, 1) := by decide +kernel
theorem dL_hasAlarm_3 : decode cL_hasAlarm 3 = .ok (.iload_n 1, 1) := by decide +kernel
theorem dL_hasAlarm_4 : decode cL_hasAlarm 4 = .ok (.invokevirtual 73, 3) := by decide +kernel
theorem dL_hasAlarm_7 : decode cL_hasAlarm 7 = .ok (.ifCond .eq 7, 3) := by decide +kernel
theorem dL_hasAlarm_10 : decode cL_hasAlarm 10 = .ok (.lconst 1, 1) := by decide +kernel
theorem dL_hasAlarm_11 : decode cL_hasAlarm 11 = .ok (.goto 4, 3) := by decide +kernel
theorem dL_hasAlarm_14 : decode cL_hasAlarm 14 = .ok (.lconst 0, 1) := by decide +kernel
theorem dL_hasAlarm_15 : decode cL_hasAlarm 15 = .ok (.lastore, 1) := by decide +kernel
theorem dL_hasAlarm_16 : decode cL_hasAlarm 16 = .ok (.goto 6, 3) := by decide +kernel
theorem dL_hasAlarm_19 : decode cL_hasAlarm 19 = .ok (.astore_n 3, 1) := by decide +kernel
theorem dL_hasAlarm_20 : decode cL_hasAlarm 20 = .ok (.iconst 1, 1) := by decide +kernel
theorem dL_hasAlarm_21 : decode cL_hasAlarm 21 = .ok (.ireturn, 1) := by decide +kernel
theorem dL_hasAlarm_22 : decode cL_hasAlarm 22 = .ok (.iconst 0, 1) := by decide +kernel
theorem dL_hasAlarm_23 : decode cL_hasAlarm 23 = .ok (.ireturn, 1) := by decide +kernel
set_option maxRecDepth 20000 in
theorem ggL_alarmCheck_X4_alarmCheck : GoodIn wsL_alarmCheck wsX4_alarmCheck := goodIn_ca (goodIn_r _ [6, 7, 8, 9, 10, 11, 12, 5, 13, 14, 15, 16, 17, 18, 19, 20, 21, 22, 23, 24, 25, 26, 27, 28, 29, 30, 31, 32, 33, 34, 35, 36, 37, 38, 39, 40, 41, 42, 43, 44, 45, 46, 47, 48, 49, 50, 51] (by decide +kernel) (by decide +kernel)) (goodIn_sub (fun _ h => List.mem_cons_of_mem _ (List.mem_append_right _ h)) (by decide +kernel))
set_option maxRecDepth 20000 in
theorem gL_alarmCheck_X4_alarmCheck : GoodIn wsL_alarmCheck (wsV RL 76 RX4 yX4_alarmCheck wsX4_alarmCheck) := goodIn_app (goodIn_of _ (by decide +kernel)) ggL_alarmCheck_X4_alarmCheck
theorem dL_alarmCheck_0 : decode cL_alarmCheck 0 = .ok (.aload_n 2, 1) := by decide +kernel
theorem dL_alarmCheck_1 : decode cL_alarmCheck 1 = .ok (.iconst 0, 1) := by decide +kernel
theorem dL_alarmCheck_2 : decode cL_alarmCheck 2 = .ok (.aload_n 0, 1) := by decide +kernel
theorem dL_alarmCheck_3 : decode cL_alarmCheck 3 = .ok (.iload_n 1, 1) := by decide +kernel
theorem dL_alarmCheck_4 : decode cL_alarmCheck 4 = .ok (.invokevirtual 76, 3) := by decide +kernel
theorem dL_alarmCheck_7 : decode cL_alarmCheck 7 = .ok (.i2l, 1) := by decide +kernel
theorem dL_alarmCheck_8 : decode cL_alarmCheck 8 = .ok (.lastore, 1) := by decide +kernel
theorem dL_alarmCheck_9 : decode cL_alarmCheck 9 = .ok (.goto 6, 3) := by decide +kernel
theorem dL_alarmCheck_12 : decode cL_alarmCheck 12 = .ok (.astore_n 3, 1) := by decide +kernel
theorem dL_alarmCheck_13 : decode cL_alarmCheck 13 = .ok (.iconst 1, 1) := by decide +kernel
theorem dL_alarmCheck_14 : decode cL_alarmCheck 14 = .ok (.ireturn, 1) := by decide +kernel
theorem dL_alarmCheck_15 : decode cL_alarmCheck 15 = .ok (.iconst 0, 1) := by decide +kernel
theorem dL_alarmCheck_16 : decode cL_alarmCheck 16 = .ok (.ireturn, 1) := by decide +kernel
set_option maxRecDepth 20000 in
theorem ggL_alarmRaised_X4_alarmRaised : GoodIn wsL_alarmRaised wsX4_alarmRaised := goodIn_ca (goodIn_r _ [6, 7, 8, 9, 10, 11, 12, 5, 13, 14, 15, 16, 17, 18, 19, 20, 21, 22, 23, 24, 25, 26, 27, 28, 29, 30, 31, 32, 33, 34, 35, 36, 37, 38, 39, 40, 41, 42, 43, 44, 45, 46, 47, 48, 49, 50, 51] (by decide +kernel) (by decide +kernel)) (goodIn_sub (fun _ h => List.mem_cons_of_mem _ (List.mem_append_right _ h)) (by decide +kernel))
set_option maxRecDepth 20000 in
theorem gL_alarmRaised_X4_alarmRaised : GoodIn wsL_alarmRaised (wsV RL 79 RX4 yX4_alarmRaised wsX4_alarmRaised) := goodIn_app (goodIn_of _ (by decide +kernel)) ggL_alarmRaised_X4_alarmRaised
theorem dL_alarmRaised_0 : decode cL_alarmRaised 0 = .ok (.aload_n 2, 1) := by decide +kernel
theorem dL_alarmRaised_1 : decode cL_alarmRaised 1 = .ok (.iconst 0, 1) := by decide +kernel
theorem dL_alarmRaised_2 : decode cL_alarmRaised 2 = .ok (.aload_n 0, 1) := by decide +kernel
theorem dL_alarmRaised_3 : decode cL_alarmRaised 3 = .ok (.iload_n 1, 1) := by decide +kernel
theorem dL_alarmRaised_4 : decode cL_alarmRaised 4 = .ok (.invokevirtual 79, 3) := by decide +kernel
theorem dL_alarmRaised_7 : decode cL_alarmRaised 7 = .ok (.i2l, 1) := by decide +kernel
theorem dL_alarmRaised_8 : decode cL_alarmRaised 8 = .ok (.lastore, 1) := by decide +kernel
theorem dL_alarmRaised_9 : decode cL_alarmRaised 9 = .ok (.goto 6, 3) := by decide +kernel
theorem dL_alarmRaised_12 : decode cL_alarmRaised 12 = .ok (.astore_n 3, 1) := by decide +kernel
theorem dL_alarmRaised_13 : decode cL_alarmRaised 13 = .ok (.iconst 1, 1) := by decide +kernel
theorem dL_alarmRaised_14 : decode cL_alarmRaised 14 = .ok (.ireturn, 1) := by decide +kernel
theorem dL_alarmRaised_15 : decode cL_alarmRaised 15 = .ok (.iconst 0, 1) := by decide +kernel
theorem dL_alarmRaised_16 : decode cL_alarmRaised 16 = .ok (.ireturn, 1) := by decide +kernel
set_option maxRecDepth 20000 in
theorem ggL_alarmClosed_X4_alarmClosed : GoodIn wsL_alarmClosed wsX4_alarmClosed := goodIn_ca (goodIn_r _ [6, 7, 8, 9, 10, 11, 12, 5, 13, 14, 15, 16, 17, 18, 19, 20, 21, 22, 23, 24, 25, 26, 27, 28, 29, 30, 31, 32, 33, 34, 35, 36, 37, 38, 39, 40, 41, 42, 43, 44, 45, 46, 47, 48, 49, 50, 51] (by decide +kernel) (by decide +kernel)) (goodIn_sub (fun _ h => List.mem_cons_of_mem _ (List.mem_append_right _ h)) (by decide +kernel))
set_option maxRecDepth 20000 in
theorem gL_alarmClosed_X4_alarmClosed : GoodIn wsL_alarmClosed (wsV RL 82 RX4 yX4_alarmClosed wsX4_alarmClosed) := goodIn_app (goodIn_of _ (by decide +kernel)) ggL_alarmClosed_X4_alarmClosed
theorem dL_alarmClosed_0 : decode cL_alarmClosed 0 = .ok (.aload_n 2, 1) := by decide +kernel
theorem dL_alarmClosed_1 : decode cL_alarmClosed 1 = .ok (.iconst 0, 1) := by decide +kernel
theorem dL_alarmClosed_2 : decode cL_alarmClosed 2 = .ok (.aload_n 0, 1) := by decide +kernel
theorem dL_alarmClosed_3 : decode cL_alarmClosed 3 = .ok (.iload_n 1, 1) := by decide +kernel
theorem dL_alarmClosed_4 : decode cL_alarmClosed 4 = .ok (.invokevirtual 82, 3) := by decide +kernel
theorem dL_alarmClosed_7 : decode cL_alarmClosed 7 = .ok (.i2l, 1) := by decide +kernel
theorem dL_alarmClosed_8 : decode cL_alarmClosed 8 = .ok (.lastore, 1) := by decide +kernel
theorem dL_alarmClosed_9 : decode cL_alarmClosed 9 = .ok (.goto 6, 3) := by decide +kernel
theorem dL_alarmClosed_12 : decode cL_alarmClosed 12 = .ok (.astore_n 3, 1) := by decide +kernel
theorem dL_alarmClosed_13 : decode cL_alarmClosed 13 = .ok (.iconst 1, 1) := by decide +kernel
theorem dL_alarmClosed_14 : decode cL_alarmClosed 14 = .ok (.ireturn, 1) := by decide +kernel
theorem dL_alarmClosed_15 : decode cL_alarmClosed 15 = .ok (.iconst 0, 1) := by decide +kernel
theorem dL_alarmClosed_16 : decode cL_alarmClosed 16 = .ok (.ireturn, 1) := by decide +kernel
set_option maxRecDepth 20000 in
theorem ggL_availability_X4_availability : GoodIn wsL_availability wsX4_availability := goodIn_ca (goodIn_ca (goodIn_r _ [7, 8, 9, 10, 11, 12, 13, 14, 15, 16, 6, 17, 18, 19, 20, 21, 22, 23, 24, 25, 26, 27, 28, 29, 30, 31, 32, 33, 34, 35, 36, 37, 38, 39, 40, 41, 42, 43, 44, 45, 46, 47, 48, 49, 50, 51, 52, 53, 54, 55, 56, 57, 58, 59, 60, 61, 62, 63, 64, 65] (by decide +kernel) (by decide +kernel)) (goodIn_sub (fun _ h => List.mem_cons_of_mem _ (List.mem_append_left _ (List.mem_append_right _ h))) (by decide +kernel))) (goodIn_sub (fun _ h => List.mem_cons_of_mem _ (List.mem_append_right _ h)) (by decide +kernel))
set_option maxRecDepth 20000 in
theorem gL_availability_X4_availability : GoodIn wsL_availability (wsV RL 85 RX4 yX4_availability wsX4_availability) := goodIn_app (goodIn_of _ (by decide +kernel)) ggL_availability_X4_availability
theorem dL_availability_0 : decode cL_availability 0 = .ok (.aload_n 2, 1) := by decide +kernel
theorem dL_availability_1 : decode cL_availability 1 = .ok (.iconst 0, 1) := by decide +kernel
theorem dL_availability_2 : decode cL_availability 2 = .ok (.aload_n 0, 1) := by decide +kernel
theorem dL_availability_3 : decode cL_availability 3 = .ok (.iload_n 1, 1) := by decide +kernel
theorem dL_availability_4 : decode cL_availability 4 = .ok (.invokevirtual 85, 3) := by decide +kernel
theorem dL_availability_7 : decode cL_availability 7 = .ok (.f2d, 1) := by decide +kernel
theorem dL_availability_8 : decode cL_availability 8 = .ok (.dastore, 1) := by decide +kernel
theorem dL_availability_9 : decode cL_availability 9 = .ok (.goto 9, 3) := by decide +kernel
theorem dL_availability_12 : decode cL_availability 12 = .ok (.astore_n 3, 1) := by decide +kernel
theorem dL_availability_13 : decode cL_availability 13 = .ok (.iconst 1, 1) := by decide +kernel
theorem dL_availability_14 : decode cL_availability 14 = .ok (.ireturn, 1) := by decide +kernel
theorem dL_availability_15 : decode cL_availability 15 = .ok (.astore_n 3, 1) := by decide +kernel
theorem dL_availability_16 : decode cL_availability 16 = .ok (.iconst 2, 1) := by decide +kernel
theorem dL_availability_17 : decode cL_availability 17 = .ok (.ireturn, 1) := by decide +kernel
theorem dL_availability_18 : decode cL_availability 18 = .ok (.iconst 0, 1) := by decide +kernel
theorem dL_availability_19 : decode cL_availability 19 = .ok (.ireturn, 1) := by decide +kernel
