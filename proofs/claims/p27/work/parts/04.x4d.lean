theorem dX0_init_0 : decode cX0_init 0 = .ok (.aload_n 0, 1) := by decide +kernel
theorem dX0_init_1 : decode cX0_init 1 = .ok (.invokespecial 3, 3) := by decide +kernel
theorem dX0_init_4 : decode cX0_init 4 = .ok (.aload_n 0, 1) := by decide +kernel
theorem dX0_init_5 : decode cX0_init 5 = .ok (.iload_n 1, 1) := by decide +kernel
theorem dX0_init_6 : decode cX0_init 6 = .ok (.putfield 9, 3) := by decide +kernel
theorem dX0_init_9 : decode cX0_init 9 = .ok (.aload_n 0, 1) := by decide +kernel
theorem dX0_init_10 : decode cX0_init 10 = .ok (.iload_n 2, 1) := by decide +kernel
theorem dX0_init_11 : decode cX0_init 11 = .ok (.putfield 15, 3) := by decide +kernel
theorem dX0_init_14 : decode cX0_init 14 = .ok (.aload_n 0, 1) := by decide +kernel
theorem dX0_init_15 : decode cX0_init 15 = .ok (.iconst (-1), 1) := by decide +kernel
theorem dX0_init_16 : decode cX0_init 16 = .ok (.putfield 18, 3) := by decide +kernel
theorem dX0_init_19 : decode cX0_init 19 = .ok (.return_, 1) := by decide +kernel
theorem dX1_init_0 : decode cX1_init 0 = .ok (.aload_n 0, 1) := by decide +kernel
theorem dX1_init_1 : decode cX1_init 1 = .ok (.invokespecial 3, 3) := by decide +kernel
theorem dX1_init_4 : decode cX1_init 4 = .ok (.aload_n 0, 1) := by decide +kernel
theorem dX1_init_5 : decode cX1_init 5 = .ok (.iload_n 1, 1) := by decide +kernel
theorem dX1_init_6 : decode cX1_init 6 = .ok (.putfield 9, 3) := by decide +kernel
theorem dX1_init_9 : decode cX1_init 9 = .ok (.aload_n 0, 1) := by decide +kernel
theorem dX1_init_10 : decode cX1_init 10 = .ok (.iload_n 2, 1) := by decide +kernel
theorem dX1_init_11 : decode cX1_init 11 = .ok (.putfield 15, 3) := by decide +kernel
theorem dX1_init_14 : decode cX1_init 14 = .ok (.aload_n 0, 1) := by decide +kernel
theorem dX1_init_15 : decode cX1_init 15 = .ok (.iload_n 3, 1) := by decide +kernel
theorem dX1_init_16 : decode cX1_init 16 = .ok (.putfield 18, 3) := by decide +kernel
theorem dX1_init_19 : decode cX1_init 19 = .ok (.aload_n 0, 1) := by decide +kernel
theorem dX1_init_20 : decode cX1_init 20 = .ok (.iload 4, 2) := by decide +kernel
theorem dX1_init_22 : decode cX1_init 22 = .ok (.putfield 21, 3) := by decide +kernel
theorem dX1_init_25 : decode cX1_init 25 = .ok (.aload_n 0, 1) := by decide +kernel
theorem dX1_init_26 : decode cX1_init 26 = .ok (.iload 5, 2) := by decide +kernel
theorem dX1_init_28 : decode cX1_init 28 = .ok (.putfield 24, 3) := by decide +kernel
theorem dX1_init_31 : decode cX1_init 31 = .ok (.aload_n 0, 1) := by decide +kernel
theorem dX1_init_32 : decode cX1_init 32 = .ok (.bipush 6, 2) := by decide +kernel
theorem dX1_init_34 : decode cX1_init 34 = .ok (.newarray .int, 2) := by decide +kernel
theorem dX1_init_36 : decode cX1_init 36 = .ok (.putfield 27, 3) := by decide +kernel
theorem dX1_init_39 : decode cX1_init 39 = .ok (.aload_n 0, 1) := by decide +kernel
theorem dX1_init_40 : decode cX1_init 40 = .ok (.bipush 6, 2) := by decide +kernel
theorem dX1_init_42 : decode cX1_init 42 = .ok (.newarray .int, 2) := by decide +kernel
theorem dX1_init_44 : decode cX1_init 44 = .ok (.putfield 31, 3) := by decide +kernel
theorem dX1_init_47 : decode cX1_init 47 = .ok (.aload_n 0, 1) := by decide +kernel
theorem dX1_init_48 : decode cX1_init 48 = .ok (.bipush 6, 2) := by decide +kernel
theorem dX1_init_50 : decode cX1_init 50 = .ok (.newarray .int, 2) := by decide +kernel
theorem dX1_init_52 : decode cX1_init 52 = .ok (.putfield 34, 3) := by decide +kernel
theorem dX1_init_55 : decode cX1_init 55 = .ok (.return_, 1) := by decide +kernel
set_option maxRecDepth 20000 in
theorem ggX1_isDue_X1_nextMinuteFrom : GoodIn wsX1_isDue wsX1_nextMinuteFrom := goodIn_r _ [5, 6, 7, 8, 9, 10, 11, 12, 13, 14, 15, 16, 17, 18, 19, 20, 21, 22] (by decide +kernel) (by decide +kernel)
set_option maxRecDepth 20000 in
theorem gX1_isDue_X1_nextMinuteFrom : GoodIn wsX1_isDue (wsV RX1 37 RX1 yX1_nextMinuteFrom wsX1_nextMinuteFrom) := goodIn_app (goodIn_of _ (by decide +kernel)) ggX1_isDue_X1_nextMinuteFrom
theorem dX1_isDue_0 : decode cX1_isDue 0 = .ok (.aload_n 0, 1) := by decide +kernel
theorem dX1_isDue_1 : decode cX1_isDue 1 = .ok (.iload_n 1, 1) := by decide +kernel
theorem dX1_isDue_2 : decode cX1_isDue 2 = .ok (.iload_n 2, 1) := by decide +kernel
theorem dX1_isDue_3 : decode cX1_isDue 3 = .ok (.invokevirtual 37, 3) := by decide +kernel
theorem dX1_isDue_6 : decode cX1_isDue 6 = .ok (.iload_n 2, 1) := by decide +kernel
theorem dX1_isDue_7 : decode cX1_isDue 7 = .ok (.if_icmp .ne 7, 3) := by decide +kernel
theorem dX1_isDue_10 : decode cX1_isDue 10 = .ok (.iconst 1, 1) := by decide +kernel
theorem dX1_isDue_11 : decode cX1_isDue 11 = .ok (.goto 4, 3) := by decide +kernel
theorem dX1_isDue_14 : decode cX1_isDue 14 = .ok (.iconst 0, 1) := by decide +kernel
theorem dX1_isDue_15 : decode cX1_isDue 15 = .ok (.ireturn, 1) := by decide +kernel
theorem dX1_nextMinuteFrom_0 : decode cX1_nextMinuteFrom 0 = .ok (.aload_n 0, 1) := by decide +kernel
theorem dX1_nextMinuteFrom_1 : decode cX1_nextMinuteFrom 1 = .ok (.getfield 31, 3) := by decide +kernel
theorem dX1_nextMinuteFrom_4 : decode cX1_nextMinuteFrom 4 = .ok (.iload_n 1, 1) := by decide +kernel
theorem dX1_nextMinuteFrom_5 : decode cX1_nextMinuteFrom 5 = .ok (.iaload, 1) := by decide +kernel
theorem dX1_nextMinuteFrom_6 : decode cX1_nextMinuteFrom 6 = .ok (.ifCond .eq 10, 3) := by decide +kernel
theorem dX1_nextMinuteFrom_9 : decode cX1_nextMinuteFrom 9 = .ok (.aload_n 0, 1) := by decide +kernel
theorem dX1_nextMinuteFrom_10 : decode cX1_nextMinuteFrom 10 = .ok (.getfield 34, 3) := by decide +kernel
theorem dX1_nextMinuteFrom_13 : decode cX1_nextMinuteFrom 13 = .ok (.iload_n 1, 1) := by decide +kernel
theorem dX1_nextMinuteFrom_14 : decode cX1_nextMinuteFrom 14 = .ok (.iaload, 1) := by decide +kernel
theorem dX1_nextMinuteFrom_15 : decode cX1_nextMinuteFrom 15 = .ok (.ireturn, 1) := by decide +kernel
theorem dX1_nextMinuteFrom_16 : decode cX1_nextMinuteFrom 16 = .ok (.aload_n 0, 1) := by decide +kernel
theorem dX1_nextMinuteFrom_17 : decode cX1_nextMinuteFrom 17 = .ok (.getfield 18, 3) := by decide +kernel
theorem dX1_nextMinuteFrom_20 : decode cX1_nextMinuteFrom 20 = .ok (.iload_n 1, 1) := by decide +kernel
theorem dX1_nextMinuteFrom_21 : decode cX1_nextMinuteFrom 21 = .ok (.iadd, 1) := by decide +kernel
theorem dX1_nextMinuteFrom_22 : decode cX1_nextMinuteFrom 22 = .ok (.istore_n 3, 1) := by decide +kernel
theorem dX1_nextMinuteFrom_23 : decode cX1_nextMinuteFrom 23 = .ok (.iload_n 2, 1) := by decide +kernel
theorem dX1_nextMinuteFrom_24 : decode cX1_nextMinuteFrom 24 = .ok (.iload_n 3, 1) := by decide +kernel
theorem dX1_nextMinuteFrom_25 : decode cX1_nextMinuteFrom 25 = .ok (.if_icmp .gt 5, 3) := by decide +kernel
theorem dX1_nextMinuteFrom_28 : decode cX1_nextMinuteFrom 28 = .ok (.iload_n 3, 1) := by decide +kernel
theorem dX1_nextMinuteFrom_29 : decode cX1_nextMinuteFrom 29 = .ok (.ireturn, 1) := by decide +kernel
theorem dX1_nextMinuteFrom_30 : decode cX1_nextMinuteFrom 30 = .ok (.iload_n 2, 1) := by decide +kernel
theorem dX1_nextMinuteFrom_31 : decode cX1_nextMinuteFrom 31 = .ok (.iload_n 3, 1) := by decide +kernel
theorem dX1_nextMinuteFrom_32 : decode cX1_nextMinuteFrom 32 = .ok (.isub, 1) := by decide +kernel
theorem dX1_nextMinuteFrom_33 : decode cX1_nextMinuteFrom 33 = .ok (.aload_n 0, 1) := by decide +kernel
theorem dX1_nextMinuteFrom_34 : decode cX1_nextMinuteFrom 34 = .ok (.getfield 15, 3) := by decide +kernel
theorem dX1_nextMinuteFrom_37 : decode cX1_nextMinuteFrom 37 = .ok (.irem, 1) := by decide +kernel
theorem dX1_nextMinuteFrom_38 : decode cX1_nextMinuteFrom 38 = .ok (.istore 4, 2) := by decide +kernel
theorem dX1_nextMinuteFrom_40 : decode cX1_nextMinuteFrom 40 = .ok (.iload 4, 2) := by decide +kernel
theorem dX1_nextMinuteFrom_42 : decode cX1_nextMinuteFrom 42 = .ok (.ifCond .ne 7, 3) := by decide +kernel
theorem dX1_nextMinuteFrom_45 : decode cX1_nextMinuteFrom 45 = .ok (.iload_n 2, 1) := by decide +kernel
theorem dX1_nextMinuteFrom_46 : decode cX1_nextMinuteFrom 46 = .ok (.goto 12, 3) := by decide +kernel
theorem dX1_nextMinuteFrom_49 : decode cX1_nextMinuteFrom 49 = .ok (.iload_n 2, 1) := by decide +kernel
theorem dX1_nextMinuteFrom_50 : decode cX1_nextMinuteFrom 50 = .ok (.aload_n 0, 1) := by decide +kernel
theorem dX1_nextMinuteFrom_51 : decode cX1_nextMinuteFrom 51 = .ok (.getfield 15, 3) := by decide +kernel
theorem dX1_nextMinuteFrom_54 : decode cX1_nextMinuteFrom 54 = .ok (.iadd, 1) := by decide +kernel
theorem dX1_nextMinuteFrom_55 : decode cX1_nextMinuteFrom 55 = .ok (.iload 4, 2) := by decide +kernel
theorem dX1_nextMinuteFrom_57 : decode cX1_nextMinuteFrom 57 = .ok (.isub, 1) := by decide +kernel
theorem dX1_nextMinuteFrom_58 : decode cX1_nextMinuteFrom 58 = .ok (.ireturn, 1) := by decide +kernel
theorem dX1_takeSuccess_0 : decode cX1_takeSuccess 0 = .ok (.aload_n 0, 1) := by decide +kernel
theorem dX1_takeSuccess_1 : decode cX1_takeSuccess 1 = .ok (.getfield 31, 3) := by decide +kernel
theorem dX1_takeSuccess_4 : decode cX1_takeSuccess 4 = .ok (.iload_n 1, 1) := by decide +kernel
theorem dX1_takeSuccess_5 : decode cX1_takeSuccess 5 = .ok (.iconst 0, 1) := by decide +kernel
theorem dX1_takeSuccess_6 : decode cX1_takeSuccess 6 = .ok (.iastore, 1) := by decide +kernel
theorem dX1_takeSuccess_7 : decode cX1_takeSuccess 7 = .ok (.aload_n 0, 1) := by decide +kernel
theorem dX1_takeSuccess_8 : decode cX1_takeSuccess 8 = .ok (.getfield 27, 3) := by decide +kernel
theorem dX1_takeSuccess_11 : decode cX1_takeSuccess 11 = .ok (.iload_n 1, 1) := by decide +kernel
theorem dX1_takeSuccess_12 : decode cX1_takeSuccess 12 = .ok (.iconst 1, 1) := by decide +kernel
theorem dX1_takeSuccess_13 : decode cX1_takeSuccess 13 = .ok (.iastore, 1) := by decide +kernel
theorem dX1_takeSuccess_14 : decode cX1_takeSuccess 14 = .ok (.return_, 1) := by decide +kernel
theorem dX1_takeFailure_0 : decode cX1_takeFailure 0 = .ok (.aload_n 0, 1) := by decide +kernel
theorem dX1_takeFailure_1 : decode cX1_takeFailure 1 = .ok (.getfield 31, 3) := by decide +kernel
theorem dX1_takeFailure_4 : decode cX1_takeFailure 4 = .ok (.iload_n 1, 1) := by decide +kernel
theorem dX1_takeFailure_5 : decode cX1_takeFailure 5 = .ok (.iaload, 1) := by decide +kernel
theorem dX1_takeFailure_6 : decode cX1_takeFailure 6 = .ok (.iconst 1, 1) := by decide +kernel
theorem dX1_takeFailure_7 : decode cX1_takeFailure 7 = .ok (.iadd, 1) := by decide +kernel
theorem dX1_takeFailure_8 : decode cX1_takeFailure 8 = .ok (.istore_n 3, 1) := by decide +kernel
theorem dX1_takeFailure_9 : decode cX1_takeFailure 9 = .ok (.aload_n 0, 1) := by decide +kernel
theorem dX1_takeFailure_10 : decode cX1_takeFailure 10 = .ok (.getfield 31, 3) := by decide +kernel
theorem dX1_takeFailure_13 : decode cX1_takeFailure 13 = .ok (.iload_n 1, 1) := by decide +kernel
theorem dX1_takeFailure_14 : decode cX1_takeFailure 14 = .ok (.iconst 0, 1) := by decide +kernel
theorem dX1_takeFailure_15 : decode cX1_takeFailure 15 = .ok (.iastore, 1) := by decide +kernel
theorem dX1_takeFailure_16 : decode cX1_takeFailure 16 = .ok (.aload_n 0, 1) := by decide +kernel
theorem dX1_takeFailure_17 : decode cX1_takeFailure 17 = .ok (.getfield 27, 3) := by decide +kernel
theorem dX1_takeFailure_20 : decode cX1_takeFailure 20 = .ok (.iload_n 1, 1) := by decide +kernel
theorem dX1_takeFailure_21 : decode cX1_takeFailure 21 = .ok (.iaload, 1) := by decide +kernel
theorem dX1_takeFailure_22 : decode cX1_takeFailure 22 = .ok (.iconst 2, 1) := by decide +kernel
theorem dX1_takeFailure_23 : decode cX1_takeFailure 23 = .ok (.if_icmp .ne 4, 3) := by decide +kernel
theorem dX1_takeFailure_26 : decode cX1_takeFailure 26 = .ok (.return_, 1) := by decide +kernel
theorem dX1_takeFailure_27 : decode cX1_takeFailure 27 = .ok (.iload_n 3, 1) := by decide +kernel
theorem dX1_takeFailure_28 : decode cX1_takeFailure 28 = .ok (.aload_n 0, 1) := by decide +kernel
theorem dX1_takeFailure_29 : decode cX1_takeFailure 29 = .ok (.getfield 21, 3) := by decide +kernel
theorem dX1_takeFailure_32 : decode cX1_takeFailure 32 = .ok (.if_icmp .le 11, 3) := by decide +kernel
theorem dX1_takeFailure_35 : decode cX1_takeFailure 35 = .ok (.aload_n 0, 1) := by decide +kernel
theorem dX1_takeFailure_36 : decode cX1_takeFailure 36 = .ok (.getfield 27, 3) := by decide +kernel
theorem dX1_takeFailure_39 : decode cX1_takeFailure 39 = .ok (.iload_n 1, 1) := by decide +kernel
theorem dX1_takeFailure_40 : decode cX1_takeFailure 40 = .ok (.iconst 2, 1) := by decide +kernel
theorem dX1_takeFailure_41 : decode cX1_takeFailure 41 = .ok (.iastore, 1) := by decide +kernel
theorem dX1_takeFailure_42 : decode cX1_takeFailure 42 = .ok (.return_, 1) := by decide +kernel
theorem dX1_takeFailure_43 : decode cX1_takeFailure 43 = .ok (.aload_n 0, 1) := by decide +kernel
theorem dX1_takeFailure_44 : decode cX1_takeFailure 44 = .ok (.getfield 31, 3) := by decide +kernel
theorem dX1_takeFailure_47 : decode cX1_takeFailure 47 = .ok (.iload_n 1, 1) := by decide +kernel
theorem dX1_takeFailure_48 : decode cX1_takeFailure 48 = .ok (.iload_n 3, 1) := by decide +kernel
theorem dX1_takeFailure_49 : decode cX1_takeFailure 49 = .ok (.iastore, 1) := by decide +kernel
theorem dX1_takeFailure_50 : decode cX1_takeFailure 50 = .ok (.aload_n 0, 1) := by decide +kernel
theorem dX1_takeFailure_51 : decode cX1_takeFailure 51 = .ok (.getfield 34, 3) := by decide +kernel
theorem dX1_takeFailure_54 : decode cX1_takeFailure 54 = .ok (.iload_n 1, 1) := by decide +kernel
theorem dX1_takeFailure_55 : decode cX1_takeFailure 55 = .ok (.iload_n 2, 1) := by decide +kernel
theorem dX1_takeFailure_56 : decode cX1_takeFailure 56 = .ok (.iconst 1, 1) := by decide +kernel
theorem dX1_takeFailure_57 : decode cX1_takeFailure 57 = .ok (.iadd, 1) := by decide +kernel
theorem dX1_takeFailure_58 : decode cX1_takeFailure 58 = .ok (.iconst 3, 1) := by decide +kernel
theorem dX1_takeFailure_59 : decode cX1_takeFailure 59 = .ok (.aload_n 0, 1) := by decide +kernel
theorem dX1_takeFailure_60 : decode cX1_takeFailure 60 = .ok (.getfield 9, 3) := by decide +kernel
theorem dX1_takeFailure_63 : decode cX1_takeFailure 63 = .ok (.imul, 1) := by decide +kernel
theorem dX1_takeFailure_64 : decode cX1_takeFailure 64 = .ok (.iconst 5, 1) := by decide +kernel
theorem dX1_takeFailure_65 : decode cX1_takeFailure 65 = .ok (.iload_n 1, 1) := by decide +kernel
theorem dX1_takeFailure_66 : decode cX1_takeFailure 66 = .ok (.imul, 1) := by decide +kernel
theorem dX1_takeFailure_67 : decode cX1_takeFailure 67 = .ok (.iadd, 1) := by decide +kernel
theorem dX1_takeFailure_68 : decode cX1_takeFailure 68 = .ok (.bipush 7, 2) := by decide +kernel
theorem dX1_takeFailure_70 : decode cX1_takeFailure 70 = .ok (.iload_n 3, 1) := by decide +kernel
theorem dX1_takeFailure_71 : decode cX1_takeFailure 71 = .ok (.imul, 1) := by decide +kernel
theorem dX1_takeFailure_72 : decode cX1_takeFailure 72 = .ok (.iadd, 1) := by decide +kernel
theorem dX1_takeFailure_73 : decode cX1_takeFailure 73 = .ok (.iconst 4, 1) := by decide +kernel
theorem dX1_takeFailure_74 : decode cX1_takeFailure 74 = .ok (.irem, 1) := by decide +kernel
theorem dX1_takeFailure_75 : decode cX1_takeFailure 75 = .ok (.iadd, 1) := by decide +kernel
theorem dX1_takeFailure_76 : decode cX1_takeFailure 76 = .ok (.iastore, 1) := by decide +kernel
theorem dX1_takeFailure_77 : decode cX1_takeFailure 77 = .ok (.return_, 1) := by decide +kernel
set_option maxRecDepth 20000 in
theorem ggX1_judge_X4_holds : GoodIn wsX1_judge wsX4_holds := goodIn_r _ [6] (by decide +kernel) (by decide +kernel)
set_option maxRecDepth 20000 in
theorem gX1_judge_X4_holds_n41 : GoodIn wsX1_judge (wsX4_holds) := ggX1_judge_X4_holds
set_option maxRecDepth 20000 in
theorem ggX1_judge_J6_bitCount_0f7a4 : GoodIn wsX1_judge wsJ6_bitCount_0f7a4 := goodIn_r _ [10, 11, 12, 13] (by decide +kernel) (by decide +kernel)
set_option maxRecDepth 20000 in
theorem gX1_judge_J6_bitCount_0f7a4 : GoodIn wsX1_judge (va_wsS RX1 45 yJ6_bitCount_0f7a4 wsJ6_bitCount_0f7a4) := goodIn_app (goodIn_of _ (by decide +kernel)) ggX1_judge_J6_bitCount_0f7a4
theorem dX1_judge_0 : decode cX1_judge 0 = .ok (.iconst 0, 1) := by decide +kernel
theorem dX1_judge_1 : decode cX1_judge 1 = .ok (.istore_n 2, 1) := by decide +kernel
theorem dX1_judge_2 : decode cX1_judge 2 = .ok (.iconst 0, 1) := by decide +kernel
theorem dX1_judge_3 : decode cX1_judge 3 = .ok (.istore_n 3, 1) := by decide +kernel
theorem dX1_judge_4 : decode cX1_judge 4 = .ok (.iload_n 3, 1) := by decide +kernel
theorem dX1_judge_5 : decode cX1_judge 5 = .ok (.bipush 6, 2) := by decide +kernel
theorem dX1_judge_7 : decode cX1_judge 7 = .ok (.if_icmp .ge 30, 3) := by decide +kernel
theorem dX1_judge_10 : decode cX1_judge 10 = .ok (.iload_n 1, 1) := by decide +kernel
theorem dX1_judge_11 : decode cX1_judge 11 = .ok (.iload_n 3, 1) := by decide +kernel
theorem dX1_judge_12 : decode cX1_judge 12 = .ok (.invokestatic 41, 3) := by decide +kernel
theorem dX1_judge_15 : decode cX1_judge 15 = .ok (.ifCond .eq 16, 3) := by decide +kernel
theorem dX1_judge_18 : decode cX1_judge 18 = .ok (.aload_n 0, 1) := by decide +kernel
theorem dX1_judge_19 : decode cX1_judge 19 = .ok (.getfield 27, 3) := by decide +kernel
theorem dX1_judge_22 : decode cX1_judge 22 = .ok (.iload_n 3, 1) := by decide +kernel
theorem dX1_judge_23 : decode cX1_judge 23 = .ok (.iaload, 1) := by decide +kernel
theorem dX1_judge_24 : decode cX1_judge 24 = .ok (.iconst 2, 1) := by decide +kernel
theorem dX1_judge_25 : decode cX1_judge 25 = .ok (.if_icmp .ne 6, 3) := by decide +kernel
theorem dX1_judge_28 : decode cX1_judge 28 = .ok (.iinc 2 1, 3) := by decide +kernel
theorem dX1_judge_31 : decode cX1_judge 31 = .ok (.iinc 3 1, 3) := by decide +kernel
theorem dX1_judge_34 : decode cX1_judge 34 = .ok (.goto (-30), 3) := by decide +kernel
theorem dX1_judge_37 : decode cX1_judge 37 = .ok (.iload_n 1, 1) := by decide +kernel
theorem dX1_judge_38 : decode cX1_judge 38 = .ok (.invokestatic 45, 3) := by decide +kernel
theorem dX1_judge_41 : decode cX1_judge 41 = .ok (.aload_n 0, 1) := by decide +kernel
theorem dX1_judge_42 : decode cX1_judge 42 = .ok (.getfield 24, 3) := by decide +kernel
theorem dX1_judge_45 : decode cX1_judge 45 = .ok (.if_icmp .ge 11, 3) := by decide +kernel
theorem dX1_judge_48 : decode cX1_judge 48 = .ok (.aload_n 0, 1) := by decide +kernel
theorem dX1_judge_49 : decode cX1_judge 49 = .ok (.iconst 0, 1) := by decide +kernel
theorem dX1_judge_50 : decode cX1_judge 50 = .ok (.putfield 51, 3) := by decide +kernel
theorem dX1_judge_53 : decode cX1_judge 53 = .ok (.goto 20, 3) := by decide +kernel
theorem dX1_judge_56 : decode cX1_judge 56 = .ok (.aload_n 0, 1) := by decide +kernel
theorem dX1_judge_57 : decode cX1_judge 57 = .ok (.iload_n 2, 1) := by decide +kernel
theorem dX1_judge_58 : decode cX1_judge 58 = .ok (.aload_n 0, 1) := by decide +kernel
theorem dX1_judge_59 : decode cX1_judge 59 = .ok (.getfield 24, 3) := by decide +kernel
theorem dX1_judge_62 : decode cX1_judge 62 = .ok (.if_icmp .lt 7, 3) := by decide +kernel
theorem dX1_judge_65 : decode cX1_judge 65 = .ok (.iconst 2, 1) := by decide +kernel
theorem dX1_judge_66 : decode cX1_judge 66 = .ok (.goto 4, 3) := by decide +kernel
theorem dX1_judge_69 : decode cX1_judge 69 = .ok (.iconst 1, 1) := by decide +kernel
theorem dX1_judge_70 : decode cX1_judge 70 = .ok (.putfield 51, 3) := by decide +kernel
theorem dX1_judge_73 : decode cX1_judge 73 = .ok (.return_, 1) := by decide +kernel
set_option maxRecDepth 20000 in
theorem ggX2_init_X4_withRegion : GoodIn wsX2_init wsX4_withRegion := goodIn_r _ [8] (by decide +kernel) (by decide +kernel)
set_option maxRecDepth 20000 in
theorem gX2_init_X4_withRegion_n13 : GoodIn wsX2_init (wsX4_withRegion) := ggX2_init_X4_withRegion
theorem dX2_init_0 : decode cX2_init 0 = .ok (.aload_n 0, 1) := by decide +kernel
theorem dX2_init_1 : decode cX2_init 1 = .ok (.invokespecial 1, 3) := by decide +kernel
theorem dX2_init_4 : decode cX2_init 4 = .ok (.aload_n 0, 1) := by decide +kernel
theorem dX2_init_5 : decode cX2_init 5 = .ok (.iload_n 1, 1) := by decide +kernel
theorem dX2_init_6 : decode cX2_init 6 = .ok (.putfield 7, 3) := by decide +kernel
theorem dX2_init_9 : decode cX2_init 9 = .ok (.aload_n 0, 1) := by decide +kernel
theorem dX2_init_10 : decode cX2_init 10 = .ok (.iload_n 2, 1) := by decide +kernel
theorem dX2_init_11 : decode cX2_init 11 = .ok (.iload_n 1, 1) := by decide +kernel
theorem dX2_init_12 : decode cX2_init 12 = .ok (.iconst 1, 1) := by decide +kernel
theorem dX2_init_13 : decode cX2_init 13 = .ok (.invokestatic 13, 3) := by decide +kernel
theorem dX2_init_16 : decode cX2_init 16 = .ok (.putfield 19, 3) := by decide +kernel
theorem dX2_init_19 : decode cX2_init 19 = .ok (.return_, 1) := by decide +kernel
theorem dX3_init_0 : decode cX3_init 0 = .ok (.aload_n 0, 1) := by decide +kernel
theorem dX3_init_1 : decode cX3_init 1 = .ok (.invokespecial 1, 3) := by decide +kernel
theorem dX3_init_4 : decode cX3_init 4 = .ok (.aload_n 0, 1) := by decide +kernel
theorem dX3_init_5 : decode cX3_init 5 = .ok (.iload_n 1, 1) := by decide +kernel
theorem dX3_init_6 : decode cX3_init 6 = .ok (.putfield 7, 3) := by decide +kernel
theorem dX3_init_9 : decode cX3_init 9 = .ok (.aload_n 0, 1) := by decide +kernel
theorem dX3_init_10 : decode cX3_init 10 = .ok (.iload_n 2, 1) := by decide +kernel
theorem dX3_init_11 : decode cX3_init 11 = .ok (.putfield 13, 3) := by decide +kernel
theorem dX3_init_14 : decode cX3_init 14 = .ok (.aload_n 0, 1) := by decide +kernel
theorem dX3_init_15 : decode cX3_init 15 = .ok (.iload_n 3, 1) := by decide +kernel
theorem dX3_init_16 : decode cX3_init 16 = .ok (.putfield 16, 3) := by decide +kernel
theorem dX3_init_19 : decode cX3_init 19 = .ok (.return_, 1) := by decide +kernel
theorem dX3_contains_0 : decode cX3_contains 0 = .ok (.aload_n 0, 1) := by decide +kernel
theorem dX3_contains_1 : decode cX3_contains 1 = .ok (.getfield 13, 3) := by decide +kernel
theorem dX3_contains_4 : decode cX3_contains 4 = .ok (.iload_n 1, 1) := by decide +kernel
theorem dX3_contains_5 : decode cX3_contains 5 = .ok (.if_icmp .gt 15, 3) := by decide +kernel
theorem dX3_contains_8 : decode cX3_contains 8 = .ok (.iload_n 1, 1) := by decide +kernel
theorem dX3_contains_9 : decode cX3_contains 9 = .ok (.aload_n 0, 1) := by decide +kernel
theorem dX3_contains_10 : decode cX3_contains 10 = .ok (.getfield 16, 3) := by decide +kernel
theorem dX3_contains_13 : decode cX3_contains 13 = .ok (.if_icmp .gt 7, 3) := by decide +kernel
theorem dX3_contains_16 : decode cX3_contains 16 = .ok (.iconst 1, 1) := by decide +kernel
theorem dX3_contains_17 : decode cX3_contains 17 = .ok (.goto 4, 3) := by decide +kernel
theorem dX3_contains_20 : decode cX3_contains 20 = .ok (.iconst 0, 1) := by decide +kernel
theorem dX3_contains_21 : decode cX3_contains 21 = .ok (.ireturn, 1) := by decide +kernel
theorem dX3_endAfter_0 : decode cX3_endAfter 0 = .ok (.aload_n 0, 1) := by decide +kernel
theorem dX3_endAfter_1 : decode cX3_endAfter 1 = .ok (.aload_n 0, 1) := by decide +kernel
theorem dX3_endAfter_2 : decode cX3_endAfter 2 = .ok (.getfield 16, 3) := by decide +kernel
theorem dX3_endAfter_5 : decode cX3_endAfter 5 = .ok (.iload_n 1, 1) := by decide +kernel
theorem dX3_endAfter_6 : decode cX3_endAfter 6 = .ok (.invokestatic 19, 3) := by decide +kernel
theorem dX3_endAfter_9 : decode cX3_endAfter 9 = .ok (.putfield 16, 3) := by decide +kernel
theorem dX3_endAfter_12 : decode cX3_endAfter 12 = .ok (.return_, 1) := by decide +kernel
theorem dX3_length_0 : decode cX3_length 0 = .ok (.iconst 0, 1) := by decide +kernel
theorem dX3_length_1 : decode cX3_length 1 = .ok (.aload_n 0, 1) := by decide +kernel
theorem dX3_length_2 : decode cX3_length 2 = .ok (.getfield 16, 3) := by decide +kernel
theorem dX3_length_5 : decode cX3_length 5 = .ok (.aload_n 0, 1) := by decide +kernel
theorem dX3_length_6 : decode cX3_length 6 = .ok (.getfield 13, 3) := by decide +kernel
theorem dX3_length_9 : decode cX3_length 9 = .ok (.isub, 1) := by decide +kernel
theorem dX3_length_10 : decode cX3_length 10 = .ok (.iconst 1, 1) := by decide +kernel
theorem dX3_length_11 : decode cX3_length 11 = .ok (.iadd, 1) := by decide +kernel
theorem dX3_length_12 : decode cX3_length 12 = .ok (.invokestatic 25, 3) := by decide +kernel
theorem dX3_length_15 : decode cX3_length 15 = .ok (.ireturn, 1) := by decide +kernel
set_option maxRecDepth 20000 in
theorem ggX4_init_Jx4a65c_init_da8c8 : GoodIn wsX4_init wsJx4a65c_init_da8c8 := goodIn_r _ [16, 17, 18, 19, 20, 21, 22, 23, 24, 25, 26, 27, 28, 2, 3, 29, 30, 31] (by decide +kernel) (by decide +kernel)
set_option maxRecDepth 20000 in
theorem gX4_init_Jx4a65c_init_da8c8 : GoodIn wsX4_init (wsJx4a65c_init_da8c8) := ggX4_init_Jx4a65c_init_da8c8
theorem dX4_init_0 : decode cX4_init 0 = .ok (.aload_n 0, 1) := by decide +kernel
theorem dX4_init_1 : decode cX4_init 1 = .ok (.invokespecial 1, 3) := by decide +kernel
theorem dX4_init_4 : decode cX4_init 4 = .ok (.aload_n 0, 1) := by decide +kernel
theorem dX4_init_5 : decode cX4_init 5 = .ok (.new 7, 3) := by decide +kernel
theorem dX4_init_8 : decode cX4_init 8 = .ok (.dup, 1) := by decide +kernel
theorem dX4_init_9 : decode cX4_init 9 = .ok (.invokespecial 9, 3) := by decide +kernel
theorem dX4_init_12 : decode cX4_init 12 = .ok (.putfield 10, 3) := by decide +kernel
theorem dX4_init_15 : decode cX4_init 15 = .ok (.aload_n 0, 1) := by decide +kernel
theorem dX4_init_16 : decode cX4_init 16 = .ok (.new 7, 3) := by decide +kernel
theorem dX4_init_19 : decode cX4_init 19 = .ok (.dup, 1) := by decide +kernel
theorem dX4_init_20 : decode cX4_init 20 = .ok (.invokespecial 9, 3) := by decide +kernel
theorem dX4_init_23 : decode cX4_init 23 = .ok (.putfield 16, 3) := by decide +kernel
theorem dX4_init_26 : decode cX4_init 26 = .ok (.aload_n 0, 1) := by decide +kernel
theorem dX4_init_27 : decode cX4_init 27 = .ok (.new 7, 3) := by decide +kernel
theorem dX4_init_30 : decode cX4_init 30 = .ok (.dup, 1) := by decide +kernel
theorem dX4_init_31 : decode cX4_init 31 = .ok (.invokespecial 9, 3) := by decide +kernel
theorem dX4_init_34 : decode cX4_init 34 = .ok (.putfield 19, 3) := by decide +kernel
theorem dX4_init_37 : decode cX4_init 37 = .ok (.aload_n 0, 1) := by decide +kernel
theorem dX4_init_38 : decode cX4_init 38 = .ok (.new 7, 3) := by decide +kernel
theorem dX4_init_41 : decode cX4_init 41 = .ok (.dup, 1) := by decide +kernel
theorem dX4_init_42 : decode cX4_init 42 = .ok (.invokespecial 9, 3) := by decide +kernel
theorem dX4_init_45 : decode cX4_init 45 = .ok (.putfield 22, 3) := by decide +kernel
theorem dX4_init_48 : decode cX4_init 48 = .ok (.aload_n 0, 1) := by decide +kernel
theorem dX4_init_49 : decode cX4_init 49 = .ok (.iconst 0, 1) := by decide +kernel
theorem dX4_init_50 : decode cX4_init 50 = .ok (.putfield 25, 3) := by decide +kernel
theorem dX4_init_53 : decode cX4_init 53 = .ok (.aload_n 0, 1) := by decide +kernel
theorem dX4_init_54 : decode cX4_init 54 = .ok (.iconst 0, 1) := by decide +kernel
theorem dX4_init_55 : decode cX4_init 55 = .ok (.putfield 29, 3) := by decide +kernel
theorem dX4_init_58 : decode cX4_init 58 = .ok (.aload_n 0, 1) := by decide +kernel
theorem dX4_init_59 : decode cX4_init 59 = .ok (.iconst 0, 1) := by decide +kernel
theorem dX4_init_60 : decode cX4_init 60 = .ok (.putfield 32, 3) := by decide +kernel
theorem dX4_init_63 : decode cX4_init 63 = .ok (.return_, 1) := by decide +kernel
set_option maxRecDepth 20000 in
theorem ggX4_addRegion_X4_requireRegion : GoodIn wsX4_addRegion wsX4_requireRegion := goodIn_ca (goodIn_r _ [13, 14, 15, 3, 16, 17, 18, 19, 20, 21, 102, 103, 104, 105, 106, 107, 108, 113, 114, 115] (by decide +kernel) (by decide +kernel)) (goodIn_sub (fun _ h => List.mem_cons_of_mem _ (List.mem_append_right _ h)) (by decide +kernel))
set_option maxRecDepth 20000 in
theorem gX4_addRegion_X4_requireRegion : GoodIn wsX4_addRegion (wsV RX4 35 RX4 yX4_requireRegion wsX4_requireRegion) := goodIn_app (goodIn_of _ (by decide +kernel)) ggX4_addRegion_X4_requireRegion
set_option maxRecDepth 20000 in
theorem ggX4_addRegion_Jx4a65c_size_8abf5 : GoodIn wsX4_addRegion wsJx4a65c_size_8abf5 := goodIn_r _ [20, 21, 113, 114, 115] (by decide +kernel) (by decide +kernel)
set_option maxRecDepth 20000 in
theorem gX4_addRegion_Jx4a65c_size_8abf5 : GoodIn wsX4_addRegion (wsV RX4 39 RJx4a65c yJx4a65c_size_8abf5 wsJx4a65c_size_8abf5) := goodIn_app (goodIn_of _ (by decide +kernel)) ggX4_addRegion_Jx4a65c_size_8abf5
set_option maxRecDepth 20000 in
theorem ggX4_addRegion_Jx4a65c_get_915e3 : GoodIn wsX4_addRegion wsJx4a65c_get_915e3 := goodIn_r _ [25, 21, 26, 27, 28, 29, 30, 31, 32, 33, 34, 35, 36, 19, 37, 38, 113, 114, 115] (by decide +kernel) (by decide +kernel)
set_option maxRecDepth 20000 in
theorem gX4_addRegion_Jx4a65c_get_915e3 : GoodIn wsX4_addRegion (wsV RX4 50 RJx4a65c yJx4a65c_get_915e3 wsJx4a65c_get_915e3) := goodIn_app (goodIn_of _ (by decide +kernel)) ggX4_addRegion_Jx4a65c_get_915e3
set_option maxRecDepth 20000 in
theorem ggX4_addRegion_X2_init : GoodIn wsX4_addRegion wsX2_init := goodIn_r _ [41, 42, 43, 44, 45, 46, 47, 12, 48, 109, 110, 111, 112] (by decide +kernel) (by decide +kernel)
set_option maxRecDepth 20000 in
theorem gX4_addRegion_X2_init : GoodIn wsX4_addRegion (wsX2_init) := ggX4_addRegion_X2_init
set_option maxRecDepth 20000 in
theorem ggX4_addRegion_Jx4a65c_add_9ea2d : GoodIn wsX4_addRegion wsJx4a65c_add_9ea2d := goodIn_r _ [52, 53, 54, 38, 21, 55, 56, 57, 19, 58, 59, 60, 61, 62, 63, 64, 65, 66, 67, 68, 69, 70, 71, 72, 73, 74, 75, 76, 77, 78, 79, 80, 81, 82, 83, 84, 85, 86, 87, 88, 89, 90, 91, 92, 93, 94, 95, 96, 97, 98, 99, 100, 101, 113, 114, 115] (by decide +kernel) (by decide +kernel)
set_option maxRecDepth 20000 in
theorem gX4_addRegion_Jx4a65c_add_9ea2d : GoodIn wsX4_addRegion (wsV RX4 62 RJx4a65c yJx4a65c_add_9ea2d wsJx4a65c_add_9ea2d) := goodIn_app (goodIn_of _ (by decide +kernel)) ggX4_addRegion_Jx4a65c_add_9ea2d
theorem dX4_addRegion_0 : decode cX4_addRegion 0 = .ok (.iload_n 1, 1) := by decide +kernel
theorem dX4_addRegion_1 : decode cX4_addRegion 1 = .ok (.iconst (-1), 1) := by decide +kernel
theorem dX4_addRegion_2 : decode cX4_addRegion 2 = .ok (.if_icmp .eq 8, 3) := by decide +kernel
theorem dX4_addRegion_5 : decode cX4_addRegion 5 = .ok (.aload_n 0, 1) := by decide +kernel
theorem dX4_addRegion_6 : decode cX4_addRegion 6 = .ok (.iload_n 1, 1) := by decide +kernel
theorem dX4_addRegion_7 : decode cX4_addRegion 7 = .ok (.invokevirtual 35, 3) := by decide +kernel
theorem dX4_addRegion_10 : decode cX4_addRegion 10 = .ok (.aload_n 0, 1) := by decide +kernel
theorem dX4_addRegion_11 : decode cX4_addRegion 11 = .ok (.getfield 10, 3) := by decide +kernel
theorem dX4_addRegion_14 : decode cX4_addRegion 14 = .ok (.invokevirtual 39, 3) := by decide +kernel
theorem dX4_addRegion_17 : decode cX4_addRegion 17 = .ok (.bipush 6, 2) := by decide +kernel
theorem dX4_addRegion_19 : decode cX4_addRegion 19 = .ok (.if_icmp .lt 13, 3) := by decide +kernel
theorem dX4_addRegion_22 : decode cX4_addRegion 22 = .ok (.new 43, 3) := by decide +kernel
theorem dX4_addRegion_25 : decode cX4_addRegion 25 = .ok (.dup, 1) := by decide +kernel
theorem dX4_addRegion_26 : decode cX4_addRegion 26 = .ok (.ldc 45, 2) := by decide +kernel
theorem dX4_addRegion_28 : decode cX4_addRegion 28 = .ok (.invokespecial 47, 3) := by decide +kernel
theorem dX4_addRegion_31 : decode cX4_addRegion 31 = .ok (.athrow, 1) := by decide +kernel
theorem dX4_addRegion_32 : decode cX4_addRegion 32 = .ok (.aload_n 0, 1) := by decide +kernel
theorem dX4_addRegion_33 : decode cX4_addRegion 33 = .ok (.getfield 10, 3) := by decide +kernel
theorem dX4_addRegion_36 : decode cX4_addRegion 36 = .ok (.invokevirtual 39, 3) := by decide +kernel
theorem dX4_addRegion_39 : decode cX4_addRegion 39 = .ok (.istore_n 2, 1) := by decide +kernel
theorem dX4_addRegion_40 : decode cX4_addRegion 40 = .ok (.iload_n 1, 1) := by decide +kernel
theorem dX4_addRegion_41 : decode cX4_addRegion 41 = .ok (.iconst (-1), 1) := by decide +kernel
theorem dX4_addRegion_42 : decode cX4_addRegion 42 = .ok (.if_icmp .ne 7, 3) := by decide +kernel
theorem dX4_addRegion_45 : decode cX4_addRegion 45 = .ok (.iconst 0, 1) := by decide +kernel
theorem dX4_addRegion_46 : decode cX4_addRegion 46 = .ok (.goto 17, 3) := by decide +kernel
theorem dX4_addRegion_49 : decode cX4_addRegion 49 = .ok (.aload_n 0, 1) := by decide +kernel
theorem dX4_addRegion_50 : decode cX4_addRegion 50 = .ok (.getfield 10, 3) := by decide +kernel
theorem dX4_addRegion_53 : decode cX4_addRegion 53 = .ok (.iload_n 1, 1) := by decide +kernel
theorem dX4_addRegion_54 : decode cX4_addRegion 54 = .ok (.invokevirtual 50, 3) := by decide +kernel
theorem dX4_addRegion_57 : decode cX4_addRegion 57 = .ok (.checkcast 54, 3) := by decide +kernel
theorem dX4_addRegion_60 : decode cX4_addRegion 60 = .ok (.getfield 56, 3) := by decide +kernel
theorem dX4_addRegion_63 : decode cX4_addRegion 63 = .ok (.istore_n 3, 1) := by decide +kernel
theorem dX4_addRegion_64 : decode cX4_addRegion 64 = .ok (.aload_n 0, 1) := by decide +kernel
theorem dX4_addRegion_65 : decode cX4_addRegion 65 = .ok (.getfield 10, 3) := by decide +kernel
theorem dX4_addRegion_68 : decode cX4_addRegion 68 = .ok (.new 54, 3) := by decide +kernel
theorem dX4_addRegion_71 : decode cX4_addRegion 71 = .ok (.dup, 1) := by decide +kernel
theorem dX4_addRegion_72 : decode cX4_addRegion 72 = .ok (.iload_n 2, 1) := by decide +kernel
theorem dX4_addRegion_73 : decode cX4_addRegion 73 = .ok (.iload_n 3, 1) := by decide +kernel
theorem dX4_addRegion_74 : decode cX4_addRegion 74 = .ok (.invokespecial 59, 3) := by decide +kernel
theorem dX4_addRegion_77 : decode cX4_addRegion 77 = .ok (.invokevirtual 62, 3) := by decide +kernel
theorem dX4_addRegion_80 : decode cX4_addRegion 80 = .ok (.pop, 1) := by decide +kernel
theorem dX4_addRegion_81 : decode cX4_addRegion 81 = .ok (.iload_n 2, 1) := by decide +kernel
theorem dX4_addRegion_82 : decode cX4_addRegion 82 = .ok (.ireturn, 1) := by decide +kernel
set_option maxRecDepth 20000 in
theorem ggX4_addCheck_X4_requireRange : GoodIn wsX4_addCheck wsX4_requireRange := goodIn_ca (goodIn_r _ [10, 11, 12] (by decide +kernel) (by decide +kernel)) (goodIn_sub (fun _ h => List.mem_cons_of_mem _ (List.mem_append_right _ h)) (by decide +kernel))
set_option maxRecDepth 20000 in
theorem gX4_addCheck_X4_requireRange : GoodIn wsX4_addCheck (va_wsS RX4 66 yX4_requireRange wsX4_requireRange) := goodIn_app (goodIn_of _ (by decide +kernel)) ggX4_addCheck_X4_requireRange
set_option maxRecDepth 20000 in
theorem ggX4_addCheck_Jx4a65c_size_8abf5 : GoodIn wsX4_addCheck wsJx4a65c_size_8abf5 := goodIn_r _ [17, 18, 108, 109, 110] (by decide +kernel) (by decide +kernel)
set_option maxRecDepth 20000 in
theorem gX4_addCheck_Jx4a65c_size_8abf5 : GoodIn wsX4_addCheck (wsV RX4 39 RJx4a65c yJx4a65c_size_8abf5 wsJx4a65c_size_8abf5) := goodIn_app (goodIn_of _ (by decide +kernel)) ggX4_addCheck_Jx4a65c_size_8abf5
set_option maxRecDepth 20000 in
theorem ggX4_addCheck_X1_init : GoodIn wsX4_addCheck wsX1_init := goodIn_r _ [21, 22, 23, 24, 25, 26, 27, 28, 29, 30, 31, 32, 33, 95, 96, 97, 98, 99, 100, 101, 102, 103, 104, 105, 106, 107] (by decide +kernel) (by decide +kernel)
set_option maxRecDepth 20000 in
theorem gX4_addCheck_X1_init : GoodIn wsX4_addCheck (wsX1_init) := ggX4_addCheck_X1_init
set_option maxRecDepth 20000 in
theorem ggX4_addCheck_Jx4a65c_add_9ea2d : GoodIn wsX4_addCheck wsJx4a65c_add_9ea2d := goodIn_r _ [37, 38, 39, 40, 18, 41, 42, 43, 16, 44, 45, 46, 47, 48, 49, 50, 51, 52, 53, 54, 55, 56, 57, 58, 59, 60, 61, 62, 63, 64, 65, 66, 67, 68, 69, 70, 71, 72, 73, 74, 75, 76, 77, 78, 79, 80, 81, 82, 83, 84, 85, 86, 87, 108, 109, 110] (by decide +kernel) (by decide +kernel)
set_option maxRecDepth 20000 in
theorem gX4_addCheck_Jx4a65c_add_9ea2d : GoodIn wsX4_addCheck (wsV RX4 62 RJx4a65c yJx4a65c_add_9ea2d wsJx4a65c_add_9ea2d) := goodIn_app (goodIn_of _ (by decide +kernel)) ggX4_addCheck_Jx4a65c_add_9ea2d
theorem dX4_addCheck_0 : decode cX4_addCheck 0 = .ok (.iload_n 1, 1) := by decide +kernel
theorem dX4_addCheck_1 : decode cX4_addCheck 1 = .ok (.iconst 1, 1) := by decide +kernel
theorem dX4_addCheck_2 : decode cX4_addCheck 2 = .ok (.bipush 60, 2) := by decide +kernel
theorem dX4_addCheck_4 : decode cX4_addCheck 4 = .ok (.invokestatic 66, 3) := by decide +kernel
theorem dX4_addCheck_7 : decode cX4_addCheck 7 = .ok (.iload_n 2, 1) := by decide +kernel
theorem dX4_addCheck_8 : decode cX4_addCheck 8 = .ok (.iconst 0, 1) := by decide +kernel
theorem dX4_addCheck_9 : decode cX4_addCheck 9 = .ok (.sipush 1000, 3) := by decide +kernel
theorem dX4_addCheck_12 : decode cX4_addCheck 12 = .ok (.invokestatic 66, 3) := by decide +kernel
theorem dX4_addCheck_15 : decode cX4_addCheck 15 = .ok (.iload_n 3, 1) := by decide +kernel
theorem dX4_addCheck_16 : decode cX4_addCheck 16 = .ok (.iconst 0, 1) := by decide +kernel
theorem dX4_addCheck_17 : decode cX4_addCheck 17 = .ok (.iconst 3, 1) := by decide +kernel
theorem dX4_addCheck_18 : decode cX4_addCheck 18 = .ok (.invokestatic 66, 3) := by decide +kernel
theorem dX4_addCheck_21 : decode cX4_addCheck 21 = .ok (.iload 4, 2) := by decide +kernel
theorem dX4_addCheck_23 : decode cX4_addCheck 23 = .ok (.iconst 1, 1) := by decide +kernel
theorem dX4_addCheck_24 : decode cX4_addCheck 24 = .ok (.bipush 6, 2) := by decide +kernel
theorem dX4_addCheck_26 : decode cX4_addCheck 26 = .ok (.invokestatic 66, 3) := by decide +kernel
theorem dX4_addCheck_29 : decode cX4_addCheck 29 = .ok (.aload_n 0, 1) := by decide +kernel
theorem dX4_addCheck_30 : decode cX4_addCheck 30 = .ok (.getfield 16, 3) := by decide +kernel
theorem dX4_addCheck_33 : decode cX4_addCheck 33 = .ok (.invokevirtual 39, 3) := by decide +kernel
theorem dX4_addCheck_36 : decode cX4_addCheck 36 = .ok (.bipush 8, 2) := by decide +kernel
theorem dX4_addCheck_38 : decode cX4_addCheck 38 = .ok (.if_icmp .lt 13, 3) := by decide +kernel
theorem dX4_addCheck_41 : decode cX4_addCheck 41 = .ok (.new 43, 3) := by decide +kernel
theorem dX4_addCheck_44 : decode cX4_addCheck 44 = .ok (.dup, 1) := by decide +kernel
theorem dX4_addCheck_45 : decode cX4_addCheck 45 = .ok (.ldc 70, 2) := by decide +kernel
theorem dX4_addCheck_47 : decode cX4_addCheck 47 = .ok (.invokespecial 47, 3) := by decide +kernel
theorem dX4_addCheck_50 : decode cX4_addCheck 50 = .ok (.athrow, 1) := by decide +kernel
theorem dX4_addCheck_51 : decode cX4_addCheck 51 = .ok (.aload_n 0, 1) := by decide +kernel
theorem dX4_addCheck_52 : decode cX4_addCheck 52 = .ok (.getfield 16, 3) := by decide +kernel
theorem dX4_addCheck_55 : decode cX4_addCheck 55 = .ok (.invokevirtual 39, 3) := by decide +kernel
theorem dX4_addCheck_58 : decode cX4_addCheck 58 = .ok (.istore 5, 2) := by decide +kernel
theorem dX4_addCheck_60 : decode cX4_addCheck 60 = .ok (.aload_n 0, 1) := by decide +kernel
theorem dX4_addCheck_61 : decode cX4_addCheck 61 = .ok (.getfield 16, 3) := by decide +kernel
theorem dX4_addCheck_64 : decode cX4_addCheck 64 = .ok (.new 72, 3) := by decide +kernel
theorem dX4_addCheck_67 : decode cX4_addCheck 67 = .ok (.dup, 1) := by decide +kernel
theorem dX4_addCheck_68 : decode cX4_addCheck 68 = .ok (.iload 5, 2) := by decide +kernel
theorem dX4_addCheck_70 : decode cX4_addCheck 70 = .ok (.iload_n 1, 1) := by decide +kernel
theorem dX4_addCheck_71 : decode cX4_addCheck 71 = .ok (.iload_n 2, 1) := by decide +kernel
theorem dX4_addCheck_72 : decode cX4_addCheck 72 = .ok (.iload_n 3, 1) := by decide +kernel
theorem dX4_addCheck_73 : decode cX4_addCheck 73 = .ok (.iload 4, 2) := by decide +kernel
theorem dX4_addCheck_75 : decode cX4_addCheck 75 = .ok (.invokespecial 74, 3) := by decide +kernel
theorem dX4_addCheck_78 : decode cX4_addCheck 78 = .ok (.invokevirtual 62, 3) := by decide +kernel
theorem dX4_addCheck_81 : decode cX4_addCheck 81 = .ok (.pop, 1) := by decide +kernel
theorem dX4_addCheck_82 : decode cX4_addCheck 82 = .ok (.iload 5, 2) := by decide +kernel
theorem dX4_addCheck_84 : decode cX4_addCheck 84 = .ok (.ireturn, 1) := by decide +kernel
set_option maxRecDepth 20000 in
theorem ggX4_setDown_X4_requireCheck : GoodIn wsX4_setDown wsX4_requireCheck := goodIn_ca (goodIn_r _ [8, 9, 10, 1, 11, 12, 13, 14, 15, 16, 45, 46, 47, 48, 49, 50, 51, 65, 66, 67] (by decide +kernel) (by decide +kernel)) (goodIn_sub (fun _ h => List.mem_cons_of_mem _ (List.mem_append_right _ h)) (by decide +kernel))
set_option maxRecDepth 20000 in
theorem gX4_setDown_X4_requireCheck : GoodIn wsX4_setDown (wsV RX4 77 RX4 yX4_requireCheck wsX4_requireCheck) := goodIn_app (goodIn_of _ (by decide +kernel)) ggX4_setDown_X4_requireCheck
set_option maxRecDepth 20000 in
theorem ggX4_setDown_X4_requireRegion : GoodIn wsX4_setDown wsX4_requireRegion := goodIn_ca (goodIn_r _ [20, 9, 10, 21, 11, 12, 13, 14, 15, 16, 45, 46, 47, 48, 49, 50, 51, 65, 66, 67] (by decide +kernel) (by decide +kernel)) (goodIn_sub (fun _ h => List.mem_cons_of_mem _ (List.mem_append_right _ h)) (by decide +kernel))
set_option maxRecDepth 20000 in
theorem gX4_setDown_X4_requireRegion : GoodIn wsX4_setDown (wsV RX4 35 RX4 yX4_requireRegion wsX4_requireRegion) := goodIn_app (goodIn_of _ (by decide +kernel)) ggX4_setDown_X4_requireRegion
set_option maxRecDepth 20000 in
theorem ggX4_setDown_Jx4a65c_get_915e3 : GoodIn wsX4_setDown wsJx4a65c_get_915e3 := goodIn_r _ [25, 16, 26, 27, 28, 29, 30, 31, 32, 33, 34, 35, 36, 14, 37, 38, 65, 66, 67] (by decide +kernel) (by decide +kernel)
set_option maxRecDepth 20000 in
theorem gX4_setDown_Jx4a65c_get_915e3 : GoodIn wsX4_setDown (wsV RX4 50 RJx4a65c yJx4a65c_get_915e3 wsJx4a65c_get_915e3) := goodIn_app (goodIn_of _ (by decide +kernel)) ggX4_setDown_Jx4a65c_get_915e3
set_option maxRecDepth 20000 in
theorem ggX4_setDown_X4_holds : GoodIn wsX4_setDown wsX4_holds := goodIn_r _ [41] (by decide +kernel) (by decide +kernel)
set_option maxRecDepth 20000 in
theorem gX4_setDown_X4_holds : GoodIn wsX4_setDown (va_wsS RX4 83 yX4_holds wsX4_holds) := goodIn_app (goodIn_of _ (by decide +kernel)) ggX4_setDown_X4_holds
set_option maxRecDepth 20000 in
theorem ggX4_setDown_X4_withRegion : GoodIn wsX4_setDown wsX4_withRegion := goodIn_r _ [44] (by decide +kernel) (by decide +kernel)
set_option maxRecDepth 20000 in
theorem gX4_setDown_X4_withRegion : GoodIn wsX4_setDown (va_wsS RX4 87 yX4_withRegion wsX4_withRegion) := goodIn_app (goodIn_of _ (by decide +kernel)) ggX4_setDown_X4_withRegion
theorem dX4_setDown_0 : decode cX4_setDown 0 = .ok (.aload_n 0, 1) := by decide +kernel
theorem dX4_setDown_1 : decode cX4_setDown 1 = .ok (.iload_n 1, 1) := by decide +kernel
theorem dX4_setDown_2 : decode cX4_setDown 2 = .ok (.invokevirtual 77, 3) := by decide +kernel
theorem dX4_setDown_5 : decode cX4_setDown 5 = .ok (.aload_n 0, 1) := by decide +kernel
theorem dX4_setDown_6 : decode cX4_setDown 6 = .ok (.iload_n 2, 1) := by decide +kernel
theorem dX4_setDown_7 : decode cX4_setDown 7 = .ok (.invokevirtual 35, 3) := by decide +kernel
theorem dX4_setDown_10 : decode cX4_setDown 10 = .ok (.aload_n 0, 1) := by decide +kernel
theorem dX4_setDown_11 : decode cX4_setDown 11 = .ok (.getfield 16, 3) := by decide +kernel
theorem dX4_setDown_14 : decode cX4_setDown 14 = .ok (.iload_n 1, 1) := by decide +kernel
theorem dX4_setDown_15 : decode cX4_setDown 15 = .ok (.invokevirtual 50, 3) := by decide +kernel
theorem dX4_setDown_18 : decode cX4_setDown 18 = .ok (.checkcast 72, 3) := by decide +kernel
theorem dX4_setDown_21 : decode cX4_setDown 21 = .ok (.astore 4, 2) := by decide +kernel
theorem dX4_setDown_23 : decode cX4_setDown 23 = .ok (.aload 4, 2) := by decide +kernel
theorem dX4_setDown_25 : decode cX4_setDown 25 = .ok (.getfield 80, 3) := by decide +kernel
theorem dX4_setDown_28 : decode cX4_setDown 28 = .ok (.iload_n 2, 1) := by decide +kernel
theorem dX4_setDown_29 : decode cX4_setDown 29 = .ok (.invokestatic 83, 3) := by decide +kernel
theorem dX4_setDown_32 : decode cX4_setDown 32 = .ok (.istore 5, 2) := by decide +kernel
theorem dX4_setDown_34 : decode cX4_setDown 34 = .ok (.aload 4, 2) := by decide +kernel
theorem dX4_setDown_36 : decode cX4_setDown 36 = .ok (.aload 4, 2) := by decide +kernel
theorem dX4_setDown_38 : decode cX4_setDown 38 = .ok (.getfield 80, 3) := by decide +kernel
theorem dX4_setDown_41 : decode cX4_setDown 41 = .ok (.iload_n 2, 1) := by decide +kernel
theorem dX4_setDown_42 : decode cX4_setDown 42 = .ok (.iload_n 3, 1) := by decide +kernel
theorem dX4_setDown_43 : decode cX4_setDown 43 = .ok (.invokestatic 87, 3) := by decide +kernel
theorem dX4_setDown_46 : decode cX4_setDown 46 = .ok (.putfield 80, 3) := by decide +kernel
theorem dX4_setDown_49 : decode cX4_setDown 49 = .ok (.iload 5, 2) := by decide +kernel
theorem dX4_setDown_51 : decode cX4_setDown 51 = .ok (.ireturn, 1) := by decide +kernel
set_option maxRecDepth 20000 in
theorem ggX4_setCut_X4_requireRegion : GoodIn wsX4_setCut wsX4_requireRegion := goodIn_ca (goodIn_r _ [6, 7, 8, 9, 10, 11, 12, 13, 14, 15, 22, 23, 24, 25, 26, 27, 28, 29, 30, 31] (by decide +kernel) (by decide +kernel)) (goodIn_sub (fun _ h => List.mem_cons_of_mem _ (List.mem_append_right _ h)) (by decide +kernel))
set_option maxRecDepth 20000 in
theorem gX4_setCut_X4_requireRegion : GoodIn wsX4_setCut (wsV RX4 35 RX4 yX4_requireRegion wsX4_requireRegion) := goodIn_app (goodIn_of _ (by decide +kernel)) ggX4_setCut_X4_requireRegion
set_option maxRecDepth 20000 in
theorem ggX4_setCut_X4_holds : GoodIn wsX4_setCut wsX4_holds := goodIn_r _ [18] (by decide +kernel) (by decide +kernel)
set_option maxRecDepth 20000 in
theorem gX4_setCut_X4_holds : GoodIn wsX4_setCut (va_wsS RX4 83 yX4_holds wsX4_holds) := goodIn_app (goodIn_of _ (by decide +kernel)) ggX4_setCut_X4_holds
set_option maxRecDepth 20000 in
theorem ggX4_setCut_X4_withRegion : GoodIn wsX4_setCut wsX4_withRegion := goodIn_r _ [21] (by decide +kernel) (by decide +kernel)
set_option maxRecDepth 20000 in
theorem gX4_setCut_X4_withRegion : GoodIn wsX4_setCut (va_wsS RX4 87 yX4_withRegion wsX4_withRegion) := goodIn_app (goodIn_of _ (by decide +kernel)) ggX4_setCut_X4_withRegion
theorem dX4_setCut_0 : decode cX4_setCut 0 = .ok (.aload_n 0, 1) := by decide +kernel
theorem dX4_setCut_1 : decode cX4_setCut 1 = .ok (.iload_n 1, 1) := by decide +kernel
theorem dX4_setCut_2 : decode cX4_setCut 2 = .ok (.invokevirtual 35, 3) := by decide +kernel
theorem dX4_setCut_5 : decode cX4_setCut 5 = .ok (.aload_n 0, 1) := by decide +kernel
theorem dX4_setCut_6 : decode cX4_setCut 6 = .ok (.getfield 25, 3) := by decide +kernel
theorem dX4_setCut_9 : decode cX4_setCut 9 = .ok (.iload_n 1, 1) := by decide +kernel
theorem dX4_setCut_10 : decode cX4_setCut 10 = .ok (.invokestatic 83, 3) := by decide +kernel
theorem dX4_setCut_13 : decode cX4_setCut 13 = .ok (.istore_n 3, 1) := by decide +kernel
theorem dX4_setCut_14 : decode cX4_setCut 14 = .ok (.aload_n 0, 1) := by decide +kernel
theorem dX4_setCut_15 : decode cX4_setCut 15 = .ok (.aload_n 0, 1) := by decide +kernel
theorem dX4_setCut_16 : decode cX4_setCut 16 = .ok (.getfield 25, 3) := by decide +kernel
theorem dX4_setCut_19 : decode cX4_setCut 19 = .ok (.iload_n 1, 1) := by decide +kernel
theorem dX4_setCut_20 : decode cX4_setCut 20 = .ok (.iload_n 2, 1) := by decide +kernel
theorem dX4_setCut_21 : decode cX4_setCut 21 = .ok (.invokestatic 87, 3) := by decide +kernel
theorem dX4_setCut_24 : decode cX4_setCut 24 = .ok (.putfield 25, 3) := by decide +kernel
theorem dX4_setCut_27 : decode cX4_setCut 27 = .ok (.iload_n 3, 1) := by decide +kernel
theorem dX4_setCut_28 : decode cX4_setCut 28 = .ok (.ireturn, 1) := by decide +kernel
set_option maxRecDepth 20000 in
theorem ggX4_setQuorum_X4_requireCheck : GoodIn wsX4_setQuorum wsX4_requireCheck := goodIn_ca (goodIn_r _ [8, 9, 10, 1, 11, 12, 13, 14, 15, 16, 39, 40, 41, 42, 43, 44, 45, 59, 60, 61] (by decide +kernel) (by decide +kernel)) (goodIn_sub (fun _ h => List.mem_cons_of_mem _ (List.mem_append_left _ (List.mem_append_right _ h))) (by decide +kernel))
set_option maxRecDepth 20000 in
theorem gX4_setQuorum_X4_requireCheck : GoodIn wsX4_setQuorum (wsV RX4 77 RX4 yX4_requireCheck wsX4_requireCheck) := goodIn_app (goodIn_of _ (by decide +kernel)) ggX4_setQuorum_X4_requireCheck
set_option maxRecDepth 20000 in
theorem ggX4_setQuorum_X4_requireRange : GoodIn wsX4_setQuorum wsX4_requireRange := goodIn_ca (goodIn_r _ [19, 20, 21] (by decide +kernel) (by decide +kernel)) (goodIn_sub (fun _ h => List.mem_cons_of_mem _ (List.mem_append_right _ h)) (by decide +kernel))
set_option maxRecDepth 20000 in
theorem gX4_setQuorum_X4_requireRange : GoodIn wsX4_setQuorum (va_wsS RX4 66 yX4_requireRange wsX4_requireRange) := goodIn_app (goodIn_of _ (by decide +kernel)) ggX4_setQuorum_X4_requireRange
set_option maxRecDepth 20000 in
theorem ggX4_setQuorum_Jx4a65c_get_915e3 : GoodIn wsX4_setQuorum wsJx4a65c_get_915e3 := goodIn_r _ [25, 16, 26, 27, 28, 29, 30, 31, 32, 33, 34, 35, 36, 14, 37, 38, 59, 60, 61] (by decide +kernel) (by decide +kernel)
set_option maxRecDepth 20000 in
theorem gX4_setQuorum_Jx4a65c_get_915e3 : GoodIn wsX4_setQuorum (wsV RX4 50 RJx4a65c yJx4a65c_get_915e3 wsJx4a65c_get_915e3) := goodIn_app (goodIn_of _ (by decide +kernel)) ggX4_setQuorum_Jx4a65c_get_915e3
theorem dX4_setQuorum_0 : decode cX4_setQuorum 0 = .ok (.aload_n 0, 1) := by decide +kernel
theorem dX4_setQuorum_1 : decode cX4_setQuorum 1 = .ok (.iload_n 1, 1) := by decide +kernel
theorem dX4_setQuorum_2 : decode cX4_setQuorum 2 = .ok (.invokevirtual 77, 3) := by decide +kernel
theorem dX4_setQuorum_5 : decode cX4_setQuorum 5 = .ok (.iload_n 2, 1) := by decide +kernel
theorem dX4_setQuorum_6 : decode cX4_setQuorum 6 = .ok (.iconst 1, 1) := by decide +kernel
theorem dX4_setQuorum_7 : decode cX4_setQuorum 7 = .ok (.bipush 6, 2) := by decide +kernel
theorem dX4_setQuorum_9 : decode cX4_setQuorum 9 = .ok (.invokestatic 66, 3) := by decide +kernel
theorem dX4_setQuorum_12 : decode cX4_setQuorum 12 = .ok (.aload_n 0, 1) := by decide +kernel
theorem dX4_setQuorum_13 : decode cX4_setQuorum 13 = .ok (.getfield 16, 3) := by decide +kernel
theorem dX4_setQuorum_16 : decode cX4_setQuorum 16 = .ok (.iload_n 1, 1) := by decide +kernel
theorem dX4_setQuorum_17 : decode cX4_setQuorum 17 = .ok (.invokevirtual 50, 3) := by decide +kernel
theorem dX4_setQuorum_20 : decode cX4_setQuorum 20 = .ok (.checkcast 72, 3) := by decide +kernel
theorem dX4_setQuorum_23 : decode cX4_setQuorum 23 = .ok (.astore_n 3, 1) := by decide +kernel
theorem dX4_setQuorum_24 : decode cX4_setQuorum 24 = .ok (.aload_n 3, 1) := by decide +kernel
theorem dX4_setQuorum_25 : decode cX4_setQuorum 25 = .ok (.getfield 91, 3) := by decide +kernel
theorem dX4_setQuorum_28 : decode cX4_setQuorum 28 = .ok (.istore 4, 2) := by decide +kernel
theorem dX4_setQuorum_30 : decode cX4_setQuorum 30 = .ok (.aload_n 3, 1) := by decide +kernel
theorem dX4_setQuorum_31 : decode cX4_setQuorum 31 = .ok (.iload_n 2, 1) := by decide +kernel
theorem dX4_setQuorum_32 : decode cX4_setQuorum 32 = .ok (.putfield 91, 3) := by decide +kernel
theorem dX4_setQuorum_35 : decode cX4_setQuorum 35 = .ok (.iload 4, 2) := by decide +kernel
theorem dX4_setQuorum_37 : decode cX4_setQuorum 37 = .ok (.ireturn, 1) := by decide +kernel
set_option maxRecDepth 20000 in
theorem ggX4_addWindow_X4_requireCheck : GoodIn wsX4_addWindow wsX4_requireCheck := goodIn_ca (goodIn_r _ [12, 13, 14, 15, 16, 17, 18, 19, 20, 21, 90, 91, 92, 93, 94, 95, 96, 100, 101, 102] (by decide +kernel) (by decide +kernel)) (goodIn_sub (fun _ h => List.mem_cons_of_mem _ (List.mem_append_left _ (List.mem_append_right _ h))) (by decide +kernel))
set_option maxRecDepth 20000 in
theorem gX4_addWindow_X4_requireCheck : GoodIn wsX4_addWindow (wsV RX4 77 RX4 yX4_requireCheck wsX4_requireCheck) := goodIn_app (goodIn_of _ (by decide +kernel)) ggX4_addWindow_X4_requireCheck
set_option maxRecDepth 20000 in
theorem ggX4_addWindow_X4_requireRange : GoodIn wsX4_addWindow wsX4_requireRange := goodIn_ca (goodIn_r _ [24, 25, 26] (by decide +kernel) (by decide +kernel)) (goodIn_sub (fun _ h => List.mem_cons_of_mem _ (List.mem_append_right _ h)) (by decide +kernel))
set_option maxRecDepth 20000 in
theorem gX4_addWindow_X4_requireRange : GoodIn wsX4_addWindow (va_wsS RX4 66 yX4_requireRange wsX4_requireRange) := goodIn_app (goodIn_of _ (by decide +kernel)) ggX4_addWindow_X4_requireRange
set_option maxRecDepth 20000 in
theorem ggX4_addWindow_Jx4a65c_size_8abf5 : GoodIn wsX4_addWindow wsJx4a65c_size_8abf5 := goodIn_r _ [20, 21, 100, 101, 102] (by decide +kernel) (by decide +kernel)
set_option maxRecDepth 20000 in
theorem gX4_addWindow_Jx4a65c_size_8abf5 : GoodIn wsX4_addWindow (wsV RX4 39 RJx4a65c yJx4a65c_size_8abf5 wsJx4a65c_size_8abf5) := goodIn_app (goodIn_of _ (by decide +kernel)) ggX4_addWindow_Jx4a65c_size_8abf5
set_option maxRecDepth 20000 in
theorem ggX4_addWindow_X3_init : GoodIn wsX4_addWindow wsX3_init := goodIn_r _ [29, 30, 31, 32, 33, 34, 35, 97, 98, 99] (by decide +kernel) (by decide +kernel)
set_option maxRecDepth 20000 in
theorem gX4_addWindow_X3_init : GoodIn wsX4_addWindow (wsX3_init) := ggX4_addWindow_X3_init
set_option maxRecDepth 20000 in
theorem ggX4_addWindow_Jx4a65c_add_9ea2d : GoodIn wsX4_addWindow wsJx4a65c_add_9ea2d := goodIn_r _ [39, 40, 41, 42, 21, 43, 44, 45, 19, 46, 47, 48, 49, 50, 51, 52, 53, 54, 55, 56, 57, 58, 59, 60, 61, 62, 63, 64, 65, 66, 67, 68, 69, 70, 71, 72, 73, 74, 75, 76, 77, 78, 79, 80, 81, 82, 83, 84, 85, 86, 87, 88, 89, 100, 101, 102] (by decide +kernel) (by decide +kernel)
set_option maxRecDepth 20000 in
theorem gX4_addWindow_Jx4a65c_add_9ea2d : GoodIn wsX4_addWindow (wsV RX4 62 RJx4a65c yJx4a65c_add_9ea2d wsJx4a65c_add_9ea2d) := goodIn_app (goodIn_of _ (by decide +kernel)) ggX4_addWindow_Jx4a65c_add_9ea2d
theorem dX4_addWindow_0 : decode cX4_addWindow 0 = .ok (.aload_n 0, 1) := by decide +kernel
theorem dX4_addWindow_1 : decode cX4_addWindow 1 = .ok (.iload_n 1, 1) := by decide +kernel
theorem dX4_addWindow_2 : decode cX4_addWindow 2 = .ok (.invokevirtual 77, 3) := by decide +kernel
theorem dX4_addWindow_5 : decode cX4_addWindow 5 = .ok (.iload_n 2, 1) := by decide +kernel
theorem dX4_addWindow_6 : decode cX4_addWindow 6 = .ok (.iconst 0, 1) := by decide +kernel
theorem dX4_addWindow_7 : decode cX4_addWindow 7 = .ok (.ldc 94, 2) := by decide +kernel
theorem dX4_addWindow_9 : decode cX4_addWindow 9 = .ok (.invokestatic 66, 3) := by decide +kernel
theorem dX4_addWindow_12 : decode cX4_addWindow 12 = .ok (.iload_n 3, 1) := by decide +kernel
theorem dX4_addWindow_13 : decode cX4_addWindow 13 = .ok (.iconst 1, 1) := by decide +kernel
theorem dX4_addWindow_14 : decode cX4_addWindow 14 = .ok (.sipush 10000, 3) := by decide +kernel
theorem dX4_addWindow_17 : decode cX4_addWindow 17 = .ok (.invokestatic 66, 3) := by decide +kernel
theorem dX4_addWindow_20 : decode cX4_addWindow 20 = .ok (.aload_n 0, 1) := by decide +kernel
theorem dX4_addWindow_21 : decode cX4_addWindow 21 = .ok (.getfield 19, 3) := by decide +kernel
theorem dX4_addWindow_24 : decode cX4_addWindow 24 = .ok (.invokevirtual 39, 3) := by decide +kernel
theorem dX4_addWindow_27 : decode cX4_addWindow 27 = .ok (.bipush 12, 2) := by decide +kernel
theorem dX4_addWindow_29 : decode cX4_addWindow 29 = .ok (.if_icmp .lt 13, 3) := by decide +kernel
theorem dX4_addWindow_32 : decode cX4_addWindow 32 = .ok (.new 43, 3) := by decide +kernel
theorem dX4_addWindow_35 : decode cX4_addWindow 35 = .ok (.dup, 1) := by decide +kernel
theorem dX4_addWindow_36 : decode cX4_addWindow 36 = .ok (.ldc 95, 2) := by decide +kernel
theorem dX4_addWindow_38 : decode cX4_addWindow 38 = .ok (.invokespecial 47, 3) := by decide +kernel
theorem dX4_addWindow_41 : decode cX4_addWindow 41 = .ok (.athrow, 1) := by decide +kernel
theorem dX4_addWindow_42 : decode cX4_addWindow 42 = .ok (.aload_n 0, 1) := by decide +kernel
theorem dX4_addWindow_43 : decode cX4_addWindow 43 = .ok (.getfield 19, 3) := by decide +kernel
theorem dX4_addWindow_46 : decode cX4_addWindow 46 = .ok (.new 97, 3) := by decide +kernel
theorem dX4_addWindow_49 : decode cX4_addWindow 49 = .ok (.dup, 1) := by decide +kernel
theorem dX4_addWindow_50 : decode cX4_addWindow 50 = .ok (.iload_n 1, 1) := by decide +kernel
theorem dX4_addWindow_51 : decode cX4_addWindow 51 = .ok (.iload_n 2, 1) := by decide +kernel
theorem dX4_addWindow_52 : decode cX4_addWindow 52 = .ok (.iload_n 2, 1) := by decide +kernel
theorem dX4_addWindow_53 : decode cX4_addWindow 53 = .ok (.iload_n 3, 1) := by decide +kernel
theorem dX4_addWindow_54 : decode cX4_addWindow 54 = .ok (.iadd, 1) := by decide +kernel
theorem dX4_addWindow_55 : decode cX4_addWindow 55 = .ok (.iconst 1, 1) := by decide +kernel
theorem dX4_addWindow_56 : decode cX4_addWindow 56 = .ok (.isub, 1) := by decide +kernel
theorem dX4_addWindow_57 : decode cX4_addWindow 57 = .ok (.invokespecial 99, 3) := by decide +kernel
theorem dX4_addWindow_60 : decode cX4_addWindow 60 = .ok (.invokevirtual 62, 3) := by decide +kernel
theorem dX4_addWindow_63 : decode cX4_addWindow 63 = .ok (.pop, 1) := by decide +kernel
theorem dX4_addWindow_64 : decode cX4_addWindow 64 = .ok (.aload_n 0, 1) := by decide +kernel
theorem dX4_addWindow_65 : decode cX4_addWindow 65 = .ok (.getfield 19, 3) := by decide +kernel
theorem dX4_addWindow_68 : decode cX4_addWindow 68 = .ok (.invokevirtual 39, 3) := by decide +kernel
theorem dX4_addWindow_71 : decode cX4_addWindow 71 = .ok (.iconst 1, 1) := by decide +kernel
theorem dX4_addWindow_72 : decode cX4_addWindow 72 = .ok (.isub, 1) := by decide +kernel
theorem dX4_addWindow_73 : decode cX4_addWindow 73 = .ok (.ireturn, 1) := by decide +kernel
set_option maxRecDepth 20000 in
theorem ggX4_endWindow_Jx4a65c_size_8abf5 : GoodIn wsX4_endWindow wsJx4a65c_size_8abf5 := goodIn_r _ [10, 11, 54, 55, 56] (by decide +kernel) (by decide +kernel)
set_option maxRecDepth 20000 in
theorem gX4_endWindow_Jx4a65c_size_8abf5 : GoodIn wsX4_endWindow (wsV RX4 39 RJx4a65c yJx4a65c_size_8abf5 wsJx4a65c_size_8abf5) := goodIn_app (goodIn_of _ (by decide +kernel)) ggX4_endWindow_Jx4a65c_size_8abf5
set_option maxRecDepth 20000 in
theorem ggX4_endWindow_Jx4a65c_get_915e3 : GoodIn wsX4_endWindow wsJx4a65c_get_915e3 := goodIn_r _ [15, 11, 16, 17, 18, 19, 20, 21, 22, 23, 24, 25, 26, 9, 27, 28, 54, 55, 56] (by decide +kernel) (by decide +kernel)
set_option maxRecDepth 20000 in
theorem gX4_endWindow_Jx4a65c_get_915e3 : GoodIn wsX4_endWindow (wsV RX4 50 RJx4a65c yJx4a65c_get_915e3 wsJx4a65c_get_915e3) := goodIn_app (goodIn_of _ (by decide +kernel)) ggX4_endWindow_Jx4a65c_get_915e3
set_option maxRecDepth 20000 in
theorem ggX4_endWindow_X3_endAfter : GoodIn wsX4_endWindow wsX3_endAfter := goodIn_r _ [33, 34, 35, 36, 37, 38, 57, 58, 59] (by decide +kernel) (by decide +kernel)
set_option maxRecDepth 20000 in
theorem gX4_endWindow_X3_endAfter : GoodIn wsX4_endWindow (wsV RX4 106 RX3 yX3_endAfter wsX3_endAfter) := goodIn_app (goodIn_of _ (by decide +kernel)) ggX4_endWindow_X3_endAfter
set_option maxRecDepth 20000 in
theorem ggX4_endWindow_X3_length : GoodIn wsX4_endWindow wsX3_length := goodIn_r _ [42, 34, 43, 44, 45, 37, 46, 57, 58, 59] (by decide +kernel) (by decide +kernel)
set_option maxRecDepth 20000 in
theorem gX4_endWindow_X3_length : GoodIn wsX4_endWindow (wsV RX4 109 RX3 yX3_length wsX3_length) := goodIn_app (goodIn_of _ (by decide +kernel)) ggX4_endWindow_X3_length
theorem dX4_endWindow_0 : decode cX4_endWindow 0 = .ok (.iload_n 1, 1) := by decide +kernel
theorem dX4_endWindow_1 : decode cX4_endWindow 1 = .ok (.ifCond .lt 14, 3) := by decide +kernel
theorem dX4_endWindow_4 : decode cX4_endWindow 4 = .ok (.iload_n 1, 1) := by decide +kernel
theorem dX4_endWindow_5 : decode cX4_endWindow 5 = .ok (.aload_n 0, 1) := by decide +kernel
theorem dX4_endWindow_6 : decode cX4_endWindow 6 = .ok (.getfield 19, 3) := by decide +kernel
theorem dX4_endWindow_9 : decode cX4_endWindow 9 = .ok (.invokevirtual 39, 3) := by decide +kernel
theorem dX4_endWindow_12 : decode cX4_endWindow 12 = .ok (.if_icmp .lt 13, 3) := by decide +kernel
theorem dX4_endWindow_15 : decode cX4_endWindow 15 = .ok (.new 101, 3) := by decide +kernel
theorem dX4_endWindow_18 : decode cX4_endWindow 18 = .ok (.dup, 1) := by decide +kernel
theorem dX4_endWindow_19 : decode cX4_endWindow 19 = .ok (.ldc 103, 2) := by decide +kernel
theorem dX4_endWindow_21 : decode cX4_endWindow 21 = .ok (.invokespecial 105, 3) := by decide +kernel
theorem dX4_endWindow_24 : decode cX4_endWindow 24 = .ok (.athrow, 1) := by decide +kernel
theorem dX4_endWindow_25 : decode cX4_endWindow 25 = .ok (.aload_n 0, 1) := by decide +kernel
theorem dX4_endWindow_26 : decode cX4_endWindow 26 = .ok (.getfield 19, 3) := by decide +kernel
theorem dX4_endWindow_29 : decode cX4_endWindow 29 = .ok (.iload_n 1, 1) := by decide +kernel
theorem dX4_endWindow_30 : decode cX4_endWindow 30 = .ok (.invokevirtual 50, 3) := by decide +kernel
theorem dX4_endWindow_33 : decode cX4_endWindow 33 = .ok (.checkcast 97, 3) := by decide +kernel
theorem dX4_endWindow_36 : decode cX4_endWindow 36 = .ok (.astore_n 2, 1) := by decide +kernel
theorem dX4_endWindow_37 : decode cX4_endWindow 37 = .ok (.aload_n 2, 1) := by decide +kernel
theorem dX4_endWindow_38 : decode cX4_endWindow 38 = .ok (.aload_n 0, 1) := by decide +kernel
theorem dX4_endWindow_39 : decode cX4_endWindow 39 = .ok (.getfield 32, 3) := by decide +kernel
theorem dX4_endWindow_42 : decode cX4_endWindow 42 = .ok (.invokevirtual 106, 3) := by decide +kernel
theorem dX4_endWindow_45 : decode cX4_endWindow 45 = .ok (.aload_n 2, 1) := by decide +kernel
theorem dX4_endWindow_46 : decode cX4_endWindow 46 = .ok (.invokevirtual 109, 3) := by decide +kernel
theorem dX4_endWindow_49 : decode cX4_endWindow 49 = .ok (.ireturn, 1) := by decide +kernel
set_option maxRecDepth 20000 in
theorem ggX4_pass_X4_requireRange : GoodIn wsX4_pass wsX4_requireRange := goodIn_ca (goodIn_r _ [5, 6, 7] (by decide +kernel) (by decide +kernel)) (goodIn_sub (fun _ h => List.mem_cons_of_mem _ (List.mem_append_right _ h)) (by decide +kernel))
set_option maxRecDepth 20000 in
theorem gX4_pass_X4_requireRange : GoodIn wsX4_pass (va_wsS RX4 66 yX4_requireRange wsX4_requireRange) := goodIn_app (goodIn_of _ (by decide +kernel)) ggX4_pass_X4_requireRange
set_option maxRecDepth 20000 in
theorem ggX4_pass_Jx4a65c_size_8abf5 : GoodIn wsX4_pass wsJx4a65c_size_8abf5 := goodIn_r _ [12, 13, 224, 225, 226] (by decide +kernel) (by decide +kernel)
set_option maxRecDepth 20000 in
theorem gX4_pass_Jx4a65c_size_8abf5 : GoodIn wsX4_pass (wsV RX4 39 RJx4a65c yJx4a65c_size_8abf5 wsJx4a65c_size_8abf5) := goodIn_app (goodIn_of _ (by decide +kernel)) ggX4_pass_Jx4a65c_size_8abf5
set_option maxRecDepth 20000 in
theorem ggX4_pass_X4_passOneMinute : GoodIn wsX4_pass wsX4_passOneMinute := goodIn_r _ [17, 18, 19, 20, 21, 4, 22, 23, 24, 25, 26, 8, 9, 10, 11, 12, 13, 27, 28, 29, 30, 31, 32, 33, 34, 35, 36, 37, 38, 39, 40, 41, 42, 43, 44, 45, 46, 47, 48, 49, 50, 51, 52, 53, 54, 55, 56, 57, 58, 59, 60, 61, 62, 63, 64, 65, 66, 67, 68, 69, 70, 71, 72, 73, 74, 75, 76, 77, 78, 79, 80, 81, 82, 83, 84, 85, 86, 87, 88, 89, 90, 91, 92, 93, 94, 95, 96, 97, 98, 99, 100, 101, 102, 103, 104, 105, 106, 107, 108, 109, 110, 111, 112, 113, 114, 115, 116, 117, 118, 119, 120, 121, 122, 123, 124, 125, 126, 127, 128, 129, 130, 131, 132, 133, 134, 135, 136, 137, 138, 139, 140, 141, 142, 143, 144, 1, 145, 146, 147, 148, 149, 150, 151, 152, 153, 154, 155, 156, 157, 158, 159, 160, 161, 162, 163, 164, 165, 166, 167, 168, 169, 170, 171, 172, 173, 174, 175, 176, 177, 178, 179, 180, 181, 182, 183, 184, 185, 186, 187, 188, 189, 190, 191, 192, 193, 194, 195, 196, 197, 198, 199, 200, 201, 202, 203, 204, 205, 206, 207, 208, 209, 210, 211, 212, 213, 214, 215, 216, 217, 218, 219, 220, 221, 222, 223, 224, 225, 226, 227, 228, 229, 230, 231, 232, 233, 234, 235, 236, 237, 238, 239, 240, 241, 242, 243, 244, 245, 246, 247, 248, 249] (by decide +kernel) (by decide +kernel)
set_option maxRecDepth 20000 in
theorem gX4_pass_X4_passOneMinute : GoodIn wsX4_pass (wsV RX4 112 RX4 yX4_passOneMinute wsX4_passOneMinute) := goodIn_app (goodIn_of _ (by decide +kernel)) ggX4_pass_X4_passOneMinute
theorem dX4_pass_0 : decode cX4_pass 0 = .ok (.iload_n 1, 1) := by decide +kernel
theorem dX4_pass_1 : decode cX4_pass 1 = .ok (.iconst 1, 1) := by decide +kernel
theorem dX4_pass_2 : decode cX4_pass 2 = .ok (.sipush 200, 3) := by decide +kernel
theorem dX4_pass_5 : decode cX4_pass 5 = .ok (.invokestatic 66, 3) := by decide +kernel
theorem dX4_pass_8 : decode cX4_pass 8 = .ok (.aload_n 0, 1) := by decide +kernel
theorem dX4_pass_9 : decode cX4_pass 9 = .ok (.getfield 22, 3) := by decide +kernel
theorem dX4_pass_12 : decode cX4_pass 12 = .ok (.invokevirtual 39, 3) := by decide +kernel
theorem dX4_pass_15 : decode cX4_pass 15 = .ok (.istore_n 2, 1) := by decide +kernel
theorem dX4_pass_16 : decode cX4_pass 16 = .ok (.iconst 0, 1) := by decide +kernel
theorem dX4_pass_17 : decode cX4_pass 17 = .ok (.istore_n 3, 1) := by decide +kernel
theorem dX4_pass_18 : decode cX4_pass 18 = .ok (.iload_n 3, 1) := by decide +kernel
theorem dX4_pass_19 : decode cX4_pass 19 = .ok (.iload_n 1, 1) := by decide +kernel
theorem dX4_pass_20 : decode cX4_pass 20 = .ok (.if_icmp .ge 13, 3) := by decide +kernel
theorem dX4_pass_23 : decode cX4_pass 23 = .ok (.aload_n 0, 1) := by decide +kernel
theorem dX4_pass_24 : decode cX4_pass 24 = .ok (.invokevirtual 112, 3) := by decide +kernel
theorem dX4_pass_27 : decode cX4_pass 27 = .ok (.iinc 3 1, 3) := by decide +kernel
theorem dX4_pass_30 : decode cX4_pass 30 = .ok (.goto (-12), 3) := by decide +kernel
theorem dX4_pass_33 : decode cX4_pass 33 = .ok (.aload_n 0, 1) := by decide +kernel
theorem dX4_pass_34 : decode cX4_pass 34 = .ok (.getfield 22, 3) := by decide +kernel
theorem dX4_pass_37 : decode cX4_pass 37 = .ok (.invokevirtual 39, 3) := by decide +kernel
theorem dX4_pass_40 : decode cX4_pass 40 = .ok (.iload_n 2, 1) := by decide +kernel
theorem dX4_pass_41 : decode cX4_pass 41 = .ok (.isub, 1) := by decide +kernel
theorem dX4_pass_42 : decode cX4_pass 42 = .ok (.ireturn, 1) := by decide +kernel
theorem dX4_minute_0 : decode cX4_minute 0 = .ok (.aload_n 0, 1) := by decide +kernel
theorem dX4_minute_1 : decode cX4_minute 1 = .ok (.getfield 32, 3) := by decide +kernel
theorem dX4_minute_4 : decode cX4_minute 4 = .ok (.ireturn, 1) := by decide +kernel
set_option maxRecDepth 20000 in
theorem ggX4_failing_X4_requireCheck : GoodIn wsX4_failing wsX4_requireCheck := goodIn_ca (goodIn_r _ [9, 10, 11, 2, 12, 13, 14, 15, 16, 17, 49, 50, 51, 52, 53, 54, 55, 56, 57, 58] (by decide +kernel) (by decide +kernel)) (goodIn_sub (fun _ h => List.mem_cons_of_mem _ (List.mem_append_right _ h)) (by decide +kernel))
set_option maxRecDepth 20000 in
theorem gX4_failing_X4_requireCheck : GoodIn wsX4_failing (wsV RX4 77 RX4 yX4_requireCheck wsX4_requireCheck) := goodIn_app (goodIn_of _ (by decide +kernel)) ggX4_failing_X4_requireCheck
set_option maxRecDepth 20000 in
theorem ggX4_failing_Jx4a65c_size_8abf5 : GoodIn wsX4_failing wsJx4a65c_size_8abf5 := goodIn_r _ [16, 17, 56, 57, 58] (by decide +kernel) (by decide +kernel)
set_option maxRecDepth 20000 in
theorem gX4_failing_Jx4a65c_size_8abf5 : GoodIn wsX4_failing (wsV RX4 39 RJx4a65c yJx4a65c_size_8abf5 wsJx4a65c_size_8abf5) := goodIn_app (goodIn_of _ (by decide +kernel)) ggX4_failing_Jx4a65c_size_8abf5
set_option maxRecDepth 20000 in
theorem ggX4_failing_Jx4a65c_get_915e3 : GoodIn wsX4_failing wsJx4a65c_get_915e3 := goodIn_r _ [21, 17, 22, 23, 24, 25, 26, 27, 28, 29, 30, 31, 32, 15, 33, 34, 56, 57, 58] (by decide +kernel) (by decide +kernel)
set_option maxRecDepth 20000 in
theorem gX4_failing_Jx4a65c_get_915e3 : GoodIn wsX4_failing (wsV RX4 50 RJx4a65c yJx4a65c_get_915e3 wsJx4a65c_get_915e3) := goodIn_app (goodIn_of _ (by decide +kernel)) ggX4_failing_Jx4a65c_get_915e3
set_option maxRecDepth 20000 in
theorem ggX4_failing_X4_wouldFail : GoodIn wsX4_failing wsX4_wouldFail := goodIn_r _ [38, 39, 40, 41, 42, 43, 44, 8, 45, 59, 60, 61, 62, 63, 64, 65, 66, 67, 68, 69, 70, 71, 72, 73, 74, 75, 49, 50, 51, 52, 53, 54, 55] (by decide +kernel) (by decide +kernel)
set_option maxRecDepth 20000 in
theorem gX4_failing_X4_wouldFail : GoodIn wsX4_failing (wsV RX4 115 RX4 yX4_wouldFail wsX4_wouldFail) := goodIn_app (goodIn_of _ (by decide +kernel)) ggX4_failing_X4_wouldFail
set_option maxRecDepth 20000 in
theorem ggX4_failing_X4_withRegion : GoodIn wsX4_failing wsX4_withRegion := goodIn_r _ [48] (by decide +kernel) (by decide +kernel)
set_option maxRecDepth 20000 in
theorem gX4_failing_X4_withRegion : GoodIn wsX4_failing (va_wsS RX4 87 yX4_withRegion wsX4_withRegion) := goodIn_app (goodIn_of _ (by decide +kernel)) ggX4_failing_X4_withRegion
theorem dX4_failing_0 : decode cX4_failing 0 = .ok (.aload_n 0, 1) := by decide +kernel
theorem dX4_failing_1 : decode cX4_failing 1 = .ok (.iload_n 1, 1) := by decide +kernel
theorem dX4_failing_2 : decode cX4_failing 2 = .ok (.invokevirtual 77, 3) := by decide +kernel
theorem dX4_failing_5 : decode cX4_failing 5 = .ok (.iconst 0, 1) := by decide +kernel
theorem dX4_failing_6 : decode cX4_failing 6 = .ok (.istore_n 2, 1) := by decide +kernel
theorem dX4_failing_7 : decode cX4_failing 7 = .ok (.iconst 0, 1) := by decide +kernel
theorem dX4_failing_8 : decode cX4_failing 8 = .ok (.istore_n 3, 1) := by decide +kernel
theorem dX4_failing_9 : decode cX4_failing 9 = .ok (.iload_n 3, 1) := by decide +kernel
theorem dX4_failing_10 : decode cX4_failing 10 = .ok (.aload_n 0, 1) := by decide +kernel
theorem dX4_failing_11 : decode cX4_failing 11 = .ok (.getfield 10, 3) := by decide +kernel
theorem dX4_failing_14 : decode cX4_failing 14 = .ok (.invokevirtual 39, 3) := by decide +kernel
theorem dX4_failing_17 : decode cX4_failing 17 = .ok (.if_icmp .ge 41, 3) := by decide +kernel
theorem dX4_failing_20 : decode cX4_failing 20 = .ok (.iload_n 2, 1) := by decide +kernel
theorem dX4_failing_21 : decode cX4_failing 21 = .ok (.iload_n 3, 1) := by decide +kernel
theorem dX4_failing_22 : decode cX4_failing 22 = .ok (.aload_n 0, 1) := by decide +kernel
theorem dX4_failing_23 : decode cX4_failing 23 = .ok (.aload_n 0, 1) := by decide +kernel
theorem dX4_failing_24 : decode cX4_failing 24 = .ok (.getfield 16, 3) := by decide +kernel
theorem dX4_failing_27 : decode cX4_failing 27 = .ok (.iload_n 1, 1) := by decide +kernel
theorem dX4_failing_28 : decode cX4_failing 28 = .ok (.invokevirtual 50, 3) := by decide +kernel
theorem dX4_failing_31 : decode cX4_failing 31 = .ok (.checkcast 72, 3) := by decide +kernel
theorem dX4_failing_34 : decode cX4_failing 34 = .ok (.aload_n 0, 1) := by decide +kernel
theorem dX4_failing_35 : decode cX4_failing 35 = .ok (.getfield 10, 3) := by decide +kernel
theorem dX4_failing_38 : decode cX4_failing 38 = .ok (.iload_n 3, 1) := by decide +kernel
theorem dX4_failing_39 : decode cX4_failing 39 = .ok (.invokevirtual 50, 3) := by decide +kernel
theorem dX4_failing_42 : decode cX4_failing 42 = .ok (.checkcast 54, 3) := by decide +kernel
theorem dX4_failing_45 : decode cX4_failing 45 = .ok (.invokevirtual 115, 3) := by decide +kernel
theorem dX4_failing_48 : decode cX4_failing 48 = .ok (.invokestatic 87, 3) := by decide +kernel
theorem dX4_failing_51 : decode cX4_failing 51 = .ok (.istore_n 2, 1) := by decide +kernel
theorem dX4_failing_52 : decode cX4_failing 52 = .ok (.iinc 3 1, 3) := by decide +kernel
theorem dX4_failing_55 : decode cX4_failing 55 = .ok (.goto (-46), 3) := by decide +kernel
theorem dX4_failing_58 : decode cX4_failing 58 = .ok (.iload_n 2, 1) := by decide +kernel
theorem dX4_failing_59 : decode cX4_failing 59 = .ok (.ireturn, 1) := by decide +kernel
set_option maxRecDepth 20000 in
theorem ggX4_nextProbe_X4_requireCheck : GoodIn wsX4_nextProbe wsX4_requireCheck := goodIn_ca (goodIn_r _ [8, 9, 10, 1, 11, 12, 13, 14, 15, 16, 48, 49, 50, 51, 52, 53, 54, 55, 56, 57] (by decide +kernel) (by decide +kernel)) (goodIn_sub (fun _ h => List.mem_cons_of_mem _ (List.mem_append_right _ h)) (by decide +kernel))
set_option maxRecDepth 20000 in
theorem gX4_nextProbe_X4_requireCheck : GoodIn wsX4_nextProbe (wsV RX4 77 RX4 yX4_requireCheck wsX4_requireCheck) := goodIn_app (goodIn_of _ (by decide +kernel)) ggX4_nextProbe_X4_requireCheck
set_option maxRecDepth 20000 in
theorem ggX4_nextProbe_X4_requireRegion : GoodIn wsX4_nextProbe wsX4_requireRegion := goodIn_ca (goodIn_r _ [20, 9, 10, 21, 11, 12, 13, 14, 15, 16, 48, 49, 50, 51, 52, 53, 54, 55, 56, 57] (by decide +kernel) (by decide +kernel)) (goodIn_sub (fun _ h => List.mem_cons_of_mem _ (List.mem_append_right _ h)) (by decide +kernel))
set_option maxRecDepth 20000 in
theorem gX4_nextProbe_X4_requireRegion : GoodIn wsX4_nextProbe (wsV RX4 35 RX4 yX4_requireRegion wsX4_requireRegion) := goodIn_app (goodIn_of _ (by decide +kernel)) ggX4_nextProbe_X4_requireRegion
set_option maxRecDepth 20000 in
theorem ggX4_nextProbe_Jx4a65c_get_915e3 : GoodIn wsX4_nextProbe wsJx4a65c_get_915e3 := goodIn_r _ [25, 16, 26, 27, 28, 29, 30, 31, 32, 33, 34, 35, 36, 14, 37, 38, 55, 56, 57] (by decide +kernel) (by decide +kernel)
set_option maxRecDepth 20000 in
theorem gX4_nextProbe_Jx4a65c_get_915e3 : GoodIn wsX4_nextProbe (wsV RX4 50 RJx4a65c yJx4a65c_get_915e3 wsJx4a65c_get_915e3) := goodIn_app (goodIn_of _ (by decide +kernel)) ggX4_nextProbe_Jx4a65c_get_915e3
set_option maxRecDepth 20000 in
theorem ggX4_nextProbe_X1_nextMinuteFrom : GoodIn wsX4_nextProbe wsX1_nextMinuteFrom := goodIn_r _ [43, 44, 45, 46, 47, 58, 59, 60, 61, 62, 63, 64, 65, 66, 67, 68, 69, 70] (by decide +kernel) (by decide +kernel)
set_option maxRecDepth 20000 in
theorem gX4_nextProbe_X1_nextMinuteFrom : GoodIn wsX4_nextProbe (wsV RX4 119 RX1 yX1_nextMinuteFrom wsX1_nextMinuteFrom) := goodIn_app (goodIn_of _ (by decide +kernel)) ggX4_nextProbe_X1_nextMinuteFrom
theorem dX4_nextProbe_0 : decode cX4_nextProbe 0 = .ok (.aload_n 0, 1) := by decide +kernel
theorem dX4_nextProbe_1 : decode cX4_nextProbe 1 = .ok (.iload_n 1, 1) := by decide +kernel
theorem dX4_nextProbe_2 : decode cX4_nextProbe 2 = .ok (.invokevirtual 77, 3) := by decide +kernel
theorem dX4_nextProbe_5 : decode cX4_nextProbe 5 = .ok (.aload_n 0, 1) := by decide +kernel
theorem dX4_nextProbe_6 : decode cX4_nextProbe 6 = .ok (.iload_n 2, 1) := by decide +kernel
theorem dX4_nextProbe_7 : decode cX4_nextProbe 7 = .ok (.invokevirtual 35, 3) := by decide +kernel
theorem dX4_nextProbe_10 : decode cX4_nextProbe 10 = .ok (.aload_n 0, 1) := by decide +kernel
theorem dX4_nextProbe_11 : decode cX4_nextProbe 11 = .ok (.getfield 16, 3) := by decide +kernel
theorem dX4_nextProbe_14 : decode cX4_nextProbe 14 = .ok (.iload_n 1, 1) := by decide +kernel
theorem dX4_nextProbe_15 : decode cX4_nextProbe 15 = .ok (.invokevirtual 50, 3) := by decide +kernel
theorem dX4_nextProbe_18 : decode cX4_nextProbe 18 = .ok (.checkcast 72, 3) := by decide +kernel
theorem dX4_nextProbe_21 : decode cX4_nextProbe 21 = .ok (.iload_n 2, 1) := by decide +kernel
theorem dX4_nextProbe_22 : decode cX4_nextProbe 22 = .ok (.aload_n 0, 1) := by decide +kernel
theorem dX4_nextProbe_23 : decode cX4_nextProbe 23 = .ok (.getfield 32, 3) := by decide +kernel
theorem dX4_nextProbe_26 : decode cX4_nextProbe 26 = .ok (.iconst 1, 1) := by decide +kernel
theorem dX4_nextProbe_27 : decode cX4_nextProbe 27 = .ok (.iadd, 1) := by decide +kernel
theorem dX4_nextProbe_28 : decode cX4_nextProbe 28 = .ok (.invokevirtual 119, 3) := by decide +kernel
theorem dX4_nextProbe_31 : decode cX4_nextProbe 31 = .ok (.ireturn, 1) := by decide +kernel
set_option maxRecDepth 20000 in
theorem ggX4_repetition_X4_requireCheck : GoodIn wsX4_repetition wsX4_requireCheck := goodIn_ca (goodIn_r _ [8, 9, 10, 1, 11, 12, 13, 14, 15, 16, 39, 40, 41, 42, 43, 44, 45, 59, 60, 61] (by decide +kernel) (by decide +kernel)) (goodIn_sub (fun _ h => List.mem_cons_of_mem _ (List.mem_append_right _ h)) (by decide +kernel))
set_option maxRecDepth 20000 in
theorem gX4_repetition_X4_requireCheck : GoodIn wsX4_repetition (wsV RX4 77 RX4 yX4_requireCheck wsX4_requireCheck) := goodIn_app (goodIn_of _ (by decide +kernel)) ggX4_repetition_X4_requireCheck
set_option maxRecDepth 20000 in
theorem ggX4_repetition_X4_requireRegion : GoodIn wsX4_repetition wsX4_requireRegion := goodIn_ca (goodIn_r _ [20, 9, 10, 21, 11, 12, 13, 14, 15, 16, 39, 40, 41, 42, 43, 44, 45, 59, 60, 61] (by decide +kernel) (by decide +kernel)) (goodIn_sub (fun _ h => List.mem_cons_of_mem _ (List.mem_append_right _ h)) (by decide +kernel))
set_option maxRecDepth 20000 in
theorem gX4_repetition_X4_requireRegion : GoodIn wsX4_repetition (wsV RX4 35 RX4 yX4_requireRegion wsX4_requireRegion) := goodIn_app (goodIn_of _ (by decide +kernel)) ggX4_repetition_X4_requireRegion
set_option maxRecDepth 20000 in
theorem ggX4_repetition_Jx4a65c_get_915e3 : GoodIn wsX4_repetition wsJx4a65c_get_915e3 := goodIn_r _ [25, 16, 26, 27, 28, 29, 30, 31, 32, 33, 34, 35, 36, 14, 37, 38, 59, 60, 61] (by decide +kernel) (by decide +kernel)
set_option maxRecDepth 20000 in
theorem gX4_repetition_Jx4a65c_get_915e3 : GoodIn wsX4_repetition (wsV RX4 50 RJx4a65c yJx4a65c_get_915e3 wsJx4a65c_get_915e3) := goodIn_app (goodIn_of _ (by decide +kernel)) ggX4_repetition_Jx4a65c_get_915e3
theorem dX4_repetition_0 : decode cX4_repetition 0 = .ok (.aload_n 0, 1) := by decide +kernel
theorem dX4_repetition_1 : decode cX4_repetition 1 = .ok (.iload_n 1, 1) := by decide +kernel
theorem dX4_repetition_2 : decode cX4_repetition 2 = .ok (.invokevirtual 77, 3) := by decide +kernel
theorem dX4_repetition_5 : decode cX4_repetition 5 = .ok (.aload_n 0, 1) := by decide +kernel
theorem dX4_repetition_6 : decode cX4_repetition 6 = .ok (.iload_n 2, 1) := by decide +kernel
theorem dX4_repetition_7 : decode cX4_repetition 7 = .ok (.invokevirtual 35, 3) := by decide +kernel
theorem dX4_repetition_10 : decode cX4_repetition 10 = .ok (.aload_n 0, 1) := by decide +kernel
theorem dX4_repetition_11 : decode cX4_repetition 11 = .ok (.getfield 16, 3) := by decide +kernel
theorem dX4_repetition_14 : decode cX4_repetition 14 = .ok (.iload_n 1, 1) := by decide +kernel
theorem dX4_repetition_15 : decode cX4_repetition 15 = .ok (.invokevirtual 50, 3) := by decide +kernel
theorem dX4_repetition_18 : decode cX4_repetition 18 = .ok (.checkcast 72, 3) := by decide +kernel
theorem dX4_repetition_21 : decode cX4_repetition 21 = .ok (.getfield 123, 3) := by decide +kernel
theorem dX4_repetition_24 : decode cX4_repetition 24 = .ok (.iload_n 2, 1) := by decide +kernel
theorem dX4_repetition_25 : decode cX4_repetition 25 = .ok (.iaload, 1) := by decide +kernel
theorem dX4_repetition_26 : decode cX4_repetition 26 = .ok (.ireturn, 1) := by decide +kernel
set_option maxRecDepth 20000 in
theorem ggX4_vote_X4_requireCheck : GoodIn wsX4_vote wsX4_requireCheck := goodIn_ca (goodIn_r _ [8, 9, 10, 1, 11, 12, 13, 14, 15, 16, 39, 40, 41, 42, 43, 44, 45, 59, 60, 61] (by decide +kernel) (by decide +kernel)) (goodIn_sub (fun _ h => List.mem_cons_of_mem _ (List.mem_append_right _ h)) (by decide +kernel))
set_option maxRecDepth 20000 in
theorem gX4_vote_X4_requireCheck : GoodIn wsX4_vote (wsV RX4 77 RX4 yX4_requireCheck wsX4_requireCheck) := goodIn_app (goodIn_of _ (by decide +kernel)) ggX4_vote_X4_requireCheck
set_option maxRecDepth 20000 in
theorem ggX4_vote_X4_requireRegion : GoodIn wsX4_vote wsX4_requireRegion := goodIn_ca (goodIn_r _ [20, 9, 10, 21, 11, 12, 13, 14, 15, 16, 39, 40, 41, 42, 43, 44, 45, 59, 60, 61] (by decide +kernel) (by decide +kernel)) (goodIn_sub (fun _ h => List.mem_cons_of_mem _ (List.mem_append_right _ h)) (by decide +kernel))
set_option maxRecDepth 20000 in
theorem gX4_vote_X4_requireRegion : GoodIn wsX4_vote (wsV RX4 35 RX4 yX4_requireRegion wsX4_requireRegion) := goodIn_app (goodIn_of _ (by decide +kernel)) ggX4_vote_X4_requireRegion
set_option maxRecDepth 20000 in
theorem ggX4_vote_Jx4a65c_get_915e3 : GoodIn wsX4_vote wsJx4a65c_get_915e3 := goodIn_r _ [25, 16, 26, 27, 28, 29, 30, 31, 32, 33, 34, 35, 36, 14, 37, 38, 59, 60, 61] (by decide +kernel) (by decide +kernel)
set_option maxRecDepth 20000 in
theorem gX4_vote_Jx4a65c_get_915e3 : GoodIn wsX4_vote (wsV RX4 50 RJx4a65c yJx4a65c_get_915e3 wsJx4a65c_get_915e3) := goodIn_app (goodIn_of _ (by decide +kernel)) ggX4_vote_Jx4a65c_get_915e3
theorem dX4_vote_0 : decode cX4_vote 0 = .ok (.aload_n 0, 1) := by decide +kernel
theorem dX4_vote_1 : decode cX4_vote 1 = .ok (.iload_n 1, 1) := by decide +kernel
theorem dX4_vote_2 : decode cX4_vote 2 = .ok (.invokevirtual 77, 3) := by decide +kernel
theorem dX4_vote_5 : decode cX4_vote 5 = .ok (.aload_n 0, 1) := by decide +kernel
theorem dX4_vote_6 : decode cX4_vote 6 = .ok (.iload_n 2, 1) := by decide +kernel
theorem dX4_vote_7 : decode cX4_vote 7 = .ok (.invokevirtual 35, 3) := by decide +kernel
theorem dX4_vote_10 : decode cX4_vote 10 = .ok (.aload_n 0, 1) := by decide +kernel
theorem dX4_vote_11 : decode cX4_vote 11 = .ok (.getfield 16, 3) := by decide +kernel
theorem dX4_vote_14 : decode cX4_vote 14 = .ok (.iload_n 1, 1) := by decide +kernel
theorem dX4_vote_15 : decode cX4_vote 15 = .ok (.invokevirtual 50, 3) := by decide +kernel
theorem dX4_vote_18 : decode cX4_vote 18 = .ok (.checkcast 72, 3) := by decide +kernel
theorem dX4_vote_21 : decode cX4_vote 21 = .ok (.getfield 127, 3) := by decide +kernel
theorem dX4_vote_24 : decode cX4_vote 24 = .ok (.iload_n 2, 1) := by decide +kernel
theorem dX4_vote_25 : decode cX4_vote 25 = .ok (.iaload, 1) := by decide +kernel
theorem dX4_vote_26 : decode cX4_vote 26 = .ok (.ireturn, 1) := by decide +kernel
set_option maxRecDepth 20000 in
theorem ggX4_probes_X4_requireRegion : GoodIn wsX4_probes wsX4_requireRegion := goodIn_ca (goodIn_r _ [8, 9, 10, 1, 11, 12, 13, 14, 15, 16, 34, 35, 36, 37, 38, 39, 40, 45, 46, 47] (by decide +kernel) (by decide +kernel)) (goodIn_sub (fun _ h => List.mem_cons_of_mem _ (List.mem_append_right _ h)) (by decide +kernel))
set_option maxRecDepth 20000 in
theorem gX4_probes_X4_requireRegion : GoodIn wsX4_probes (wsV RX4 35 RX4 yX4_requireRegion wsX4_requireRegion) := goodIn_app (goodIn_of _ (by decide +kernel)) ggX4_probes_X4_requireRegion
set_option maxRecDepth 20000 in
theorem ggX4_probes_Jx4a65c_get_915e3 : GoodIn wsX4_probes wsJx4a65c_get_915e3 := goodIn_r _ [20, 16, 21, 22, 23, 24, 25, 26, 27, 28, 29, 30, 31, 14, 32, 33, 45, 46, 47] (by decide +kernel) (by decide +kernel)
set_option maxRecDepth 20000 in
theorem gX4_probes_Jx4a65c_get_915e3 : GoodIn wsX4_probes (wsV RX4 50 RJx4a65c yJx4a65c_get_915e3 wsJx4a65c_get_915e3) := goodIn_app (goodIn_of _ (by decide +kernel)) ggX4_probes_Jx4a65c_get_915e3
theorem dX4_probes_0 : decode cX4_probes 0 = .ok (.aload_n 0, 1) := by decide +kernel
theorem dX4_probes_1 : decode cX4_probes 1 = .ok (.iload_n 1, 1) := by decide +kernel
theorem dX4_probes_2 : decode cX4_probes 2 = .ok (.invokevirtual 35, 3) := by decide +kernel
theorem dX4_probes_5 : decode cX4_probes 5 = .ok (.aload_n 0, 1) := by decide +kernel
theorem dX4_probes_6 : decode cX4_probes 6 = .ok (.getfield 10, 3) := by decide +kernel
theorem dX4_probes_9 : decode cX4_probes 9 = .ok (.iload_n 1, 1) := by decide +kernel
theorem dX4_probes_10 : decode cX4_probes 10 = .ok (.invokevirtual 50, 3) := by decide +kernel
theorem dX4_probes_13 : decode cX4_probes 13 = .ok (.checkcast 54, 3) := by decide +kernel
theorem dX4_probes_16 : decode cX4_probes 16 = .ok (.getfield 130, 3) := by decide +kernel
theorem dX4_probes_19 : decode cX4_probes 19 = .ok (.ireturn, 1) := by decide +kernel
set_option maxRecDepth 20000 in
theorem ggX4_failures_X4_requireRegion : GoodIn wsX4_failures wsX4_requireRegion := goodIn_ca (goodIn_r _ [8, 9, 10, 1, 11, 12, 13, 14, 15, 16, 34, 35, 36, 37, 38, 39, 40, 45, 46, 47] (by decide +kernel) (by decide +kernel)) (goodIn_sub (fun _ h => List.mem_cons_of_mem _ (List.mem_append_right _ h)) (by decide +kernel))
set_option maxRecDepth 20000 in
theorem gX4_failures_X4_requireRegion : GoodIn wsX4_failures (wsV RX4 35 RX4 yX4_requireRegion wsX4_requireRegion) := goodIn_app (goodIn_of _ (by decide +kernel)) ggX4_failures_X4_requireRegion
set_option maxRecDepth 20000 in
theorem ggX4_failures_Jx4a65c_get_915e3 : GoodIn wsX4_failures wsJx4a65c_get_915e3 := goodIn_r _ [20, 16, 21, 22, 23, 24, 25, 26, 27, 28, 29, 30, 31, 14, 32, 33, 45, 46, 47] (by decide +kernel) (by decide +kernel)
set_option maxRecDepth 20000 in
theorem gX4_failures_Jx4a65c_get_915e3 : GoodIn wsX4_failures (wsV RX4 50 RJx4a65c yJx4a65c_get_915e3 wsJx4a65c_get_915e3) := goodIn_app (goodIn_of _ (by decide +kernel)) ggX4_failures_Jx4a65c_get_915e3
theorem dX4_failures_0 : decode cX4_failures 0 = .ok (.aload_n 0, 1) := by decide +kernel
theorem dX4_failures_1 : decode cX4_failures 1 = .ok (.iload_n 1, 1) := by decide +kernel
theorem dX4_failures_2 : decode cX4_failures 2 = .ok (.invokevirtual 35, 3) := by decide +kernel
theorem dX4_failures_5 : decode cX4_failures 5 = .ok (.aload_n 0, 1) := by decide +kernel
theorem dX4_failures_6 : decode cX4_failures 6 = .ok (.getfield 10, 3) := by decide +kernel
theorem dX4_failures_9 : decode cX4_failures 9 = .ok (.iload_n 1, 1) := by decide +kernel
theorem dX4_failures_10 : decode cX4_failures 10 = .ok (.invokevirtual 50, 3) := by decide +kernel
theorem dX4_failures_13 : decode cX4_failures 13 = .ok (.checkcast 54, 3) := by decide +kernel
theorem dX4_failures_16 : decode cX4_failures 16 = .ok (.getfield 133, 3) := by decide +kernel
theorem dX4_failures_19 : decode cX4_failures 19 = .ok (.ireturn, 1) := by decide +kernel
set_option maxRecDepth 20000 in
theorem ggX4_isBad_X4_requireRegion : GoodIn wsX4_isBad wsX4_requireRegion := goodIn_ca (goodIn_r _ [6, 7, 8, 9, 10, 11, 12, 13, 14, 15, 19, 20, 21, 22, 23, 24, 25, 26, 27, 28] (by decide +kernel) (by decide +kernel)) (goodIn_sub (fun _ h => List.mem_cons_of_mem _ (List.mem_append_right _ h)) (by decide +kernel))
set_option maxRecDepth 20000 in
theorem gX4_isBad_X4_requireRegion : GoodIn wsX4_isBad (wsV RX4 35 RX4 yX4_requireRegion wsX4_requireRegion) := goodIn_app (goodIn_of _ (by decide +kernel)) ggX4_isBad_X4_requireRegion
set_option maxRecDepth 20000 in
theorem ggX4_isBad_X4_holds : GoodIn wsX4_isBad wsX4_holds := goodIn_r _ [18] (by decide +kernel) (by decide +kernel)
set_option maxRecDepth 20000 in
theorem gX4_isBad_X4_holds : GoodIn wsX4_isBad (va_wsS RX4 83 yX4_holds wsX4_holds) := goodIn_app (goodIn_of _ (by decide +kernel)) ggX4_isBad_X4_holds
theorem dX4_isBad_0 : decode cX4_isBad 0 = .ok (.aload_n 0, 1) := by decide +kernel
theorem dX4_isBad_1 : decode cX4_isBad 1 = .ok (.iload_n 1, 1) := by decide +kernel
theorem dX4_isBad_2 : decode cX4_isBad 2 = .ok (.invokevirtual 35, 3) := by decide +kernel
theorem dX4_isBad_5 : decode cX4_isBad 5 = .ok (.aload_n 0, 1) := by decide +kernel
theorem dX4_isBad_6 : decode cX4_isBad 6 = .ok (.getfield 29, 3) := by decide +kernel
theorem dX4_isBad_9 : decode cX4_isBad 9 = .ok (.iload_n 1, 1) := by decide +kernel
theorem dX4_isBad_10 : decode cX4_isBad 10 = .ok (.invokestatic 83, 3) := by decide +kernel
theorem dX4_isBad_13 : decode cX4_isBad 13 = .ok (.ireturn, 1) := by decide +kernel
set_option maxRecDepth 20000 in
theorem ggX4_verdict_X4_requireCheck : GoodIn wsX4_verdict wsX4_requireCheck := goodIn_ca (goodIn_r _ [8, 9, 10, 1, 11, 12, 13, 14, 15, 16, 34, 35, 36, 37, 38, 39, 40, 54, 55, 56] (by decide +kernel) (by decide +kernel)) (goodIn_sub (fun _ h => List.mem_cons_of_mem _ (List.mem_append_right _ h)) (by decide +kernel))
set_option maxRecDepth 20000 in
theorem gX4_verdict_X4_requireCheck : GoodIn wsX4_verdict (wsV RX4 77 RX4 yX4_requireCheck wsX4_requireCheck) := goodIn_app (goodIn_of _ (by decide +kernel)) ggX4_verdict_X4_requireCheck
set_option maxRecDepth 20000 in
theorem ggX4_verdict_Jx4a65c_get_915e3 : GoodIn wsX4_verdict wsJx4a65c_get_915e3 := goodIn_r _ [20, 16, 21, 22, 23, 24, 25, 26, 27, 28, 29, 30, 31, 14, 32, 33, 54, 55, 56] (by decide +kernel) (by decide +kernel)
set_option maxRecDepth 20000 in
theorem gX4_verdict_Jx4a65c_get_915e3 : GoodIn wsX4_verdict (wsV RX4 50 RJx4a65c yJx4a65c_get_915e3 wsJx4a65c_get_915e3) := goodIn_app (goodIn_of _ (by decide +kernel)) ggX4_verdict_Jx4a65c_get_915e3
theorem dX4_verdict_0 : decode cX4_verdict 0 = .ok (.aload_n 0, 1) := by decide +kernel
theorem dX4_verdict_1 : decode cX4_verdict 1 = .ok (.iload_n 1, 1) := by decide +kernel
theorem dX4_verdict_2 : decode cX4_verdict 2 = .ok (.invokevirtual 77, 3) := by decide +kernel
theorem dX4_verdict_5 : decode cX4_verdict 5 = .ok (.aload_n 0, 1) := by decide +kernel
theorem dX4_verdict_6 : decode cX4_verdict 6 = .ok (.getfield 16, 3) := by decide +kernel
theorem dX4_verdict_9 : decode cX4_verdict 9 = .ok (.iload_n 1, 1) := by decide +kernel
theorem dX4_verdict_10 : decode cX4_verdict 10 = .ok (.invokevirtual 50, 3) := by decide +kernel
theorem dX4_verdict_13 : decode cX4_verdict 13 = .ok (.checkcast 72, 3) := by decide +kernel
theorem dX4_verdict_16 : decode cX4_verdict 16 = .ok (.getfield 136, 3) := by decide +kernel
theorem dX4_verdict_19 : decode cX4_verdict 19 = .ok (.ireturn, 1) := by decide +kernel
set_option maxRecDepth 20000 in
theorem ggX4_trusted_X4_requireCheck : GoodIn wsX4_trusted wsX4_requireCheck := goodIn_ca (goodIn_r _ [7, 8, 9, 1, 10, 11, 12, 13, 14, 15, 45, 46, 47, 48, 49, 50, 51, 52, 53, 54] (by decide +kernel) (by decide +kernel)) (goodIn_sub (fun _ h => List.mem_cons_of_mem _ (List.mem_append_right _ h)) (by decide +kernel))
set_option maxRecDepth 20000 in
theorem gX4_trusted_X4_requireCheck : GoodIn wsX4_trusted (wsV RX4 77 RX4 yX4_requireCheck wsX4_requireCheck) := goodIn_app (goodIn_of _ (by decide +kernel)) ggX4_trusted_X4_requireCheck
set_option maxRecDepth 20000 in
theorem ggX4_trusted_Jx4a65c_get_915e3 : GoodIn wsX4_trusted wsJx4a65c_get_915e3 := goodIn_r _ [19, 15, 20, 21, 22, 23, 24, 25, 26, 27, 28, 29, 30, 13, 31, 32, 52, 53, 54] (by decide +kernel) (by decide +kernel)
set_option maxRecDepth 20000 in
theorem gX4_trusted_Jx4a65c_get_915e3 : GoodIn wsX4_trusted (wsV RX4 50 RJx4a65c yJx4a65c_get_915e3 wsJx4a65c_get_915e3) := goodIn_app (goodIn_of _ (by decide +kernel)) ggX4_trusted_Jx4a65c_get_915e3
set_option maxRecDepth 20000 in
theorem ggX4_trusted_X4_trustedRegions : GoodIn wsX4_trusted wsX4_trustedRegions := goodIn_r _ [36, 37, 38, 39, 40, 41, 10, 11, 12, 13, 14, 15, 16, 17, 18, 19, 20, 21, 22, 23, 24, 25, 26, 27, 28, 29, 30, 31, 32, 42, 43, 6, 44, 45, 46, 47, 48, 49, 50, 51, 55, 56, 57, 58, 59, 60, 61, 62, 63, 64, 65, 66, 67, 68, 69, 70, 71, 52, 53, 54] (by decide +kernel) (by decide +kernel)
set_option maxRecDepth 20000 in
theorem gX4_trusted_X4_trustedRegions : GoodIn wsX4_trusted (wsV RX4 139 RX4 yX4_trustedRegions wsX4_trustedRegions) := goodIn_app (goodIn_of _ (by decide +kernel)) ggX4_trusted_X4_trustedRegions
theorem dX4_trusted_0 : decode cX4_trusted 0 = .ok (.aload_n 0, 1) := by decide +kernel
theorem dX4_trusted_1 : decode cX4_trusted 1 = .ok (.iload_n 1, 1) := by decide +kernel
theorem dX4_trusted_2 : decode cX4_trusted 2 = .ok (.invokevirtual 77, 3) := by decide +kernel
theorem dX4_trusted_5 : decode cX4_trusted 5 = .ok (.aload_n 0, 1) := by decide +kernel
theorem dX4_trusted_6 : decode cX4_trusted 6 = .ok (.aload_n 0, 1) := by decide +kernel
theorem dX4_trusted_7 : decode cX4_trusted 7 = .ok (.getfield 16, 3) := by decide +kernel
theorem dX4_trusted_10 : decode cX4_trusted 10 = .ok (.iload_n 1, 1) := by decide +kernel
theorem dX4_trusted_11 : decode cX4_trusted 11 = .ok (.invokevirtual 50, 3) := by decide +kernel
theorem dX4_trusted_14 : decode cX4_trusted 14 = .ok (.checkcast 72, 3) := by decide +kernel
theorem dX4_trusted_17 : decode cX4_trusted 17 = .ok (.invokevirtual 139, 3) := by decide +kernel
theorem dX4_trusted_20 : decode cX4_trusted 20 = .ok (.ireturn, 1) := by decide +kernel
set_option maxRecDepth 20000 in
theorem ggX4_alarms_Jx4a65c_size_8abf5 : GoodIn wsX4_alarms wsJx4a65c_size_8abf5 := goodIn_r _ [6, 7, 15, 16, 17] (by decide +kernel) (by decide +kernel)
set_option maxRecDepth 20000 in
theorem gX4_alarms_Jx4a65c_size_8abf5 : GoodIn wsX4_alarms (wsV RX4 39 RJx4a65c yJx4a65c_size_8abf5 wsJx4a65c_size_8abf5) := goodIn_app (goodIn_of _ (by decide +kernel)) ggX4_alarms_Jx4a65c_size_8abf5
theorem dX4_alarms_0 : decode cX4_alarms 0 = .ok (.aload_n 0, 1) := by decide +kernel
theorem dX4_alarms_1 : decode cX4_alarms 1 = .ok (.getfield 22, 3) := by decide +kernel
theorem dX4_alarms_4 : decode cX4_alarms 4 = .ok (.invokevirtual 39, 3) := by decide +kernel
theorem dX4_alarms_7 : decode cX4_alarms 7 = .ok (.ireturn, 1) := by decide +kernel
set_option maxRecDepth 20000 in
theorem ggX4_hasAlarm_X4_requireCheck : GoodIn wsX4_hasAlarm wsX4_requireCheck := goodIn_ca (goodIn_r _ [8, 9, 10, 1, 11, 12, 13, 14, 15, 16, 34, 35, 36, 37, 38, 39, 40, 54, 55, 56] (by decide +kernel) (by decide +kernel)) (goodIn_sub (fun _ h => List.mem_cons_of_mem _ (List.mem_append_right _ h)) (by decide +kernel))
set_option maxRecDepth 20000 in
theorem gX4_hasAlarm_X4_requireCheck : GoodIn wsX4_hasAlarm (wsV RX4 77 RX4 yX4_requireCheck wsX4_requireCheck) := goodIn_app (goodIn_of _ (by decide +kernel)) ggX4_hasAlarm_X4_requireCheck
set_option maxRecDepth 20000 in
theorem ggX4_hasAlarm_Jx4a65c_get_915e3 : GoodIn wsX4_hasAlarm wsJx4a65c_get_915e3 := goodIn_r _ [20, 16, 21, 22, 23, 24, 25, 26, 27, 28, 29, 30, 31, 14, 32, 33, 54, 55, 56] (by decide +kernel) (by decide +kernel)
set_option maxRecDepth 20000 in
theorem gX4_hasAlarm_Jx4a65c_get_915e3 : GoodIn wsX4_hasAlarm (wsV RX4 50 RJx4a65c yJx4a65c_get_915e3 wsJx4a65c_get_915e3) := goodIn_app (goodIn_of _ (by decide +kernel)) ggX4_hasAlarm_Jx4a65c_get_915e3
theorem dX4_hasAlarm_0 : decode cX4_hasAlarm 0 = .ok (.aload_n 0, 1) := by decide +kernel
theorem dX4_hasAlarm_1 : decode cX4_hasAlarm 1 = .ok (.iload_n 1, 1) := by decide +kernel
theorem dX4_hasAlarm_2 : decode cX4_hasAlarm 2 = .ok (.invokevirtual 77, 3) := by decide +kernel
theorem dX4_hasAlarm_5 : decode cX4_hasAlarm 5 = .ok (.aload_n 0, 1) := by decide +kernel
theorem dX4_hasAlarm_6 : decode cX4_hasAlarm 6 = .ok (.getfield 16, 3) := by decide +kernel
theorem dX4_hasAlarm_9 : decode cX4_hasAlarm 9 = .ok (.iload_n 1, 1) := by decide +kernel
theorem dX4_hasAlarm_10 : decode cX4_hasAlarm 10 = .ok (.invokevirtual 50, 3) := by decide +kernel
theorem dX4_hasAlarm_13 : decode cX4_hasAlarm 13 = .ok (.checkcast 72, 3) := by decide +kernel
theorem dX4_hasAlarm_16 : decode cX4_hasAlarm 16 = .ok (.getfield 143, 3) := by decide +kernel
theorem dX4_hasAlarm_19 : decode cX4_hasAlarm 19 = .ok (.ifnull 7, 3) := by decide +kernel
theorem dX4_hasAlarm_22 : decode cX4_hasAlarm 22 = .ok (.iconst 1, 1) := by decide +kernel
theorem dX4_hasAlarm_23 : decode cX4_hasAlarm 23 = .ok (.goto 4, 3) := by decide +kernel
theorem dX4_hasAlarm_26 : decode cX4_hasAlarm 26 = .ok (.iconst 0, 1) := by decide +kernel
theorem dX4_hasAlarm_27 : decode cX4_hasAlarm 27 = .ok (.ireturn, 1) := by decide +kernel
set_option maxRecDepth 20000 in
theorem ggX4_alarmCheck_X4_requireAlarm : GoodIn wsX4_alarmCheck wsX4_requireAlarm := goodIn_ca (goodIn_r _ [8, 9, 10, 1, 11, 12, 13, 14, 15, 16, 34, 35, 36, 37, 38, 39, 40, 44, 45, 46] (by decide +kernel) (by decide +kernel)) (goodIn_sub (fun _ h => List.mem_cons_of_mem _ (List.mem_append_right _ h)) (by decide +kernel))
set_option maxRecDepth 20000 in
theorem gX4_alarmCheck_X4_requireAlarm : GoodIn wsX4_alarmCheck (wsV RX4 147 RX4 yX4_requireAlarm wsX4_requireAlarm) := goodIn_app (goodIn_of _ (by decide +kernel)) ggX4_alarmCheck_X4_requireAlarm
set_option maxRecDepth 20000 in
theorem ggX4_alarmCheck_Jx4a65c_get_915e3 : GoodIn wsX4_alarmCheck wsJx4a65c_get_915e3 := goodIn_r _ [20, 16, 21, 22, 23, 24, 25, 26, 27, 28, 29, 30, 31, 14, 32, 33, 44, 45, 46] (by decide +kernel) (by decide +kernel)
set_option maxRecDepth 20000 in
theorem gX4_alarmCheck_Jx4a65c_get_915e3 : GoodIn wsX4_alarmCheck (wsV RX4 50 RJx4a65c yJx4a65c_get_915e3 wsJx4a65c_get_915e3) := goodIn_app (goodIn_of _ (by decide +kernel)) ggX4_alarmCheck_Jx4a65c_get_915e3
theorem dX4_alarmCheck_0 : decode cX4_alarmCheck 0 = .ok (.aload_n 0, 1) := by decide +kernel
theorem dX4_alarmCheck_1 : decode cX4_alarmCheck 1 = .ok (.iload_n 1, 1) := by decide +kernel
theorem dX4_alarmCheck_2 : decode cX4_alarmCheck 2 = .ok (.invokevirtual 147, 3) := by decide +kernel
theorem dX4_alarmCheck_5 : decode cX4_alarmCheck 5 = .ok (.aload_n 0, 1) := by decide +kernel
theorem dX4_alarmCheck_6 : decode cX4_alarmCheck 6 = .ok (.getfield 22, 3) := by decide +kernel
theorem dX4_alarmCheck_9 : decode cX4_alarmCheck 9 = .ok (.iload_n 1, 1) := by decide +kernel
theorem dX4_alarmCheck_10 : decode cX4_alarmCheck 10 = .ok (.invokevirtual 50, 3) := by decide +kernel
theorem dX4_alarmCheck_13 : decode cX4_alarmCheck 13 = .ok (.checkcast 150, 3) := by decide +kernel
theorem dX4_alarmCheck_16 : decode cX4_alarmCheck 16 = .ok (.getfield 152, 3) := by decide +kernel
theorem dX4_alarmCheck_19 : decode cX4_alarmCheck 19 = .ok (.ireturn, 1) := by decide +kernel
set_option maxRecDepth 20000 in
theorem ggX4_alarmRaised_X4_requireAlarm : GoodIn wsX4_alarmRaised wsX4_requireAlarm := goodIn_ca (goodIn_r _ [8, 9, 10, 1, 11, 12, 13, 14, 15, 16, 34, 35, 36, 37, 38, 39, 40, 44, 45, 46] (by decide +kernel) (by decide +kernel)) (goodIn_sub (fun _ h => List.mem_cons_of_mem _ (List.mem_append_right _ h)) (by decide +kernel))
set_option maxRecDepth 20000 in
theorem gX4_alarmRaised_X4_requireAlarm : GoodIn wsX4_alarmRaised (wsV RX4 147 RX4 yX4_requireAlarm wsX4_requireAlarm) := goodIn_app (goodIn_of _ (by decide +kernel)) ggX4_alarmRaised_X4_requireAlarm
set_option maxRecDepth 20000 in
theorem ggX4_alarmRaised_Jx4a65c_get_915e3 : GoodIn wsX4_alarmRaised wsJx4a65c_get_915e3 := goodIn_r _ [20, 16, 21, 22, 23, 24, 25, 26, 27, 28, 29, 30, 31, 14, 32, 33, 44, 45, 46] (by decide +kernel) (by decide +kernel)
set_option maxRecDepth 20000 in
theorem gX4_alarmRaised_Jx4a65c_get_915e3 : GoodIn wsX4_alarmRaised (wsV RX4 50 RJx4a65c yJx4a65c_get_915e3 wsJx4a65c_get_915e3) := goodIn_app (goodIn_of _ (by decide +kernel)) ggX4_alarmRaised_Jx4a65c_get_915e3
theorem dX4_alarmRaised_0 : decode cX4_alarmRaised 0 = .ok (.aload_n 0, 1) := by decide +kernel
theorem dX4_alarmRaised_1 : decode cX4_alarmRaised 1 = .ok (.iload_n 1, 1) := by decide +kernel
theorem dX4_alarmRaised_2 : decode cX4_alarmRaised 2 = .ok (.invokevirtual 147, 3) := by decide +kernel
theorem dX4_alarmRaised_5 : decode cX4_alarmRaised 5 = .ok (.aload_n 0, 1) := by decide +kernel
theorem dX4_alarmRaised_6 : decode cX4_alarmRaised 6 = .ok (.getfield 22, 3) := by decide +kernel
theorem dX4_alarmRaised_9 : decode cX4_alarmRaised 9 = .ok (.iload_n 1, 1) := by decide +kernel
theorem dX4_alarmRaised_10 : decode cX4_alarmRaised 10 = .ok (.invokevirtual 50, 3) := by decide +kernel
theorem dX4_alarmRaised_13 : decode cX4_alarmRaised 13 = .ok (.checkcast 150, 3) := by decide +kernel
theorem dX4_alarmRaised_16 : decode cX4_alarmRaised 16 = .ok (.getfield 155, 3) := by decide +kernel
theorem dX4_alarmRaised_19 : decode cX4_alarmRaised 19 = .ok (.ireturn, 1) := by decide +kernel
set_option maxRecDepth 20000 in
theorem ggX4_alarmClosed_X4_requireAlarm : GoodIn wsX4_alarmClosed wsX4_requireAlarm := goodIn_ca (goodIn_r _ [8, 9, 10, 1, 11, 12, 13, 14, 15, 16, 34, 35, 36, 37, 38, 39, 40, 44, 45, 46] (by decide +kernel) (by decide +kernel)) (goodIn_sub (fun _ h => List.mem_cons_of_mem _ (List.mem_append_right _ h)) (by decide +kernel))
set_option maxRecDepth 20000 in
theorem gX4_alarmClosed_X4_requireAlarm : GoodIn wsX4_alarmClosed (wsV RX4 147 RX4 yX4_requireAlarm wsX4_requireAlarm) := goodIn_app (goodIn_of _ (by decide +kernel)) ggX4_alarmClosed_X4_requireAlarm
set_option maxRecDepth 20000 in
theorem ggX4_alarmClosed_Jx4a65c_get_915e3 : GoodIn wsX4_alarmClosed wsJx4a65c_get_915e3 := goodIn_r _ [20, 16, 21, 22, 23, 24, 25, 26, 27, 28, 29, 30, 31, 14, 32, 33, 44, 45, 46] (by decide +kernel) (by decide +kernel)
set_option maxRecDepth 20000 in
theorem gX4_alarmClosed_Jx4a65c_get_915e3 : GoodIn wsX4_alarmClosed (wsV RX4 50 RJx4a65c yJx4a65c_get_915e3 wsJx4a65c_get_915e3) := goodIn_app (goodIn_of _ (by decide +kernel)) ggX4_alarmClosed_Jx4a65c_get_915e3
theorem dX4_alarmClosed_0 : decode cX4_alarmClosed 0 = .ok (.aload_n 0, 1) := by decide +kernel
theorem dX4_alarmClosed_1 : decode cX4_alarmClosed 1 = .ok (.iload_n 1, 1) := by decide +kernel
theorem dX4_alarmClosed_2 : decode cX4_alarmClosed 2 = .ok (.invokevirtual 147, 3) := by decide +kernel
theorem dX4_alarmClosed_5 : decode cX4_alarmClosed 5 = .ok (.aload_n 0, 1) := by decide +kernel
theorem dX4_alarmClosed_6 : decode cX4_alarmClosed 6 = .ok (.getfield 22, 3) := by decide +kernel
theorem dX4_alarmClosed_9 : decode cX4_alarmClosed 9 = .ok (.iload_n 1, 1) := by decide +kernel
theorem dX4_alarmClosed_10 : decode cX4_alarmClosed 10 = .ok (.invokevirtual 50, 3) := by decide +kernel
theorem dX4_alarmClosed_13 : decode cX4_alarmClosed 13 = .ok (.checkcast 150, 3) := by decide +kernel
theorem dX4_alarmClosed_16 : decode cX4_alarmClosed 16 = .ok (.getfield 158, 3) := by decide +kernel
theorem dX4_alarmClosed_19 : decode cX4_alarmClosed 19 = .ok (.ireturn, 1) := by decide +kernel
set_option maxRecDepth 20000 in
theorem ggX4_availability_X4_requireCheck : GoodIn wsX4_availability wsX4_requireCheck := goodIn_ca (goodIn_r _ [11, 12, 13, 3, 14, 15, 16, 17, 18, 19, 37, 38, 39, 40, 41, 42, 43, 57, 58, 59] (by decide +kernel) (by decide +kernel)) (goodIn_sub (fun _ h => List.mem_cons_of_mem _ (List.mem_append_right _ h)) (by decide +kernel))
set_option maxRecDepth 20000 in
theorem gX4_availability_X4_requireCheck : GoodIn wsX4_availability (wsV RX4 77 RX4 yX4_requireCheck wsX4_requireCheck) := goodIn_app (goodIn_of _ (by decide +kernel)) ggX4_availability_X4_requireCheck
set_option maxRecDepth 20000 in
theorem ggX4_availability_Jx4a65c_get_915e3 : GoodIn wsX4_availability wsJx4a65c_get_915e3 := goodIn_r _ [23, 19, 24, 25, 26, 27, 28, 29, 30, 31, 32, 33, 34, 17, 35, 36, 57, 58, 59] (by decide +kernel) (by decide +kernel)
set_option maxRecDepth 20000 in
theorem gX4_availability_Jx4a65c_get_915e3 : GoodIn wsX4_availability (wsV RX4 50 RJx4a65c yJx4a65c_get_915e3 wsJx4a65c_get_915e3) := goodIn_app (goodIn_of _ (by decide +kernel)) ggX4_availability_Jx4a65c_get_915e3
theorem dX4_availability_0 : decode cX4_availability 0 = .ok (.aload_n 0, 1) := by decide +kernel
theorem dX4_availability_1 : decode cX4_availability 1 = .ok (.iload_n 1, 1) := by decide +kernel
theorem dX4_availability_2 : decode cX4_availability 2 = .ok (.invokevirtual 77, 3) := by decide +kernel
theorem dX4_availability_5 : decode cX4_availability 5 = .ok (.aload_n 0, 1) := by decide +kernel
theorem dX4_availability_6 : decode cX4_availability 6 = .ok (.getfield 16, 3) := by decide +kernel
theorem dX4_availability_9 : decode cX4_availability 9 = .ok (.iload_n 1, 1) := by decide +kernel
theorem dX4_availability_10 : decode cX4_availability 10 = .ok (.invokevirtual 50, 3) := by decide +kernel
theorem dX4_availability_13 : decode cX4_availability 13 = .ok (.checkcast 72, 3) := by decide +kernel
theorem dX4_availability_16 : decode cX4_availability 16 = .ok (.astore_n 2, 1) := by decide +kernel
theorem dX4_availability_17 : decode cX4_availability 17 = .ok (.aload_n 2, 1) := by decide +kernel
theorem dX4_availability_18 : decode cX4_availability 18 = .ok (.getfield 161, 3) := by decide +kernel
theorem dX4_availability_21 : decode cX4_availability 21 = .ok (.ifCond .ne 13, 3) := by decide +kernel
theorem dX4_availability_24 : decode cX4_availability 24 = .ok (.new 43, 3) := by decide +kernel
theorem dX4_availability_27 : decode cX4_availability 27 = .ok (.dup, 1) := by decide +kernel
theorem dX4_availability_28 : decode cX4_availability 28 = .ok (.ldc 164, 2) := by decide +kernel
theorem dX4_availability_30 : decode cX4_availability 30 = .ok (.invokespecial 47, 3) := by decide +kernel
theorem dX4_availability_33 : decode cX4_availability 33 = .ok (.athrow, 1) := by decide +kernel
theorem dX4_availability_34 : decode cX4_availability 34 = .ok (.aload_n 2, 1) := by decide +kernel
theorem dX4_availability_35 : decode cX4_availability 35 = .ok (.getfield 166, 3) := by decide +kernel
theorem dX4_availability_38 : decode cX4_availability 38 = .ok (.i2f, 1) := by decide +kernel
theorem dX4_availability_39 : decode cX4_availability 39 = .ok (.aload_n 2, 1) := by decide +kernel
theorem dX4_availability_40 : decode cX4_availability 40 = .ok (.getfield 161, 3) := by decide +kernel
theorem dX4_availability_43 : decode cX4_availability 43 = .ok (.i2f, 1) := by decide +kernel
theorem dX4_availability_44 : decode cX4_availability 44 = .ok (.fdiv, 1) := by decide +kernel
theorem dX4_availability_45 : decode cX4_availability 45 = .ok (.freturn, 1) := by decide +kernel
set_option maxRecDepth 20000 in
theorem ggX4_requireRegion_Jx4a65c_size_8abf5 : GoodIn wsX4_requireRegion wsJx4a65c_size_8abf5 := goodIn_r _ [8, 9, 17, 18, 19] (by decide +kernel) (by decide +kernel)
set_option maxRecDepth 20000 in
theorem gX4_requireRegion_Jx4a65c_size_8abf5 : GoodIn wsX4_requireRegion (wsV RX4 39 RJx4a65c yJx4a65c_size_8abf5 wsJx4a65c_size_8abf5) := goodIn_app (goodIn_of _ (by decide +kernel)) ggX4_requireRegion_Jx4a65c_size_8abf5
theorem dX4_requireRegion_0 : decode cX4_requireRegion 0 = .ok (.iload_n 1, 1) := by decide +kernel
theorem dX4_requireRegion_1 : decode cX4_requireRegion 1 = .ok (.ifCond .lt 14, 3) := by decide +kernel
theorem dX4_requireRegion_4 : decode cX4_requireRegion 4 = .ok (.iload_n 1, 1) := by decide +kernel
theorem dX4_requireRegion_5 : decode cX4_requireRegion 5 = .ok (.aload_n 0, 1) := by decide +kernel
theorem dX4_requireRegion_6 : decode cX4_requireRegion 6 = .ok (.getfield 10, 3) := by decide +kernel
theorem dX4_requireRegion_9 : decode cX4_requireRegion 9 = .ok (.invokevirtual 39, 3) := by decide +kernel
theorem dX4_requireRegion_12 : decode cX4_requireRegion 12 = .ok (.if_icmp .lt 13, 3) := by decide +kernel
theorem dX4_requireRegion_15 : decode cX4_requireRegion 15 = .ok (.new 101, 3) := by decide +kernel
theorem dX4_requireRegion_18 : decode cX4_requireRegion 18 = .ok (.dup, 1) := by decide +kernel
theorem dX4_requireRegion_19 : decode cX4_requireRegion 19 = .ok (.ldc 169, 2) := by decide +kernel
theorem dX4_requireRegion_21 : decode cX4_requireRegion 21 = .ok (.invokespecial 105, 3) := by decide +kernel
theorem dX4_requireRegion_24 : decode cX4_requireRegion 24 = .ok (.athrow, 1) := by decide +kernel
theorem dX4_requireRegion_25 : decode cX4_requireRegion 25 = .ok (.return_, 1) := by decide +kernel
set_option maxRecDepth 20000 in
theorem ggX4_requireCheck_Jx4a65c_size_8abf5 : GoodIn wsX4_requireCheck wsJx4a65c_size_8abf5 := goodIn_r _ [8, 9, 17, 18, 19] (by decide +kernel) (by decide +kernel)
set_option maxRecDepth 20000 in
theorem gX4_requireCheck_Jx4a65c_size_8abf5 : GoodIn wsX4_requireCheck (wsV RX4 39 RJx4a65c yJx4a65c_size_8abf5 wsJx4a65c_size_8abf5) := goodIn_app (goodIn_of _ (by decide +kernel)) ggX4_requireCheck_Jx4a65c_size_8abf5
theorem dX4_requireCheck_0 : decode cX4_requireCheck 0 = .ok (.iload_n 1, 1) := by decide +kernel
theorem dX4_requireCheck_1 : decode cX4_requireCheck 1 = .ok (.ifCond .lt 14, 3) := by decide +kernel
theorem dX4_requireCheck_4 : decode cX4_requireCheck 4 = .ok (.iload_n 1, 1) := by decide +kernel
theorem dX4_requireCheck_5 : decode cX4_requireCheck 5 = .ok (.aload_n 0, 1) := by decide +kernel
theorem dX4_requireCheck_6 : decode cX4_requireCheck 6 = .ok (.getfield 16, 3) := by decide +kernel
theorem dX4_requireCheck_9 : decode cX4_requireCheck 9 = .ok (.invokevirtual 39, 3) := by decide +kernel
theorem dX4_requireCheck_12 : decode cX4_requireCheck 12 = .ok (.if_icmp .lt 13, 3) := by decide +kernel
theorem dX4_requireCheck_15 : decode cX4_requireCheck 15 = .ok (.new 101, 3) := by decide +kernel
theorem dX4_requireCheck_18 : decode cX4_requireCheck 18 = .ok (.dup, 1) := by decide +kernel
theorem dX4_requireCheck_19 : decode cX4_requireCheck 19 = .ok (.ldc 171, 2) := by decide +kernel
theorem dX4_requireCheck_21 : decode cX4_requireCheck 21 = .ok (.invokespecial 105, 3) := by decide +kernel
theorem dX4_requireCheck_24 : decode cX4_requireCheck 24 = .ok (.athrow, 1) := by decide +kernel
theorem dX4_requireCheck_25 : decode cX4_requireCheck 25 = .ok (.return_, 1) := by decide +kernel
set_option maxRecDepth 20000 in
theorem ggX4_requireAlarm_Jx4a65c_size_8abf5 : GoodIn wsX4_requireAlarm wsJx4a65c_size_8abf5 := goodIn_r _ [8, 9, 17, 18, 19] (by decide +kernel) (by decide +kernel)
set_option maxRecDepth 20000 in
theorem gX4_requireAlarm_Jx4a65c_size_8abf5 : GoodIn wsX4_requireAlarm (wsV RX4 39 RJx4a65c yJx4a65c_size_8abf5 wsJx4a65c_size_8abf5) := goodIn_app (goodIn_of _ (by decide +kernel)) ggX4_requireAlarm_Jx4a65c_size_8abf5
theorem dX4_requireAlarm_0 : decode cX4_requireAlarm 0 = .ok (.iload_n 1, 1) := by decide +kernel
theorem dX4_requireAlarm_1 : decode cX4_requireAlarm 1 = .ok (.ifCond .lt 14, 3) := by decide +kernel
theorem dX4_requireAlarm_4 : decode cX4_requireAlarm 4 = .ok (.iload_n 1, 1) := by decide +kernel
theorem dX4_requireAlarm_5 : decode cX4_requireAlarm 5 = .ok (.aload_n 0, 1) := by decide +kernel
theorem dX4_requireAlarm_6 : decode cX4_requireAlarm 6 = .ok (.getfield 22, 3) := by decide +kernel
theorem dX4_requireAlarm_9 : decode cX4_requireAlarm 9 = .ok (.invokevirtual 39, 3) := by decide +kernel
theorem dX4_requireAlarm_12 : decode cX4_requireAlarm 12 = .ok (.if_icmp .lt 13, 3) := by decide +kernel
theorem dX4_requireAlarm_15 : decode cX4_requireAlarm 15 = .ok (.new 101, 3) := by decide +kernel
theorem dX4_requireAlarm_18 : decode cX4_requireAlarm 18 = .ok (.dup, 1) := by decide +kernel
theorem dX4_requireAlarm_19 : decode cX4_requireAlarm 19 = .ok (.ldc 173, 2) := by decide +kernel
theorem dX4_requireAlarm_21 : decode cX4_requireAlarm 21 = .ok (.invokespecial 105, 3) := by decide +kernel
theorem dX4_requireAlarm_24 : decode cX4_requireAlarm 24 = .ok (.athrow, 1) := by decide +kernel
theorem dX4_requireAlarm_25 : decode cX4_requireAlarm 25 = .ok (.return_, 1) := by decide +kernel
theorem dX4_requireRange_0 : decode cX4_requireRange 0 = .ok (.iload_n 0, 1) := by decide +kernel
theorem dX4_requireRange_1 : decode cX4_requireRange 1 = .ok (.iload_n 1, 1) := by decide +kernel
theorem dX4_requireRange_2 : decode cX4_requireRange 2 = .ok (.if_icmp .lt 8, 3) := by decide +kernel
theorem dX4_requireRange_5 : decode cX4_requireRange 5 = .ok (.iload_n 0, 1) := by decide +kernel
theorem dX4_requireRange_6 : decode cX4_requireRange 6 = .ok (.iload_n 2, 1) := by decide +kernel
theorem dX4_requireRange_7 : decode cX4_requireRange 7 = .ok (.if_icmp .le 13, 3) := by decide +kernel
theorem dX4_requireRange_10 : decode cX4_requireRange 10 = .ok (.new 175, 3) := by decide +kernel
theorem dX4_requireRange_13 : decode cX4_requireRange 13 = .ok (.dup, 1) := by decide +kernel
theorem dX4_requireRange_14 : decode cX4_requireRange 14 = .ok (.ldc 177, 2) := by decide +kernel
theorem dX4_requireRange_16 : decode cX4_requireRange 16 = .ok (.invokespecial 179, 3) := by decide +kernel
theorem dX4_requireRange_19 : decode cX4_requireRange 19 = .ok (.athrow, 1) := by decide +kernel
theorem dX4_requireRange_20 : decode cX4_requireRange 20 = .ok (.return_, 1) := by decide +kernel
theorem dX4_holds_0 : decode cX4_holds 0 = .ok (.iload_n 0, 1) := by decide +kernel
theorem dX4_holds_1 : decode cX4_holds 1 = .ok (.iconst 1, 1) := by decide +kernel
theorem dX4_holds_2 : decode cX4_holds 2 = .ok (.iload_n 1, 1) := by decide +kernel
theorem dX4_holds_3 : decode cX4_holds 3 = .ok (.ishl, 1) := by decide +kernel
theorem dX4_holds_4 : decode cX4_holds 4 = .ok (.iand, 1) := by decide +kernel
theorem dX4_holds_5 : decode cX4_holds 5 = .ok (.ifCond .eq 7, 3) := by decide +kernel
theorem dX4_holds_8 : decode cX4_holds 8 = .ok (.iconst 1, 1) := by decide +kernel
theorem dX4_holds_9 : decode cX4_holds 9 = .ok (.goto 4, 3) := by decide +kernel
theorem dX4_holds_12 : decode cX4_holds 12 = .ok (.iconst 0, 1) := by decide +kernel
theorem dX4_holds_13 : decode cX4_holds 13 = .ok (.ireturn, 1) := by decide +kernel
theorem dX4_withRegion_0 : decode cX4_withRegion 0 = .ok (.iload_n 2, 1) := by decide +kernel
theorem dX4_withRegion_1 : decode cX4_withRegion 1 = .ok (.ifCond .eq 11, 3) := by decide +kernel
theorem dX4_withRegion_4 : decode cX4_withRegion 4 = .ok (.iload_n 0, 1) := by decide +kernel
theorem dX4_withRegion_5 : decode cX4_withRegion 5 = .ok (.iconst 1, 1) := by decide +kernel
theorem dX4_withRegion_6 : decode cX4_withRegion 6 = .ok (.iload_n 1, 1) := by decide +kernel
theorem dX4_withRegion_7 : decode cX4_withRegion 7 = .ok (.ishl, 1) := by decide +kernel
theorem dX4_withRegion_8 : decode cX4_withRegion 8 = .ok (.ior, 1) := by decide +kernel
theorem dX4_withRegion_9 : decode cX4_withRegion 9 = .ok (.goto 10, 3) := by decide +kernel
theorem dX4_withRegion_12 : decode cX4_withRegion 12 = .ok (.iload_n 0, 1) := by decide +kernel
theorem dX4_withRegion_13 : decode cX4_withRegion 13 = .ok (.iconst 1, 1) := by decide +kernel
theorem dX4_withRegion_14 : decode cX4_withRegion 14 = .ok (.iload_n 1, 1) := by decide +kernel
theorem dX4_withRegion_15 : decode cX4_withRegion 15 = .ok (.ishl, 1) := by decide +kernel
theorem dX4_withRegion_16 : decode cX4_withRegion 16 = .ok (.iconst (-1), 1) := by decide +kernel
theorem dX4_withRegion_17 : decode cX4_withRegion 17 = .ok (.ixor, 1) := by decide +kernel
theorem dX4_withRegion_18 : decode cX4_withRegion 18 = .ok (.iand, 1) := by decide +kernel
theorem dX4_withRegion_19 : decode cX4_withRegion 19 = .ok (.ireturn, 1) := by decide +kernel
set_option maxRecDepth 20000 in
theorem ggX4_passOneMinute_X4_makeProbes : GoodIn wsX4_passOneMinute wsX4_makeProbes := goodIn_r _ [6, 7, 8, 9, 1, 10, 11, 12, 13, 14, 15, 16, 17, 18, 19, 20, 21, 22, 23, 24, 25, 26, 27, 28, 29, 30, 31, 32, 33, 34, 35, 36, 37, 38, 39, 40, 41, 42, 43, 44, 45, 46, 47, 48, 49, 5, 50, 51, 52, 53, 54, 55, 56, 57, 58, 59, 60, 61, 62, 63, 64, 65, 66, 67, 68, 69, 70, 71, 72, 73, 74, 208, 209, 210, 211, 212, 213, 214, 215, 216, 217, 218, 219, 220, 221, 222, 223, 224, 225, 226, 227, 228, 229, 230, 231, 232, 233, 234] (by decide +kernel) (by decide +kernel)
set_option maxRecDepth 20000 in
theorem gX4_passOneMinute_X4_makeProbes : GoodIn wsX4_passOneMinute (wsV RX4 180 RX4 yX4_makeProbes wsX4_makeProbes) := goodIn_app (goodIn_of _ (by decide +kernel)) ggX4_passOneMinute_X4_makeProbes
set_option maxRecDepth 20000 in
theorem ggX4_passOneMinute_X4_judgeRegions : GoodIn wsX4_passOneMinute wsX4_judgeRegions := goodIn_r _ [78, 8, 79, 11, 12, 13, 14, 15, 16, 80, 81, 82, 5, 83, 7, 9, 84, 17, 18, 19, 20, 21, 22, 23, 24, 25, 26, 27, 28, 29, 30, 31, 32, 33, 85, 86, 87, 208, 209, 210, 211, 212, 213, 214, 215, 216, 217, 218, 219, 220, 221, 222, 223, 224, 225, 226, 227, 228, 229, 230] (by decide +kernel) (by decide +kernel)
set_option maxRecDepth 20000 in
theorem gX4_passOneMinute_X4_judgeRegions : GoodIn wsX4_passOneMinute (wsV RX4 183 RX4 yX4_judgeRegions wsX4_judgeRegions) := goodIn_app (goodIn_of _ (by decide +kernel)) ggX4_passOneMinute_X4_judgeRegions
set_option maxRecDepth 20000 in
theorem ggX4_passOneMinute_X4_judgeChecks : GoodIn wsX4_passOneMinute wsX4_judgeChecks := goodIn_r _ [91, 7, 9, 11, 12, 13, 14, 15, 16, 17, 18, 19, 20, 21, 22, 23, 24, 25, 26, 27, 28, 29, 30, 31, 32, 33, 92, 93, 94, 5, 95, 8, 84, 10, 59, 79, 85, 86, 87, 96, 97, 98, 37, 99, 68, 100, 101, 62, 63, 102, 103, 104, 105, 106, 107, 108, 208, 209, 210, 211, 212, 213, 214, 215, 216, 217, 218, 219, 220, 221, 222, 223, 224, 225, 226, 227, 228, 229, 230, 231, 232, 233, 234] (by decide +kernel) (by decide +kernel)
set_option maxRecDepth 20000 in
theorem gX4_passOneMinute_X4_judgeChecks : GoodIn wsX4_passOneMinute (wsV RX4 186 RX4 yX4_judgeChecks wsX4_judgeChecks) := goodIn_app (goodIn_of _ (by decide +kernel)) ggX4_passOneMinute_X4_judgeChecks
set_option maxRecDepth 20000 in
theorem ggX4_passOneMinute_X4_raiseAndCloseAlarms : GoodIn wsX4_passOneMinute wsX4_raiseAndCloseAlarms := goodIn_r _ [112, 7, 9, 113, 114, 1, 115, 11, 12, 13, 14, 15, 16, 17, 18, 19, 20, 21, 22, 23, 24, 25, 26, 27, 28, 29, 30, 31, 32, 33, 116, 117, 118, 5, 119, 120, 121, 122, 123, 124, 125, 126, 127, 128, 129, 130, 131, 132, 133, 134, 135, 136, 137, 138, 139, 140, 141, 142, 143, 144, 145, 146, 147, 148, 149, 150, 151, 152, 153, 154, 155, 156, 157, 158, 159, 160, 161, 162, 163, 164, 165, 166, 167, 168, 169, 170, 171, 172, 173, 174, 175, 176, 177, 178, 179, 180, 181, 182, 183, 184, 185, 186, 187, 188, 189, 190, 191, 192, 193, 194, 195, 196, 197, 198, 199, 200, 201, 208, 209, 210, 211, 212, 213, 214, 218, 219, 220, 221, 222, 223, 224, 225, 226, 227, 228, 229, 230, 235, 236, 237, 215, 216, 217, 238, 239, 240] (by decide +kernel) (by decide +kernel)
set_option maxRecDepth 20000 in
theorem gX4_passOneMinute_X4_raiseAndCloseAlarms : GoodIn wsX4_passOneMinute (wsV RX4 189 RX4 yX4_raiseAndCloseAlarms wsX4_raiseAndCloseAlarms) := goodIn_app (goodIn_of _ (by decide +kernel)) ggX4_passOneMinute_X4_raiseAndCloseAlarms
set_option maxRecDepth 20000 in
theorem ggX4_passOneMinute_X4_countMinute : GoodIn wsX4_passOneMinute wsX4_countMinute := goodIn_r _ [205, 7, 9, 113, 206, 207, 11, 12, 13, 14, 15, 16, 17, 18, 19, 20, 21, 22, 23, 24, 25, 26, 27, 28, 29, 30, 31, 32, 33, 208, 209, 210, 211, 212, 213, 214, 218, 219, 220, 221, 222, 223, 224, 225, 226, 227, 228, 229, 230, 215, 216, 217] (by decide +kernel) (by decide +kernel)
set_option maxRecDepth 20000 in
theorem gX4_passOneMinute_X4_countMinute : GoodIn wsX4_passOneMinute (wsV RX4 192 RX4 yX4_countMinute wsX4_countMinute) := goodIn_app (goodIn_of _ (by decide +kernel)) ggX4_passOneMinute_X4_countMinute
theorem dX4_passOneMinute_0 : decode cX4_passOneMinute 0 = .ok (.aload_n 0, 1) := by decide +kernel
theorem dX4_passOneMinute_1 : decode cX4_passOneMinute 1 = .ok (.dup, 1) := by decide +kernel
theorem dX4_passOneMinute_2 : decode cX4_passOneMinute 2 = .ok (.getfield 32, 3) := by decide +kernel
theorem dX4_passOneMinute_5 : decode cX4_passOneMinute 5 = .ok (.iconst 1, 1) := by decide +kernel
theorem dX4_passOneMinute_6 : decode cX4_passOneMinute 6 = .ok (.iadd, 1) := by decide +kernel
theorem dX4_passOneMinute_7 : decode cX4_passOneMinute 7 = .ok (.putfield 32, 3) := by decide +kernel
theorem dX4_passOneMinute_10 : decode cX4_passOneMinute 10 = .ok (.aload_n 0, 1) := by decide +kernel
theorem dX4_passOneMinute_11 : decode cX4_passOneMinute 11 = .ok (.invokevirtual 180, 3) := by decide +kernel
theorem dX4_passOneMinute_14 : decode cX4_passOneMinute 14 = .ok (.aload_n 0, 1) := by decide +kernel
theorem dX4_passOneMinute_15 : decode cX4_passOneMinute 15 = .ok (.invokevirtual 183, 3) := by decide +kernel
theorem dX4_passOneMinute_18 : decode cX4_passOneMinute 18 = .ok (.aload_n 0, 1) := by decide +kernel
theorem dX4_passOneMinute_19 : decode cX4_passOneMinute 19 = .ok (.invokevirtual 186, 3) := by decide +kernel
theorem dX4_passOneMinute_22 : decode cX4_passOneMinute 22 = .ok (.aload_n 0, 1) := by decide +kernel
theorem dX4_passOneMinute_23 : decode cX4_passOneMinute 23 = .ok (.invokevirtual 189, 3) := by decide +kernel
theorem dX4_passOneMinute_26 : decode cX4_passOneMinute 26 = .ok (.aload_n 0, 1) := by decide +kernel
theorem dX4_passOneMinute_27 : decode cX4_passOneMinute 27 = .ok (.invokevirtual 192, 3) := by decide +kernel
theorem dX4_passOneMinute_30 : decode cX4_passOneMinute 30 = .ok (.return_, 1) := by decide +kernel
set_option maxRecDepth 20000 in
theorem ggX4_makeProbes_Jx4a65c_size_8abf5 : GoodIn wsX4_makeProbes wsJx4a65c_size_8abf5 := goodIn_r _ [10, 11, 78, 79, 80] (by decide +kernel) (by decide +kernel)
set_option maxRecDepth 20000 in
theorem gX4_makeProbes_Jx4a65c_size_8abf5 : GoodIn wsX4_makeProbes (wsV RX4 39 RJx4a65c yJx4a65c_size_8abf5 wsJx4a65c_size_8abf5) := goodIn_app (goodIn_of _ (by decide +kernel)) ggX4_makeProbes_Jx4a65c_size_8abf5
set_option maxRecDepth 20000 in
theorem ggX4_makeProbes_Jx4a65c_get_915e3 : GoodIn wsX4_makeProbes wsJx4a65c_get_915e3 := goodIn_r _ [15, 11, 16, 17, 18, 19, 20, 21, 22, 23, 24, 25, 26, 9, 27, 28, 78, 79, 80] (by decide +kernel) (by decide +kernel)
set_option maxRecDepth 20000 in
theorem gX4_makeProbes_Jx4a65c_get_915e3 : GoodIn wsX4_makeProbes (wsV RX4 50 RJx4a65c yJx4a65c_get_915e3 wsJx4a65c_get_915e3) := goodIn_app (goodIn_of _ (by decide +kernel)) ggX4_makeProbes_Jx4a65c_get_915e3
set_option maxRecDepth 20000 in
theorem ggX4_makeProbes_X1_isDue : GoodIn wsX4_makeProbes wsX1_isDue := goodIn_r _ [33, 34, 35, 36, 32, 37, 38, 39, 40, 41, 81, 82, 83, 84, 85, 86, 87, 88, 89, 90, 91, 92, 93] (by decide +kernel) (by decide +kernel)
set_option maxRecDepth 20000 in
theorem gX4_makeProbes_X1_isDue : GoodIn wsX4_makeProbes (wsV RX4 195 RX1 yX1_isDue wsX1_isDue) := goodIn_app (goodIn_of _ (by decide +kernel)) ggX4_makeProbes_X1_isDue
set_option maxRecDepth 20000 in
theorem ggX4_makeProbes_X4_makeProbe : GoodIn wsX4_makeProbes wsX4_makeProbe := goodIn_r _ [46, 47, 48, 49, 4, 50, 51, 52, 45, 53, 54, 55, 56, 57, 58, 59, 60, 61, 62, 32, 63, 38, 64, 65, 39, 66, 67, 68, 69, 70, 94, 95, 96, 97, 71, 72, 73, 74, 75, 76, 77, 81, 82, 83, 84, 85, 86, 87, 88, 89, 90, 91, 92, 93] (by decide +kernel) (by decide +kernel)
set_option maxRecDepth 20000 in
theorem gX4_makeProbes_X4_makeProbe : GoodIn wsX4_makeProbes (wsV RX4 198 RX4 yX4_makeProbe wsX4_makeProbe) := goodIn_app (goodIn_of _ (by decide +kernel)) ggX4_makeProbes_X4_makeProbe
theorem dX4_makeProbes_0 : decode cX4_makeProbes 0 = .ok (.iconst 0, 1) := by decide +kernel
theorem dX4_makeProbes_1 : decode cX4_makeProbes 1 = .ok (.istore_n 1, 1) := by decide +kernel
theorem dX4_makeProbes_2 : decode cX4_makeProbes 2 = .ok (.iload_n 1, 1) := by decide +kernel
theorem dX4_makeProbes_3 : decode cX4_makeProbes 3 = .ok (.aload_n 0, 1) := by decide +kernel
theorem dX4_makeProbes_4 : decode cX4_makeProbes 4 = .ok (.getfield 16, 3) := by decide +kernel
theorem dX4_makeProbes_7 : decode cX4_makeProbes 7 = .ok (.invokevirtual 39, 3) := by decide +kernel
theorem dX4_makeProbes_10 : decode cX4_makeProbes 10 = .ok (.if_icmp .ge 76, 3) := by decide +kernel
theorem dX4_makeProbes_13 : decode cX4_makeProbes 13 = .ok (.iconst 0, 1) := by decide +kernel
theorem dX4_makeProbes_14 : decode cX4_makeProbes 14 = .ok (.istore_n 2, 1) := by decide +kernel
theorem dX4_makeProbes_15 : decode cX4_makeProbes 15 = .ok (.iload_n 2, 1) := by decide +kernel
theorem dX4_makeProbes_16 : decode cX4_makeProbes 16 = .ok (.aload_n 0, 1) := by decide +kernel
theorem dX4_makeProbes_17 : decode cX4_makeProbes 17 = .ok (.getfield 10, 3) := by decide +kernel
theorem dX4_makeProbes_20 : decode cX4_makeProbes 20 = .ok (.invokevirtual 39, 3) := by decide +kernel
theorem dX4_makeProbes_23 : decode cX4_makeProbes 23 = .ok (.if_icmp .ge 57, 3) := by decide +kernel
theorem dX4_makeProbes_26 : decode cX4_makeProbes 26 = .ok (.aload_n 0, 1) := by decide +kernel
theorem dX4_makeProbes_27 : decode cX4_makeProbes 27 = .ok (.getfield 16, 3) := by decide +kernel
theorem dX4_makeProbes_30 : decode cX4_makeProbes 30 = .ok (.iload_n 1, 1) := by decide +kernel
theorem dX4_makeProbes_31 : decode cX4_makeProbes 31 = .ok (.invokevirtual 50, 3) := by decide +kernel
theorem dX4_makeProbes_34 : decode cX4_makeProbes 34 = .ok (.checkcast 72, 3) := by decide +kernel
theorem dX4_makeProbes_37 : decode cX4_makeProbes 37 = .ok (.iload_n 2, 1) := by decide +kernel
theorem dX4_makeProbes_38 : decode cX4_makeProbes 38 = .ok (.aload_n 0, 1) := by decide +kernel
theorem dX4_makeProbes_39 : decode cX4_makeProbes 39 = .ok (.getfield 32, 3) := by decide +kernel
theorem dX4_makeProbes_42 : decode cX4_makeProbes 42 = .ok (.invokevirtual 195, 3) := by decide +kernel
theorem dX4_makeProbes_45 : decode cX4_makeProbes 45 = .ok (.ifCond .eq 29, 3) := by decide +kernel
theorem dX4_makeProbes_48 : decode cX4_makeProbes 48 = .ok (.aload_n 0, 1) := by decide +kernel
theorem dX4_makeProbes_49 : decode cX4_makeProbes 49 = .ok (.aload_n 0, 1) := by decide +kernel
theorem dX4_makeProbes_50 : decode cX4_makeProbes 50 = .ok (.getfield 16, 3) := by decide +kernel
theorem dX4_makeProbes_53 : decode cX4_makeProbes 53 = .ok (.iload_n 1, 1) := by decide +kernel
theorem dX4_makeProbes_54 : decode cX4_makeProbes 54 = .ok (.invokevirtual 50, 3) := by decide +kernel
theorem dX4_makeProbes_57 : decode cX4_makeProbes 57 = .ok (.checkcast 72, 3) := by decide +kernel
theorem dX4_makeProbes_60 : decode cX4_makeProbes 60 = .ok (.aload_n 0, 1) := by decide +kernel
theorem dX4_makeProbes_61 : decode cX4_makeProbes 61 = .ok (.getfield 10, 3) := by decide +kernel
theorem dX4_makeProbes_64 : decode cX4_makeProbes 64 = .ok (.iload_n 2, 1) := by decide +kernel
theorem dX4_makeProbes_65 : decode cX4_makeProbes 65 = .ok (.invokevirtual 50, 3) := by decide +kernel
theorem dX4_makeProbes_68 : decode cX4_makeProbes 68 = .ok (.checkcast 54, 3) := by decide +kernel
theorem dX4_makeProbes_71 : decode cX4_makeProbes 71 = .ok (.invokevirtual 198, 3) := by decide +kernel
theorem dX4_makeProbes_74 : decode cX4_makeProbes 74 = .ok (.iinc 2 1, 3) := by decide +kernel
theorem dX4_makeProbes_77 : decode cX4_makeProbes 77 = .ok (.goto (-62), 3) := by decide +kernel
theorem dX4_makeProbes_80 : decode cX4_makeProbes 80 = .ok (.iinc 1 1, 3) := by decide +kernel
theorem dX4_makeProbes_83 : decode cX4_makeProbes 83 = .ok (.goto (-81), 3) := by decide +kernel
theorem dX4_makeProbes_86 : decode cX4_makeProbes 86 = .ok (.return_, 1) := by decide +kernel
set_option maxRecDepth 20000 in
theorem ggX4_makeProbe_X4_wouldFail : GoodIn wsX4_makeProbe wsX4_wouldFail := goodIn_r _ [9, 10, 3, 11, 12, 13, 14, 8, 15, 41, 42, 43, 44, 45, 46, 47, 48, 49, 50, 51, 52, 53, 30, 31, 32, 33, 34, 35, 36, 37, 38, 39, 40] (by decide +kernel) (by decide +kernel)
set_option maxRecDepth 20000 in
theorem gX4_makeProbe_X4_wouldFail : GoodIn wsX4_makeProbe (wsV RX4 115 RX4 yX4_wouldFail wsX4_wouldFail) := goodIn_app (goodIn_of _ (by decide +kernel)) ggX4_makeProbe_X4_wouldFail
set_option maxRecDepth 20000 in
theorem ggX4_makeProbe_X1_takeFailure : GoodIn wsX4_makeProbe wsX1_takeFailure := goodIn_r _ [20, 21, 22, 23, 24, 25, 41, 42, 43, 44, 45, 46, 47, 48, 49, 50, 51, 52, 53] (by decide +kernel) (by decide +kernel)
set_option maxRecDepth 20000 in
theorem gX4_makeProbe_X1_takeFailure : GoodIn wsX4_makeProbe (wsV RX4 205 RX1 yX1_takeFailure wsX1_takeFailure) := goodIn_app (goodIn_of _ (by decide +kernel)) ggX4_makeProbe_X1_takeFailure
set_option maxRecDepth 20000 in
theorem ggX4_makeProbe_X1_takeSuccess : GoodIn wsX4_makeProbe wsX1_takeSuccess := goodIn_r _ [29, 21, 22, 41, 42, 43, 44, 45, 46, 47, 48, 49, 50, 51, 52, 53] (by decide +kernel) (by decide +kernel)
set_option maxRecDepth 20000 in
theorem gX4_makeProbe_X1_takeSuccess : GoodIn wsX4_makeProbe (wsV RX4 208 RX1 yX1_takeSuccess wsX1_takeSuccess) := goodIn_app (goodIn_of _ (by decide +kernel)) ggX4_makeProbe_X1_takeSuccess
theorem dX4_makeProbe_0 : decode cX4_makeProbe 0 = .ok (.aload_n 2, 1) := by decide +kernel
theorem dX4_makeProbe_1 : decode cX4_makeProbe 1 = .ok (.dup, 1) := by decide +kernel
theorem dX4_makeProbe_2 : decode cX4_makeProbe 2 = .ok (.getfield 130, 3) := by decide +kernel
theorem dX4_makeProbe_5 : decode cX4_makeProbe 5 = .ok (.iconst 1, 1) := by decide +kernel
theorem dX4_makeProbe_6 : decode cX4_makeProbe 6 = .ok (.iadd, 1) := by decide +kernel
theorem dX4_makeProbe_7 : decode cX4_makeProbe 7 = .ok (.putfield 130, 3) := by decide +kernel
theorem dX4_makeProbe_10 : decode cX4_makeProbe 10 = .ok (.aload_n 0, 1) := by decide +kernel
theorem dX4_makeProbe_11 : decode cX4_makeProbe 11 = .ok (.aload_n 1, 1) := by decide +kernel
theorem dX4_makeProbe_12 : decode cX4_makeProbe 12 = .ok (.aload_n 2, 1) := by decide +kernel
theorem dX4_makeProbe_13 : decode cX4_makeProbe 13 = .ok (.invokevirtual 115, 3) := by decide +kernel
theorem dX4_makeProbe_16 : decode cX4_makeProbe 16 = .ok (.ifCond .eq 28, 3) := by decide +kernel
theorem dX4_makeProbe_19 : decode cX4_makeProbe 19 = .ok (.aload_n 2, 1) := by decide +kernel
theorem dX4_makeProbe_20 : decode cX4_makeProbe 20 = .ok (.dup, 1) := by decide +kernel
theorem dX4_makeProbe_21 : decode cX4_makeProbe 21 = .ok (.getfield 133, 3) := by decide +kernel
theorem dX4_makeProbe_24 : decode cX4_makeProbe 24 = .ok (.iconst 1, 1) := by decide +kernel
theorem dX4_makeProbe_25 : decode cX4_makeProbe 25 = .ok (.iadd, 1) := by decide +kernel
theorem dX4_makeProbe_26 : decode cX4_makeProbe 26 = .ok (.putfield 133, 3) := by decide +kernel
theorem dX4_makeProbe_29 : decode cX4_makeProbe 29 = .ok (.aload_n 1, 1) := by decide +kernel
theorem dX4_makeProbe_30 : decode cX4_makeProbe 30 = .ok (.aload_n 2, 1) := by decide +kernel
theorem dX4_makeProbe_31 : decode cX4_makeProbe 31 = .ok (.getfield 202, 3) := by decide +kernel
theorem dX4_makeProbe_34 : decode cX4_makeProbe 34 = .ok (.aload_n 0, 1) := by decide +kernel
theorem dX4_makeProbe_35 : decode cX4_makeProbe 35 = .ok (.getfield 32, 3) := by decide +kernel
theorem dX4_makeProbe_38 : decode cX4_makeProbe 38 = .ok (.invokevirtual 205, 3) := by decide +kernel
theorem dX4_makeProbe_41 : decode cX4_makeProbe 41 = .ok (.goto 11, 3) := by decide +kernel
theorem dX4_makeProbe_44 : decode cX4_makeProbe 44 = .ok (.aload_n 1, 1) := by decide +kernel
theorem dX4_makeProbe_45 : decode cX4_makeProbe 45 = .ok (.aload_n 2, 1) := by decide +kernel
theorem dX4_makeProbe_46 : decode cX4_makeProbe 46 = .ok (.getfield 202, 3) := by decide +kernel
theorem dX4_makeProbe_49 : decode cX4_makeProbe 49 = .ok (.invokevirtual 208, 3) := by decide +kernel
theorem dX4_makeProbe_52 : decode cX4_makeProbe 52 = .ok (.return_, 1) := by decide +kernel
set_option maxRecDepth 20000 in
theorem ggX4_wouldFail_X4_holds : GoodIn wsX4_wouldFail wsX4_holds := goodIn_r _ [8] (by decide +kernel) (by decide +kernel)
set_option maxRecDepth 20000 in
theorem gX4_wouldFail_X4_holds : GoodIn wsX4_wouldFail (va_wsS RX4 83 yX4_holds wsX4_holds) := goodIn_app (goodIn_of _ (by decide +kernel)) ggX4_wouldFail_X4_holds
theorem dX4_wouldFail_0 : decode cX4_wouldFail 0 = .ok (.aload_n 1, 1) := by decide +kernel
theorem dX4_wouldFail_1 : decode cX4_wouldFail 1 = .ok (.getfield 80, 3) := by decide +kernel
theorem dX4_wouldFail_4 : decode cX4_wouldFail 4 = .ok (.aload_n 2, 1) := by decide +kernel
theorem dX4_wouldFail_5 : decode cX4_wouldFail 5 = .ok (.getfield 202, 3) := by decide +kernel
theorem dX4_wouldFail_8 : decode cX4_wouldFail 8 = .ok (.invokestatic 83, 3) := by decide +kernel
theorem dX4_wouldFail_11 : decode cX4_wouldFail 11 = .ok (.ifCond .ne 15, 3) := by decide +kernel
theorem dX4_wouldFail_14 : decode cX4_wouldFail 14 = .ok (.aload_n 2, 1) := by decide +kernel
theorem dX4_wouldFail_15 : decode cX4_wouldFail 15 = .ok (.getfield 56, 3) := by decide +kernel
theorem dX4_wouldFail_18 : decode cX4_wouldFail 18 = .ok (.aload_n 0, 1) := by decide +kernel
theorem dX4_wouldFail_19 : decode cX4_wouldFail 19 = .ok (.getfield 25, 3) := by decide +kernel
theorem dX4_wouldFail_22 : decode cX4_wouldFail 22 = .ok (.iand, 1) := by decide +kernel
theorem dX4_wouldFail_23 : decode cX4_wouldFail 23 = .ok (.ifCond .eq 7, 3) := by decide +kernel
theorem dX4_wouldFail_26 : decode cX4_wouldFail 26 = .ok (.iconst 1, 1) := by decide +kernel
theorem dX4_wouldFail_27 : decode cX4_wouldFail 27 = .ok (.goto 4, 3) := by decide +kernel
theorem dX4_wouldFail_30 : decode cX4_wouldFail 30 = .ok (.iconst 0, 1) := by decide +kernel
theorem dX4_wouldFail_31 : decode cX4_wouldFail 31 = .ok (.ireturn, 1) := by decide +kernel
set_option maxRecDepth 20000 in
theorem ggX4_judgeRegions_Jx4a65c_size_8abf5 : GoodIn wsX4_judgeRegions wsJx4a65c_size_8abf5 := goodIn_r _ [7, 8, 44, 45, 46] (by decide +kernel) (by decide +kernel)
set_option maxRecDepth 20000 in
theorem gX4_judgeRegions_Jx4a65c_size_8abf5 : GoodIn wsX4_judgeRegions (wsV RX4 39 RJx4a65c yJx4a65c_size_8abf5 wsJx4a65c_size_8abf5) := goodIn_app (goodIn_of _ (by decide +kernel)) ggX4_judgeRegions_Jx4a65c_size_8abf5
set_option maxRecDepth 20000 in
theorem ggX4_judgeRegions_X4_votesAreBad : GoodIn wsX4_judgeRegions wsX4_votesAreBad := goodIn_r _ [13, 14, 15, 16, 3, 4, 5, 6, 7, 8, 17, 18, 19, 20, 21, 22, 23, 24, 25, 26, 27, 28, 29, 30, 31, 32, 33, 37, 38, 39, 40, 41, 42, 43, 47, 48, 49, 50, 51, 52, 53, 54, 55, 56, 57, 58, 59, 44, 45, 46] (by decide +kernel) (by decide +kernel)
set_option maxRecDepth 20000 in
theorem gX4_judgeRegions_X4_votesAreBad : GoodIn wsX4_judgeRegions (wsV RX4 211 RX4 yX4_votesAreBad wsX4_votesAreBad) := goodIn_app (goodIn_of _ (by decide +kernel)) ggX4_judgeRegions_X4_votesAreBad
set_option maxRecDepth 20000 in
theorem ggX4_judgeRegions_X4_withRegion : GoodIn wsX4_judgeRegions wsX4_withRegion := goodIn_r _ [36] (by decide +kernel) (by decide +kernel)
set_option maxRecDepth 20000 in
theorem gX4_judgeRegions_X4_withRegion : GoodIn wsX4_judgeRegions (va_wsS RX4 87 yX4_withRegion wsX4_withRegion) := goodIn_app (goodIn_of _ (by decide +kernel)) ggX4_judgeRegions_X4_withRegion
theorem dX4_judgeRegions_0 : decode cX4_judgeRegions 0 = .ok (.iconst 0, 1) := by decide +kernel
theorem dX4_judgeRegions_1 : decode cX4_judgeRegions 1 = .ok (.istore_n 1, 1) := by decide +kernel
theorem dX4_judgeRegions_2 : decode cX4_judgeRegions 2 = .ok (.iload_n 1, 1) := by decide +kernel
theorem dX4_judgeRegions_3 : decode cX4_judgeRegions 3 = .ok (.aload_n 0, 1) := by decide +kernel
theorem dX4_judgeRegions_4 : decode cX4_judgeRegions 4 = .ok (.getfield 10, 3) := by decide +kernel
theorem dX4_judgeRegions_7 : decode cX4_judgeRegions 7 = .ok (.invokevirtual 39, 3) := by decide +kernel
theorem dX4_judgeRegions_10 : decode cX4_judgeRegions 10 = .ok (.if_icmp .ge 26, 3) := by decide +kernel
theorem dX4_judgeRegions_13 : decode cX4_judgeRegions 13 = .ok (.aload_n 0, 1) := by decide +kernel
theorem dX4_judgeRegions_14 : decode cX4_judgeRegions 14 = .ok (.aload_n 0, 1) := by decide +kernel
theorem dX4_judgeRegions_15 : decode cX4_judgeRegions 15 = .ok (.getfield 29, 3) := by decide +kernel
theorem dX4_judgeRegions_18 : decode cX4_judgeRegions 18 = .ok (.iload_n 1, 1) := by decide +kernel
theorem dX4_judgeRegions_19 : decode cX4_judgeRegions 19 = .ok (.aload_n 0, 1) := by decide +kernel
theorem dX4_judgeRegions_20 : decode cX4_judgeRegions 20 = .ok (.iload_n 1, 1) := by decide +kernel
theorem dX4_judgeRegions_21 : decode cX4_judgeRegions 21 = .ok (.invokevirtual 211, 3) := by decide +kernel
theorem dX4_judgeRegions_24 : decode cX4_judgeRegions 24 = .ok (.invokestatic 87, 3) := by decide +kernel
theorem dX4_judgeRegions_27 : decode cX4_judgeRegions 27 = .ok (.putfield 29, 3) := by decide +kernel
theorem dX4_judgeRegions_30 : decode cX4_judgeRegions 30 = .ok (.iinc 1 1, 3) := by decide +kernel
theorem dX4_judgeRegions_33 : decode cX4_judgeRegions 33 = .ok (.goto (-31), 3) := by decide +kernel
theorem dX4_judgeRegions_36 : decode cX4_judgeRegions 36 = .ok (.return_, 1) := by decide +kernel
set_option maxRecDepth 20000 in
theorem ggX4_votesAreBad_Jx4a65c_size_8abf5 : GoodIn wsX4_votesAreBad wsJx4a65c_size_8abf5 := goodIn_r _ [8, 9, 47, 48, 49] (by decide +kernel) (by decide +kernel)
set_option maxRecDepth 20000 in
theorem gX4_votesAreBad_Jx4a65c_size_8abf5 : GoodIn wsX4_votesAreBad (wsV RX4 39 RJx4a65c yJx4a65c_size_8abf5 wsJx4a65c_size_8abf5) := goodIn_app (goodIn_of _ (by decide +kernel)) ggX4_votesAreBad_Jx4a65c_size_8abf5
set_option maxRecDepth 20000 in
theorem ggX4_votesAreBad_Jx4a65c_get_915e3 : GoodIn wsX4_votesAreBad wsJx4a65c_get_915e3 := goodIn_r _ [13, 9, 14, 15, 16, 17, 18, 19, 20, 21, 22, 23, 24, 7, 25, 26, 47, 48, 49] (by decide +kernel) (by decide +kernel)
set_option maxRecDepth 20000 in
theorem gX4_votesAreBad_Jx4a65c_get_915e3 : GoodIn wsX4_votesAreBad (wsV RX4 50 RJx4a65c yJx4a65c_get_915e3 wsJx4a65c_get_915e3) := goodIn_app (goodIn_of _ (by decide +kernel)) ggX4_votesAreBad_Jx4a65c_get_915e3
theorem dX4_votesAreBad_0 : decode cX4_votesAreBad 0 = .ok (.iconst 0, 1) := by decide +kernel
theorem dX4_votesAreBad_1 : decode cX4_votesAreBad 1 = .ok (.istore_n 2, 1) := by decide +kernel
theorem dX4_votesAreBad_2 : decode cX4_votesAreBad 2 = .ok (.iconst 0, 1) := by decide +kernel
theorem dX4_votesAreBad_3 : decode cX4_votesAreBad 3 = .ok (.istore_n 3, 1) := by decide +kernel
theorem dX4_votesAreBad_4 : decode cX4_votesAreBad 4 = .ok (.iconst 0, 1) := by decide +kernel
theorem dX4_votesAreBad_5 : decode cX4_votesAreBad 5 = .ok (.istore 4, 2) := by decide +kernel
theorem dX4_votesAreBad_7 : decode cX4_votesAreBad 7 = .ok (.iload 4, 2) := by decide +kernel
theorem dX4_votesAreBad_9 : decode cX4_votesAreBad 9 = .ok (.aload_n 0, 1) := by decide +kernel
theorem dX4_votesAreBad_10 : decode cX4_votesAreBad 10 = .ok (.getfield 16, 3) := by decide +kernel
theorem dX4_votesAreBad_13 : decode cX4_votesAreBad 13 = .ok (.invokevirtual 39, 3) := by decide +kernel
theorem dX4_votesAreBad_16 : decode cX4_votesAreBad 16 = .ok (.if_icmp .ge 45, 3) := by decide +kernel
theorem dX4_votesAreBad_19 : decode cX4_votesAreBad 19 = .ok (.aload_n 0, 1) := by decide +kernel
theorem dX4_votesAreBad_20 : decode cX4_votesAreBad 20 = .ok (.getfield 16, 3) := by decide +kernel
theorem dX4_votesAreBad_23 : decode cX4_votesAreBad 23 = .ok (.iload 4, 2) := by decide +kernel
theorem dX4_votesAreBad_25 : decode cX4_votesAreBad 25 = .ok (.invokevirtual 50, 3) := by decide +kernel
theorem dX4_votesAreBad_28 : decode cX4_votesAreBad 28 = .ok (.checkcast 72, 3) := by decide +kernel
theorem dX4_votesAreBad_31 : decode cX4_votesAreBad 31 = .ok (.getfield 127, 3) := by decide +kernel
theorem dX4_votesAreBad_34 : decode cX4_votesAreBad 34 = .ok (.iload_n 1, 1) := by decide +kernel
theorem dX4_votesAreBad_35 : decode cX4_votesAreBad 35 = .ok (.iaload, 1) := by decide +kernel
theorem dX4_votesAreBad_36 : decode cX4_votesAreBad 36 = .ok (.istore 5, 2) := by decide +kernel
theorem dX4_votesAreBad_38 : decode cX4_votesAreBad 38 = .ok (.iload 5, 2) := by decide +kernel
theorem dX4_votesAreBad_40 : decode cX4_votesAreBad 40 = .ok (.ifCond .eq 6, 3) := by decide +kernel
theorem dX4_votesAreBad_43 : decode cX4_votesAreBad 43 = .ok (.iinc 2 1, 3) := by decide +kernel
theorem dX4_votesAreBad_46 : decode cX4_votesAreBad 46 = .ok (.iload 5, 2) := by decide +kernel
theorem dX4_votesAreBad_48 : decode cX4_votesAreBad 48 = .ok (.iconst 2, 1) := by decide +kernel
theorem dX4_votesAreBad_49 : decode cX4_votesAreBad 49 = .ok (.if_icmp .ne 6, 3) := by decide +kernel
theorem dX4_votesAreBad_52 : decode cX4_votesAreBad 52 = .ok (.iinc 3 1, 3) := by decide +kernel
theorem dX4_votesAreBad_55 : decode cX4_votesAreBad 55 = .ok (.iinc 4 1, 3) := by decide +kernel
theorem dX4_votesAreBad_58 : decode cX4_votesAreBad 58 = .ok (.goto (-51), 3) := by decide +kernel
theorem dX4_votesAreBad_61 : decode cX4_votesAreBad 61 = .ok (.iload_n 2, 1) := by decide +kernel
theorem dX4_votesAreBad_62 : decode cX4_votesAreBad 62 = .ok (.iconst 2, 1) := by decide +kernel
theorem dX4_votesAreBad_63 : decode cX4_votesAreBad 63 = .ok (.if_icmp .lt 14, 3) := by decide +kernel
theorem dX4_votesAreBad_66 : decode cX4_votesAreBad 66 = .ok (.iconst 2, 1) := by decide +kernel
theorem dX4_votesAreBad_67 : decode cX4_votesAreBad 67 = .ok (.iload_n 3, 1) := by decide +kernel
theorem dX4_votesAreBad_68 : decode cX4_votesAreBad 68 = .ok (.imul, 1) := by decide +kernel
theorem dX4_votesAreBad_69 : decode cX4_votesAreBad 69 = .ok (.iload_n 2, 1) := by decide +kernel
theorem dX4_votesAreBad_70 : decode cX4_votesAreBad 70 = .ok (.if_icmp .le 7, 3) := by decide +kernel
theorem dX4_votesAreBad_73 : decode cX4_votesAreBad 73 = .ok (.iconst 1, 1) := by decide +kernel
theorem dX4_votesAreBad_74 : decode cX4_votesAreBad 74 = .ok (.goto 4, 3) := by decide +kernel
theorem dX4_votesAreBad_77 : decode cX4_votesAreBad 77 = .ok (.iconst 0, 1) := by decide +kernel
theorem dX4_votesAreBad_78 : decode cX4_votesAreBad 78 = .ok (.ireturn, 1) := by decide +kernel
set_option maxRecDepth 20000 in
theorem ggX4_judgeChecks_Jx4a65c_size_8abf5 : GoodIn wsX4_judgeChecks wsJx4a65c_size_8abf5 := goodIn_r _ [7, 8, 63, 64, 65] (by decide +kernel) (by decide +kernel)
set_option maxRecDepth 20000 in
theorem gX4_judgeChecks_Jx4a65c_size_8abf5 : GoodIn wsX4_judgeChecks (wsV RX4 39 RJx4a65c yJx4a65c_size_8abf5 wsJx4a65c_size_8abf5) := goodIn_app (goodIn_of _ (by decide +kernel)) ggX4_judgeChecks_Jx4a65c_size_8abf5
set_option maxRecDepth 20000 in
theorem ggX4_judgeChecks_Jx4a65c_get_915e3 : GoodIn wsX4_judgeChecks wsJx4a65c_get_915e3 := goodIn_r _ [12, 8, 13, 14, 15, 16, 17, 18, 19, 20, 21, 22, 23, 6, 24, 25, 63, 64, 65] (by decide +kernel) (by decide +kernel)
set_option maxRecDepth 20000 in
theorem gX4_judgeChecks_Jx4a65c_get_915e3 : GoodIn wsX4_judgeChecks (wsV RX4 50 RJx4a65c yJx4a65c_get_915e3 wsJx4a65c_get_915e3) := goodIn_app (goodIn_of _ (by decide +kernel)) ggX4_judgeChecks_Jx4a65c_get_915e3
set_option maxRecDepth 20000 in
theorem ggX4_judgeChecks_X4_trustedRegions : GoodIn wsX4_judgeChecks wsX4_trustedRegions := goodIn_r _ [30, 31, 32, 33, 34, 35, 3, 4, 5, 6, 7, 8, 9, 10, 11, 12, 13, 14, 15, 16, 17, 18, 19, 20, 21, 22, 23, 24, 25, 36, 37, 29, 38, 56, 57, 58, 59, 60, 61, 62, 66, 67, 68, 69, 70, 71, 72, 73, 74, 75, 76, 77, 78, 79, 80, 81, 82, 63, 64, 65] (by decide +kernel) (by decide +kernel)
set_option maxRecDepth 20000 in
theorem gX4_judgeChecks_X4_trustedRegions : GoodIn wsX4_judgeChecks (wsV RX4 139 RX4 yX4_trustedRegions wsX4_trustedRegions) := goodIn_app (goodIn_of _ (by decide +kernel)) ggX4_judgeChecks_X4_trustedRegions
set_option maxRecDepth 20000 in
theorem ggX4_judgeChecks_X1_judge : GoodIn wsX4_judgeChecks wsX1_judge := goodIn_r _ [43, 44, 45, 46, 47, 29, 48, 49, 50, 51, 52, 53, 54, 55, 66, 67, 68, 69, 70, 71, 72, 73, 74, 75, 76, 77, 78] (by decide +kernel) (by decide +kernel)
set_option maxRecDepth 20000 in
theorem gX4_judgeChecks_X1_judge : GoodIn wsX4_judgeChecks (wsV RX4 215 RX1 yX1_judge wsX1_judge) := goodIn_app (goodIn_of _ (by decide +kernel)) ggX4_judgeChecks_X1_judge
theorem dX4_judgeChecks_0 : decode cX4_judgeChecks 0 = .ok (.iconst 0, 1) := by decide +kernel
theorem dX4_judgeChecks_1 : decode cX4_judgeChecks 1 = .ok (.istore_n 1, 1) := by decide +kernel
theorem dX4_judgeChecks_2 : decode cX4_judgeChecks 2 = .ok (.iload_n 1, 1) := by decide +kernel
theorem dX4_judgeChecks_3 : decode cX4_judgeChecks 3 = .ok (.aload_n 0, 1) := by decide +kernel
theorem dX4_judgeChecks_4 : decode cX4_judgeChecks 4 = .ok (.getfield 16, 3) := by decide +kernel
theorem dX4_judgeChecks_7 : decode cX4_judgeChecks 7 = .ok (.invokevirtual 39, 3) := by decide +kernel
theorem dX4_judgeChecks_10 : decode cX4_judgeChecks 10 = .ok (.if_icmp .ge 30, 3) := by decide +kernel
theorem dX4_judgeChecks_13 : decode cX4_judgeChecks 13 = .ok (.aload_n 0, 1) := by decide +kernel
theorem dX4_judgeChecks_14 : decode cX4_judgeChecks 14 = .ok (.getfield 16, 3) := by decide +kernel
theorem dX4_judgeChecks_17 : decode cX4_judgeChecks 17 = .ok (.iload_n 1, 1) := by decide +kernel
theorem dX4_judgeChecks_18 : decode cX4_judgeChecks 18 = .ok (.invokevirtual 50, 3) := by decide +kernel
theorem dX4_judgeChecks_21 : decode cX4_judgeChecks 21 = .ok (.checkcast 72, 3) := by decide +kernel
theorem dX4_judgeChecks_24 : decode cX4_judgeChecks 24 = .ok (.astore_n 2, 1) := by decide +kernel
theorem dX4_judgeChecks_25 : decode cX4_judgeChecks 25 = .ok (.aload_n 2, 1) := by decide +kernel
theorem dX4_judgeChecks_26 : decode cX4_judgeChecks 26 = .ok (.aload_n 0, 1) := by decide +kernel
theorem dX4_judgeChecks_27 : decode cX4_judgeChecks 27 = .ok (.aload_n 2, 1) := by decide +kernel
theorem dX4_judgeChecks_28 : decode cX4_judgeChecks 28 = .ok (.invokevirtual 139, 3) := by decide +kernel
theorem dX4_judgeChecks_31 : decode cX4_judgeChecks 31 = .ok (.invokevirtual 215, 3) := by decide +kernel
theorem dX4_judgeChecks_34 : decode cX4_judgeChecks 34 = .ok (.iinc 1 1, 3) := by decide +kernel
theorem dX4_judgeChecks_37 : decode cX4_judgeChecks 37 = .ok (.goto (-35), 3) := by decide +kernel
theorem dX4_judgeChecks_40 : decode cX4_judgeChecks 40 = .ok (.return_, 1) := by decide +kernel
set_option maxRecDepth 20000 in
theorem ggX4_trustedRegions_Jx4a65c_size_8abf5 : GoodIn wsX4_trustedRegions wsJx4a65c_size_8abf5 := goodIn_r _ [10, 11, 57, 58, 59] (by decide +kernel) (by decide +kernel)
set_option maxRecDepth 20000 in
theorem gX4_trustedRegions_Jx4a65c_size_8abf5 : GoodIn wsX4_trustedRegions (wsV RX4 39 RJx4a65c yJx4a65c_size_8abf5 wsJx4a65c_size_8abf5) := goodIn_app (goodIn_of _ (by decide +kernel)) ggX4_trustedRegions_Jx4a65c_size_8abf5
set_option maxRecDepth 20000 in
theorem ggX4_trustedRegions_Jx4a65c_get_915e3 : GoodIn wsX4_trustedRegions wsJx4a65c_get_915e3 := goodIn_r _ [15, 11, 16, 17, 18, 19, 20, 21, 22, 23, 24, 25, 26, 9, 27, 28, 57, 58, 59] (by decide +kernel) (by decide +kernel)
set_option maxRecDepth 20000 in
theorem gX4_trustedRegions_Jx4a65c_get_915e3 : GoodIn wsX4_trustedRegions (wsV RX4 50 RJx4a65c yJx4a65c_get_915e3 wsJx4a65c_get_915e3) := goodIn_app (goodIn_of _ (by decide +kernel)) ggX4_trustedRegions_Jx4a65c_get_915e3
set_option maxRecDepth 20000 in
theorem ggX4_trustedRegions_X4_withRegion : GoodIn wsX4_trustedRegions wsX4_withRegion := goodIn_r _ [32] (by decide +kernel) (by decide +kernel)
set_option maxRecDepth 20000 in
theorem gX4_trustedRegions_X4_withRegion : GoodIn wsX4_trustedRegions (va_wsS RX4 87 yX4_withRegion wsX4_withRegion) := goodIn_app (goodIn_of _ (by decide +kernel)) ggX4_trustedRegions_X4_withRegion
theorem dX4_trustedRegions_0 : decode cX4_trustedRegions 0 = .ok (.iconst 0, 1) := by decide +kernel
theorem dX4_trustedRegions_1 : decode cX4_trustedRegions 1 = .ok (.istore_n 2, 1) := by decide +kernel
theorem dX4_trustedRegions_2 : decode cX4_trustedRegions 2 = .ok (.iconst 0, 1) := by decide +kernel
theorem dX4_trustedRegions_3 : decode cX4_trustedRegions 3 = .ok (.istore_n 3, 1) := by decide +kernel
theorem dX4_trustedRegions_4 : decode cX4_trustedRegions 4 = .ok (.iload_n 3, 1) := by decide +kernel
theorem dX4_trustedRegions_5 : decode cX4_trustedRegions 5 = .ok (.aload_n 0, 1) := by decide +kernel
theorem dX4_trustedRegions_6 : decode cX4_trustedRegions 6 = .ok (.getfield 10, 3) := by decide +kernel
theorem dX4_trustedRegions_9 : decode cX4_trustedRegions 9 = .ok (.invokevirtual 39, 3) := by decide +kernel
theorem dX4_trustedRegions_12 : decode cX4_trustedRegions 12 = .ok (.if_icmp .ge 55, 3) := by decide +kernel
theorem dX4_trustedRegions_15 : decode cX4_trustedRegions 15 = .ok (.aload_n 1, 1) := by decide +kernel
theorem dX4_trustedRegions_16 : decode cX4_trustedRegions 16 = .ok (.getfield 127, 3) := by decide +kernel
theorem dX4_trustedRegions_19 : decode cX4_trustedRegions 19 = .ok (.iload_n 3, 1) := by decide +kernel
theorem dX4_trustedRegions_20 : decode cX4_trustedRegions 20 = .ok (.iaload, 1) := by decide +kernel
theorem dX4_trustedRegions_21 : decode cX4_trustedRegions 21 = .ok (.ifCond .eq 29, 3) := by decide +kernel
theorem dX4_trustedRegions_24 : decode cX4_trustedRegions 24 = .ok (.aload_n 0, 1) := by decide +kernel
theorem dX4_trustedRegions_25 : decode cX4_trustedRegions 25 = .ok (.getfield 10, 3) := by decide +kernel
theorem dX4_trustedRegions_28 : decode cX4_trustedRegions 28 = .ok (.iload_n 3, 1) := by decide +kernel
theorem dX4_trustedRegions_29 : decode cX4_trustedRegions 29 = .ok (.invokevirtual 50, 3) := by decide +kernel
theorem dX4_trustedRegions_32 : decode cX4_trustedRegions 32 = .ok (.checkcast 54, 3) := by decide +kernel
theorem dX4_trustedRegions_35 : decode cX4_trustedRegions 35 = .ok (.getfield 56, 3) := by decide +kernel
theorem dX4_trustedRegions_38 : decode cX4_trustedRegions 38 = .ok (.aload_n 0, 1) := by decide +kernel
theorem dX4_trustedRegions_39 : decode cX4_trustedRegions 39 = .ok (.getfield 29, 3) := by decide +kernel
theorem dX4_trustedRegions_42 : decode cX4_trustedRegions 42 = .ok (.iand, 1) := by decide +kernel
theorem dX4_trustedRegions_43 : decode cX4_trustedRegions 43 = .ok (.ifCond .ne 7, 3) := by decide +kernel
theorem dX4_trustedRegions_46 : decode cX4_trustedRegions 46 = .ok (.iconst 1, 1) := by decide +kernel
theorem dX4_trustedRegions_47 : decode cX4_trustedRegions 47 = .ok (.goto 4, 3) := by decide +kernel
theorem dX4_trustedRegions_50 : decode cX4_trustedRegions 50 = .ok (.iconst 0, 1) := by decide +kernel
theorem dX4_trustedRegions_51 : decode cX4_trustedRegions 51 = .ok (.istore 4, 2) := by decide +kernel
theorem dX4_trustedRegions_53 : decode cX4_trustedRegions 53 = .ok (.iload_n 2, 1) := by decide +kernel
theorem dX4_trustedRegions_54 : decode cX4_trustedRegions 54 = .ok (.iload_n 3, 1) := by decide +kernel
theorem dX4_trustedRegions_55 : decode cX4_trustedRegions 55 = .ok (.iload 4, 2) := by decide +kernel
theorem dX4_trustedRegions_57 : decode cX4_trustedRegions 57 = .ok (.invokestatic 87, 3) := by decide +kernel
theorem dX4_trustedRegions_60 : decode cX4_trustedRegions 60 = .ok (.istore_n 2, 1) := by decide +kernel
theorem dX4_trustedRegions_61 : decode cX4_trustedRegions 61 = .ok (.iinc 3 1, 3) := by decide +kernel
theorem dX4_trustedRegions_64 : decode cX4_trustedRegions 64 = .ok (.goto (-60), 3) := by decide +kernel
theorem dX4_trustedRegions_67 : decode cX4_trustedRegions 67 = .ok (.iload_n 2, 1) := by decide +kernel
theorem dX4_trustedRegions_68 : decode cX4_trustedRegions 68 = .ok (.ireturn, 1) := by decide +kernel
set_option maxRecDepth 20000 in
theorem ggX4_raiseAndCloseAlarms_Jx4a65c_size_8abf5 : GoodIn wsX4_raiseAndCloseAlarms wsJx4a65c_size_8abf5 := goodIn_r _ [11, 12, 140, 141, 142] (by decide +kernel) (by decide +kernel)
set_option maxRecDepth 20000 in
theorem gX4_raiseAndCloseAlarms_Jx4a65c_size_8abf5 : GoodIn wsX4_raiseAndCloseAlarms (wsV RX4 39 RJx4a65c yJx4a65c_size_8abf5 wsJx4a65c_size_8abf5) := goodIn_app (goodIn_of _ (by decide +kernel)) ggX4_raiseAndCloseAlarms_Jx4a65c_size_8abf5
set_option maxRecDepth 20000 in
theorem ggX4_raiseAndCloseAlarms_Jx4a65c_get_915e3 : GoodIn wsX4_raiseAndCloseAlarms wsJx4a65c_get_915e3 := goodIn_r _ [16, 12, 17, 18, 19, 20, 21, 22, 23, 24, 25, 26, 27, 10, 28, 29, 140, 141, 142] (by decide +kernel) (by decide +kernel)
set_option maxRecDepth 20000 in
theorem gX4_raiseAndCloseAlarms_Jx4a65c_get_915e3 : GoodIn wsX4_raiseAndCloseAlarms (wsV RX4 50 RJx4a65c yJx4a65c_get_915e3 wsJx4a65c_get_915e3) := goodIn_app (goodIn_of _ (by decide +kernel)) ggX4_raiseAndCloseAlarms_Jx4a65c_get_915e3
set_option maxRecDepth 20000 in
theorem ggX4_raiseAndCloseAlarms_X4_isMaintained : GoodIn wsX4_raiseAndCloseAlarms wsX4_isMaintained := goodIn_r _ [34, 35, 36, 37, 38, 5, 7, 8, 9, 10, 11, 12, 13, 14, 15, 16, 17, 18, 19, 20, 21, 22, 23, 24, 25, 26, 27, 28, 29, 39, 40, 41, 42, 43, 44, 45, 117, 118, 119, 120, 121, 122, 123, 143, 144, 145, 124, 125, 126, 127, 128, 129, 130, 131, 132, 133, 134, 135, 136, 140, 141, 142] (by decide +kernel) (by decide +kernel)
set_option maxRecDepth 20000 in
theorem gX4_raiseAndCloseAlarms_X4_isMaintained : GoodIn wsX4_raiseAndCloseAlarms (wsV RX4 218 RX4 yX4_isMaintained wsX4_isMaintained) := goodIn_app (goodIn_of _ (by decide +kernel)) ggX4_raiseAndCloseAlarms_X4_isMaintained
set_option maxRecDepth 20000 in
theorem ggX4_raiseAndCloseAlarms_X4_raiseAlarm : GoodIn wsX4_raiseAndCloseAlarms wsX4_raiseAlarm := goodIn_r _ [49, 50, 51, 52, 53, 54, 38, 5, 4, 7, 8, 9, 10, 11, 12, 55, 56, 57, 58, 59, 60, 61, 62, 63, 64, 65, 66, 67, 68, 69, 29, 70, 71, 72, 73, 74, 75, 76, 77, 78, 79, 80, 81, 82, 83, 84, 85, 86, 87, 88, 89, 90, 91, 92, 93, 94, 95, 96, 97, 98, 99, 100, 101, 102, 103, 104, 105, 106, 107, 108, 109, 110, 111, 112, 113, 114, 115, 116, 117, 118, 119, 120, 121, 122, 123, 137, 138, 139, 124, 125, 126, 127, 128, 129, 130, 131, 132, 133, 134, 135, 136, 140, 141, 142] (by decide +kernel) (by decide +kernel)
set_option maxRecDepth 20000 in
theorem gX4_raiseAndCloseAlarms_X4_raiseAlarm : GoodIn wsX4_raiseAndCloseAlarms (wsV RX4 222 RX4 yX4_raiseAlarm wsX4_raiseAlarm) := goodIn_app (goodIn_of _ (by decide +kernel)) ggX4_raiseAndCloseAlarms_X4_raiseAlarm
theorem dX4_raiseAndCloseAlarms_0 : decode cX4_raiseAndCloseAlarms 0 = .ok (.iconst 0, 1) := by decide +kernel
theorem dX4_raiseAndCloseAlarms_1 : decode cX4_raiseAndCloseAlarms 1 = .ok (.istore_n 1, 1) := by decide +kernel
theorem dX4_raiseAndCloseAlarms_2 : decode cX4_raiseAndCloseAlarms 2 = .ok (.iload_n 1, 1) := by decide +kernel
theorem dX4_raiseAndCloseAlarms_3 : decode cX4_raiseAndCloseAlarms 3 = .ok (.aload_n 0, 1) := by decide +kernel
theorem dX4_raiseAndCloseAlarms_4 : decode cX4_raiseAndCloseAlarms 4 = .ok (.getfield 16, 3) := by decide +kernel
theorem dX4_raiseAndCloseAlarms_7 : decode cX4_raiseAndCloseAlarms 7 = .ok (.invokevirtual 39, 3) := by decide +kernel
theorem dX4_raiseAndCloseAlarms_10 : decode cX4_raiseAndCloseAlarms 10 = .ok (.if_icmp .ge 83, 3) := by decide +kernel
theorem dX4_raiseAndCloseAlarms_13 : decode cX4_raiseAndCloseAlarms 13 = .ok (.aload_n 0, 1) := by decide +kernel
theorem dX4_raiseAndCloseAlarms_14 : decode cX4_raiseAndCloseAlarms 14 = .ok (.getfield 16, 3) := by decide +kernel
theorem dX4_raiseAndCloseAlarms_17 : decode cX4_raiseAndCloseAlarms 17 = .ok (.iload_n 1, 1) := by decide +kernel
theorem dX4_raiseAndCloseAlarms_18 : decode cX4_raiseAndCloseAlarms 18 = .ok (.invokevirtual 50, 3) := by decide +kernel
theorem dX4_raiseAndCloseAlarms_21 : decode cX4_raiseAndCloseAlarms 21 = .ok (.checkcast 72, 3) := by decide +kernel
theorem dX4_raiseAndCloseAlarms_24 : decode cX4_raiseAndCloseAlarms 24 = .ok (.astore_n 2, 1) := by decide +kernel
theorem dX4_raiseAndCloseAlarms_25 : decode cX4_raiseAndCloseAlarms 25 = .ok (.aload_n 2, 1) := by decide +kernel
theorem dX4_raiseAndCloseAlarms_26 : decode cX4_raiseAndCloseAlarms 26 = .ok (.getfield 136, 3) := by decide +kernel
theorem dX4_raiseAndCloseAlarms_29 : decode cX4_raiseAndCloseAlarms 29 = .ok (.iconst 2, 1) := by decide +kernel
theorem dX4_raiseAndCloseAlarms_30 : decode cX4_raiseAndCloseAlarms 30 = .ok (.if_icmp .ne 26, 3) := by decide +kernel
theorem dX4_raiseAndCloseAlarms_33 : decode cX4_raiseAndCloseAlarms 33 = .ok (.aload_n 2, 1) := by decide +kernel
theorem dX4_raiseAndCloseAlarms_34 : decode cX4_raiseAndCloseAlarms 34 = .ok (.getfield 143, 3) := by decide +kernel
theorem dX4_raiseAndCloseAlarms_37 : decode cX4_raiseAndCloseAlarms 37 = .ok (.ifnonnull 19, 3) := by decide +kernel
theorem dX4_raiseAndCloseAlarms_40 : decode cX4_raiseAndCloseAlarms 40 = .ok (.aload_n 0, 1) := by decide +kernel
theorem dX4_raiseAndCloseAlarms_41 : decode cX4_raiseAndCloseAlarms 41 = .ok (.aload_n 2, 1) := by decide +kernel
theorem dX4_raiseAndCloseAlarms_42 : decode cX4_raiseAndCloseAlarms 42 = .ok (.invokevirtual 218, 3) := by decide +kernel
theorem dX4_raiseAndCloseAlarms_45 : decode cX4_raiseAndCloseAlarms 45 = .ok (.ifCond .ne 11, 3) := by decide +kernel
theorem dX4_raiseAndCloseAlarms_48 : decode cX4_raiseAndCloseAlarms 48 = .ok (.aload_n 0, 1) := by decide +kernel
theorem dX4_raiseAndCloseAlarms_49 : decode cX4_raiseAndCloseAlarms 49 = .ok (.aload_n 2, 1) := by decide +kernel
theorem dX4_raiseAndCloseAlarms_50 : decode cX4_raiseAndCloseAlarms 50 = .ok (.invokevirtual 222, 3) := by decide +kernel
theorem dX4_raiseAndCloseAlarms_53 : decode cX4_raiseAndCloseAlarms 53 = .ok (.goto 34, 3) := by decide +kernel
theorem dX4_raiseAndCloseAlarms_56 : decode cX4_raiseAndCloseAlarms 56 = .ok (.aload_n 2, 1) := by decide +kernel
theorem dX4_raiseAndCloseAlarms_57 : decode cX4_raiseAndCloseAlarms 57 = .ok (.getfield 136, 3) := by decide +kernel
theorem dX4_raiseAndCloseAlarms_60 : decode cX4_raiseAndCloseAlarms 60 = .ok (.iconst 1, 1) := by decide +kernel
theorem dX4_raiseAndCloseAlarms_61 : decode cX4_raiseAndCloseAlarms 61 = .ok (.if_icmp .ne 26, 3) := by decide +kernel
theorem dX4_raiseAndCloseAlarms_64 : decode cX4_raiseAndCloseAlarms 64 = .ok (.aload_n 2, 1) := by decide +kernel
theorem dX4_raiseAndCloseAlarms_65 : decode cX4_raiseAndCloseAlarms 65 = .ok (.getfield 143, 3) := by decide +kernel
theorem dX4_raiseAndCloseAlarms_68 : decode cX4_raiseAndCloseAlarms 68 = .ok (.ifnull 19, 3) := by decide +kernel
theorem dX4_raiseAndCloseAlarms_71 : decode cX4_raiseAndCloseAlarms 71 = .ok (.aload_n 2, 1) := by decide +kernel
theorem dX4_raiseAndCloseAlarms_72 : decode cX4_raiseAndCloseAlarms 72 = .ok (.getfield 143, 3) := by decide +kernel
theorem dX4_raiseAndCloseAlarms_75 : decode cX4_raiseAndCloseAlarms 75 = .ok (.aload_n 0, 1) := by decide +kernel
theorem dX4_raiseAndCloseAlarms_76 : decode cX4_raiseAndCloseAlarms 76 = .ok (.getfield 32, 3) := by decide +kernel
theorem dX4_raiseAndCloseAlarms_79 : decode cX4_raiseAndCloseAlarms 79 = .ok (.putfield 158, 3) := by decide +kernel
theorem dX4_raiseAndCloseAlarms_82 : decode cX4_raiseAndCloseAlarms 82 = .ok (.aload_n 2, 1) := by decide +kernel
theorem dX4_raiseAndCloseAlarms_83 : decode cX4_raiseAndCloseAlarms 83 = .ok (.aconst_null, 1) := by decide +kernel
theorem dX4_raiseAndCloseAlarms_84 : decode cX4_raiseAndCloseAlarms 84 = .ok (.putfield 143, 3) := by decide +kernel
theorem dX4_raiseAndCloseAlarms_87 : decode cX4_raiseAndCloseAlarms 87 = .ok (.iinc 1 1, 3) := by decide +kernel
theorem dX4_raiseAndCloseAlarms_90 : decode cX4_raiseAndCloseAlarms 90 = .ok (.goto (-88), 3) := by decide +kernel
theorem dX4_raiseAndCloseAlarms_93 : decode cX4_raiseAndCloseAlarms 93 = .ok (.return_, 1) := by decide +kernel
set_option maxRecDepth 20000 in
theorem ggX4_isMaintained_Jx4a65c_size_8abf5 : GoodIn wsX4_isMaintained wsJx4a65c_size_8abf5 := goodIn_r _ [10, 11, 59, 60, 61] (by decide +kernel) (by decide +kernel)
set_option maxRecDepth 20000 in
theorem gX4_isMaintained_Jx4a65c_size_8abf5 : GoodIn wsX4_isMaintained (wsV RX4 39 RJx4a65c yJx4a65c_size_8abf5 wsJx4a65c_size_8abf5) := goodIn_app (goodIn_of _ (by decide +kernel)) ggX4_isMaintained_Jx4a65c_size_8abf5
set_option maxRecDepth 20000 in
theorem ggX4_isMaintained_Jx4a65c_get_915e3 : GoodIn wsX4_isMaintained wsJx4a65c_get_915e3 := goodIn_r _ [15, 11, 16, 17, 18, 19, 20, 21, 22, 23, 24, 25, 26, 9, 27, 28, 59, 60, 61] (by decide +kernel) (by decide +kernel)
set_option maxRecDepth 20000 in
theorem gX4_isMaintained_Jx4a65c_get_915e3 : GoodIn wsX4_isMaintained (wsV RX4 50 RJx4a65c yJx4a65c_get_915e3 wsJx4a65c_get_915e3) := goodIn_app (goodIn_of _ (by decide +kernel)) ggX4_isMaintained_Jx4a65c_get_915e3
set_option maxRecDepth 20000 in
theorem ggX4_isMaintained_X3_contains : GoodIn wsX4_isMaintained wsX3_contains := goodIn_r _ [33, 34, 35, 43, 44, 45] (by decide +kernel) (by decide +kernel)
set_option maxRecDepth 20000 in
theorem gX4_isMaintained_X3_contains : GoodIn wsX4_isMaintained (wsV RX4 228 RX3 yX3_contains wsX3_contains) := goodIn_app (goodIn_of _ (by decide +kernel)) ggX4_isMaintained_X3_contains
theorem dX4_isMaintained_0 : decode cX4_isMaintained 0 = .ok (.iconst 0, 1) := by decide +kernel
theorem dX4_isMaintained_1 : decode cX4_isMaintained 1 = .ok (.istore_n 2, 1) := by decide +kernel
theorem dX4_isMaintained_2 : decode cX4_isMaintained 2 = .ok (.iload_n 2, 1) := by decide +kernel
theorem dX4_isMaintained_3 : decode cX4_isMaintained 3 = .ok (.aload_n 0, 1) := by decide +kernel
theorem dX4_isMaintained_4 : decode cX4_isMaintained 4 = .ok (.getfield 19, 3) := by decide +kernel
theorem dX4_isMaintained_7 : decode cX4_isMaintained 7 = .ok (.invokevirtual 39, 3) := by decide +kernel
theorem dX4_isMaintained_10 : decode cX4_isMaintained 10 = .ok (.if_icmp .ge 45, 3) := by decide +kernel
theorem dX4_isMaintained_13 : decode cX4_isMaintained 13 = .ok (.aload_n 0, 1) := by decide +kernel
theorem dX4_isMaintained_14 : decode cX4_isMaintained 14 = .ok (.getfield 19, 3) := by decide +kernel
theorem dX4_isMaintained_17 : decode cX4_isMaintained 17 = .ok (.iload_n 2, 1) := by decide +kernel
theorem dX4_isMaintained_18 : decode cX4_isMaintained 18 = .ok (.invokevirtual 50, 3) := by decide +kernel
theorem dX4_isMaintained_21 : decode cX4_isMaintained 21 = .ok (.checkcast 97, 3) := by decide +kernel
theorem dX4_isMaintained_24 : decode cX4_isMaintained 24 = .ok (.astore_n 3, 1) := by decide +kernel
theorem dX4_isMaintained_25 : decode cX4_isMaintained 25 = .ok (.aload_n 3, 1) := by decide +kernel
theorem dX4_isMaintained_26 : decode cX4_isMaintained 26 = .ok (.getfield 226, 3) := by decide +kernel
theorem dX4_isMaintained_29 : decode cX4_isMaintained 29 = .ok (.aload_n 1, 1) := by decide +kernel
theorem dX4_isMaintained_30 : decode cX4_isMaintained 30 = .ok (.getfield 227, 3) := by decide +kernel
theorem dX4_isMaintained_33 : decode cX4_isMaintained 33 = .ok (.if_icmp .ne 16, 3) := by decide +kernel
theorem dX4_isMaintained_36 : decode cX4_isMaintained 36 = .ok (.aload_n 3, 1) := by decide +kernel
theorem dX4_isMaintained_37 : decode cX4_isMaintained 37 = .ok (.aload_n 0, 1) := by decide +kernel
theorem dX4_isMaintained_38 : decode cX4_isMaintained 38 = .ok (.getfield 32, 3) := by decide +kernel
theorem dX4_isMaintained_41 : decode cX4_isMaintained 41 = .ok (.invokevirtual 228, 3) := by decide +kernel
theorem dX4_isMaintained_44 : decode cX4_isMaintained 44 = .ok (.ifCond .eq 5, 3) := by decide +kernel
theorem dX4_isMaintained_47 : decode cX4_isMaintained 47 = .ok (.iconst 1, 1) := by decide +kernel
theorem dX4_isMaintained_48 : decode cX4_isMaintained 48 = .ok (.ireturn, 1) := by decide +kernel
theorem dX4_isMaintained_49 : decode cX4_isMaintained 49 = .ok (.iinc 2 1, 3) := by decide +kernel
theorem dX4_isMaintained_52 : decode cX4_isMaintained 52 = .ok (.goto (-50), 3) := by decide +kernel
theorem dX4_isMaintained_55 : decode cX4_isMaintained 55 = .ok (.iconst 0, 1) := by decide +kernel
theorem dX4_isMaintained_56 : decode cX4_isMaintained 56 = .ok (.ireturn, 1) := by decide +kernel
set_option maxRecDepth 20000 in
theorem ggX4_raiseAlarm_Jx4a65c_size_8abf5 : GoodIn wsX4_raiseAlarm wsJx4a65c_size_8abf5 := goodIn_r _ [13, 14, 101, 102, 103] (by decide +kernel) (by decide +kernel)
set_option maxRecDepth 20000 in
theorem gX4_raiseAlarm_Jx4a65c_size_8abf5 : GoodIn wsX4_raiseAlarm (wsV RX4 39 RJx4a65c yJx4a65c_size_8abf5 wsJx4a65c_size_8abf5) := goodIn_app (goodIn_of _ (by decide +kernel)) ggX4_raiseAlarm_Jx4a65c_size_8abf5
set_option maxRecDepth 20000 in
theorem ggX4_raiseAlarm_X0_init : GoodIn wsX4_raiseAlarm wsX0_init := goodIn_r _ [17, 18, 19, 20, 21, 22, 23, 85, 86, 87] (by decide +kernel) (by decide +kernel)
set_option maxRecDepth 20000 in
theorem gX4_raiseAlarm_X0_init : GoodIn wsX4_raiseAlarm (wsX0_init) := ggX4_raiseAlarm_X0_init
set_option maxRecDepth 20000 in
theorem ggX4_raiseAlarm_Jx4a65c_add_9ea2d : GoodIn wsX4_raiseAlarm wsJx4a65c_add_9ea2d := goodIn_r _ [27, 28, 29, 30, 14, 31, 32, 33, 12, 34, 35, 36, 37, 38, 39, 40, 41, 42, 43, 44, 45, 46, 47, 48, 49, 50, 51, 52, 53, 54, 55, 56, 57, 58, 59, 60, 61, 62, 63, 64, 65, 66, 67, 68, 69, 70, 71, 72, 73, 74, 75, 76, 77, 101, 102, 103] (by decide +kernel) (by decide +kernel)
set_option maxRecDepth 20000 in
theorem gX4_raiseAlarm_Jx4a65c_add_9ea2d : GoodIn wsX4_raiseAlarm (wsV RX4 62 RJx4a65c yJx4a65c_add_9ea2d wsJx4a65c_add_9ea2d) := goodIn_app (goodIn_of _ (by decide +kernel)) ggX4_raiseAlarm_Jx4a65c_add_9ea2d
theorem dX4_raiseAlarm_0 : decode cX4_raiseAlarm 0 = .ok (.aload_n 0, 1) := by decide +kernel
theorem dX4_raiseAlarm_1 : decode cX4_raiseAlarm 1 = .ok (.getfield 22, 3) := by decide +kernel
theorem dX4_raiseAlarm_4 : decode cX4_raiseAlarm 4 = .ok (.invokevirtual 39, 3) := by decide +kernel
theorem dX4_raiseAlarm_7 : decode cX4_raiseAlarm 7 = .ok (.ldc 231, 2) := by decide +kernel
theorem dX4_raiseAlarm_9 : decode cX4_raiseAlarm 9 = .ok (.if_icmp .ge 34, 3) := by decide +kernel
theorem dX4_raiseAlarm_12 : decode cX4_raiseAlarm 12 = .ok (.aload_n 1, 1) := by decide +kernel
theorem dX4_raiseAlarm_13 : decode cX4_raiseAlarm 13 = .ok (.new 150, 3) := by decide +kernel
theorem dX4_raiseAlarm_16 : decode cX4_raiseAlarm 16 = .ok (.dup, 1) := by decide +kernel
theorem dX4_raiseAlarm_17 : decode cX4_raiseAlarm 17 = .ok (.aload_n 1, 1) := by decide +kernel
theorem dX4_raiseAlarm_18 : decode cX4_raiseAlarm 18 = .ok (.getfield 227, 3) := by decide +kernel
theorem dX4_raiseAlarm_21 : decode cX4_raiseAlarm 21 = .ok (.aload_n 0, 1) := by decide +kernel
theorem dX4_raiseAlarm_22 : decode cX4_raiseAlarm 22 = .ok (.getfield 32, 3) := by decide +kernel
theorem dX4_raiseAlarm_25 : decode cX4_raiseAlarm 25 = .ok (.invokespecial 232, 3) := by decide +kernel
theorem dX4_raiseAlarm_28 : decode cX4_raiseAlarm 28 = .ok (.putfield 143, 3) := by decide +kernel
theorem dX4_raiseAlarm_31 : decode cX4_raiseAlarm 31 = .ok (.aload_n 0, 1) := by decide +kernel
theorem dX4_raiseAlarm_32 : decode cX4_raiseAlarm 32 = .ok (.getfield 22, 3) := by decide +kernel
theorem dX4_raiseAlarm_35 : decode cX4_raiseAlarm 35 = .ok (.aload_n 1, 1) := by decide +kernel
theorem dX4_raiseAlarm_36 : decode cX4_raiseAlarm 36 = .ok (.getfield 143, 3) := by decide +kernel
theorem dX4_raiseAlarm_39 : decode cX4_raiseAlarm 39 = .ok (.invokevirtual 62, 3) := by decide +kernel
theorem dX4_raiseAlarm_42 : decode cX4_raiseAlarm 42 = .ok (.pop, 1) := by decide +kernel
theorem dX4_raiseAlarm_43 : decode cX4_raiseAlarm 43 = .ok (.return_, 1) := by decide +kernel
set_option maxRecDepth 20000 in
theorem ggX4_countMinute_Jx4a65c_size_8abf5 : GoodIn wsX4_countMinute wsJx4a65c_size_8abf5 := goodIn_r _ [10, 11, 49, 50, 51] (by decide +kernel) (by decide +kernel)
set_option maxRecDepth 20000 in
theorem gX4_countMinute_Jx4a65c_size_8abf5 : GoodIn wsX4_countMinute (wsV RX4 39 RJx4a65c yJx4a65c_size_8abf5 wsJx4a65c_size_8abf5) := goodIn_app (goodIn_of _ (by decide +kernel)) ggX4_countMinute_Jx4a65c_size_8abf5
set_option maxRecDepth 20000 in
theorem ggX4_countMinute_Jx4a65c_get_915e3 : GoodIn wsX4_countMinute wsJx4a65c_get_915e3 := goodIn_r _ [15, 11, 16, 17, 18, 19, 20, 21, 22, 23, 24, 25, 26, 9, 27, 28, 49, 50, 51] (by decide +kernel) (by decide +kernel)
set_option maxRecDepth 20000 in
theorem gX4_countMinute_Jx4a65c_get_915e3 : GoodIn wsX4_countMinute (wsV RX4 50 RJx4a65c yJx4a65c_get_915e3 wsJx4a65c_get_915e3) := goodIn_app (goodIn_of _ (by decide +kernel)) ggX4_countMinute_Jx4a65c_get_915e3
theorem dX4_countMinute_0 : decode cX4_countMinute 0 = .ok (.iconst 0, 1) := by decide +kernel
theorem dX4_countMinute_1 : decode cX4_countMinute 1 = .ok (.istore_n 1, 1) := by decide +kernel
theorem dX4_countMinute_2 : decode cX4_countMinute 2 = .ok (.iload_n 1, 1) := by decide +kernel
theorem dX4_countMinute_3 : decode cX4_countMinute 3 = .ok (.aload_n 0, 1) := by decide +kernel
theorem dX4_countMinute_4 : decode cX4_countMinute 4 = .ok (.getfield 16, 3) := by decide +kernel
theorem dX4_countMinute_7 : decode cX4_countMinute 7 = .ok (.invokevirtual 39, 3) := by decide +kernel
theorem dX4_countMinute_10 : decode cX4_countMinute 10 = .ok (.if_icmp .ge 56, 3) := by decide +kernel
theorem dX4_countMinute_13 : decode cX4_countMinute 13 = .ok (.aload_n 0, 1) := by decide +kernel
theorem dX4_countMinute_14 : decode cX4_countMinute 14 = .ok (.getfield 16, 3) := by decide +kernel
theorem dX4_countMinute_17 : decode cX4_countMinute 17 = .ok (.iload_n 1, 1) := by decide +kernel
theorem dX4_countMinute_18 : decode cX4_countMinute 18 = .ok (.invokevirtual 50, 3) := by decide +kernel
theorem dX4_countMinute_21 : decode cX4_countMinute 21 = .ok (.checkcast 72, 3) := by decide +kernel
theorem dX4_countMinute_24 : decode cX4_countMinute 24 = .ok (.astore_n 2, 1) := by decide +kernel
theorem dX4_countMinute_25 : decode cX4_countMinute 25 = .ok (.aload_n 2, 1) := by decide +kernel
theorem dX4_countMinute_26 : decode cX4_countMinute 26 = .ok (.getfield 136, 3) := by decide +kernel
theorem dX4_countMinute_29 : decode cX4_countMinute 29 = .ok (.ifCond .eq 13, 3) := by decide +kernel
theorem dX4_countMinute_32 : decode cX4_countMinute 32 = .ok (.aload_n 2, 1) := by decide +kernel
theorem dX4_countMinute_33 : decode cX4_countMinute 33 = .ok (.dup, 1) := by decide +kernel
theorem dX4_countMinute_34 : decode cX4_countMinute 34 = .ok (.getfield 161, 3) := by decide +kernel
theorem dX4_countMinute_37 : decode cX4_countMinute 37 = .ok (.iconst 1, 1) := by decide +kernel
theorem dX4_countMinute_38 : decode cX4_countMinute 38 = .ok (.iadd, 1) := by decide +kernel
theorem dX4_countMinute_39 : decode cX4_countMinute 39 = .ok (.putfield 161, 3) := by decide +kernel
theorem dX4_countMinute_42 : decode cX4_countMinute 42 = .ok (.aload_n 2, 1) := by decide +kernel
theorem dX4_countMinute_43 : decode cX4_countMinute 43 = .ok (.getfield 136, 3) := by decide +kernel
theorem dX4_countMinute_46 : decode cX4_countMinute 46 = .ok (.iconst 1, 1) := by decide +kernel
theorem dX4_countMinute_47 : decode cX4_countMinute 47 = .ok (.if_icmp .ne 13, 3) := by decide +kernel
theorem dX4_countMinute_50 : decode cX4_countMinute 50 = .ok (.aload_n 2, 1) := by decide +kernel
theorem dX4_countMinute_51 : decode cX4_countMinute 51 = .ok (.dup, 1) := by decide +kernel
theorem dX4_countMinute_52 : decode cX4_countMinute 52 = .ok (.getfield 166, 3) := by decide +kernel
theorem dX4_countMinute_55 : decode cX4_countMinute 55 = .ok (.iconst 1, 1) := by decide +kernel
theorem dX4_countMinute_56 : decode cX4_countMinute 56 = .ok (.iadd, 1) := by decide +kernel
theorem dX4_countMinute_57 : decode cX4_countMinute 57 = .ok (.putfield 166, 3) := by decide +kernel
theorem dX4_countMinute_60 : decode cX4_countMinute 60 = .ok (.iinc 1 1, 3) := by decide +kernel
theorem dX4_countMinute_63 : decode cX4_countMinute 63 = .ok (.goto (-61), 3) := by decide +kernel
theorem dX4_countMinute_66 : decode cX4_countMinute 66 = .ok (.return_, 1) := by decide +kernel
