theorem dX5_init_0 : decode cX5_init 0 = .ok (.aload_n 0, 1) := by decide +kernel
theorem dX5_init_1 : decode cX5_init 1 = .ok (.invokespecial 1, 3) := by decide +kernel
theorem dX5_init_4 : decode cX5_init 4 = .ok (.aload_n 0, 1) := by decide +kernel
theorem dX5_init_5 : decode cX5_init 5 = .ok (.bipush 6, 2) := by decide +kernel
theorem dX5_init_7 : decode cX5_init 7 = .ok (.newarray .int, 2) := by decide +kernel
theorem dX5_init_9 : decode cX5_init 9 = .ok (.putfield 7, 3) := by decide +kernel
theorem dX5_init_12 : decode cX5_init 12 = .ok (.aload_n 0, 1) := by decide +kernel
theorem dX5_init_13 : decode cX5_init 13 = .ok (.bipush 6, 2) := by decide +kernel
theorem dX5_init_15 : decode cX5_init 15 = .ok (.newarray .boolean, 2) := by decide +kernel
theorem dX5_init_17 : decode cX5_init 17 = .ok (.putfield 13, 3) := by decide +kernel
theorem dX5_init_20 : decode cX5_init 20 = .ok (.aload_n 0, 1) := by decide +kernel
theorem dX5_init_21 : decode cX5_init 21 = .ok (.bipush 6, 2) := by decide +kernel
theorem dX5_init_23 : decode cX5_init 23 = .ok (.newarray .boolean, 2) := by decide +kernel
theorem dX5_init_25 : decode cX5_init 25 = .ok (.putfield 17, 3) := by decide +kernel
theorem dX5_init_28 : decode cX5_init 28 = .ok (.aload_n 0, 1) := by decide +kernel
theorem dX5_init_29 : decode cX5_init 29 = .ok (.bipush 6, 2) := by decide +kernel
theorem dX5_init_31 : decode cX5_init 31 = .ok (.newarray .int, 2) := by decide +kernel
theorem dX5_init_33 : decode cX5_init 33 = .ok (.putfield 20, 3) := by decide +kernel
theorem dX5_init_36 : decode cX5_init 36 = .ok (.aload_n 0, 1) := by decide +kernel
theorem dX5_init_37 : decode cX5_init 37 = .ok (.bipush 6, 2) := by decide +kernel
theorem dX5_init_39 : decode cX5_init 39 = .ok (.newarray .int, 2) := by decide +kernel
theorem dX5_init_41 : decode cX5_init 41 = .ok (.putfield 23, 3) := by decide +kernel
theorem dX5_init_44 : decode cX5_init 44 = .ok (.aload_n 0, 1) := by decide +kernel
theorem dX5_init_45 : decode cX5_init 45 = .ok (.bipush 8, 2) := by decide +kernel
theorem dX5_init_47 : decode cX5_init 47 = .ok (.newarray .int, 2) := by decide +kernel
theorem dX5_init_49 : decode cX5_init 49 = .ok (.putfield 26, 3) := by decide +kernel
theorem dX5_init_52 : decode cX5_init 52 = .ok (.aload_n 0, 1) := by decide +kernel
theorem dX5_init_53 : decode cX5_init 53 = .ok (.bipush 8, 2) := by decide +kernel
theorem dX5_init_55 : decode cX5_init 55 = .ok (.newarray .int, 2) := by decide +kernel
theorem dX5_init_57 : decode cX5_init 57 = .ok (.putfield 29, 3) := by decide +kernel
theorem dX5_init_60 : decode cX5_init 60 = .ok (.aload_n 0, 1) := by decide +kernel
theorem dX5_init_61 : decode cX5_init 61 = .ok (.bipush 8, 2) := by decide +kernel
theorem dX5_init_63 : decode cX5_init 63 = .ok (.newarray .int, 2) := by decide +kernel
theorem dX5_init_65 : decode cX5_init 65 = .ok (.putfield 32, 3) := by decide +kernel
theorem dX5_init_68 : decode cX5_init 68 = .ok (.aload_n 0, 1) := by decide +kernel
theorem dX5_init_69 : decode cX5_init 69 = .ok (.bipush 8, 2) := by decide +kernel
theorem dX5_init_71 : decode cX5_init 71 = .ok (.newarray .int, 2) := by decide +kernel
theorem dX5_init_73 : decode cX5_init 73 = .ok (.putfield 35, 3) := by decide +kernel
theorem dX5_init_76 : decode cX5_init 76 = .ok (.aload_n 0, 1) := by decide +kernel
theorem dX5_init_77 : decode cX5_init 77 = .ok (.bipush 8, 2) := by decide +kernel
theorem dX5_init_79 : decode cX5_init 79 = .ok (.newarray .int, 2) := by decide +kernel
theorem dX5_init_81 : decode cX5_init 81 = .ok (.putfield 38, 3) := by decide +kernel
theorem dX5_init_84 : decode cX5_init 84 = .ok (.aload_n 0, 1) := by decide +kernel
theorem dX5_init_85 : decode cX5_init 85 = .ok (.bipush 8, 2) := by decide +kernel
theorem dX5_init_87 : decode cX5_init 87 = .ok (.newarray .int, 2) := by decide +kernel
theorem dX5_init_89 : decode cX5_init 89 = .ok (.putfield 41, 3) := by decide +kernel
theorem dX5_init_92 : decode cX5_init 92 = .ok (.aload_n 0, 1) := by decide +kernel
theorem dX5_init_93 : decode cX5_init 93 = .ok (.bipush 8, 2) := by decide +kernel
theorem dX5_init_95 : decode cX5_init 95 = .ok (.newarray .int, 2) := by decide +kernel
theorem dX5_init_97 : decode cX5_init 97 = .ok (.putfield 44, 3) := by decide +kernel
theorem dX5_init_100 : decode cX5_init 100 = .ok (.aload_n 0, 1) := by decide +kernel
theorem dX5_init_101 : decode cX5_init 101 = .ok (.bipush 8, 2) := by decide +kernel
theorem dX5_init_103 : decode cX5_init 103 = .ok (.newarray .int, 2) := by decide +kernel
theorem dX5_init_105 : decode cX5_init 105 = .ok (.putfield 47, 3) := by decide +kernel
theorem dX5_init_108 : decode cX5_init 108 = .ok (.aload_n 0, 1) := by decide +kernel
theorem dX5_init_109 : decode cX5_init 109 = .ok (.bipush 48, 2) := by decide +kernel
theorem dX5_init_111 : decode cX5_init 111 = .ok (.newarray .boolean, 2) := by decide +kernel
theorem dX5_init_113 : decode cX5_init 113 = .ok (.putfield 50, 3) := by decide +kernel
theorem dX5_init_116 : decode cX5_init 116 = .ok (.aload_n 0, 1) := by decide +kernel
theorem dX5_init_117 : decode cX5_init 117 = .ok (.bipush 48, 2) := by decide +kernel
theorem dX5_init_119 : decode cX5_init 119 = .ok (.newarray .int, 2) := by decide +kernel
theorem dX5_init_121 : decode cX5_init 121 = .ok (.putfield 53, 3) := by decide +kernel
theorem dX5_init_124 : decode cX5_init 124 = .ok (.aload_n 0, 1) := by decide +kernel
theorem dX5_init_125 : decode cX5_init 125 = .ok (.bipush 48, 2) := by decide +kernel
theorem dX5_init_127 : decode cX5_init 127 = .ok (.newarray .int, 2) := by decide +kernel
theorem dX5_init_129 : decode cX5_init 129 = .ok (.putfield 56, 3) := by decide +kernel
theorem dX5_init_132 : decode cX5_init 132 = .ok (.aload_n 0, 1) := by decide +kernel
theorem dX5_init_133 : decode cX5_init 133 = .ok (.bipush 48, 2) := by decide +kernel
theorem dX5_init_135 : decode cX5_init 135 = .ok (.newarray .int, 2) := by decide +kernel
theorem dX5_init_137 : decode cX5_init 137 = .ok (.putfield 59, 3) := by decide +kernel
theorem dX5_init_140 : decode cX5_init 140 = .ok (.aload_n 0, 1) := by decide +kernel
theorem dX5_init_141 : decode cX5_init 141 = .ok (.bipush 12, 2) := by decide +kernel
theorem dX5_init_143 : decode cX5_init 143 = .ok (.newarray .int, 2) := by decide +kernel
theorem dX5_init_145 : decode cX5_init 145 = .ok (.putfield 62, 3) := by decide +kernel
theorem dX5_init_148 : decode cX5_init 148 = .ok (.aload_n 0, 1) := by decide +kernel
theorem dX5_init_149 : decode cX5_init 149 = .ok (.bipush 12, 2) := by decide +kernel
theorem dX5_init_151 : decode cX5_init 151 = .ok (.newarray .int, 2) := by decide +kernel
theorem dX5_init_153 : decode cX5_init 153 = .ok (.putfield 65, 3) := by decide +kernel
theorem dX5_init_156 : decode cX5_init 156 = .ok (.aload_n 0, 1) := by decide +kernel
theorem dX5_init_157 : decode cX5_init 157 = .ok (.bipush 12, 2) := by decide +kernel
theorem dX5_init_159 : decode cX5_init 159 = .ok (.newarray .int, 2) := by decide +kernel
theorem dX5_init_161 : decode cX5_init 161 = .ok (.putfield 68, 3) := by decide +kernel
theorem dX5_init_164 : decode cX5_init 164 = .ok (.aload_n 0, 1) := by decide +kernel
theorem dX5_init_165 : decode cX5_init 165 = .ok (.ldc 71, 2) := by decide +kernel
theorem dX5_init_167 : decode cX5_init 167 = .ok (.newarray .int, 2) := by decide +kernel
theorem dX5_init_169 : decode cX5_init 169 = .ok (.putfield 72, 3) := by decide +kernel
theorem dX5_init_172 : decode cX5_init 172 = .ok (.aload_n 0, 1) := by decide +kernel
theorem dX5_init_173 : decode cX5_init 173 = .ok (.ldc 71, 2) := by decide +kernel
theorem dX5_init_175 : decode cX5_init 175 = .ok (.newarray .int, 2) := by decide +kernel
theorem dX5_init_177 : decode cX5_init 177 = .ok (.putfield 75, 3) := by decide +kernel
theorem dX5_init_180 : decode cX5_init 180 = .ok (.return_, 1) := by decide +kernel
theorem dX5_thrown_0 : decode cX5_thrown 0 = .ok (.aload_n 0, 1) := by decide +kernel
theorem dX5_thrown_1 : decode cX5_thrown 1 = .ok (.getfield 78, 3) := by decide +kernel
theorem dX5_thrown_4 : decode cX5_thrown 4 = .ok (.ireturn, 1) := by decide +kernel
theorem dX5_isIn_0 : decode cX5_isIn 0 = .ok (.iload_n 0, 1) := by decide +kernel
theorem dX5_isIn_1 : decode cX5_isIn 1 = .ok (.iload_n 1, 1) := by decide +kernel
theorem dX5_isIn_2 : decode cX5_isIn 2 = .ok (.if_icmp .lt 12, 3) := by decide +kernel
theorem dX5_isIn_5 : decode cX5_isIn 5 = .ok (.iload_n 0, 1) := by decide +kernel
theorem dX5_isIn_6 : decode cX5_isIn 6 = .ok (.iload_n 2, 1) := by decide +kernel
theorem dX5_isIn_7 : decode cX5_isIn 7 = .ok (.if_icmp .gt 7, 3) := by decide +kernel
theorem dX5_isIn_10 : decode cX5_isIn 10 = .ok (.iconst 1, 1) := by decide +kernel
theorem dX5_isIn_11 : decode cX5_isIn 11 = .ok (.goto 4, 3) := by decide +kernel
theorem dX5_isIn_14 : decode cX5_isIn 14 = .ok (.iconst 0, 1) := by decide +kernel
theorem dX5_isIn_15 : decode cX5_isIn 15 = .ok (.ireturn, 1) := by decide +kernel
set_option maxRecDepth 20000 in
theorem ggX5_isRegion_X5_isIn : GoodIn wsX5_isRegion wsX5_isIn := goodIn_r _ [5] (by decide +kernel) (by decide +kernel)
set_option maxRecDepth 20000 in
theorem gX5_isRegion_X5_isIn : GoodIn wsX5_isRegion (va_wsS RX5 85 yX5_isIn wsX5_isIn) := goodIn_app (goodIn_of _ (by decide +kernel)) ggX5_isRegion_X5_isIn
theorem dX5_isRegion_0 : decode cX5_isRegion 0 = .ok (.iload_n 1, 1) := by decide +kernel
theorem dX5_isRegion_1 : decode cX5_isRegion 1 = .ok (.iconst 0, 1) := by decide +kernel
theorem dX5_isRegion_2 : decode cX5_isRegion 2 = .ok (.aload_n 0, 1) := by decide +kernel
theorem dX5_isRegion_3 : decode cX5_isRegion 3 = .ok (.getfield 82, 3) := by decide +kernel
theorem dX5_isRegion_6 : decode cX5_isRegion 6 = .ok (.iconst 1, 1) := by decide +kernel
theorem dX5_isRegion_7 : decode cX5_isRegion 7 = .ok (.isub, 1) := by decide +kernel
theorem dX5_isRegion_8 : decode cX5_isRegion 8 = .ok (.invokestatic 85, 3) := by decide +kernel
theorem dX5_isRegion_11 : decode cX5_isRegion 11 = .ok (.ireturn, 1) := by decide +kernel
set_option maxRecDepth 20000 in
theorem ggX5_isCheck_X5_isIn : GoodIn wsX5_isCheck wsX5_isIn := goodIn_r _ [5] (by decide +kernel) (by decide +kernel)
set_option maxRecDepth 20000 in
theorem gX5_isCheck_X5_isIn : GoodIn wsX5_isCheck (va_wsS RX5 85 yX5_isIn wsX5_isIn) := goodIn_app (goodIn_of _ (by decide +kernel)) ggX5_isCheck_X5_isIn
theorem dX5_isCheck_0 : decode cX5_isCheck 0 = .ok (.iload_n 1, 1) := by decide +kernel
theorem dX5_isCheck_1 : decode cX5_isCheck 1 = .ok (.iconst 0, 1) := by decide +kernel
theorem dX5_isCheck_2 : decode cX5_isCheck 2 = .ok (.aload_n 0, 1) := by decide +kernel
theorem dX5_isCheck_3 : decode cX5_isCheck 3 = .ok (.getfield 89, 3) := by decide +kernel
theorem dX5_isCheck_6 : decode cX5_isCheck 6 = .ok (.iconst 1, 1) := by decide +kernel
theorem dX5_isCheck_7 : decode cX5_isCheck 7 = .ok (.isub, 1) := by decide +kernel
theorem dX5_isCheck_8 : decode cX5_isCheck 8 = .ok (.invokestatic 85, 3) := by decide +kernel
theorem dX5_isCheck_11 : decode cX5_isCheck 11 = .ok (.ireturn, 1) := by decide +kernel
set_option maxRecDepth 20000 in
theorem ggX5_addRegion_X5_isRegion : GoodIn wsX5_addRegion wsX5_isRegion := goodIn_r _ [8, 1, 9, 10, 7, 11, 12, 13, 14, 15, 16, 17, 18, 19, 20, 21, 22, 23, 24, 25, 26, 27, 28, 29, 30, 31, 32, 33, 34, 35, 36, 37, 38, 39] (by decide +kernel) (by decide +kernel)
set_option maxRecDepth 20000 in
theorem gX5_addRegion_X5_isRegion : GoodIn wsX5_addRegion (wsV RX5 92 RX5 yX5_isRegion wsX5_isRegion) := goodIn_app (goodIn_of _ (by decide +kernel)) ggX5_addRegion_X5_isRegion
theorem dX5_addRegion_0 : decode cX5_addRegion 0 = .ok (.aload_n 0, 1) := by decide +kernel
theorem dX5_addRegion_1 : decode cX5_addRegion 1 = .ok (.iload_n 1, 1) := by decide +kernel
theorem dX5_addRegion_2 : decode cX5_addRegion 2 = .ok (.iconst (-1), 1) := by decide +kernel
theorem dX5_addRegion_3 : decode cX5_addRegion 3 = .ok (.if_icmp .eq 15, 3) := by decide +kernel
theorem dX5_addRegion_6 : decode cX5_addRegion 6 = .ok (.aload_n 0, 1) := by decide +kernel
theorem dX5_addRegion_7 : decode cX5_addRegion 7 = .ok (.iload_n 1, 1) := by decide +kernel
theorem dX5_addRegion_8 : decode cX5_addRegion 8 = .ok (.invokevirtual 92, 3) := by decide +kernel
theorem dX5_addRegion_11 : decode cX5_addRegion 11 = .ok (.ifCond .ne 7, 3) := by decide +kernel
theorem dX5_addRegion_14 : decode cX5_addRegion 14 = .ok (.iconst 1, 1) := by decide +kernel
theorem dX5_addRegion_15 : decode cX5_addRegion 15 = .ok (.goto 17, 3) := by decide +kernel
theorem dX5_addRegion_18 : decode cX5_addRegion 18 = .ok (.aload_n 0, 1) := by decide +kernel
theorem dX5_addRegion_19 : decode cX5_addRegion 19 = .ok (.getfield 82, 3) := by decide +kernel
theorem dX5_addRegion_22 : decode cX5_addRegion 22 = .ok (.bipush 6, 2) := by decide +kernel
theorem dX5_addRegion_24 : decode cX5_addRegion 24 = .ok (.if_icmp .ne 7, 3) := by decide +kernel
theorem dX5_addRegion_27 : decode cX5_addRegion 27 = .ok (.iconst 2, 1) := by decide +kernel
theorem dX5_addRegion_28 : decode cX5_addRegion 28 = .ok (.goto 4, 3) := by decide +kernel
theorem dX5_addRegion_31 : decode cX5_addRegion 31 = .ok (.iconst 0, 1) := by decide +kernel
theorem dX5_addRegion_32 : decode cX5_addRegion 32 = .ok (.putfield 78, 3) := by decide +kernel
theorem dX5_addRegion_35 : decode cX5_addRegion 35 = .ok (.aload_n 0, 1) := by decide +kernel
theorem dX5_addRegion_36 : decode cX5_addRegion 36 = .ok (.getfield 78, 3) := by decide +kernel
theorem dX5_addRegion_39 : decode cX5_addRegion 39 = .ok (.ifCond .le 5, 3) := by decide +kernel
theorem dX5_addRegion_42 : decode cX5_addRegion 42 = .ok (.iconst 0, 1) := by decide +kernel
theorem dX5_addRegion_43 : decode cX5_addRegion 43 = .ok (.ireturn, 1) := by decide +kernel
theorem dX5_addRegion_44 : decode cX5_addRegion 44 = .ok (.aload_n 0, 1) := by decide +kernel
theorem dX5_addRegion_45 : decode cX5_addRegion 45 = .ok (.getfield 7, 3) := by decide +kernel
theorem dX5_addRegion_48 : decode cX5_addRegion 48 = .ok (.aload_n 0, 1) := by decide +kernel
theorem dX5_addRegion_49 : decode cX5_addRegion 49 = .ok (.getfield 82, 3) := by decide +kernel
theorem dX5_addRegion_52 : decode cX5_addRegion 52 = .ok (.iload_n 1, 1) := by decide +kernel
theorem dX5_addRegion_53 : decode cX5_addRegion 53 = .ok (.iastore, 1) := by decide +kernel
theorem dX5_addRegion_54 : decode cX5_addRegion 54 = .ok (.aload_n 0, 1) := by decide +kernel
theorem dX5_addRegion_55 : decode cX5_addRegion 55 = .ok (.dup, 1) := by decide +kernel
theorem dX5_addRegion_56 : decode cX5_addRegion 56 = .ok (.getfield 82, 3) := by decide +kernel
theorem dX5_addRegion_59 : decode cX5_addRegion 59 = .ok (.iconst 1, 1) := by decide +kernel
theorem dX5_addRegion_60 : decode cX5_addRegion 60 = .ok (.iadd, 1) := by decide +kernel
theorem dX5_addRegion_61 : decode cX5_addRegion 61 = .ok (.putfield 82, 3) := by decide +kernel
theorem dX5_addRegion_64 : decode cX5_addRegion 64 = .ok (.aload_n 0, 1) := by decide +kernel
theorem dX5_addRegion_65 : decode cX5_addRegion 65 = .ok (.getfield 82, 3) := by decide +kernel
theorem dX5_addRegion_68 : decode cX5_addRegion 68 = .ok (.iconst 1, 1) := by decide +kernel
theorem dX5_addRegion_69 : decode cX5_addRegion 69 = .ok (.isub, 1) := by decide +kernel
theorem dX5_addRegion_70 : decode cX5_addRegion 70 = .ok (.ireturn, 1) := by decide +kernel
set_option maxRecDepth 20000 in
theorem ggX5_addCheck_X5_isIn : GoodIn wsX5_addCheck wsX5_isIn := goodIn_r _ [11] (by decide +kernel) (by decide +kernel)
set_option maxRecDepth 20000 in
theorem gX5_addCheck_X5_isIn : GoodIn wsX5_addCheck (va_wsS RX5 85 yX5_isIn wsX5_isIn) := goodIn_app (goodIn_of _ (by decide +kernel)) ggX5_addCheck_X5_isIn
theorem dX5_addCheck_0 : decode cX5_addCheck 0 = .ok (.iload_n 1, 1) := by decide +kernel
theorem dX5_addCheck_1 : decode cX5_addCheck 1 = .ok (.iconst 1, 1) := by decide +kernel
theorem dX5_addCheck_2 : decode cX5_addCheck 2 = .ok (.bipush 60, 2) := by decide +kernel
theorem dX5_addCheck_4 : decode cX5_addCheck 4 = .ok (.invokestatic 85, 3) := by decide +kernel
theorem dX5_addCheck_7 : decode cX5_addCheck 7 = .ok (.ifCond .eq 38, 3) := by decide +kernel
theorem dX5_addCheck_10 : decode cX5_addCheck 10 = .ok (.iload_n 2, 1) := by decide +kernel
theorem dX5_addCheck_11 : decode cX5_addCheck 11 = .ok (.iconst 0, 1) := by decide +kernel
theorem dX5_addCheck_12 : decode cX5_addCheck 12 = .ok (.sipush 1000, 3) := by decide +kernel
theorem dX5_addCheck_15 : decode cX5_addCheck 15 = .ok (.invokestatic 85, 3) := by decide +kernel
theorem dX5_addCheck_18 : decode cX5_addCheck 18 = .ok (.ifCond .eq 27, 3) := by decide +kernel
theorem dX5_addCheck_21 : decode cX5_addCheck 21 = .ok (.iload_n 3, 1) := by decide +kernel
theorem dX5_addCheck_22 : decode cX5_addCheck 22 = .ok (.iconst 0, 1) := by decide +kernel
theorem dX5_addCheck_23 : decode cX5_addCheck 23 = .ok (.iconst 3, 1) := by decide +kernel
theorem dX5_addCheck_24 : decode cX5_addCheck 24 = .ok (.invokestatic 85, 3) := by decide +kernel
theorem dX5_addCheck_27 : decode cX5_addCheck 27 = .ok (.ifCond .eq 18, 3) := by decide +kernel
theorem dX5_addCheck_30 : decode cX5_addCheck 30 = .ok (.iload 4, 2) := by decide +kernel
theorem dX5_addCheck_32 : decode cX5_addCheck 32 = .ok (.iconst 1, 1) := by decide +kernel
theorem dX5_addCheck_33 : decode cX5_addCheck 33 = .ok (.bipush 6, 2) := by decide +kernel
theorem dX5_addCheck_35 : decode cX5_addCheck 35 = .ok (.invokestatic 85, 3) := by decide +kernel
theorem dX5_addCheck_38 : decode cX5_addCheck 38 = .ok (.ifCond .eq 7, 3) := by decide +kernel
theorem dX5_addCheck_41 : decode cX5_addCheck 41 = .ok (.iconst 1, 1) := by decide +kernel
theorem dX5_addCheck_42 : decode cX5_addCheck 42 = .ok (.goto 4, 3) := by decide +kernel
theorem dX5_addCheck_45 : decode cX5_addCheck 45 = .ok (.iconst 0, 1) := by decide +kernel
theorem dX5_addCheck_46 : decode cX5_addCheck 46 = .ok (.istore 5, 2) := by decide +kernel
theorem dX5_addCheck_48 : decode cX5_addCheck 48 = .ok (.aload_n 0, 1) := by decide +kernel
theorem dX5_addCheck_49 : decode cX5_addCheck 49 = .ok (.iload 5, 2) := by decide +kernel
theorem dX5_addCheck_51 : decode cX5_addCheck 51 = .ok (.ifCond .ne 7, 3) := by decide +kernel
theorem dX5_addCheck_54 : decode cX5_addCheck 54 = .ok (.iconst 1, 1) := by decide +kernel
theorem dX5_addCheck_55 : decode cX5_addCheck 55 = .ok (.goto 17, 3) := by decide +kernel
theorem dX5_addCheck_58 : decode cX5_addCheck 58 = .ok (.aload_n 0, 1) := by decide +kernel
theorem dX5_addCheck_59 : decode cX5_addCheck 59 = .ok (.getfield 89, 3) := by decide +kernel
theorem dX5_addCheck_62 : decode cX5_addCheck 62 = .ok (.bipush 8, 2) := by decide +kernel
theorem dX5_addCheck_64 : decode cX5_addCheck 64 = .ok (.if_icmp .ne 7, 3) := by decide +kernel
theorem dX5_addCheck_67 : decode cX5_addCheck 67 = .ok (.iconst 2, 1) := by decide +kernel
theorem dX5_addCheck_68 : decode cX5_addCheck 68 = .ok (.goto 4, 3) := by decide +kernel
theorem dX5_addCheck_71 : decode cX5_addCheck 71 = .ok (.iconst 0, 1) := by decide +kernel
theorem dX5_addCheck_72 : decode cX5_addCheck 72 = .ok (.putfield 78, 3) := by decide +kernel
theorem dX5_addCheck_75 : decode cX5_addCheck 75 = .ok (.aload_n 0, 1) := by decide +kernel
theorem dX5_addCheck_76 : decode cX5_addCheck 76 = .ok (.getfield 78, 3) := by decide +kernel
theorem dX5_addCheck_79 : decode cX5_addCheck 79 = .ok (.ifCond .le 5, 3) := by decide +kernel
theorem dX5_addCheck_82 : decode cX5_addCheck 82 = .ok (.iconst 0, 1) := by decide +kernel
theorem dX5_addCheck_83 : decode cX5_addCheck 83 = .ok (.ireturn, 1) := by decide +kernel
theorem dX5_addCheck_84 : decode cX5_addCheck 84 = .ok (.aload_n 0, 1) := by decide +kernel
theorem dX5_addCheck_85 : decode cX5_addCheck 85 = .ok (.getfield 26, 3) := by decide +kernel
theorem dX5_addCheck_88 : decode cX5_addCheck 88 = .ok (.aload_n 0, 1) := by decide +kernel
theorem dX5_addCheck_89 : decode cX5_addCheck 89 = .ok (.getfield 89, 3) := by decide +kernel
theorem dX5_addCheck_92 : decode cX5_addCheck 92 = .ok (.iload_n 1, 1) := by decide +kernel
theorem dX5_addCheck_93 : decode cX5_addCheck 93 = .ok (.iastore, 1) := by decide +kernel
theorem dX5_addCheck_94 : decode cX5_addCheck 94 = .ok (.aload_n 0, 1) := by decide +kernel
theorem dX5_addCheck_95 : decode cX5_addCheck 95 = .ok (.getfield 29, 3) := by decide +kernel
theorem dX5_addCheck_98 : decode cX5_addCheck 98 = .ok (.aload_n 0, 1) := by decide +kernel
theorem dX5_addCheck_99 : decode cX5_addCheck 99 = .ok (.getfield 89, 3) := by decide +kernel
theorem dX5_addCheck_102 : decode cX5_addCheck 102 = .ok (.iload_n 2, 1) := by decide +kernel
theorem dX5_addCheck_103 : decode cX5_addCheck 103 = .ok (.iastore, 1) := by decide +kernel
theorem dX5_addCheck_104 : decode cX5_addCheck 104 = .ok (.aload_n 0, 1) := by decide +kernel
theorem dX5_addCheck_105 : decode cX5_addCheck 105 = .ok (.getfield 32, 3) := by decide +kernel
theorem dX5_addCheck_108 : decode cX5_addCheck 108 = .ok (.aload_n 0, 1) := by decide +kernel
theorem dX5_addCheck_109 : decode cX5_addCheck 109 = .ok (.getfield 89, 3) := by decide +kernel
theorem dX5_addCheck_112 : decode cX5_addCheck 112 = .ok (.iload_n 3, 1) := by decide +kernel
theorem dX5_addCheck_113 : decode cX5_addCheck 113 = .ok (.iastore, 1) := by decide +kernel
theorem dX5_addCheck_114 : decode cX5_addCheck 114 = .ok (.aload_n 0, 1) := by decide +kernel
theorem dX5_addCheck_115 : decode cX5_addCheck 115 = .ok (.getfield 35, 3) := by decide +kernel
theorem dX5_addCheck_118 : decode cX5_addCheck 118 = .ok (.aload_n 0, 1) := by decide +kernel
theorem dX5_addCheck_119 : decode cX5_addCheck 119 = .ok (.getfield 89, 3) := by decide +kernel
theorem dX5_addCheck_122 : decode cX5_addCheck 122 = .ok (.iload 4, 2) := by decide +kernel
theorem dX5_addCheck_124 : decode cX5_addCheck 124 = .ok (.iastore, 1) := by decide +kernel
theorem dX5_addCheck_125 : decode cX5_addCheck 125 = .ok (.aload_n 0, 1) := by decide +kernel
theorem dX5_addCheck_126 : decode cX5_addCheck 126 = .ok (.getfield 41, 3) := by decide +kernel
theorem dX5_addCheck_129 : decode cX5_addCheck 129 = .ok (.aload_n 0, 1) := by decide +kernel
theorem dX5_addCheck_130 : decode cX5_addCheck 130 = .ok (.getfield 89, 3) := by decide +kernel
theorem dX5_addCheck_133 : decode cX5_addCheck 133 = .ok (.iconst (-1), 1) := by decide +kernel
theorem dX5_addCheck_134 : decode cX5_addCheck 134 = .ok (.iastore, 1) := by decide +kernel
theorem dX5_addCheck_135 : decode cX5_addCheck 135 = .ok (.aload_n 0, 1) := by decide +kernel
theorem dX5_addCheck_136 : decode cX5_addCheck 136 = .ok (.dup, 1) := by decide +kernel
theorem dX5_addCheck_137 : decode cX5_addCheck 137 = .ok (.getfield 89, 3) := by decide +kernel
theorem dX5_addCheck_140 : decode cX5_addCheck 140 = .ok (.iconst 1, 1) := by decide +kernel
theorem dX5_addCheck_141 : decode cX5_addCheck 141 = .ok (.iadd, 1) := by decide +kernel
theorem dX5_addCheck_142 : decode cX5_addCheck 142 = .ok (.putfield 89, 3) := by decide +kernel
theorem dX5_addCheck_145 : decode cX5_addCheck 145 = .ok (.aload_n 0, 1) := by decide +kernel
theorem dX5_addCheck_146 : decode cX5_addCheck 146 = .ok (.getfield 89, 3) := by decide +kernel
theorem dX5_addCheck_149 : decode cX5_addCheck 149 = .ok (.iconst 1, 1) := by decide +kernel
theorem dX5_addCheck_150 : decode cX5_addCheck 150 = .ok (.isub, 1) := by decide +kernel
theorem dX5_addCheck_151 : decode cX5_addCheck 151 = .ok (.ireturn, 1) := by decide +kernel
set_option maxRecDepth 20000 in
theorem ggX5_setDown_X5_isCheck : GoodIn wsX5_setDown wsX5_isCheck := goodIn_r _ [7, 8, 9, 10, 6, 11, 17, 18, 19, 20, 21, 22, 23, 24, 25, 26, 27, 28, 29, 30, 31, 32, 33, 34, 35, 36, 37, 38, 39, 40, 41, 42, 43, 44] (by decide +kernel) (by decide +kernel)
set_option maxRecDepth 20000 in
theorem gX5_setDown_X5_isCheck : GoodIn wsX5_setDown (wsV RX5 96 RX5 yX5_isCheck wsX5_isCheck) := goodIn_app (goodIn_of _ (by decide +kernel)) ggX5_setDown_X5_isCheck
set_option maxRecDepth 20000 in
theorem ggX5_setDown_X5_isRegion : GoodIn wsX5_setDown wsX5_isRegion := goodIn_r _ [15, 16, 9, 10, 6, 11, 17, 18, 19, 20, 21, 22, 23, 24, 25, 26, 27, 28, 29, 30, 31, 32, 33, 34, 35, 36, 37, 38, 39, 40, 41, 42, 43, 44] (by decide +kernel) (by decide +kernel)
set_option maxRecDepth 20000 in
theorem gX5_setDown_X5_isRegion : GoodIn wsX5_setDown (wsV RX5 92 RX5 yX5_isRegion wsX5_isRegion) := goodIn_app (goodIn_of _ (by decide +kernel)) ggX5_setDown_X5_isRegion
theorem dX5_setDown_0 : decode cX5_setDown 0 = .ok (.aload_n 0, 1) := by decide +kernel
theorem dX5_setDown_1 : decode cX5_setDown 1 = .ok (.aload_n 0, 1) := by decide +kernel
theorem dX5_setDown_2 : decode cX5_setDown 2 = .ok (.iload_n 1, 1) := by decide +kernel
theorem dX5_setDown_3 : decode cX5_setDown 3 = .ok (.invokevirtual 96, 3) := by decide +kernel
theorem dX5_setDown_6 : decode cX5_setDown 6 = .ok (.ifCond .eq 15, 3) := by decide +kernel
theorem dX5_setDown_9 : decode cX5_setDown 9 = .ok (.aload_n 0, 1) := by decide +kernel
theorem dX5_setDown_10 : decode cX5_setDown 10 = .ok (.iload_n 2, 1) := by decide +kernel
theorem dX5_setDown_11 : decode cX5_setDown 11 = .ok (.invokevirtual 92, 3) := by decide +kernel
theorem dX5_setDown_14 : decode cX5_setDown 14 = .ok (.ifCond .eq 7, 3) := by decide +kernel
theorem dX5_setDown_17 : decode cX5_setDown 17 = .ok (.iconst 0, 1) := by decide +kernel
theorem dX5_setDown_18 : decode cX5_setDown 18 = .ok (.goto 4, 3) := by decide +kernel
theorem dX5_setDown_21 : decode cX5_setDown 21 = .ok (.iconst 1, 1) := by decide +kernel
theorem dX5_setDown_22 : decode cX5_setDown 22 = .ok (.putfield 78, 3) := by decide +kernel
theorem dX5_setDown_25 : decode cX5_setDown 25 = .ok (.aload_n 0, 1) := by decide +kernel
theorem dX5_setDown_26 : decode cX5_setDown 26 = .ok (.getfield 78, 3) := by decide +kernel
theorem dX5_setDown_29 : decode cX5_setDown 29 = .ok (.ifCond .le 5, 3) := by decide +kernel
theorem dX5_setDown_32 : decode cX5_setDown 32 = .ok (.iconst 0, 1) := by decide +kernel
theorem dX5_setDown_33 : decode cX5_setDown 33 = .ok (.ireturn, 1) := by decide +kernel
theorem dX5_setDown_34 : decode cX5_setDown 34 = .ok (.aload_n 0, 1) := by decide +kernel
theorem dX5_setDown_35 : decode cX5_setDown 35 = .ok (.getfield 50, 3) := by decide +kernel
theorem dX5_setDown_38 : decode cX5_setDown 38 = .ok (.bipush 6, 2) := by decide +kernel
theorem dX5_setDown_40 : decode cX5_setDown 40 = .ok (.iload_n 1, 1) := by decide +kernel
theorem dX5_setDown_41 : decode cX5_setDown 41 = .ok (.imul, 1) := by decide +kernel
theorem dX5_setDown_42 : decode cX5_setDown 42 = .ok (.iload_n 2, 1) := by decide +kernel
theorem dX5_setDown_43 : decode cX5_setDown 43 = .ok (.iadd, 1) := by decide +kernel
theorem dX5_setDown_44 : decode cX5_setDown 44 = .ok (.baload, 1) := by decide +kernel
theorem dX5_setDown_45 : decode cX5_setDown 45 = .ok (.istore 4, 2) := by decide +kernel
theorem dX5_setDown_47 : decode cX5_setDown 47 = .ok (.aload_n 0, 1) := by decide +kernel
theorem dX5_setDown_48 : decode cX5_setDown 48 = .ok (.getfield 50, 3) := by decide +kernel
theorem dX5_setDown_51 : decode cX5_setDown 51 = .ok (.bipush 6, 2) := by decide +kernel
theorem dX5_setDown_53 : decode cX5_setDown 53 = .ok (.iload_n 1, 1) := by decide +kernel
theorem dX5_setDown_54 : decode cX5_setDown 54 = .ok (.imul, 1) := by decide +kernel
theorem dX5_setDown_55 : decode cX5_setDown 55 = .ok (.iload_n 2, 1) := by decide +kernel
theorem dX5_setDown_56 : decode cX5_setDown 56 = .ok (.iadd, 1) := by decide +kernel
theorem dX5_setDown_57 : decode cX5_setDown 57 = .ok (.iload_n 3, 1) := by decide +kernel
theorem dX5_setDown_58 : decode cX5_setDown 58 = .ok (.bastore, 1) := by decide +kernel
theorem dX5_setDown_59 : decode cX5_setDown 59 = .ok (.iload 4, 2) := by decide +kernel
theorem dX5_setDown_61 : decode cX5_setDown 61 = .ok (.ireturn, 1) := by decide +kernel
set_option maxRecDepth 20000 in
theorem ggX5_setCut_X5_isRegion : GoodIn wsX5_setCut wsX5_isRegion := goodIn_r _ [7, 8, 9, 10, 6, 11, 12, 13, 14, 15, 16, 17, 18, 19, 20, 21, 22, 23, 24, 25, 26, 27, 28, 29, 30, 31, 32, 33, 34, 35, 36, 37, 38, 39] (by decide +kernel) (by decide +kernel)
set_option maxRecDepth 20000 in
theorem gX5_setCut_X5_isRegion : GoodIn wsX5_setCut (wsV RX5 92 RX5 yX5_isRegion wsX5_isRegion) := goodIn_app (goodIn_of _ (by decide +kernel)) ggX5_setCut_X5_isRegion
theorem dX5_setCut_0 : decode cX5_setCut 0 = .ok (.aload_n 0, 1) := by decide +kernel
theorem dX5_setCut_1 : decode cX5_setCut 1 = .ok (.aload_n 0, 1) := by decide +kernel
theorem dX5_setCut_2 : decode cX5_setCut 2 = .ok (.iload_n 1, 1) := by decide +kernel
theorem dX5_setCut_3 : decode cX5_setCut 3 = .ok (.invokevirtual 92, 3) := by decide +kernel
theorem dX5_setCut_6 : decode cX5_setCut 6 = .ok (.ifCond .eq 7, 3) := by decide +kernel
theorem dX5_setCut_9 : decode cX5_setCut 9 = .ok (.iconst 0, 1) := by decide +kernel
theorem dX5_setCut_10 : decode cX5_setCut 10 = .ok (.goto 4, 3) := by decide +kernel
theorem dX5_setCut_13 : decode cX5_setCut 13 = .ok (.iconst 1, 1) := by decide +kernel
theorem dX5_setCut_14 : decode cX5_setCut 14 = .ok (.putfield 78, 3) := by decide +kernel
theorem dX5_setCut_17 : decode cX5_setCut 17 = .ok (.aload_n 0, 1) := by decide +kernel
theorem dX5_setCut_18 : decode cX5_setCut 18 = .ok (.getfield 78, 3) := by decide +kernel
theorem dX5_setCut_21 : decode cX5_setCut 21 = .ok (.ifCond .le 5, 3) := by decide +kernel
theorem dX5_setCut_24 : decode cX5_setCut 24 = .ok (.iconst 0, 1) := by decide +kernel
theorem dX5_setCut_25 : decode cX5_setCut 25 = .ok (.ireturn, 1) := by decide +kernel
theorem dX5_setCut_26 : decode cX5_setCut 26 = .ok (.aload_n 0, 1) := by decide +kernel
theorem dX5_setCut_27 : decode cX5_setCut 27 = .ok (.getfield 13, 3) := by decide +kernel
theorem dX5_setCut_30 : decode cX5_setCut 30 = .ok (.iload_n 1, 1) := by decide +kernel
theorem dX5_setCut_31 : decode cX5_setCut 31 = .ok (.baload, 1) := by decide +kernel
theorem dX5_setCut_32 : decode cX5_setCut 32 = .ok (.istore_n 3, 1) := by decide +kernel
theorem dX5_setCut_33 : decode cX5_setCut 33 = .ok (.aload_n 0, 1) := by decide +kernel
theorem dX5_setCut_34 : decode cX5_setCut 34 = .ok (.getfield 13, 3) := by decide +kernel
theorem dX5_setCut_37 : decode cX5_setCut 37 = .ok (.iload_n 1, 1) := by decide +kernel
theorem dX5_setCut_38 : decode cX5_setCut 38 = .ok (.iload_n 2, 1) := by decide +kernel
theorem dX5_setCut_39 : decode cX5_setCut 39 = .ok (.bastore, 1) := by decide +kernel
theorem dX5_setCut_40 : decode cX5_setCut 40 = .ok (.iload_n 3, 1) := by decide +kernel
theorem dX5_setCut_41 : decode cX5_setCut 41 = .ok (.ireturn, 1) := by decide +kernel
set_option maxRecDepth 20000 in
theorem ggX5_setQuorum_X5_isCheck : GoodIn wsX5_setQuorum wsX5_isCheck := goodIn_r _ [7, 8, 9, 10, 6, 11, 12, 13, 14, 15, 16, 17, 18, 19, 20, 21, 22, 23, 24, 25, 26, 27, 28, 29, 30, 31, 32, 33, 34, 35, 36, 37, 38, 39] (by decide +kernel) (by decide +kernel)
set_option maxRecDepth 20000 in
theorem gX5_setQuorum_X5_isCheck : GoodIn wsX5_setQuorum (wsV RX5 96 RX5 yX5_isCheck wsX5_isCheck) := goodIn_app (goodIn_of _ (by decide +kernel)) ggX5_setQuorum_X5_isCheck
set_option maxRecDepth 20000 in
theorem ggX5_setQuorum_X5_isIn : GoodIn wsX5_setQuorum wsX5_isIn := goodIn_r _ [11] (by decide +kernel) (by decide +kernel)
set_option maxRecDepth 20000 in
theorem gX5_setQuorum_X5_isIn : GoodIn wsX5_setQuorum (va_wsS RX5 85 yX5_isIn wsX5_isIn) := goodIn_app (goodIn_of _ (by decide +kernel)) ggX5_setQuorum_X5_isIn
theorem dX5_setQuorum_0 : decode cX5_setQuorum 0 = .ok (.aload_n 0, 1) := by decide +kernel
theorem dX5_setQuorum_1 : decode cX5_setQuorum 1 = .ok (.aload_n 0, 1) := by decide +kernel
theorem dX5_setQuorum_2 : decode cX5_setQuorum 2 = .ok (.iload_n 1, 1) := by decide +kernel
theorem dX5_setQuorum_3 : decode cX5_setQuorum 3 = .ok (.invokevirtual 96, 3) := by decide +kernel
theorem dX5_setQuorum_6 : decode cX5_setQuorum 6 = .ok (.ifCond .ne 7, 3) := by decide +kernel
theorem dX5_setQuorum_9 : decode cX5_setQuorum 9 = .ok (.iconst 1, 1) := by decide +kernel
theorem dX5_setQuorum_10 : decode cX5_setQuorum 10 = .ok (.goto 18, 3) := by decide +kernel
theorem dX5_setQuorum_13 : decode cX5_setQuorum 13 = .ok (.iload_n 2, 1) := by decide +kernel
theorem dX5_setQuorum_14 : decode cX5_setQuorum 14 = .ok (.iconst 1, 1) := by decide +kernel
theorem dX5_setQuorum_15 : decode cX5_setQuorum 15 = .ok (.bipush 6, 2) := by decide +kernel
theorem dX5_setQuorum_17 : decode cX5_setQuorum 17 = .ok (.invokestatic 85, 3) := by decide +kernel
theorem dX5_setQuorum_20 : decode cX5_setQuorum 20 = .ok (.ifCond .eq 7, 3) := by decide +kernel
theorem dX5_setQuorum_23 : decode cX5_setQuorum 23 = .ok (.iconst 0, 1) := by decide +kernel
theorem dX5_setQuorum_24 : decode cX5_setQuorum 24 = .ok (.goto 4, 3) := by decide +kernel
theorem dX5_setQuorum_27 : decode cX5_setQuorum 27 = .ok (.iconst 2, 1) := by decide +kernel
theorem dX5_setQuorum_28 : decode cX5_setQuorum 28 = .ok (.putfield 78, 3) := by decide +kernel
theorem dX5_setQuorum_31 : decode cX5_setQuorum 31 = .ok (.aload_n 0, 1) := by decide +kernel
theorem dX5_setQuorum_32 : decode cX5_setQuorum 32 = .ok (.getfield 78, 3) := by decide +kernel
theorem dX5_setQuorum_35 : decode cX5_setQuorum 35 = .ok (.ifCond .le 5, 3) := by decide +kernel
theorem dX5_setQuorum_38 : decode cX5_setQuorum 38 = .ok (.iconst 0, 1) := by decide +kernel
theorem dX5_setQuorum_39 : decode cX5_setQuorum 39 = .ok (.ireturn, 1) := by decide +kernel
theorem dX5_setQuorum_40 : decode cX5_setQuorum 40 = .ok (.aload_n 0, 1) := by decide +kernel
theorem dX5_setQuorum_41 : decode cX5_setQuorum 41 = .ok (.getfield 35, 3) := by decide +kernel
theorem dX5_setQuorum_44 : decode cX5_setQuorum 44 = .ok (.iload_n 1, 1) := by decide +kernel
theorem dX5_setQuorum_45 : decode cX5_setQuorum 45 = .ok (.iaload, 1) := by decide +kernel
theorem dX5_setQuorum_46 : decode cX5_setQuorum 46 = .ok (.istore_n 3, 1) := by decide +kernel
theorem dX5_setQuorum_47 : decode cX5_setQuorum 47 = .ok (.aload_n 0, 1) := by decide +kernel
theorem dX5_setQuorum_48 : decode cX5_setQuorum 48 = .ok (.getfield 35, 3) := by decide +kernel
theorem dX5_setQuorum_51 : decode cX5_setQuorum 51 = .ok (.iload_n 1, 1) := by decide +kernel
theorem dX5_setQuorum_52 : decode cX5_setQuorum 52 = .ok (.iload_n 2, 1) := by decide +kernel
theorem dX5_setQuorum_53 : decode cX5_setQuorum 53 = .ok (.iastore, 1) := by decide +kernel
theorem dX5_setQuorum_54 : decode cX5_setQuorum 54 = .ok (.iload_n 3, 1) := by decide +kernel
theorem dX5_setQuorum_55 : decode cX5_setQuorum 55 = .ok (.ireturn, 1) := by decide +kernel
set_option maxRecDepth 20000 in
theorem ggX5_addWindow_X5_isCheck : GoodIn wsX5_addWindow wsX5_isCheck := goodIn_r _ [11, 12, 13, 14, 10, 15, 16, 17, 18, 19, 20, 21, 22, 23, 24, 25, 26, 27, 28, 29, 30, 31, 32, 33, 34, 35, 36, 37, 38, 39, 40, 41, 42, 43] (by decide +kernel) (by decide +kernel)
set_option maxRecDepth 20000 in
theorem gX5_addWindow_X5_isCheck : GoodIn wsX5_addWindow (wsV RX5 96 RX5 yX5_isCheck wsX5_isCheck) := goodIn_app (goodIn_of _ (by decide +kernel)) ggX5_addWindow_X5_isCheck
set_option maxRecDepth 20000 in
theorem ggX5_addWindow_X5_isIn : GoodIn wsX5_addWindow wsX5_isIn := goodIn_r _ [15] (by decide +kernel) (by decide +kernel)
set_option maxRecDepth 20000 in
theorem gX5_addWindow_X5_isIn : GoodIn wsX5_addWindow (va_wsS RX5 85 yX5_isIn wsX5_isIn) := goodIn_app (goodIn_of _ (by decide +kernel)) ggX5_addWindow_X5_isIn
theorem dX5_addWindow_0 : decode cX5_addWindow 0 = .ok (.aload_n 0, 1) := by decide +kernel
theorem dX5_addWindow_1 : decode cX5_addWindow 1 = .ok (.aload_n 0, 1) := by decide +kernel
theorem dX5_addWindow_2 : decode cX5_addWindow 2 = .ok (.iload_n 1, 1) := by decide +kernel
theorem dX5_addWindow_3 : decode cX5_addWindow 3 = .ok (.invokevirtual 96, 3) := by decide +kernel
theorem dX5_addWindow_6 : decode cX5_addWindow 6 = .ok (.ifCond .ne 7, 3) := by decide +kernel
theorem dX5_addWindow_9 : decode cX5_addWindow 9 = .ok (.iconst 1, 1) := by decide +kernel
theorem dX5_addWindow_10 : decode cX5_addWindow 10 = .ok (.goto 29, 3) := by decide +kernel
theorem dX5_addWindow_13 : decode cX5_addWindow 13 = .ok (.iload_n 2, 1) := by decide +kernel
theorem dX5_addWindow_14 : decode cX5_addWindow 14 = .ok (.iconst 0, 1) := by decide +kernel
theorem dX5_addWindow_15 : decode cX5_addWindow 15 = .ok (.ldc 99, 2) := by decide +kernel
theorem dX5_addWindow_17 : decode cX5_addWindow 17 = .ok (.invokestatic 85, 3) := by decide +kernel
theorem dX5_addWindow_20 : decode cX5_addWindow 20 = .ok (.ifCond .eq 14, 3) := by decide +kernel
theorem dX5_addWindow_23 : decode cX5_addWindow 23 = .ok (.iload_n 3, 1) := by decide +kernel
theorem dX5_addWindow_24 : decode cX5_addWindow 24 = .ok (.iconst 1, 1) := by decide +kernel
theorem dX5_addWindow_25 : decode cX5_addWindow 25 = .ok (.sipush 10000, 3) := by decide +kernel
theorem dX5_addWindow_28 : decode cX5_addWindow 28 = .ok (.invokestatic 85, 3) := by decide +kernel
theorem dX5_addWindow_31 : decode cX5_addWindow 31 = .ok (.ifCond .ne 7, 3) := by decide +kernel
theorem dX5_addWindow_34 : decode cX5_addWindow 34 = .ok (.iconst 2, 1) := by decide +kernel
theorem dX5_addWindow_35 : decode cX5_addWindow 35 = .ok (.goto 4, 3) := by decide +kernel
theorem dX5_addWindow_38 : decode cX5_addWindow 38 = .ok (.iconst 0, 1) := by decide +kernel
theorem dX5_addWindow_39 : decode cX5_addWindow 39 = .ok (.putfield 78, 3) := by decide +kernel
theorem dX5_addWindow_42 : decode cX5_addWindow 42 = .ok (.aload_n 0, 1) := by decide +kernel
theorem dX5_addWindow_43 : decode cX5_addWindow 43 = .ok (.getfield 78, 3) := by decide +kernel
theorem dX5_addWindow_46 : decode cX5_addWindow 46 = .ok (.ifCond .le 5, 3) := by decide +kernel
theorem dX5_addWindow_49 : decode cX5_addWindow 49 = .ok (.iconst 0, 1) := by decide +kernel
theorem dX5_addWindow_50 : decode cX5_addWindow 50 = .ok (.ireturn, 1) := by decide +kernel
theorem dX5_addWindow_51 : decode cX5_addWindow 51 = .ok (.aload_n 0, 1) := by decide +kernel
theorem dX5_addWindow_52 : decode cX5_addWindow 52 = .ok (.aload_n 0, 1) := by decide +kernel
theorem dX5_addWindow_53 : decode cX5_addWindow 53 = .ok (.getfield 100, 3) := by decide +kernel
theorem dX5_addWindow_56 : decode cX5_addWindow 56 = .ok (.bipush 12, 2) := by decide +kernel
theorem dX5_addWindow_58 : decode cX5_addWindow 58 = .ok (.if_icmp .ne 7, 3) := by decide +kernel
theorem dX5_addWindow_61 : decode cX5_addWindow 61 = .ok (.iconst 3, 1) := by decide +kernel
theorem dX5_addWindow_62 : decode cX5_addWindow 62 = .ok (.goto 4, 3) := by decide +kernel
theorem dX5_addWindow_65 : decode cX5_addWindow 65 = .ok (.iconst 0, 1) := by decide +kernel
theorem dX5_addWindow_66 : decode cX5_addWindow 66 = .ok (.putfield 78, 3) := by decide +kernel
theorem dX5_addWindow_69 : decode cX5_addWindow 69 = .ok (.aload_n 0, 1) := by decide +kernel
theorem dX5_addWindow_70 : decode cX5_addWindow 70 = .ok (.getfield 78, 3) := by decide +kernel
theorem dX5_addWindow_73 : decode cX5_addWindow 73 = .ok (.ifCond .le 5, 3) := by decide +kernel
theorem dX5_addWindow_76 : decode cX5_addWindow 76 = .ok (.iconst 0, 1) := by decide +kernel
theorem dX5_addWindow_77 : decode cX5_addWindow 77 = .ok (.ireturn, 1) := by decide +kernel
theorem dX5_addWindow_78 : decode cX5_addWindow 78 = .ok (.aload_n 0, 1) := by decide +kernel
theorem dX5_addWindow_79 : decode cX5_addWindow 79 = .ok (.getfield 62, 3) := by decide +kernel
theorem dX5_addWindow_82 : decode cX5_addWindow 82 = .ok (.aload_n 0, 1) := by decide +kernel
theorem dX5_addWindow_83 : decode cX5_addWindow 83 = .ok (.getfield 100, 3) := by decide +kernel
theorem dX5_addWindow_86 : decode cX5_addWindow 86 = .ok (.iload_n 1, 1) := by decide +kernel
theorem dX5_addWindow_87 : decode cX5_addWindow 87 = .ok (.iastore, 1) := by decide +kernel
theorem dX5_addWindow_88 : decode cX5_addWindow 88 = .ok (.aload_n 0, 1) := by decide +kernel
theorem dX5_addWindow_89 : decode cX5_addWindow 89 = .ok (.getfield 65, 3) := by decide +kernel
theorem dX5_addWindow_92 : decode cX5_addWindow 92 = .ok (.aload_n 0, 1) := by decide +kernel
theorem dX5_addWindow_93 : decode cX5_addWindow 93 = .ok (.getfield 100, 3) := by decide +kernel
theorem dX5_addWindow_96 : decode cX5_addWindow 96 = .ok (.iload_n 2, 1) := by decide +kernel
theorem dX5_addWindow_97 : decode cX5_addWindow 97 = .ok (.iastore, 1) := by decide +kernel
theorem dX5_addWindow_98 : decode cX5_addWindow 98 = .ok (.aload_n 0, 1) := by decide +kernel
theorem dX5_addWindow_99 : decode cX5_addWindow 99 = .ok (.getfield 68, 3) := by decide +kernel
theorem dX5_addWindow_102 : decode cX5_addWindow 102 = .ok (.aload_n 0, 1) := by decide +kernel
theorem dX5_addWindow_103 : decode cX5_addWindow 103 = .ok (.getfield 100, 3) := by decide +kernel
theorem dX5_addWindow_106 : decode cX5_addWindow 106 = .ok (.iload_n 2, 1) := by decide +kernel
theorem dX5_addWindow_107 : decode cX5_addWindow 107 = .ok (.iload_n 3, 1) := by decide +kernel
theorem dX5_addWindow_108 : decode cX5_addWindow 108 = .ok (.iadd, 1) := by decide +kernel
theorem dX5_addWindow_109 : decode cX5_addWindow 109 = .ok (.iastore, 1) := by decide +kernel
theorem dX5_addWindow_110 : decode cX5_addWindow 110 = .ok (.aload_n 0, 1) := by decide +kernel
theorem dX5_addWindow_111 : decode cX5_addWindow 111 = .ok (.dup, 1) := by decide +kernel
theorem dX5_addWindow_112 : decode cX5_addWindow 112 = .ok (.getfield 100, 3) := by decide +kernel
theorem dX5_addWindow_115 : decode cX5_addWindow 115 = .ok (.iconst 1, 1) := by decide +kernel
theorem dX5_addWindow_116 : decode cX5_addWindow 116 = .ok (.iadd, 1) := by decide +kernel
theorem dX5_addWindow_117 : decode cX5_addWindow 117 = .ok (.putfield 100, 3) := by decide +kernel
theorem dX5_addWindow_120 : decode cX5_addWindow 120 = .ok (.aload_n 0, 1) := by decide +kernel
theorem dX5_addWindow_121 : decode cX5_addWindow 121 = .ok (.getfield 100, 3) := by decide +kernel
theorem dX5_addWindow_124 : decode cX5_addWindow 124 = .ok (.iconst 1, 1) := by decide +kernel
theorem dX5_addWindow_125 : decode cX5_addWindow 125 = .ok (.isub, 1) := by decide +kernel
theorem dX5_addWindow_126 : decode cX5_addWindow 126 = .ok (.ireturn, 1) := by decide +kernel
set_option maxRecDepth 20000 in
theorem ggX5_endWindow_X5_isIn : GoodIn wsX5_endWindow wsX5_isIn := goodIn_r _ [9] (by decide +kernel) (by decide +kernel)
set_option maxRecDepth 20000 in
theorem gX5_endWindow_X5_isIn : GoodIn wsX5_endWindow (va_wsS RX5 85 yX5_isIn wsX5_isIn) := goodIn_app (goodIn_of _ (by decide +kernel)) ggX5_endWindow_X5_isIn
theorem dX5_endWindow_0 : decode cX5_endWindow 0 = .ok (.aload_n 0, 1) := by decide +kernel
theorem dX5_endWindow_1 : decode cX5_endWindow 1 = .ok (.iload_n 1, 1) := by decide +kernel
theorem dX5_endWindow_2 : decode cX5_endWindow 2 = .ok (.iconst 0, 1) := by decide +kernel
theorem dX5_endWindow_3 : decode cX5_endWindow 3 = .ok (.aload_n 0, 1) := by decide +kernel
theorem dX5_endWindow_4 : decode cX5_endWindow 4 = .ok (.getfield 100, 3) := by decide +kernel
theorem dX5_endWindow_7 : decode cX5_endWindow 7 = .ok (.iconst 1, 1) := by decide +kernel
theorem dX5_endWindow_8 : decode cX5_endWindow 8 = .ok (.isub, 1) := by decide +kernel
theorem dX5_endWindow_9 : decode cX5_endWindow 9 = .ok (.invokestatic 85, 3) := by decide +kernel
theorem dX5_endWindow_12 : decode cX5_endWindow 12 = .ok (.ifCond .eq 7, 3) := by decide +kernel
theorem dX5_endWindow_15 : decode cX5_endWindow 15 = .ok (.iconst 0, 1) := by decide +kernel
theorem dX5_endWindow_16 : decode cX5_endWindow 16 = .ok (.goto 4, 3) := by decide +kernel
theorem dX5_endWindow_19 : decode cX5_endWindow 19 = .ok (.iconst 1, 1) := by decide +kernel
theorem dX5_endWindow_20 : decode cX5_endWindow 20 = .ok (.putfield 78, 3) := by decide +kernel
theorem dX5_endWindow_23 : decode cX5_endWindow 23 = .ok (.aload_n 0, 1) := by decide +kernel
theorem dX5_endWindow_24 : decode cX5_endWindow 24 = .ok (.getfield 78, 3) := by decide +kernel
theorem dX5_endWindow_27 : decode cX5_endWindow 27 = .ok (.ifCond .le 5, 3) := by decide +kernel
theorem dX5_endWindow_30 : decode cX5_endWindow 30 = .ok (.iconst 0, 1) := by decide +kernel
theorem dX5_endWindow_31 : decode cX5_endWindow 31 = .ok (.ireturn, 1) := by decide +kernel
theorem dX5_endWindow_32 : decode cX5_endWindow 32 = .ok (.aload_n 0, 1) := by decide +kernel
theorem dX5_endWindow_33 : decode cX5_endWindow 33 = .ok (.getfield 68, 3) := by decide +kernel
theorem dX5_endWindow_36 : decode cX5_endWindow 36 = .ok (.iload_n 1, 1) := by decide +kernel
theorem dX5_endWindow_37 : decode cX5_endWindow 37 = .ok (.iaload, 1) := by decide +kernel
theorem dX5_endWindow_38 : decode cX5_endWindow 38 = .ok (.aload_n 0, 1) := by decide +kernel
theorem dX5_endWindow_39 : decode cX5_endWindow 39 = .ok (.getfield 103, 3) := by decide +kernel
theorem dX5_endWindow_42 : decode cX5_endWindow 42 = .ok (.iconst 1, 1) := by decide +kernel
theorem dX5_endWindow_43 : decode cX5_endWindow 43 = .ok (.iadd, 1) := by decide +kernel
theorem dX5_endWindow_44 : decode cX5_endWindow 44 = .ok (.if_icmp .le 12, 3) := by decide +kernel
theorem dX5_endWindow_47 : decode cX5_endWindow 47 = .ok (.aload_n 0, 1) := by decide +kernel
theorem dX5_endWindow_48 : decode cX5_endWindow 48 = .ok (.getfield 103, 3) := by decide +kernel
theorem dX5_endWindow_51 : decode cX5_endWindow 51 = .ok (.iconst 1, 1) := by decide +kernel
theorem dX5_endWindow_52 : decode cX5_endWindow 52 = .ok (.iadd, 1) := by decide +kernel
theorem dX5_endWindow_53 : decode cX5_endWindow 53 = .ok (.goto 9, 3) := by decide +kernel
theorem dX5_endWindow_56 : decode cX5_endWindow 56 = .ok (.aload_n 0, 1) := by decide +kernel
theorem dX5_endWindow_57 : decode cX5_endWindow 57 = .ok (.getfield 68, 3) := by decide +kernel
theorem dX5_endWindow_60 : decode cX5_endWindow 60 = .ok (.iload_n 1, 1) := by decide +kernel
theorem dX5_endWindow_61 : decode cX5_endWindow 61 = .ok (.iaload, 1) := by decide +kernel
theorem dX5_endWindow_62 : decode cX5_endWindow 62 = .ok (.istore_n 2, 1) := by decide +kernel
theorem dX5_endWindow_63 : decode cX5_endWindow 63 = .ok (.aload_n 0, 1) := by decide +kernel
theorem dX5_endWindow_64 : decode cX5_endWindow 64 = .ok (.getfield 68, 3) := by decide +kernel
theorem dX5_endWindow_67 : decode cX5_endWindow 67 = .ok (.iload_n 1, 1) := by decide +kernel
theorem dX5_endWindow_68 : decode cX5_endWindow 68 = .ok (.iload_n 2, 1) := by decide +kernel
theorem dX5_endWindow_69 : decode cX5_endWindow 69 = .ok (.aload_n 0, 1) := by decide +kernel
theorem dX5_endWindow_70 : decode cX5_endWindow 70 = .ok (.getfield 65, 3) := by decide +kernel
theorem dX5_endWindow_73 : decode cX5_endWindow 73 = .ok (.iload_n 1, 1) := by decide +kernel
theorem dX5_endWindow_74 : decode cX5_endWindow 74 = .ok (.iaload, 1) := by decide +kernel
theorem dX5_endWindow_75 : decode cX5_endWindow 75 = .ok (.if_icmp .le 7, 3) := by decide +kernel
theorem dX5_endWindow_78 : decode cX5_endWindow 78 = .ok (.iload_n 2, 1) := by decide +kernel
theorem dX5_endWindow_79 : decode cX5_endWindow 79 = .ok (.goto 9, 3) := by decide +kernel
theorem dX5_endWindow_82 : decode cX5_endWindow 82 = .ok (.aload_n 0, 1) := by decide +kernel
theorem dX5_endWindow_83 : decode cX5_endWindow 83 = .ok (.getfield 65, 3) := by decide +kernel
theorem dX5_endWindow_86 : decode cX5_endWindow 86 = .ok (.iload_n 1, 1) := by decide +kernel
theorem dX5_endWindow_87 : decode cX5_endWindow 87 = .ok (.iaload, 1) := by decide +kernel
theorem dX5_endWindow_88 : decode cX5_endWindow 88 = .ok (.iastore, 1) := by decide +kernel
theorem dX5_endWindow_89 : decode cX5_endWindow 89 = .ok (.aload_n 0, 1) := by decide +kernel
theorem dX5_endWindow_90 : decode cX5_endWindow 90 = .ok (.getfield 68, 3) := by decide +kernel
theorem dX5_endWindow_93 : decode cX5_endWindow 93 = .ok (.iload_n 1, 1) := by decide +kernel
theorem dX5_endWindow_94 : decode cX5_endWindow 94 = .ok (.iaload, 1) := by decide +kernel
theorem dX5_endWindow_95 : decode cX5_endWindow 95 = .ok (.aload_n 0, 1) := by decide +kernel
theorem dX5_endWindow_96 : decode cX5_endWindow 96 = .ok (.getfield 65, 3) := by decide +kernel
theorem dX5_endWindow_99 : decode cX5_endWindow 99 = .ok (.iload_n 1, 1) := by decide +kernel
theorem dX5_endWindow_100 : decode cX5_endWindow 100 = .ok (.iaload, 1) := by decide +kernel
theorem dX5_endWindow_101 : decode cX5_endWindow 101 = .ok (.isub, 1) := by decide +kernel
theorem dX5_endWindow_102 : decode cX5_endWindow 102 = .ok (.ireturn, 1) := by decide +kernel
theorem dX5_fails_0 : decode cX5_fails 0 = .ok (.aload_n 0, 1) := by decide +kernel
theorem dX5_fails_1 : decode cX5_fails 1 = .ok (.getfield 50, 3) := by decide +kernel
theorem dX5_fails_4 : decode cX5_fails 4 = .ok (.bipush 6, 2) := by decide +kernel
theorem dX5_fails_6 : decode cX5_fails 6 = .ok (.iload_n 1, 1) := by decide +kernel
theorem dX5_fails_7 : decode cX5_fails 7 = .ok (.imul, 1) := by decide +kernel
theorem dX5_fails_8 : decode cX5_fails 8 = .ok (.iload_n 2, 1) := by decide +kernel
theorem dX5_fails_9 : decode cX5_fails 9 = .ok (.iadd, 1) := by decide +kernel
theorem dX5_fails_10 : decode cX5_fails 10 = .ok (.baload, 1) := by decide +kernel
theorem dX5_fails_11 : decode cX5_fails 11 = .ok (.istore_n 3, 1) := by decide +kernel
theorem dX5_fails_12 : decode cX5_fails 12 = .ok (.iload_n 2, 1) := by decide +kernel
theorem dX5_fails_13 : decode cX5_fails 13 = .ok (.istore 4, 2) := by decide +kernel
theorem dX5_fails_15 : decode cX5_fails 15 = .ok (.iload 4, 2) := by decide +kernel
theorem dX5_fails_17 : decode cX5_fails 17 = .ok (.ifCond .lt 25, 3) := by decide +kernel
theorem dX5_fails_20 : decode cX5_fails 20 = .ok (.iload_n 3, 1) := by decide +kernel
theorem dX5_fails_21 : decode cX5_fails 21 = .ok (.aload_n 0, 1) := by decide +kernel
theorem dX5_fails_22 : decode cX5_fails 22 = .ok (.getfield 13, 3) := by decide +kernel
theorem dX5_fails_25 : decode cX5_fails 25 = .ok (.iload 4, 2) := by decide +kernel
theorem dX5_fails_27 : decode cX5_fails 27 = .ok (.baload, 1) := by decide +kernel
theorem dX5_fails_28 : decode cX5_fails 28 = .ok (.ior, 1) := by decide +kernel
theorem dX5_fails_29 : decode cX5_fails 29 = .ok (.istore_n 3, 1) := by decide +kernel
theorem dX5_fails_30 : decode cX5_fails 30 = .ok (.aload_n 0, 1) := by decide +kernel
theorem dX5_fails_31 : decode cX5_fails 31 = .ok (.getfield 7, 3) := by decide +kernel
theorem dX5_fails_34 : decode cX5_fails 34 = .ok (.iload 4, 2) := by decide +kernel
theorem dX5_fails_36 : decode cX5_fails 36 = .ok (.iaload, 1) := by decide +kernel
theorem dX5_fails_37 : decode cX5_fails 37 = .ok (.istore 4, 2) := by decide +kernel
theorem dX5_fails_39 : decode cX5_fails 39 = .ok (.goto (-24), 3) := by decide +kernel
theorem dX5_fails_42 : decode cX5_fails 42 = .ok (.iload_n 3, 1) := by decide +kernel
theorem dX5_fails_43 : decode cX5_fails 43 = .ok (.ireturn, 1) := by decide +kernel
theorem dX5_isScheduled_0 : decode cX5_isScheduled 0 = .ok (.iload_n 3, 1) := by decide +kernel
theorem dX5_isScheduled_1 : decode cX5_isScheduled 1 = .ok (.aload_n 0, 1) := by decide +kernel
theorem dX5_isScheduled_2 : decode cX5_isScheduled 2 = .ok (.getfield 29, 3) := by decide +kernel
theorem dX5_isScheduled_5 : decode cX5_isScheduled 5 = .ok (.iload_n 1, 1) := by decide +kernel
theorem dX5_isScheduled_6 : decode cX5_isScheduled 6 = .ok (.iaload, 1) := by decide +kernel
theorem dX5_isScheduled_7 : decode cX5_isScheduled 7 = .ok (.isub, 1) := by decide +kernel
theorem dX5_isScheduled_8 : decode cX5_isScheduled 8 = .ok (.iload_n 2, 1) := by decide +kernel
theorem dX5_isScheduled_9 : decode cX5_isScheduled 9 = .ok (.isub, 1) := by decide +kernel
theorem dX5_isScheduled_10 : decode cX5_isScheduled 10 = .ok (.istore 4, 2) := by decide +kernel
theorem dX5_isScheduled_12 : decode cX5_isScheduled 12 = .ok (.iload 4, 2) := by decide +kernel
theorem dX5_isScheduled_14 : decode cX5_isScheduled 14 = .ok (.ifCond .lt 19, 3) := by decide +kernel
theorem dX5_isScheduled_17 : decode cX5_isScheduled 17 = .ok (.iload 4, 2) := by decide +kernel
theorem dX5_isScheduled_19 : decode cX5_isScheduled 19 = .ok (.aload_n 0, 1) := by decide +kernel
theorem dX5_isScheduled_20 : decode cX5_isScheduled 20 = .ok (.getfield 26, 3) := by decide +kernel
theorem dX5_isScheduled_23 : decode cX5_isScheduled 23 = .ok (.iload_n 1, 1) := by decide +kernel
theorem dX5_isScheduled_24 : decode cX5_isScheduled 24 = .ok (.iaload, 1) := by decide +kernel
theorem dX5_isScheduled_25 : decode cX5_isScheduled 25 = .ok (.irem, 1) := by decide +kernel
theorem dX5_isScheduled_26 : decode cX5_isScheduled 26 = .ok (.ifCond .ne 7, 3) := by decide +kernel
theorem dX5_isScheduled_29 : decode cX5_isScheduled 29 = .ok (.iconst 1, 1) := by decide +kernel
theorem dX5_isScheduled_30 : decode cX5_isScheduled 30 = .ok (.goto 4, 3) := by decide +kernel
theorem dX5_isScheduled_33 : decode cX5_isScheduled 33 = .ok (.iconst 0, 1) := by decide +kernel
theorem dX5_isScheduled_34 : decode cX5_isScheduled 34 = .ok (.ireturn, 1) := by decide +kernel
set_option maxRecDepth 20000 in
theorem ggX5_probe_X5_isScheduled : GoodIn wsX5_probe wsX5_isScheduled := goodIn_r _ [12, 13, 14, 22, 23, 24, 25, 26, 27, 28, 29, 30, 31, 32, 33, 34, 35, 36, 37, 38, 39, 40, 41, 42, 43, 44, 45, 46, 47, 48, 49] (by decide +kernel) (by decide +kernel)
set_option maxRecDepth 20000 in
theorem gX5_probe_X5_isScheduled : GoodIn wsX5_probe (wsV RX5 106 RX5 yX5_isScheduled wsX5_isScheduled) := goodIn_app (goodIn_of _ (by decide +kernel)) ggX5_probe_X5_isScheduled
set_option maxRecDepth 20000 in
theorem ggX5_probe_X5_fails : GoodIn wsX5_probe wsX5_fails := goodIn_r _ [18, 19, 20, 21, 22, 23, 24, 25, 26, 27, 28, 29, 30, 31, 32, 33, 34, 35, 36, 37, 38, 39, 40, 41, 42, 43, 44, 45, 46, 47, 48, 49] (by decide +kernel) (by decide +kernel)
set_option maxRecDepth 20000 in
theorem gX5_probe_X5_fails : GoodIn wsX5_probe (wsV RX5 109 RX5 yX5_fails wsX5_fails) := goodIn_app (goodIn_of _ (by decide +kernel)) ggX5_probe_X5_fails
theorem dX5_probe_0 : decode cX5_probe 0 = .ok (.bipush 6, 2) := by decide +kernel
theorem dX5_probe_2 : decode cX5_probe 2 = .ok (.iload_n 1, 1) := by decide +kernel
theorem dX5_probe_3 : decode cX5_probe 3 = .ok (.imul, 1) := by decide +kernel
theorem dX5_probe_4 : decode cX5_probe 4 = .ok (.iload_n 2, 1) := by decide +kernel
theorem dX5_probe_5 : decode cX5_probe 5 = .ok (.iadd, 1) := by decide +kernel
theorem dX5_probe_6 : decode cX5_probe 6 = .ok (.istore_n 3, 1) := by decide +kernel
theorem dX5_probe_7 : decode cX5_probe 7 = .ok (.aload_n 0, 1) := by decide +kernel
theorem dX5_probe_8 : decode cX5_probe 8 = .ok (.getfield 56, 3) := by decide +kernel
theorem dX5_probe_11 : decode cX5_probe 11 = .ok (.iload_n 3, 1) := by decide +kernel
theorem dX5_probe_12 : decode cX5_probe 12 = .ok (.iaload, 1) := by decide +kernel
theorem dX5_probe_13 : decode cX5_probe 13 = .ok (.istore 4, 2) := by decide +kernel
theorem dX5_probe_15 : decode cX5_probe 15 = .ok (.iload 4, 2) := by decide +kernel
theorem dX5_probe_17 : decode cX5_probe 17 = .ok (.ifCond .le 19, 3) := by decide +kernel
theorem dX5_probe_20 : decode cX5_probe 20 = .ok (.aload_n 0, 1) := by decide +kernel
theorem dX5_probe_21 : decode cX5_probe 21 = .ok (.getfield 59, 3) := by decide +kernel
theorem dX5_probe_24 : decode cX5_probe 24 = .ok (.iload_n 3, 1) := by decide +kernel
theorem dX5_probe_25 : decode cX5_probe 25 = .ok (.iaload, 1) := by decide +kernel
theorem dX5_probe_26 : decode cX5_probe 26 = .ok (.aload_n 0, 1) := by decide +kernel
theorem dX5_probe_27 : decode cX5_probe 27 = .ok (.getfield 103, 3) := by decide +kernel
theorem dX5_probe_30 : decode cX5_probe 30 = .ok (.if_icmp .eq 20, 3) := by decide +kernel
theorem dX5_probe_33 : decode cX5_probe 33 = .ok (.goto 16, 3) := by decide +kernel
theorem dX5_probe_36 : decode cX5_probe 36 = .ok (.aload_n 0, 1) := by decide +kernel
theorem dX5_probe_37 : decode cX5_probe 37 = .ok (.iload_n 1, 1) := by decide +kernel
theorem dX5_probe_38 : decode cX5_probe 38 = .ok (.iload_n 2, 1) := by decide +kernel
theorem dX5_probe_39 : decode cX5_probe 39 = .ok (.aload_n 0, 1) := by decide +kernel
theorem dX5_probe_40 : decode cX5_probe 40 = .ok (.getfield 103, 3) := by decide +kernel
theorem dX5_probe_43 : decode cX5_probe 43 = .ok (.invokevirtual 106, 3) := by decide +kernel
theorem dX5_probe_46 : decode cX5_probe 46 = .ok (.ifCond .ne 4, 3) := by decide +kernel
theorem dX5_probe_49 : decode cX5_probe 49 = .ok (.return_, 1) := by decide +kernel
theorem dX5_probe_50 : decode cX5_probe 50 = .ok (.aload_n 0, 1) := by decide +kernel
theorem dX5_probe_51 : decode cX5_probe 51 = .ok (.getfield 56, 3) := by decide +kernel
theorem dX5_probe_54 : decode cX5_probe 54 = .ok (.iload_n 3, 1) := by decide +kernel
theorem dX5_probe_55 : decode cX5_probe 55 = .ok (.iconst 0, 1) := by decide +kernel
theorem dX5_probe_56 : decode cX5_probe 56 = .ok (.iastore, 1) := by decide +kernel
theorem dX5_probe_57 : decode cX5_probe 57 = .ok (.aload_n 0, 1) := by decide +kernel
theorem dX5_probe_58 : decode cX5_probe 58 = .ok (.getfield 20, 3) := by decide +kernel
theorem dX5_probe_61 : decode cX5_probe 61 = .ok (.iload_n 2, 1) := by decide +kernel
theorem dX5_probe_62 : decode cX5_probe 62 = .ok (.dup2, 1) := by decide +kernel
theorem dX5_probe_63 : decode cX5_probe 63 = .ok (.iaload, 1) := by decide +kernel
theorem dX5_probe_64 : decode cX5_probe 64 = .ok (.iconst 1, 1) := by decide +kernel
theorem dX5_probe_65 : decode cX5_probe 65 = .ok (.iadd, 1) := by decide +kernel
theorem dX5_probe_66 : decode cX5_probe 66 = .ok (.iastore, 1) := by decide +kernel
theorem dX5_probe_67 : decode cX5_probe 67 = .ok (.aload_n 0, 1) := by decide +kernel
theorem dX5_probe_68 : decode cX5_probe 68 = .ok (.iload_n 1, 1) := by decide +kernel
theorem dX5_probe_69 : decode cX5_probe 69 = .ok (.iload_n 2, 1) := by decide +kernel
theorem dX5_probe_70 : decode cX5_probe 70 = .ok (.invokevirtual 109, 3) := by decide +kernel
theorem dX5_probe_73 : decode cX5_probe 73 = .ok (.ifCond .ne 11, 3) := by decide +kernel
theorem dX5_probe_76 : decode cX5_probe 76 = .ok (.aload_n 0, 1) := by decide +kernel
theorem dX5_probe_77 : decode cX5_probe 77 = .ok (.getfield 53, 3) := by decide +kernel
theorem dX5_probe_80 : decode cX5_probe 80 = .ok (.iload_n 3, 1) := by decide +kernel
theorem dX5_probe_81 : decode cX5_probe 81 = .ok (.iconst 1, 1) := by decide +kernel
theorem dX5_probe_82 : decode cX5_probe 82 = .ok (.iastore, 1) := by decide +kernel
theorem dX5_probe_83 : decode cX5_probe 83 = .ok (.return_, 1) := by decide +kernel
theorem dX5_probe_84 : decode cX5_probe 84 = .ok (.aload_n 0, 1) := by decide +kernel
theorem dX5_probe_85 : decode cX5_probe 85 = .ok (.getfield 23, 3) := by decide +kernel
theorem dX5_probe_88 : decode cX5_probe 88 = .ok (.iload_n 2, 1) := by decide +kernel
theorem dX5_probe_89 : decode cX5_probe 89 = .ok (.dup2, 1) := by decide +kernel
theorem dX5_probe_90 : decode cX5_probe 90 = .ok (.iaload, 1) := by decide +kernel
theorem dX5_probe_91 : decode cX5_probe 91 = .ok (.iconst 1, 1) := by decide +kernel
theorem dX5_probe_92 : decode cX5_probe 92 = .ok (.iadd, 1) := by decide +kernel
theorem dX5_probe_93 : decode cX5_probe 93 = .ok (.iastore, 1) := by decide +kernel
theorem dX5_probe_94 : decode cX5_probe 94 = .ok (.aload_n 0, 1) := by decide +kernel
theorem dX5_probe_95 : decode cX5_probe 95 = .ok (.getfield 53, 3) := by decide +kernel
theorem dX5_probe_98 : decode cX5_probe 98 = .ok (.iload_n 3, 1) := by decide +kernel
theorem dX5_probe_99 : decode cX5_probe 99 = .ok (.iaload, 1) := by decide +kernel
theorem dX5_probe_100 : decode cX5_probe 100 = .ok (.iconst 2, 1) := by decide +kernel
theorem dX5_probe_101 : decode cX5_probe 101 = .ok (.if_icmp .ne 4, 3) := by decide +kernel
theorem dX5_probe_104 : decode cX5_probe 104 = .ok (.return_, 1) := by decide +kernel
theorem dX5_probe_105 : decode cX5_probe 105 = .ok (.iload 4, 2) := by decide +kernel
theorem dX5_probe_107 : decode cX5_probe 107 = .ok (.aload_n 0, 1) := by decide +kernel
theorem dX5_probe_108 : decode cX5_probe 108 = .ok (.getfield 32, 3) := by decide +kernel
theorem dX5_probe_111 : decode cX5_probe 111 = .ok (.iload_n 1, 1) := by decide +kernel
theorem dX5_probe_112 : decode cX5_probe 112 = .ok (.iaload, 1) := by decide +kernel
theorem dX5_probe_113 : decode cX5_probe 113 = .ok (.if_icmp .ge 46, 3) := by decide +kernel
theorem dX5_probe_116 : decode cX5_probe 116 = .ok (.aload_n 0, 1) := by decide +kernel
theorem dX5_probe_117 : decode cX5_probe 117 = .ok (.getfield 56, 3) := by decide +kernel
theorem dX5_probe_120 : decode cX5_probe 120 = .ok (.iload_n 3, 1) := by decide +kernel
theorem dX5_probe_121 : decode cX5_probe 121 = .ok (.iload 4, 2) := by decide +kernel
theorem dX5_probe_123 : decode cX5_probe 123 = .ok (.iconst 1, 1) := by decide +kernel
theorem dX5_probe_124 : decode cX5_probe 124 = .ok (.iadd, 1) := by decide +kernel
theorem dX5_probe_125 : decode cX5_probe 125 = .ok (.iastore, 1) := by decide +kernel
theorem dX5_probe_126 : decode cX5_probe 126 = .ok (.aload_n 0, 1) := by decide +kernel
theorem dX5_probe_127 : decode cX5_probe 127 = .ok (.getfield 59, 3) := by decide +kernel
theorem dX5_probe_130 : decode cX5_probe 130 = .ok (.iload_n 3, 1) := by decide +kernel
theorem dX5_probe_131 : decode cX5_probe 131 = .ok (.aload_n 0, 1) := by decide +kernel
theorem dX5_probe_132 : decode cX5_probe 132 = .ok (.getfield 103, 3) := by decide +kernel
theorem dX5_probe_135 : decode cX5_probe 135 = .ok (.iconst 1, 1) := by decide +kernel
theorem dX5_probe_136 : decode cX5_probe 136 = .ok (.iadd, 1) := by decide +kernel
theorem dX5_probe_137 : decode cX5_probe 137 = .ok (.iconst 3, 1) := by decide +kernel
theorem dX5_probe_138 : decode cX5_probe 138 = .ok (.iload_n 1, 1) := by decide +kernel
theorem dX5_probe_139 : decode cX5_probe 139 = .ok (.imul, 1) := by decide +kernel
theorem dX5_probe_140 : decode cX5_probe 140 = .ok (.iconst 5, 1) := by decide +kernel
theorem dX5_probe_141 : decode cX5_probe 141 = .ok (.iload_n 2, 1) := by decide +kernel
theorem dX5_probe_142 : decode cX5_probe 142 = .ok (.imul, 1) := by decide +kernel
theorem dX5_probe_143 : decode cX5_probe 143 = .ok (.iadd, 1) := by decide +kernel
theorem dX5_probe_144 : decode cX5_probe 144 = .ok (.bipush 7, 2) := by decide +kernel
theorem dX5_probe_146 : decode cX5_probe 146 = .ok (.iload 4, 2) := by decide +kernel
theorem dX5_probe_148 : decode cX5_probe 148 = .ok (.iconst 1, 1) := by decide +kernel
theorem dX5_probe_149 : decode cX5_probe 149 = .ok (.iadd, 1) := by decide +kernel
theorem dX5_probe_150 : decode cX5_probe 150 = .ok (.imul, 1) := by decide +kernel
theorem dX5_probe_151 : decode cX5_probe 151 = .ok (.iadd, 1) := by decide +kernel
theorem dX5_probe_152 : decode cX5_probe 152 = .ok (.iconst 4, 1) := by decide +kernel
theorem dX5_probe_153 : decode cX5_probe 153 = .ok (.irem, 1) := by decide +kernel
theorem dX5_probe_154 : decode cX5_probe 154 = .ok (.iadd, 1) := by decide +kernel
theorem dX5_probe_155 : decode cX5_probe 155 = .ok (.iastore, 1) := by decide +kernel
theorem dX5_probe_156 : decode cX5_probe 156 = .ok (.goto 10, 3) := by decide +kernel
theorem dX5_probe_159 : decode cX5_probe 159 = .ok (.aload_n 0, 1) := by decide +kernel
theorem dX5_probe_160 : decode cX5_probe 160 = .ok (.getfield 53, 3) := by decide +kernel
theorem dX5_probe_163 : decode cX5_probe 163 = .ok (.iload_n 3, 1) := by decide +kernel
theorem dX5_probe_164 : decode cX5_probe 164 = .ok (.iconst 2, 1) := by decide +kernel
theorem dX5_probe_165 : decode cX5_probe 165 = .ok (.iastore, 1) := by decide +kernel
theorem dX5_probe_166 : decode cX5_probe 166 = .ok (.return_, 1) := by decide +kernel
theorem dX5_votesOf_0 : decode cX5_votesOf 0 = .ok (.iconst 0, 1) := by decide +kernel
theorem dX5_votesOf_1 : decode cX5_votesOf 1 = .ok (.istore_n 3, 1) := by decide +kernel
theorem dX5_votesOf_2 : decode cX5_votesOf 2 = .ok (.iconst 0, 1) := by decide +kernel
theorem dX5_votesOf_3 : decode cX5_votesOf 3 = .ok (.istore 4, 2) := by decide +kernel
theorem dX5_votesOf_5 : decode cX5_votesOf 5 = .ok (.iload 4, 2) := by decide +kernel
theorem dX5_votesOf_7 : decode cX5_votesOf 7 = .ok (.aload_n 0, 1) := by decide +kernel
theorem dX5_votesOf_8 : decode cX5_votesOf 8 = .ok (.getfield 89, 3) := by decide +kernel
theorem dX5_votesOf_11 : decode cX5_votesOf 11 = .ok (.if_icmp .ge 33, 3) := by decide +kernel
theorem dX5_votesOf_14 : decode cX5_votesOf 14 = .ok (.iload_n 3, 1) := by decide +kernel
theorem dX5_votesOf_15 : decode cX5_votesOf 15 = .ok (.aload_n 0, 1) := by decide +kernel
theorem dX5_votesOf_16 : decode cX5_votesOf 16 = .ok (.getfield 53, 3) := by decide +kernel
theorem dX5_votesOf_19 : decode cX5_votesOf 19 = .ok (.bipush 6, 2) := by decide +kernel
theorem dX5_votesOf_21 : decode cX5_votesOf 21 = .ok (.iload 4, 2) := by decide +kernel
theorem dX5_votesOf_23 : decode cX5_votesOf 23 = .ok (.imul, 1) := by decide +kernel
theorem dX5_votesOf_24 : decode cX5_votesOf 24 = .ok (.iload_n 1, 1) := by decide +kernel
theorem dX5_votesOf_25 : decode cX5_votesOf 25 = .ok (.iadd, 1) := by decide +kernel
theorem dX5_votesOf_26 : decode cX5_votesOf 26 = .ok (.iaload, 1) := by decide +kernel
theorem dX5_votesOf_27 : decode cX5_votesOf 27 = .ok (.iload_n 2, 1) := by decide +kernel
theorem dX5_votesOf_28 : decode cX5_votesOf 28 = .ok (.if_icmp .ne 7, 3) := by decide +kernel
theorem dX5_votesOf_31 : decode cX5_votesOf 31 = .ok (.iconst 1, 1) := by decide +kernel
theorem dX5_votesOf_32 : decode cX5_votesOf 32 = .ok (.goto 4, 3) := by decide +kernel
theorem dX5_votesOf_35 : decode cX5_votesOf 35 = .ok (.iconst 0, 1) := by decide +kernel
theorem dX5_votesOf_36 : decode cX5_votesOf 36 = .ok (.iadd, 1) := by decide +kernel
theorem dX5_votesOf_37 : decode cX5_votesOf 37 = .ok (.istore_n 3, 1) := by decide +kernel
theorem dX5_votesOf_38 : decode cX5_votesOf 38 = .ok (.iinc 4 1, 3) := by decide +kernel
theorem dX5_votesOf_41 : decode cX5_votesOf 41 = .ok (.goto (-36), 3) := by decide +kernel
theorem dX5_votesOf_44 : decode cX5_votesOf 44 = .ok (.iload_n 3, 1) := by decide +kernel
theorem dX5_votesOf_45 : decode cX5_votesOf 45 = .ok (.ireturn, 1) := by decide +kernel
theorem dX5_isTrusted_0 : decode cX5_isTrusted 0 = .ok (.aload_n 0, 1) := by decide +kernel
theorem dX5_isTrusted_1 : decode cX5_isTrusted 1 = .ok (.getfield 53, 3) := by decide +kernel
theorem dX5_isTrusted_4 : decode cX5_isTrusted 4 = .ok (.bipush 6, 2) := by decide +kernel
theorem dX5_isTrusted_6 : decode cX5_isTrusted 6 = .ok (.iload_n 1, 1) := by decide +kernel
theorem dX5_isTrusted_7 : decode cX5_isTrusted 7 = .ok (.imul, 1) := by decide +kernel
theorem dX5_isTrusted_8 : decode cX5_isTrusted 8 = .ok (.iload_n 2, 1) := by decide +kernel
theorem dX5_isTrusted_9 : decode cX5_isTrusted 9 = .ok (.iadd, 1) := by decide +kernel
theorem dX5_isTrusted_10 : decode cX5_isTrusted 10 = .ok (.iaload, 1) := by decide +kernel
theorem dX5_isTrusted_11 : decode cX5_isTrusted 11 = .ok (.ifCond .le 7, 3) := by decide +kernel
theorem dX5_isTrusted_14 : decode cX5_isTrusted 14 = .ok (.iconst 1, 1) := by decide +kernel
theorem dX5_isTrusted_15 : decode cX5_isTrusted 15 = .ok (.goto 4, 3) := by decide +kernel
theorem dX5_isTrusted_18 : decode cX5_isTrusted 18 = .ok (.iconst 0, 1) := by decide +kernel
theorem dX5_isTrusted_19 : decode cX5_isTrusted 19 = .ok (.istore_n 3, 1) := by decide +kernel
theorem dX5_isTrusted_20 : decode cX5_isTrusted 20 = .ok (.iload_n 2, 1) := by decide +kernel
theorem dX5_isTrusted_21 : decode cX5_isTrusted 21 = .ok (.istore 4, 2) := by decide +kernel
theorem dX5_isTrusted_23 : decode cX5_isTrusted 23 = .ok (.iload 4, 2) := by decide +kernel
theorem dX5_isTrusted_25 : decode cX5_isTrusted 25 = .ok (.ifCond .lt 33, 3) := by decide +kernel
theorem dX5_isTrusted_28 : decode cX5_isTrusted 28 = .ok (.iload_n 3, 1) := by decide +kernel
theorem dX5_isTrusted_29 : decode cX5_isTrusted 29 = .ok (.aload_n 0, 1) := by decide +kernel
theorem dX5_isTrusted_30 : decode cX5_isTrusted 30 = .ok (.getfield 17, 3) := by decide +kernel
theorem dX5_isTrusted_33 : decode cX5_isTrusted 33 = .ok (.iload 4, 2) := by decide +kernel
theorem dX5_isTrusted_35 : decode cX5_isTrusted 35 = .ok (.baload, 1) := by decide +kernel
theorem dX5_isTrusted_36 : decode cX5_isTrusted 36 = .ok (.ifCond .ne 7, 3) := by decide +kernel
theorem dX5_isTrusted_39 : decode cX5_isTrusted 39 = .ok (.iconst 1, 1) := by decide +kernel
theorem dX5_isTrusted_40 : decode cX5_isTrusted 40 = .ok (.goto 4, 3) := by decide +kernel
theorem dX5_isTrusted_43 : decode cX5_isTrusted 43 = .ok (.iconst 0, 1) := by decide +kernel
theorem dX5_isTrusted_44 : decode cX5_isTrusted 44 = .ok (.iand, 1) := by decide +kernel
theorem dX5_isTrusted_45 : decode cX5_isTrusted 45 = .ok (.istore_n 3, 1) := by decide +kernel
theorem dX5_isTrusted_46 : decode cX5_isTrusted 46 = .ok (.aload_n 0, 1) := by decide +kernel
theorem dX5_isTrusted_47 : decode cX5_isTrusted 47 = .ok (.getfield 7, 3) := by decide +kernel
theorem dX5_isTrusted_50 : decode cX5_isTrusted 50 = .ok (.iload 4, 2) := by decide +kernel
theorem dX5_isTrusted_52 : decode cX5_isTrusted 52 = .ok (.iaload, 1) := by decide +kernel
theorem dX5_isTrusted_53 : decode cX5_isTrusted 53 = .ok (.istore 4, 2) := by decide +kernel
theorem dX5_isTrusted_55 : decode cX5_isTrusted 55 = .ok (.goto (-32), 3) := by decide +kernel
theorem dX5_isTrusted_58 : decode cX5_isTrusted 58 = .ok (.iload_n 3, 1) := by decide +kernel
theorem dX5_isTrusted_59 : decode cX5_isTrusted 59 = .ok (.ireturn, 1) := by decide +kernel
set_option maxRecDepth 20000 in
theorem ggX5_judged_X5_isTrusted : GoodIn wsX5_judged wsX5_isTrusted := goodIn_r _ [8, 2, 9, 10, 11, 12, 13, 14, 15, 16, 17, 18, 19, 20, 21, 22, 23, 24, 25, 26, 27, 28, 29, 30, 31, 32, 33, 34, 35, 36, 37, 38] (by decide +kernel) (by decide +kernel)
set_option maxRecDepth 20000 in
theorem gX5_judged_X5_isTrusted : GoodIn wsX5_judged (wsV RX5 113 RX5 yX5_isTrusted wsX5_isTrusted) := goodIn_app (goodIn_of _ (by decide +kernel)) ggX5_judged_X5_isTrusted
theorem dX5_judged_0 : decode cX5_judged 0 = .ok (.iconst 0, 1) := by decide +kernel
theorem dX5_judged_1 : decode cX5_judged 1 = .ok (.istore_n 2, 1) := by decide +kernel
theorem dX5_judged_2 : decode cX5_judged 2 = .ok (.iconst 0, 1) := by decide +kernel
theorem dX5_judged_3 : decode cX5_judged 3 = .ok (.istore_n 3, 1) := by decide +kernel
theorem dX5_judged_4 : decode cX5_judged 4 = .ok (.iconst 0, 1) := by decide +kernel
theorem dX5_judged_5 : decode cX5_judged 5 = .ok (.istore 4, 2) := by decide +kernel
theorem dX5_judged_7 : decode cX5_judged 7 = .ok (.iload 4, 2) := by decide +kernel
theorem dX5_judged_9 : decode cX5_judged 9 = .ok (.aload_n 0, 1) := by decide +kernel
theorem dX5_judged_10 : decode cX5_judged 10 = .ok (.getfield 82, 3) := by decide +kernel
theorem dX5_judged_13 : decode cX5_judged 13 = .ok (.if_icmp .ge 60, 3) := by decide +kernel
theorem dX5_judged_16 : decode cX5_judged 16 = .ok (.aload_n 0, 1) := by decide +kernel
theorem dX5_judged_17 : decode cX5_judged 17 = .ok (.iload_n 1, 1) := by decide +kernel
theorem dX5_judged_18 : decode cX5_judged 18 = .ok (.iload 4, 2) := by decide +kernel
theorem dX5_judged_20 : decode cX5_judged 20 = .ok (.invokevirtual 113, 3) := by decide +kernel
theorem dX5_judged_23 : decode cX5_judged 23 = .ok (.istore 5, 2) := by decide +kernel
theorem dX5_judged_25 : decode cX5_judged 25 = .ok (.iload_n 2, 1) := by decide +kernel
theorem dX5_judged_26 : decode cX5_judged 26 = .ok (.iload 5, 2) := by decide +kernel
theorem dX5_judged_28 : decode cX5_judged 28 = .ok (.ifCond .eq 7, 3) := by decide +kernel
theorem dX5_judged_31 : decode cX5_judged 31 = .ok (.iconst 1, 1) := by decide +kernel
theorem dX5_judged_32 : decode cX5_judged 32 = .ok (.goto 4, 3) := by decide +kernel
theorem dX5_judged_35 : decode cX5_judged 35 = .ok (.iconst 0, 1) := by decide +kernel
theorem dX5_judged_36 : decode cX5_judged 36 = .ok (.iadd, 1) := by decide +kernel
theorem dX5_judged_37 : decode cX5_judged 37 = .ok (.istore_n 2, 1) := by decide +kernel
theorem dX5_judged_38 : decode cX5_judged 38 = .ok (.iload_n 3, 1) := by decide +kernel
theorem dX5_judged_39 : decode cX5_judged 39 = .ok (.iload 5, 2) := by decide +kernel
theorem dX5_judged_41 : decode cX5_judged 41 = .ok (.ifCond .eq 23, 3) := by decide +kernel
theorem dX5_judged_44 : decode cX5_judged 44 = .ok (.aload_n 0, 1) := by decide +kernel
theorem dX5_judged_45 : decode cX5_judged 45 = .ok (.getfield 53, 3) := by decide +kernel
theorem dX5_judged_48 : decode cX5_judged 48 = .ok (.bipush 6, 2) := by decide +kernel
theorem dX5_judged_50 : decode cX5_judged 50 = .ok (.iload_n 1, 1) := by decide +kernel
theorem dX5_judged_51 : decode cX5_judged 51 = .ok (.imul, 1) := by decide +kernel
theorem dX5_judged_52 : decode cX5_judged 52 = .ok (.iload 4, 2) := by decide +kernel
theorem dX5_judged_54 : decode cX5_judged 54 = .ok (.iadd, 1) := by decide +kernel
theorem dX5_judged_55 : decode cX5_judged 55 = .ok (.iaload, 1) := by decide +kernel
theorem dX5_judged_56 : decode cX5_judged 56 = .ok (.iconst 2, 1) := by decide +kernel
theorem dX5_judged_57 : decode cX5_judged 57 = .ok (.if_icmp .ne 7, 3) := by decide +kernel
theorem dX5_judged_60 : decode cX5_judged 60 = .ok (.iconst 1, 1) := by decide +kernel
theorem dX5_judged_61 : decode cX5_judged 61 = .ok (.goto 4, 3) := by decide +kernel
theorem dX5_judged_64 : decode cX5_judged 64 = .ok (.iconst 0, 1) := by decide +kernel
theorem dX5_judged_65 : decode cX5_judged 65 = .ok (.iadd, 1) := by decide +kernel
theorem dX5_judged_66 : decode cX5_judged 66 = .ok (.istore_n 3, 1) := by decide +kernel
theorem dX5_judged_67 : decode cX5_judged 67 = .ok (.iinc 4 1, 3) := by decide +kernel
theorem dX5_judged_70 : decode cX5_judged 70 = .ok (.goto (-63), 3) := by decide +kernel
theorem dX5_judged_73 : decode cX5_judged 73 = .ok (.iload_n 2, 1) := by decide +kernel
theorem dX5_judged_74 : decode cX5_judged 74 = .ok (.aload_n 0, 1) := by decide +kernel
theorem dX5_judged_75 : decode cX5_judged 75 = .ok (.getfield 35, 3) := by decide +kernel
theorem dX5_judged_78 : decode cX5_judged 78 = .ok (.iload_n 1, 1) := by decide +kernel
theorem dX5_judged_79 : decode cX5_judged 79 = .ok (.iaload, 1) := by decide +kernel
theorem dX5_judged_80 : decode cX5_judged 80 = .ok (.if_icmp .ge 7, 3) := by decide +kernel
theorem dX5_judged_83 : decode cX5_judged 83 = .ok (.iconst 0, 1) := by decide +kernel
theorem dX5_judged_84 : decode cX5_judged 84 = .ok (.goto 18, 3) := by decide +kernel
theorem dX5_judged_87 : decode cX5_judged 87 = .ok (.iload_n 3, 1) := by decide +kernel
theorem dX5_judged_88 : decode cX5_judged 88 = .ok (.aload_n 0, 1) := by decide +kernel
theorem dX5_judged_89 : decode cX5_judged 89 = .ok (.getfield 35, 3) := by decide +kernel
theorem dX5_judged_92 : decode cX5_judged 92 = .ok (.iload_n 1, 1) := by decide +kernel
theorem dX5_judged_93 : decode cX5_judged 93 = .ok (.iaload, 1) := by decide +kernel
theorem dX5_judged_94 : decode cX5_judged 94 = .ok (.if_icmp .lt 7, 3) := by decide +kernel
theorem dX5_judged_97 : decode cX5_judged 97 = .ok (.iconst 2, 1) := by decide +kernel
theorem dX5_judged_98 : decode cX5_judged 98 = .ok (.goto 4, 3) := by decide +kernel
theorem dX5_judged_101 : decode cX5_judged 101 = .ok (.iconst 1, 1) := by decide +kernel
theorem dX5_judged_102 : decode cX5_judged 102 = .ok (.ireturn, 1) := by decide +kernel
theorem dX5_isMaintained_0 : decode cX5_isMaintained 0 = .ok (.iconst 0, 1) := by decide +kernel
theorem dX5_isMaintained_1 : decode cX5_isMaintained 1 = .ok (.istore_n 2, 1) := by decide +kernel
theorem dX5_isMaintained_2 : decode cX5_isMaintained 2 = .ok (.iconst 0, 1) := by decide +kernel
theorem dX5_isMaintained_3 : decode cX5_isMaintained 3 = .ok (.istore_n 3, 1) := by decide +kernel
theorem dX5_isMaintained_4 : decode cX5_isMaintained 4 = .ok (.iload_n 3, 1) := by decide +kernel
theorem dX5_isMaintained_5 : decode cX5_isMaintained 5 = .ok (.aload_n 0, 1) := by decide +kernel
theorem dX5_isMaintained_6 : decode cX5_isMaintained 6 = .ok (.getfield 100, 3) := by decide +kernel
theorem dX5_isMaintained_9 : decode cX5_isMaintained 9 = .ok (.if_icmp .ge 53, 3) := by decide +kernel
theorem dX5_isMaintained_12 : decode cX5_isMaintained 12 = .ok (.iload_n 2, 1) := by decide +kernel
theorem dX5_isMaintained_13 : decode cX5_isMaintained 13 = .ok (.aload_n 0, 1) := by decide +kernel
theorem dX5_isMaintained_14 : decode cX5_isMaintained 14 = .ok (.getfield 62, 3) := by decide +kernel
theorem dX5_isMaintained_17 : decode cX5_isMaintained 17 = .ok (.iload_n 3, 1) := by decide +kernel
theorem dX5_isMaintained_18 : decode cX5_isMaintained 18 = .ok (.iaload, 1) := by decide +kernel
theorem dX5_isMaintained_19 : decode cX5_isMaintained 19 = .ok (.iload_n 1, 1) := by decide +kernel
theorem dX5_isMaintained_20 : decode cX5_isMaintained 20 = .ok (.if_icmp .ne 33, 3) := by decide +kernel
theorem dX5_isMaintained_23 : decode cX5_isMaintained 23 = .ok (.aload_n 0, 1) := by decide +kernel
theorem dX5_isMaintained_24 : decode cX5_isMaintained 24 = .ok (.getfield 65, 3) := by decide +kernel
theorem dX5_isMaintained_27 : decode cX5_isMaintained 27 = .ok (.iload_n 3, 1) := by decide +kernel
theorem dX5_isMaintained_28 : decode cX5_isMaintained 28 = .ok (.iaload, 1) := by decide +kernel
theorem dX5_isMaintained_29 : decode cX5_isMaintained 29 = .ok (.aload_n 0, 1) := by decide +kernel
theorem dX5_isMaintained_30 : decode cX5_isMaintained 30 = .ok (.getfield 103, 3) := by decide +kernel
theorem dX5_isMaintained_33 : decode cX5_isMaintained 33 = .ok (.if_icmp .gt 20, 3) := by decide +kernel
theorem dX5_isMaintained_36 : decode cX5_isMaintained 36 = .ok (.aload_n 0, 1) := by decide +kernel
theorem dX5_isMaintained_37 : decode cX5_isMaintained 37 = .ok (.getfield 103, 3) := by decide +kernel
theorem dX5_isMaintained_40 : decode cX5_isMaintained 40 = .ok (.aload_n 0, 1) := by decide +kernel
theorem dX5_isMaintained_41 : decode cX5_isMaintained 41 = .ok (.getfield 68, 3) := by decide +kernel
theorem dX5_isMaintained_44 : decode cX5_isMaintained 44 = .ok (.iload_n 3, 1) := by decide +kernel
theorem dX5_isMaintained_45 : decode cX5_isMaintained 45 = .ok (.iaload, 1) := by decide +kernel
theorem dX5_isMaintained_46 : decode cX5_isMaintained 46 = .ok (.if_icmp .ge 7, 3) := by decide +kernel
theorem dX5_isMaintained_49 : decode cX5_isMaintained 49 = .ok (.iconst 1, 1) := by decide +kernel
theorem dX5_isMaintained_50 : decode cX5_isMaintained 50 = .ok (.goto 4, 3) := by decide +kernel
theorem dX5_isMaintained_53 : decode cX5_isMaintained 53 = .ok (.iconst 0, 1) := by decide +kernel
theorem dX5_isMaintained_54 : decode cX5_isMaintained 54 = .ok (.ior, 1) := by decide +kernel
theorem dX5_isMaintained_55 : decode cX5_isMaintained 55 = .ok (.istore_n 2, 1) := by decide +kernel
theorem dX5_isMaintained_56 : decode cX5_isMaintained 56 = .ok (.iinc 3 1, 3) := by decide +kernel
theorem dX5_isMaintained_59 : decode cX5_isMaintained 59 = .ok (.goto (-55), 3) := by decide +kernel
theorem dX5_isMaintained_62 : decode cX5_isMaintained 62 = .ok (.iload_n 2, 1) := by decide +kernel
theorem dX5_isMaintained_63 : decode cX5_isMaintained 63 = .ok (.ireturn, 1) := by decide +kernel
set_option maxRecDepth 20000 in
theorem ggX5_raises_X5_isMaintained : GoodIn wsX5_raises wsX5_isMaintained := goodIn_r _ [11, 12, 13, 14, 5, 15, 16, 17, 18, 19, 20, 21, 22, 23, 24, 25, 26, 27, 28, 29, 30, 31, 32, 33, 34, 35, 36, 37, 38, 39, 40, 41, 42, 43] (by decide +kernel) (by decide +kernel)
set_option maxRecDepth 20000 in
theorem gX5_raises_X5_isMaintained : GoodIn wsX5_raises (wsV RX5 116 RX5 yX5_isMaintained wsX5_isMaintained) := goodIn_app (goodIn_of _ (by decide +kernel)) ggX5_raises_X5_isMaintained
theorem dX5_raises_0 : decode cX5_raises 0 = .ok (.aload_n 0, 1) := by decide +kernel
theorem dX5_raises_1 : decode cX5_raises 1 = .ok (.getfield 38, 3) := by decide +kernel
theorem dX5_raises_4 : decode cX5_raises 4 = .ok (.iload_n 1, 1) := by decide +kernel
theorem dX5_raises_5 : decode cX5_raises 5 = .ok (.iaload, 1) := by decide +kernel
theorem dX5_raises_6 : decode cX5_raises 6 = .ok (.iconst 2, 1) := by decide +kernel
theorem dX5_raises_7 : decode cX5_raises 7 = .ok (.if_icmp .ne 68, 3) := by decide +kernel
theorem dX5_raises_10 : decode cX5_raises 10 = .ok (.aload_n 0, 1) := by decide +kernel
theorem dX5_raises_11 : decode cX5_raises 11 = .ok (.getfield 41, 3) := by decide +kernel
theorem dX5_raises_14 : decode cX5_raises 14 = .ok (.iload_n 1, 1) := by decide +kernel
theorem dX5_raises_15 : decode cX5_raises 15 = .ok (.iaload, 1) := by decide +kernel
theorem dX5_raises_16 : decode cX5_raises 16 = .ok (.ifCond .ge 59, 3) := by decide +kernel
theorem dX5_raises_19 : decode cX5_raises 19 = .ok (.aload_n 0, 1) := by decide +kernel
theorem dX5_raises_20 : decode cX5_raises 20 = .ok (.iload_n 1, 1) := by decide +kernel
theorem dX5_raises_21 : decode cX5_raises 21 = .ok (.invokevirtual 116, 3) := by decide +kernel
theorem dX5_raises_24 : decode cX5_raises 24 = .ok (.ifCond .ne 51, 3) := by decide +kernel
theorem dX5_raises_27 : decode cX5_raises 27 = .ok (.aload_n 0, 1) := by decide +kernel
theorem dX5_raises_28 : decode cX5_raises 28 = .ok (.getfield 72, 3) := by decide +kernel
theorem dX5_raises_31 : decode cX5_raises 31 = .ok (.aload_n 0, 1) := by decide +kernel
theorem dX5_raises_32 : decode cX5_raises 32 = .ok (.getfield 119, 3) := by decide +kernel
theorem dX5_raises_35 : decode cX5_raises 35 = .ok (.bipush 8, 2) := by decide +kernel
theorem dX5_raises_37 : decode cX5_raises 37 = .ok (.aload_n 0, 1) := by decide +kernel
theorem dX5_raises_38 : decode cX5_raises 38 = .ok (.getfield 103, 3) := by decide +kernel
theorem dX5_raises_41 : decode cX5_raises 41 = .ok (.imul, 1) := by decide +kernel
theorem dX5_raises_42 : decode cX5_raises 42 = .ok (.iload_n 1, 1) := by decide +kernel
theorem dX5_raises_43 : decode cX5_raises 43 = .ok (.iadd, 1) := by decide +kernel
theorem dX5_raises_44 : decode cX5_raises 44 = .ok (.iastore, 1) := by decide +kernel
theorem dX5_raises_45 : decode cX5_raises 45 = .ok (.aload_n 0, 1) := by decide +kernel
theorem dX5_raises_46 : decode cX5_raises 46 = .ok (.getfield 75, 3) := by decide +kernel
theorem dX5_raises_49 : decode cX5_raises 49 = .ok (.aload_n 0, 1) := by decide +kernel
theorem dX5_raises_50 : decode cX5_raises 50 = .ok (.getfield 119, 3) := by decide +kernel
theorem dX5_raises_53 : decode cX5_raises 53 = .ok (.iconst (-1), 1) := by decide +kernel
theorem dX5_raises_54 : decode cX5_raises 54 = .ok (.iastore, 1) := by decide +kernel
theorem dX5_raises_55 : decode cX5_raises 55 = .ok (.aload_n 0, 1) := by decide +kernel
theorem dX5_raises_56 : decode cX5_raises 56 = .ok (.getfield 41, 3) := by decide +kernel
theorem dX5_raises_59 : decode cX5_raises 59 = .ok (.iload_n 1, 1) := by decide +kernel
theorem dX5_raises_60 : decode cX5_raises 60 = .ok (.aload_n 0, 1) := by decide +kernel
theorem dX5_raises_61 : decode cX5_raises 61 = .ok (.getfield 119, 3) := by decide +kernel
theorem dX5_raises_64 : decode cX5_raises 64 = .ok (.iastore, 1) := by decide +kernel
theorem dX5_raises_65 : decode cX5_raises 65 = .ok (.aload_n 0, 1) := by decide +kernel
theorem dX5_raises_66 : decode cX5_raises 66 = .ok (.dup, 1) := by decide +kernel
theorem dX5_raises_67 : decode cX5_raises 67 = .ok (.getfield 119, 3) := by decide +kernel
theorem dX5_raises_70 : decode cX5_raises 70 = .ok (.iconst 1, 1) := by decide +kernel
theorem dX5_raises_71 : decode cX5_raises 71 = .ok (.iadd, 1) := by decide +kernel
theorem dX5_raises_72 : decode cX5_raises 72 = .ok (.putfield 119, 3) := by decide +kernel
theorem dX5_raises_75 : decode cX5_raises 75 = .ok (.aload_n 0, 1) := by decide +kernel
theorem dX5_raises_76 : decode cX5_raises 76 = .ok (.getfield 38, 3) := by decide +kernel
theorem dX5_raises_79 : decode cX5_raises 79 = .ok (.iload_n 1, 1) := by decide +kernel
theorem dX5_raises_80 : decode cX5_raises 80 = .ok (.iaload, 1) := by decide +kernel
theorem dX5_raises_81 : decode cX5_raises 81 = .ok (.iconst 1, 1) := by decide +kernel
theorem dX5_raises_82 : decode cX5_raises 82 = .ok (.if_icmp .ne 34, 3) := by decide +kernel
theorem dX5_raises_85 : decode cX5_raises 85 = .ok (.aload_n 0, 1) := by decide +kernel
theorem dX5_raises_86 : decode cX5_raises 86 = .ok (.getfield 41, 3) := by decide +kernel
theorem dX5_raises_89 : decode cX5_raises 89 = .ok (.iload_n 1, 1) := by decide +kernel
theorem dX5_raises_90 : decode cX5_raises 90 = .ok (.iaload, 1) := by decide +kernel
theorem dX5_raises_91 : decode cX5_raises 91 = .ok (.ifCond .lt 25, 3) := by decide +kernel
theorem dX5_raises_94 : decode cX5_raises 94 = .ok (.aload_n 0, 1) := by decide +kernel
theorem dX5_raises_95 : decode cX5_raises 95 = .ok (.getfield 75, 3) := by decide +kernel
theorem dX5_raises_98 : decode cX5_raises 98 = .ok (.aload_n 0, 1) := by decide +kernel
theorem dX5_raises_99 : decode cX5_raises 99 = .ok (.getfield 41, 3) := by decide +kernel
theorem dX5_raises_102 : decode cX5_raises 102 = .ok (.iload_n 1, 1) := by decide +kernel
theorem dX5_raises_103 : decode cX5_raises 103 = .ok (.iaload, 1) := by decide +kernel
theorem dX5_raises_104 : decode cX5_raises 104 = .ok (.aload_n 0, 1) := by decide +kernel
theorem dX5_raises_105 : decode cX5_raises 105 = .ok (.getfield 103, 3) := by decide +kernel
theorem dX5_raises_108 : decode cX5_raises 108 = .ok (.iastore, 1) := by decide +kernel
theorem dX5_raises_109 : decode cX5_raises 109 = .ok (.aload_n 0, 1) := by decide +kernel
theorem dX5_raises_110 : decode cX5_raises 110 = .ok (.getfield 41, 3) := by decide +kernel
theorem dX5_raises_113 : decode cX5_raises 113 = .ok (.iload_n 1, 1) := by decide +kernel
theorem dX5_raises_114 : decode cX5_raises 114 = .ok (.iconst (-1), 1) := by decide +kernel
theorem dX5_raises_115 : decode cX5_raises 115 = .ok (.iastore, 1) := by decide +kernel
theorem dX5_raises_116 : decode cX5_raises 116 = .ok (.return_, 1) := by decide +kernel
set_option maxRecDepth 20000 in
theorem ggX5_passes_X5_probe : GoodIn wsX5_passes wsX5_probe := goodIn_r _ [12, 13, 14, 1, 15, 16, 17, 18, 19, 20, 21, 11, 22, 23, 24, 25, 26, 27, 28, 29, 30, 31, 61, 62, 63, 64, 65, 66, 67, 68, 69, 70, 71, 72, 73, 74, 75, 76, 77, 78, 79, 80, 81, 82, 83, 84, 85, 86, 87, 88] (by decide +kernel) (by decide +kernel)
set_option maxRecDepth 20000 in
theorem gX5_passes_X5_probe : GoodIn wsX5_passes (wsV RX5 122 RX5 yX5_probe wsX5_probe) := goodIn_app (goodIn_of _ (by decide +kernel)) ggX5_passes_X5_probe
set_option maxRecDepth 20000 in
theorem ggX5_passes_X5_votesOf : GoodIn wsX5_passes wsX5_votesOf := goodIn_r _ [35, 2, 16, 61, 62, 63, 64, 65, 66, 67, 68, 69, 70, 71, 72, 73, 74, 75, 76, 77, 78, 79, 80, 81, 82, 83, 84, 85, 86, 87, 88] (by decide +kernel) (by decide +kernel)
set_option maxRecDepth 20000 in
theorem gX5_passes_X5_votesOf : GoodIn wsX5_passes (wsV RX5 126 RX5 yX5_votesOf wsX5_votesOf) := goodIn_app (goodIn_of _ (by decide +kernel)) ggX5_passes_X5_votesOf
set_option maxRecDepth 20000 in
theorem ggX5_passes_X5_judged : GoodIn wsX5_passes wsX5_judged := goodIn_r _ [39, 3, 16, 40, 41, 42, 43, 11, 44, 4, 31, 61, 62, 63, 64, 65, 66, 67, 68, 69, 70, 71, 72, 73, 74, 75, 76, 77, 78, 79, 80, 81, 82, 83, 84, 85, 86, 87, 88] (by decide +kernel) (by decide +kernel)
set_option maxRecDepth 20000 in
theorem gX5_passes_X5_judged : GoodIn wsX5_passes (wsV RX5 130 RX5 yX5_judged wsX5_judged) := goodIn_app (goodIn_of _ (by decide +kernel)) ggX5_passes_X5_judged
set_option maxRecDepth 20000 in
theorem ggX5_passes_X5_raises : GoodIn wsX5_passes wsX5_raises := goodIn_r _ [48, 5, 49, 50, 51, 1, 52, 53, 54, 55, 11, 56, 57, 58, 59, 60, 61, 62, 63, 64, 65, 66, 67, 68, 69, 70, 71, 72, 73, 74, 75, 76, 77, 78, 79, 80, 81, 82, 83, 84, 85, 86, 87, 88] (by decide +kernel) (by decide +kernel)
set_option maxRecDepth 20000 in
theorem gX5_passes_X5_raises : GoodIn wsX5_passes (wsV RX5 134 RX5 yX5_raises wsX5_raises) := goodIn_app (goodIn_of _ (by decide +kernel)) ggX5_passes_X5_raises
theorem dX5_passes_0 : decode cX5_passes 0 = .ok (.aload_n 0, 1) := by decide +kernel
theorem dX5_passes_1 : decode cX5_passes 1 = .ok (.dup, 1) := by decide +kernel
theorem dX5_passes_2 : decode cX5_passes 2 = .ok (.getfield 103, 3) := by decide +kernel
theorem dX5_passes_5 : decode cX5_passes 5 = .ok (.iconst 1, 1) := by decide +kernel
theorem dX5_passes_6 : decode cX5_passes 6 = .ok (.iadd, 1) := by decide +kernel
theorem dX5_passes_7 : decode cX5_passes 7 = .ok (.putfield 103, 3) := by decide +kernel
theorem dX5_passes_10 : decode cX5_passes 10 = .ok (.iconst 0, 1) := by decide +kernel
theorem dX5_passes_11 : decode cX5_passes 11 = .ok (.istore_n 1, 1) := by decide +kernel
theorem dX5_passes_12 : decode cX5_passes 12 = .ok (.iload_n 1, 1) := by decide +kernel
theorem dX5_passes_13 : decode cX5_passes 13 = .ok (.bipush 6, 2) := by decide +kernel
theorem dX5_passes_15 : decode cX5_passes 15 = .ok (.aload_n 0, 1) := by decide +kernel
theorem dX5_passes_16 : decode cX5_passes 16 = .ok (.getfield 89, 3) := by decide +kernel
theorem dX5_passes_19 : decode cX5_passes 19 = .ok (.imul, 1) := by decide +kernel
theorem dX5_passes_20 : decode cX5_passes 20 = .ok (.if_icmp .ge 32, 3) := by decide +kernel
theorem dX5_passes_23 : decode cX5_passes 23 = .ok (.iload_n 1, 1) := by decide +kernel
theorem dX5_passes_24 : decode cX5_passes 24 = .ok (.bipush 6, 2) := by decide +kernel
theorem dX5_passes_26 : decode cX5_passes 26 = .ok (.irem, 1) := by decide +kernel
theorem dX5_passes_27 : decode cX5_passes 27 = .ok (.aload_n 0, 1) := by decide +kernel
theorem dX5_passes_28 : decode cX5_passes 28 = .ok (.getfield 82, 3) := by decide +kernel
theorem dX5_passes_31 : decode cX5_passes 31 = .ok (.if_icmp .ge 15, 3) := by decide +kernel
theorem dX5_passes_34 : decode cX5_passes 34 = .ok (.aload_n 0, 1) := by decide +kernel
theorem dX5_passes_35 : decode cX5_passes 35 = .ok (.iload_n 1, 1) := by decide +kernel
theorem dX5_passes_36 : decode cX5_passes 36 = .ok (.bipush 6, 2) := by decide +kernel
theorem dX5_passes_38 : decode cX5_passes 38 = .ok (.idiv, 1) := by decide +kernel
theorem dX5_passes_39 : decode cX5_passes 39 = .ok (.iload_n 1, 1) := by decide +kernel
theorem dX5_passes_40 : decode cX5_passes 40 = .ok (.bipush 6, 2) := by decide +kernel
theorem dX5_passes_42 : decode cX5_passes 42 = .ok (.irem, 1) := by decide +kernel
theorem dX5_passes_43 : decode cX5_passes 43 = .ok (.invokevirtual 122, 3) := by decide +kernel
theorem dX5_passes_46 : decode cX5_passes 46 = .ok (.iinc 1 1, 3) := by decide +kernel
theorem dX5_passes_49 : decode cX5_passes 49 = .ok (.goto (-37), 3) := by decide +kernel
theorem dX5_passes_52 : decode cX5_passes 52 = .ok (.iconst 0, 1) := by decide +kernel
theorem dX5_passes_53 : decode cX5_passes 53 = .ok (.istore_n 1, 1) := by decide +kernel
theorem dX5_passes_54 : decode cX5_passes 54 = .ok (.iload_n 1, 1) := by decide +kernel
theorem dX5_passes_55 : decode cX5_passes 55 = .ok (.aload_n 0, 1) := by decide +kernel
theorem dX5_passes_56 : decode cX5_passes 56 = .ok (.getfield 82, 3) := by decide +kernel
theorem dX5_passes_59 : decode cX5_passes 59 = .ok (.if_icmp .ge 48, 3) := by decide +kernel
theorem dX5_passes_62 : decode cX5_passes 62 = .ok (.aload_n 0, 1) := by decide +kernel
theorem dX5_passes_63 : decode cX5_passes 63 = .ok (.iload_n 1, 1) := by decide +kernel
theorem dX5_passes_64 : decode cX5_passes 64 = .ok (.iconst 2, 1) := by decide +kernel
theorem dX5_passes_65 : decode cX5_passes 65 = .ok (.invokevirtual 126, 3) := by decide +kernel
theorem dX5_passes_68 : decode cX5_passes 68 = .ok (.istore_n 2, 1) := by decide +kernel
theorem dX5_passes_69 : decode cX5_passes 69 = .ok (.iload_n 2, 1) := by decide +kernel
theorem dX5_passes_70 : decode cX5_passes 70 = .ok (.aload_n 0, 1) := by decide +kernel
theorem dX5_passes_71 : decode cX5_passes 71 = .ok (.iload_n 1, 1) := by decide +kernel
theorem dX5_passes_72 : decode cX5_passes 72 = .ok (.iconst 1, 1) := by decide +kernel
theorem dX5_passes_73 : decode cX5_passes 73 = .ok (.invokevirtual 126, 3) := by decide +kernel
theorem dX5_passes_76 : decode cX5_passes 76 = .ok (.iadd, 1) := by decide +kernel
theorem dX5_passes_77 : decode cX5_passes 77 = .ok (.istore_n 3, 1) := by decide +kernel
theorem dX5_passes_78 : decode cX5_passes 78 = .ok (.aload_n 0, 1) := by decide +kernel
theorem dX5_passes_79 : decode cX5_passes 79 = .ok (.getfield 17, 3) := by decide +kernel
theorem dX5_passes_82 : decode cX5_passes 82 = .ok (.iload_n 1, 1) := by decide +kernel
theorem dX5_passes_83 : decode cX5_passes 83 = .ok (.iload_n 3, 1) := by decide +kernel
theorem dX5_passes_84 : decode cX5_passes 84 = .ok (.iconst 1, 1) := by decide +kernel
theorem dX5_passes_85 : decode cX5_passes 85 = .ok (.if_icmp .le 14, 3) := by decide +kernel
theorem dX5_passes_88 : decode cX5_passes 88 = .ok (.iconst 2, 1) := by decide +kernel
theorem dX5_passes_89 : decode cX5_passes 89 = .ok (.iload_n 2, 1) := by decide +kernel
theorem dX5_passes_90 : decode cX5_passes 90 = .ok (.imul, 1) := by decide +kernel
theorem dX5_passes_91 : decode cX5_passes 91 = .ok (.iload_n 3, 1) := by decide +kernel
theorem dX5_passes_92 : decode cX5_passes 92 = .ok (.if_icmp .le 7, 3) := by decide +kernel
theorem dX5_passes_95 : decode cX5_passes 95 = .ok (.iconst 1, 1) := by decide +kernel
theorem dX5_passes_96 : decode cX5_passes 96 = .ok (.goto 4, 3) := by decide +kernel
theorem dX5_passes_99 : decode cX5_passes 99 = .ok (.iconst 0, 1) := by decide +kernel
theorem dX5_passes_100 : decode cX5_passes 100 = .ok (.bastore, 1) := by decide +kernel
theorem dX5_passes_101 : decode cX5_passes 101 = .ok (.iinc 1 1, 3) := by decide +kernel
theorem dX5_passes_104 : decode cX5_passes 104 = .ok (.goto (-50), 3) := by decide +kernel
theorem dX5_passes_107 : decode cX5_passes 107 = .ok (.iconst 0, 1) := by decide +kernel
theorem dX5_passes_108 : decode cX5_passes 108 = .ok (.istore_n 1, 1) := by decide +kernel
theorem dX5_passes_109 : decode cX5_passes 109 = .ok (.iload_n 1, 1) := by decide +kernel
theorem dX5_passes_110 : decode cX5_passes 110 = .ok (.aload_n 0, 1) := by decide +kernel
theorem dX5_passes_111 : decode cX5_passes 111 = .ok (.getfield 89, 3) := by decide +kernel
theorem dX5_passes_114 : decode cX5_passes 114 = .ok (.if_icmp .ge 72, 3) := by decide +kernel
theorem dX5_passes_117 : decode cX5_passes 117 = .ok (.aload_n 0, 1) := by decide +kernel
theorem dX5_passes_118 : decode cX5_passes 118 = .ok (.getfield 38, 3) := by decide +kernel
theorem dX5_passes_121 : decode cX5_passes 121 = .ok (.iload_n 1, 1) := by decide +kernel
theorem dX5_passes_122 : decode cX5_passes 122 = .ok (.aload_n 0, 1) := by decide +kernel
theorem dX5_passes_123 : decode cX5_passes 123 = .ok (.iload_n 1, 1) := by decide +kernel
theorem dX5_passes_124 : decode cX5_passes 124 = .ok (.invokevirtual 130, 3) := by decide +kernel
theorem dX5_passes_127 : decode cX5_passes 127 = .ok (.iastore, 1) := by decide +kernel
theorem dX5_passes_128 : decode cX5_passes 128 = .ok (.aload_n 0, 1) := by decide +kernel
theorem dX5_passes_129 : decode cX5_passes 129 = .ok (.iload_n 1, 1) := by decide +kernel
theorem dX5_passes_130 : decode cX5_passes 130 = .ok (.invokevirtual 134, 3) := by decide +kernel
theorem dX5_passes_133 : decode cX5_passes 133 = .ok (.aload_n 0, 1) := by decide +kernel
theorem dX5_passes_134 : decode cX5_passes 134 = .ok (.getfield 44, 3) := by decide +kernel
theorem dX5_passes_137 : decode cX5_passes 137 = .ok (.iload_n 1, 1) := by decide +kernel
theorem dX5_passes_138 : decode cX5_passes 138 = .ok (.dup2, 1) := by decide +kernel
theorem dX5_passes_139 : decode cX5_passes 139 = .ok (.iaload, 1) := by decide +kernel
theorem dX5_passes_140 : decode cX5_passes 140 = .ok (.aload_n 0, 1) := by decide +kernel
theorem dX5_passes_141 : decode cX5_passes 141 = .ok (.getfield 38, 3) := by decide +kernel
theorem dX5_passes_144 : decode cX5_passes 144 = .ok (.iload_n 1, 1) := by decide +kernel
theorem dX5_passes_145 : decode cX5_passes 145 = .ok (.iaload, 1) := by decide +kernel
theorem dX5_passes_146 : decode cX5_passes 146 = .ok (.iconst 1, 1) := by decide +kernel
theorem dX5_passes_147 : decode cX5_passes 147 = .ok (.if_icmp .ne 7, 3) := by decide +kernel
theorem dX5_passes_150 : decode cX5_passes 150 = .ok (.iconst 1, 1) := by decide +kernel
theorem dX5_passes_151 : decode cX5_passes 151 = .ok (.goto 4, 3) := by decide +kernel
theorem dX5_passes_154 : decode cX5_passes 154 = .ok (.iconst 0, 1) := by decide +kernel
theorem dX5_passes_155 : decode cX5_passes 155 = .ok (.iadd, 1) := by decide +kernel
theorem dX5_passes_156 : decode cX5_passes 156 = .ok (.iastore, 1) := by decide +kernel
theorem dX5_passes_157 : decode cX5_passes 157 = .ok (.aload_n 0, 1) := by decide +kernel
theorem dX5_passes_158 : decode cX5_passes 158 = .ok (.getfield 47, 3) := by decide +kernel
theorem dX5_passes_161 : decode cX5_passes 161 = .ok (.iload_n 1, 1) := by decide +kernel
theorem dX5_passes_162 : decode cX5_passes 162 = .ok (.dup2, 1) := by decide +kernel
theorem dX5_passes_163 : decode cX5_passes 163 = .ok (.iaload, 1) := by decide +kernel
theorem dX5_passes_164 : decode cX5_passes 164 = .ok (.aload_n 0, 1) := by decide +kernel
theorem dX5_passes_165 : decode cX5_passes 165 = .ok (.getfield 38, 3) := by decide +kernel
theorem dX5_passes_168 : decode cX5_passes 168 = .ok (.iload_n 1, 1) := by decide +kernel
theorem dX5_passes_169 : decode cX5_passes 169 = .ok (.iaload, 1) := by decide +kernel
theorem dX5_passes_170 : decode cX5_passes 170 = .ok (.ifCond .le 7, 3) := by decide +kernel
theorem dX5_passes_173 : decode cX5_passes 173 = .ok (.iconst 1, 1) := by decide +kernel
theorem dX5_passes_174 : decode cX5_passes 174 = .ok (.goto 4, 3) := by decide +kernel
theorem dX5_passes_177 : decode cX5_passes 177 = .ok (.iconst 0, 1) := by decide +kernel
theorem dX5_passes_178 : decode cX5_passes 178 = .ok (.iadd, 1) := by decide +kernel
theorem dX5_passes_179 : decode cX5_passes 179 = .ok (.iastore, 1) := by decide +kernel
theorem dX5_passes_180 : decode cX5_passes 180 = .ok (.iinc 1 1, 3) := by decide +kernel
theorem dX5_passes_183 : decode cX5_passes 183 = .ok (.goto (-74), 3) := by decide +kernel
theorem dX5_passes_186 : decode cX5_passes 186 = .ok (.return_, 1) := by decide +kernel
set_option maxRecDepth 20000 in
theorem ggX5_pass_X5_isIn : GoodIn wsX5_pass wsX5_isIn := goodIn_r _ [6] (by decide +kernel) (by decide +kernel)
set_option maxRecDepth 20000 in
theorem gX5_pass_X5_isIn : GoodIn wsX5_pass (va_wsS RX5 85 yX5_isIn wsX5_isIn) := goodIn_app (goodIn_of _ (by decide +kernel)) ggX5_pass_X5_isIn
set_option maxRecDepth 20000 in
theorem ggX5_pass_X5_passes : GoodIn wsX5_pass wsX5_passes := goodIn_r _ [10, 11, 12, 13, 14, 15, 16, 17, 18, 19, 20, 5, 21, 22, 23, 24, 25, 26, 27, 28, 29, 30, 31, 32, 33, 34, 35, 36, 37, 38, 39, 40, 41, 42, 43, 44, 45, 46, 47, 48, 49, 50, 51, 52, 53, 54, 55, 56, 57, 58, 59, 2, 60, 61, 62, 63, 64, 65, 66, 67, 68, 69, 70, 71, 72, 73, 74, 75, 76, 77, 78, 79, 80, 81, 82, 83, 84, 85, 86, 87, 88, 89, 90, 91, 92, 93, 94, 95, 96] (by decide +kernel) (by decide +kernel)
set_option maxRecDepth 20000 in
theorem gX5_pass_X5_passes : GoodIn wsX5_pass (wsV RX5 138 RX5 yX5_passes wsX5_passes) := goodIn_app (goodIn_of _ (by decide +kernel)) ggX5_pass_X5_passes
theorem dX5_pass_0 : decode cX5_pass 0 = .ok (.aload_n 0, 1) := by decide +kernel
theorem dX5_pass_1 : decode cX5_pass 1 = .ok (.iload_n 1, 1) := by decide +kernel
theorem dX5_pass_2 : decode cX5_pass 2 = .ok (.iconst 1, 1) := by decide +kernel
theorem dX5_pass_3 : decode cX5_pass 3 = .ok (.sipush 200, 3) := by decide +kernel
theorem dX5_pass_6 : decode cX5_pass 6 = .ok (.invokestatic 85, 3) := by decide +kernel
theorem dX5_pass_9 : decode cX5_pass 9 = .ok (.ifCond .eq 7, 3) := by decide +kernel
theorem dX5_pass_12 : decode cX5_pass 12 = .ok (.iconst 0, 1) := by decide +kernel
theorem dX5_pass_13 : decode cX5_pass 13 = .ok (.goto 4, 3) := by decide +kernel
theorem dX5_pass_16 : decode cX5_pass 16 = .ok (.iconst 1, 1) := by decide +kernel
theorem dX5_pass_17 : decode cX5_pass 17 = .ok (.putfield 78, 3) := by decide +kernel
theorem dX5_pass_20 : decode cX5_pass 20 = .ok (.aload_n 0, 1) := by decide +kernel
theorem dX5_pass_21 : decode cX5_pass 21 = .ok (.getfield 119, 3) := by decide +kernel
theorem dX5_pass_24 : decode cX5_pass 24 = .ok (.istore_n 2, 1) := by decide +kernel
theorem dX5_pass_25 : decode cX5_pass 25 = .ok (.iconst 0, 1) := by decide +kernel
theorem dX5_pass_26 : decode cX5_pass 26 = .ok (.istore_n 3, 1) := by decide +kernel
theorem dX5_pass_27 : decode cX5_pass 27 = .ok (.iload_n 3, 1) := by decide +kernel
theorem dX5_pass_28 : decode cX5_pass 28 = .ok (.iload_n 1, 1) := by decide +kernel
theorem dX5_pass_29 : decode cX5_pass 29 = .ok (.if_icmp .ge 20, 3) := by decide +kernel
theorem dX5_pass_32 : decode cX5_pass 32 = .ok (.aload_n 0, 1) := by decide +kernel
theorem dX5_pass_33 : decode cX5_pass 33 = .ok (.getfield 78, 3) := by decide +kernel
theorem dX5_pass_36 : decode cX5_pass 36 = .ok (.ifCond .ne 13, 3) := by decide +kernel
theorem dX5_pass_39 : decode cX5_pass 39 = .ok (.aload_n 0, 1) := by decide +kernel
theorem dX5_pass_40 : decode cX5_pass 40 = .ok (.invokevirtual 138, 3) := by decide +kernel
theorem dX5_pass_43 : decode cX5_pass 43 = .ok (.iinc 3 1, 3) := by decide +kernel
theorem dX5_pass_46 : decode cX5_pass 46 = .ok (.goto (-19), 3) := by decide +kernel
theorem dX5_pass_49 : decode cX5_pass 49 = .ok (.aload_n 0, 1) := by decide +kernel
theorem dX5_pass_50 : decode cX5_pass 50 = .ok (.getfield 119, 3) := by decide +kernel
theorem dX5_pass_53 : decode cX5_pass 53 = .ok (.iload_n 2, 1) := by decide +kernel
theorem dX5_pass_54 : decode cX5_pass 54 = .ok (.isub, 1) := by decide +kernel
theorem dX5_pass_55 : decode cX5_pass 55 = .ok (.ireturn, 1) := by decide +kernel
theorem dX5_minute_0 : decode cX5_minute 0 = .ok (.aload_n 0, 1) := by decide +kernel
theorem dX5_minute_1 : decode cX5_minute 1 = .ok (.iconst 0, 1) := by decide +kernel
theorem dX5_minute_2 : decode cX5_minute 2 = .ok (.putfield 78, 3) := by decide +kernel
theorem dX5_minute_5 : decode cX5_minute 5 = .ok (.aload_n 0, 1) := by decide +kernel
theorem dX5_minute_6 : decode cX5_minute 6 = .ok (.getfield 103, 3) := by decide +kernel
theorem dX5_minute_9 : decode cX5_minute 9 = .ok (.ireturn, 1) := by decide +kernel
set_option maxRecDepth 20000 in
theorem ggX5_failing_X5_isCheck : GoodIn wsX5_failing wsX5_isCheck := goodIn_r _ [7, 8, 9, 10, 6, 11, 19, 20, 21, 22, 23, 24, 25, 26, 27, 28, 29, 30, 31, 32, 33, 34, 35, 36, 37, 38, 39, 40, 41, 42, 43, 44, 45, 46] (by decide +kernel) (by decide +kernel)
set_option maxRecDepth 20000 in
theorem gX5_failing_X5_isCheck : GoodIn wsX5_failing (wsV RX5 96 RX5 yX5_isCheck wsX5_isCheck) := goodIn_app (goodIn_of _ (by decide +kernel)) ggX5_failing_X5_isCheck
set_option maxRecDepth 20000 in
theorem ggX5_failing_X5_fails : GoodIn wsX5_failing wsX5_fails := goodIn_r _ [15, 16, 17, 18, 19, 20, 21, 22, 23, 24, 25, 26, 27, 28, 29, 30, 31, 32, 33, 34, 35, 36, 37, 38, 39, 40, 41, 42, 43, 44, 45, 46] (by decide +kernel) (by decide +kernel)
set_option maxRecDepth 20000 in
theorem gX5_failing_X5_fails : GoodIn wsX5_failing (wsV RX5 109 RX5 yX5_fails wsX5_fails) := goodIn_app (goodIn_of _ (by decide +kernel)) ggX5_failing_X5_fails
theorem dX5_failing_0 : decode cX5_failing 0 = .ok (.aload_n 0, 1) := by decide +kernel
theorem dX5_failing_1 : decode cX5_failing 1 = .ok (.aload_n 0, 1) := by decide +kernel
theorem dX5_failing_2 : decode cX5_failing 2 = .ok (.iload_n 1, 1) := by decide +kernel
theorem dX5_failing_3 : decode cX5_failing 3 = .ok (.invokevirtual 96, 3) := by decide +kernel
theorem dX5_failing_6 : decode cX5_failing 6 = .ok (.ifCond .eq 7, 3) := by decide +kernel
theorem dX5_failing_9 : decode cX5_failing 9 = .ok (.iconst 0, 1) := by decide +kernel
theorem dX5_failing_10 : decode cX5_failing 10 = .ok (.goto 4, 3) := by decide +kernel
theorem dX5_failing_13 : decode cX5_failing 13 = .ok (.iconst 1, 1) := by decide +kernel
theorem dX5_failing_14 : decode cX5_failing 14 = .ok (.putfield 78, 3) := by decide +kernel
theorem dX5_failing_17 : decode cX5_failing 17 = .ok (.iconst 0, 1) := by decide +kernel
theorem dX5_failing_18 : decode cX5_failing 18 = .ok (.istore_n 2, 1) := by decide +kernel
theorem dX5_failing_19 : decode cX5_failing 19 = .ok (.iconst 0, 1) := by decide +kernel
theorem dX5_failing_20 : decode cX5_failing 20 = .ok (.istore_n 3, 1) := by decide +kernel
theorem dX5_failing_21 : decode cX5_failing 21 = .ok (.iload_n 3, 1) := by decide +kernel
theorem dX5_failing_22 : decode cX5_failing 22 = .ok (.aload_n 0, 1) := by decide +kernel
theorem dX5_failing_23 : decode cX5_failing 23 = .ok (.getfield 82, 3) := by decide +kernel
theorem dX5_failing_26 : decode cX5_failing 26 = .ok (.if_icmp .ge 35, 3) := by decide +kernel
theorem dX5_failing_29 : decode cX5_failing 29 = .ok (.aload_n 0, 1) := by decide +kernel
theorem dX5_failing_30 : decode cX5_failing 30 = .ok (.getfield 78, 3) := by decide +kernel
theorem dX5_failing_33 : decode cX5_failing 33 = .ok (.ifCond .ne 28, 3) := by decide +kernel
theorem dX5_failing_36 : decode cX5_failing 36 = .ok (.iload_n 2, 1) := by decide +kernel
theorem dX5_failing_37 : decode cX5_failing 37 = .ok (.aload_n 0, 1) := by decide +kernel
theorem dX5_failing_38 : decode cX5_failing 38 = .ok (.iload_n 1, 1) := by decide +kernel
theorem dX5_failing_39 : decode cX5_failing 39 = .ok (.iload_n 3, 1) := by decide +kernel
theorem dX5_failing_40 : decode cX5_failing 40 = .ok (.invokevirtual 109, 3) := by decide +kernel
theorem dX5_failing_43 : decode cX5_failing 43 = .ok (.ifCond .eq 9, 3) := by decide +kernel
theorem dX5_failing_46 : decode cX5_failing 46 = .ok (.iconst 1, 1) := by decide +kernel
theorem dX5_failing_47 : decode cX5_failing 47 = .ok (.iload_n 3, 1) := by decide +kernel
theorem dX5_failing_48 : decode cX5_failing 48 = .ok (.ishl, 1) := by decide +kernel
theorem dX5_failing_49 : decode cX5_failing 49 = .ok (.goto 4, 3) := by decide +kernel
theorem dX5_failing_52 : decode cX5_failing 52 = .ok (.iconst 0, 1) := by decide +kernel
theorem dX5_failing_53 : decode cX5_failing 53 = .ok (.ior, 1) := by decide +kernel
theorem dX5_failing_54 : decode cX5_failing 54 = .ok (.istore_n 2, 1) := by decide +kernel
theorem dX5_failing_55 : decode cX5_failing 55 = .ok (.iinc 3 1, 3) := by decide +kernel
theorem dX5_failing_58 : decode cX5_failing 58 = .ok (.goto (-37), 3) := by decide +kernel
theorem dX5_failing_61 : decode cX5_failing 61 = .ok (.iload_n 2, 1) := by decide +kernel
theorem dX5_failing_62 : decode cX5_failing 62 = .ok (.ireturn, 1) := by decide +kernel
set_option maxRecDepth 20000 in
theorem ggX5_isPair_X5_isCheck : GoodIn wsX5_isPair wsX5_isCheck := goodIn_r _ [6, 7, 8, 9, 5, 10, 16, 17, 18, 19, 20, 21, 22, 23, 24, 25, 26, 27, 28, 29, 30, 31, 32, 33, 34, 35, 36, 37, 38, 39, 40, 41, 42, 43] (by decide +kernel) (by decide +kernel)
set_option maxRecDepth 20000 in
theorem gX5_isPair_X5_isCheck : GoodIn wsX5_isPair (wsV RX5 96 RX5 yX5_isCheck wsX5_isCheck) := goodIn_app (goodIn_of _ (by decide +kernel)) ggX5_isPair_X5_isCheck
set_option maxRecDepth 20000 in
theorem ggX5_isPair_X5_isRegion : GoodIn wsX5_isPair wsX5_isRegion := goodIn_r _ [14, 15, 8, 9, 5, 10, 16, 17, 18, 19, 20, 21, 22, 23, 24, 25, 26, 27, 28, 29, 30, 31, 32, 33, 34, 35, 36, 37, 38, 39, 40, 41, 42, 43] (by decide +kernel) (by decide +kernel)
set_option maxRecDepth 20000 in
theorem gX5_isPair_X5_isRegion : GoodIn wsX5_isPair (wsV RX5 92 RX5 yX5_isRegion wsX5_isRegion) := goodIn_app (goodIn_of _ (by decide +kernel)) ggX5_isPair_X5_isRegion
theorem dX5_isPair_0 : decode cX5_isPair 0 = .ok (.aload_n 0, 1) := by decide +kernel
theorem dX5_isPair_1 : decode cX5_isPair 1 = .ok (.aload_n 0, 1) := by decide +kernel
theorem dX5_isPair_2 : decode cX5_isPair 2 = .ok (.iload_n 1, 1) := by decide +kernel
theorem dX5_isPair_3 : decode cX5_isPair 3 = .ok (.invokevirtual 96, 3) := by decide +kernel
theorem dX5_isPair_6 : decode cX5_isPair 6 = .ok (.ifCond .eq 15, 3) := by decide +kernel
theorem dX5_isPair_9 : decode cX5_isPair 9 = .ok (.aload_n 0, 1) := by decide +kernel
theorem dX5_isPair_10 : decode cX5_isPair 10 = .ok (.iload_n 2, 1) := by decide +kernel
theorem dX5_isPair_11 : decode cX5_isPair 11 = .ok (.invokevirtual 92, 3) := by decide +kernel
theorem dX5_isPair_14 : decode cX5_isPair 14 = .ok (.ifCond .eq 7, 3) := by decide +kernel
theorem dX5_isPair_17 : decode cX5_isPair 17 = .ok (.iconst 0, 1) := by decide +kernel
theorem dX5_isPair_18 : decode cX5_isPair 18 = .ok (.goto 4, 3) := by decide +kernel
theorem dX5_isPair_21 : decode cX5_isPair 21 = .ok (.iconst 1, 1) := by decide +kernel
theorem dX5_isPair_22 : decode cX5_isPair 22 = .ok (.putfield 78, 3) := by decide +kernel
theorem dX5_isPair_25 : decode cX5_isPair 25 = .ok (.aload_n 0, 1) := by decide +kernel
theorem dX5_isPair_26 : decode cX5_isPair 26 = .ok (.getfield 78, 3) := by decide +kernel
theorem dX5_isPair_29 : decode cX5_isPair 29 = .ok (.ifCond .ne 7, 3) := by decide +kernel
theorem dX5_isPair_32 : decode cX5_isPair 32 = .ok (.iconst 1, 1) := by decide +kernel
theorem dX5_isPair_33 : decode cX5_isPair 33 = .ok (.goto 4, 3) := by decide +kernel
theorem dX5_isPair_36 : decode cX5_isPair 36 = .ok (.iconst 0, 1) := by decide +kernel
theorem dX5_isPair_37 : decode cX5_isPair 37 = .ok (.ireturn, 1) := by decide +kernel
set_option maxRecDepth 20000 in
theorem ggX5_nextProbe_X5_isPair : GoodIn wsX5_nextProbe wsX5_isPair := goodIn_r _ [8, 9, 10, 11, 12, 7, 13, 14, 15, 16, 17, 18, 19, 20, 21, 22, 29, 30, 31, 32, 33, 34, 35, 36, 37, 38, 39, 40, 41, 42, 43, 44, 45, 46, 47, 48, 49, 50, 51, 52, 53, 54, 55, 56] (by decide +kernel) (by decide +kernel)
set_option maxRecDepth 20000 in
theorem gX5_nextProbe_X5_isPair : GoodIn wsX5_nextProbe (wsV RX5 141 RX5 yX5_isPair wsX5_isPair) := goodIn_app (goodIn_of _ (by decide +kernel)) ggX5_nextProbe_X5_isPair
set_option maxRecDepth 20000 in
theorem ggX5_nextProbe_X5_isScheduled : GoodIn wsX5_nextProbe wsX5_isScheduled := goodIn_r _ [26, 27, 28, 29, 30, 31, 32, 33, 34, 35, 36, 37, 38, 39, 40, 41, 42, 43, 44, 45, 46, 47, 48, 49, 50, 51, 52, 53, 54, 55, 56] (by decide +kernel) (by decide +kernel)
set_option maxRecDepth 20000 in
theorem gX5_nextProbe_X5_isScheduled : GoodIn wsX5_nextProbe (wsV RX5 106 RX5 yX5_isScheduled wsX5_isScheduled) := goodIn_app (goodIn_of _ (by decide +kernel)) ggX5_nextProbe_X5_isScheduled
theorem dX5_nextProbe_0 : decode cX5_nextProbe 0 = .ok (.aload_n 0, 1) := by decide +kernel
theorem dX5_nextProbe_1 : decode cX5_nextProbe 1 = .ok (.iload_n 1, 1) := by decide +kernel
theorem dX5_nextProbe_2 : decode cX5_nextProbe 2 = .ok (.iload_n 2, 1) := by decide +kernel
theorem dX5_nextProbe_3 : decode cX5_nextProbe 3 = .ok (.invokevirtual 141, 3) := by decide +kernel
theorem dX5_nextProbe_6 : decode cX5_nextProbe 6 = .ok (.ifCond .ne 5, 3) := by decide +kernel
theorem dX5_nextProbe_9 : decode cX5_nextProbe 9 = .ok (.iconst 0, 1) := by decide +kernel
theorem dX5_nextProbe_10 : decode cX5_nextProbe 10 = .ok (.ireturn, 1) := by decide +kernel
theorem dX5_nextProbe_11 : decode cX5_nextProbe 11 = .ok (.bipush 6, 2) := by decide +kernel
theorem dX5_nextProbe_13 : decode cX5_nextProbe 13 = .ok (.iload_n 1, 1) := by decide +kernel
theorem dX5_nextProbe_14 : decode cX5_nextProbe 14 = .ok (.imul, 1) := by decide +kernel
theorem dX5_nextProbe_15 : decode cX5_nextProbe 15 = .ok (.iload_n 2, 1) := by decide +kernel
theorem dX5_nextProbe_16 : decode cX5_nextProbe 16 = .ok (.iadd, 1) := by decide +kernel
theorem dX5_nextProbe_17 : decode cX5_nextProbe 17 = .ok (.istore_n 3, 1) := by decide +kernel
theorem dX5_nextProbe_18 : decode cX5_nextProbe 18 = .ok (.aload_n 0, 1) := by decide +kernel
theorem dX5_nextProbe_19 : decode cX5_nextProbe 19 = .ok (.getfield 56, 3) := by decide +kernel
theorem dX5_nextProbe_22 : decode cX5_nextProbe 22 = .ok (.iload_n 3, 1) := by decide +kernel
theorem dX5_nextProbe_23 : decode cX5_nextProbe 23 = .ok (.iaload, 1) := by decide +kernel
theorem dX5_nextProbe_24 : decode cX5_nextProbe 24 = .ok (.ifCond .le 12, 3) := by decide +kernel
theorem dX5_nextProbe_27 : decode cX5_nextProbe 27 = .ok (.aload_n 0, 1) := by decide +kernel
theorem dX5_nextProbe_28 : decode cX5_nextProbe 28 = .ok (.getfield 59, 3) := by decide +kernel
theorem dX5_nextProbe_31 : decode cX5_nextProbe 31 = .ok (.iload_n 3, 1) := by decide +kernel
theorem dX5_nextProbe_32 : decode cX5_nextProbe 32 = .ok (.iaload, 1) := by decide +kernel
theorem dX5_nextProbe_33 : decode cX5_nextProbe 33 = .ok (.goto 9, 3) := by decide +kernel
theorem dX5_nextProbe_36 : decode cX5_nextProbe 36 = .ok (.aload_n 0, 1) := by decide +kernel
theorem dX5_nextProbe_37 : decode cX5_nextProbe 37 = .ok (.getfield 103, 3) := by decide +kernel
theorem dX5_nextProbe_40 : decode cX5_nextProbe 40 = .ok (.iconst 1, 1) := by decide +kernel
theorem dX5_nextProbe_41 : decode cX5_nextProbe 41 = .ok (.iadd, 1) := by decide +kernel
theorem dX5_nextProbe_42 : decode cX5_nextProbe 42 = .ok (.istore 4, 2) := by decide +kernel
theorem dX5_nextProbe_44 : decode cX5_nextProbe 44 = .ok (.aload_n 0, 1) := by decide +kernel
theorem dX5_nextProbe_45 : decode cX5_nextProbe 45 = .ok (.getfield 56, 3) := by decide +kernel
theorem dX5_nextProbe_48 : decode cX5_nextProbe 48 = .ok (.iload_n 3, 1) := by decide +kernel
theorem dX5_nextProbe_49 : decode cX5_nextProbe 49 = .ok (.iaload, 1) := by decide +kernel
theorem dX5_nextProbe_50 : decode cX5_nextProbe 50 = .ok (.ifCond .ne 20, 3) := by decide +kernel
theorem dX5_nextProbe_53 : decode cX5_nextProbe 53 = .ok (.aload_n 0, 1) := by decide +kernel
theorem dX5_nextProbe_54 : decode cX5_nextProbe 54 = .ok (.iload_n 1, 1) := by decide +kernel
theorem dX5_nextProbe_55 : decode cX5_nextProbe 55 = .ok (.iload_n 2, 1) := by decide +kernel
theorem dX5_nextProbe_56 : decode cX5_nextProbe 56 = .ok (.iload 4, 2) := by decide +kernel
theorem dX5_nextProbe_58 : decode cX5_nextProbe 58 = .ok (.invokevirtual 106, 3) := by decide +kernel
theorem dX5_nextProbe_61 : decode cX5_nextProbe 61 = .ok (.ifCond .ne 9, 3) := by decide +kernel
theorem dX5_nextProbe_64 : decode cX5_nextProbe 64 = .ok (.iinc 4 1, 3) := by decide +kernel
theorem dX5_nextProbe_67 : decode cX5_nextProbe 67 = .ok (.goto (-23), 3) := by decide +kernel
theorem dX5_nextProbe_70 : decode cX5_nextProbe 70 = .ok (.iload 4, 2) := by decide +kernel
theorem dX5_nextProbe_72 : decode cX5_nextProbe 72 = .ok (.ireturn, 1) := by decide +kernel
set_option maxRecDepth 20000 in
theorem ggX5_repetition_X5_isPair : GoodIn wsX5_repetition wsX5_isPair := goodIn_r _ [6, 7, 8, 9, 10, 5, 11, 12, 13, 14, 15, 16, 17, 18, 19, 20, 21, 22, 23, 24, 25, 26, 27, 28, 29, 30, 31, 32, 33, 34, 35, 36, 37, 38, 39, 40, 41, 42, 43, 44, 45, 46, 47, 48] (by decide +kernel) (by decide +kernel)
set_option maxRecDepth 20000 in
theorem gX5_repetition_X5_isPair : GoodIn wsX5_repetition (wsV RX5 141 RX5 yX5_isPair wsX5_isPair) := goodIn_app (goodIn_of _ (by decide +kernel)) ggX5_repetition_X5_isPair
theorem dX5_repetition_0 : decode cX5_repetition 0 = .ok (.aload_n 0, 1) := by decide +kernel
theorem dX5_repetition_1 : decode cX5_repetition 1 = .ok (.iload_n 1, 1) := by decide +kernel
theorem dX5_repetition_2 : decode cX5_repetition 2 = .ok (.iload_n 2, 1) := by decide +kernel
theorem dX5_repetition_3 : decode cX5_repetition 3 = .ok (.invokevirtual 141, 3) := by decide +kernel
theorem dX5_repetition_6 : decode cX5_repetition 6 = .ok (.ifCond .eq 17, 3) := by decide +kernel
theorem dX5_repetition_9 : decode cX5_repetition 9 = .ok (.aload_n 0, 1) := by decide +kernel
theorem dX5_repetition_10 : decode cX5_repetition 10 = .ok (.getfield 56, 3) := by decide +kernel
theorem dX5_repetition_13 : decode cX5_repetition 13 = .ok (.bipush 6, 2) := by decide +kernel
theorem dX5_repetition_15 : decode cX5_repetition 15 = .ok (.iload_n 1, 1) := by decide +kernel
theorem dX5_repetition_16 : decode cX5_repetition 16 = .ok (.imul, 1) := by decide +kernel
theorem dX5_repetition_17 : decode cX5_repetition 17 = .ok (.iload_n 2, 1) := by decide +kernel
theorem dX5_repetition_18 : decode cX5_repetition 18 = .ok (.iadd, 1) := by decide +kernel
theorem dX5_repetition_19 : decode cX5_repetition 19 = .ok (.iaload, 1) := by decide +kernel
theorem dX5_repetition_20 : decode cX5_repetition 20 = .ok (.goto 4, 3) := by decide +kernel
theorem dX5_repetition_23 : decode cX5_repetition 23 = .ok (.iconst 0, 1) := by decide +kernel
theorem dX5_repetition_24 : decode cX5_repetition 24 = .ok (.ireturn, 1) := by decide +kernel
set_option maxRecDepth 20000 in
theorem ggX5_vote_X5_isPair : GoodIn wsX5_vote wsX5_isPair := goodIn_r _ [6, 7, 8, 9, 10, 5, 11, 12, 13, 14, 15, 16, 17, 18, 19, 20, 21, 22, 23, 24, 25, 26, 27, 28, 29, 30, 31, 32, 33, 34, 35, 36, 37, 38, 39, 40, 41, 42, 43, 44, 45, 46, 47, 48] (by decide +kernel) (by decide +kernel)
set_option maxRecDepth 20000 in
theorem gX5_vote_X5_isPair : GoodIn wsX5_vote (wsV RX5 141 RX5 yX5_isPair wsX5_isPair) := goodIn_app (goodIn_of _ (by decide +kernel)) ggX5_vote_X5_isPair
theorem dX5_vote_0 : decode cX5_vote 0 = .ok (.aload_n 0, 1) := by decide +kernel
theorem dX5_vote_1 : decode cX5_vote 1 = .ok (.iload_n 1, 1) := by decide +kernel
theorem dX5_vote_2 : decode cX5_vote 2 = .ok (.iload_n 2, 1) := by decide +kernel
theorem dX5_vote_3 : decode cX5_vote 3 = .ok (.invokevirtual 141, 3) := by decide +kernel
theorem dX5_vote_6 : decode cX5_vote 6 = .ok (.ifCond .eq 17, 3) := by decide +kernel
theorem dX5_vote_9 : decode cX5_vote 9 = .ok (.aload_n 0, 1) := by decide +kernel
theorem dX5_vote_10 : decode cX5_vote 10 = .ok (.getfield 53, 3) := by decide +kernel
theorem dX5_vote_13 : decode cX5_vote 13 = .ok (.bipush 6, 2) := by decide +kernel
theorem dX5_vote_15 : decode cX5_vote 15 = .ok (.iload_n 1, 1) := by decide +kernel
theorem dX5_vote_16 : decode cX5_vote 16 = .ok (.imul, 1) := by decide +kernel
theorem dX5_vote_17 : decode cX5_vote 17 = .ok (.iload_n 2, 1) := by decide +kernel
theorem dX5_vote_18 : decode cX5_vote 18 = .ok (.iadd, 1) := by decide +kernel
theorem dX5_vote_19 : decode cX5_vote 19 = .ok (.iaload, 1) := by decide +kernel
theorem dX5_vote_20 : decode cX5_vote 20 = .ok (.goto 4, 3) := by decide +kernel
theorem dX5_vote_23 : decode cX5_vote 23 = .ok (.iconst 0, 1) := by decide +kernel
theorem dX5_vote_24 : decode cX5_vote 24 = .ok (.ireturn, 1) := by decide +kernel
set_option maxRecDepth 20000 in
theorem ggX5_probes_X5_isRegion : GoodIn wsX5_probes wsX5_isRegion := goodIn_r _ [7, 8, 9, 10, 6, 11, 12, 13, 14, 15, 16, 17, 18, 19, 20, 21, 22, 23, 24, 25, 26, 27, 28, 29, 30, 31, 32, 33, 34, 35, 36, 37, 38, 39] (by decide +kernel) (by decide +kernel)
set_option maxRecDepth 20000 in
theorem gX5_probes_X5_isRegion : GoodIn wsX5_probes (wsV RX5 92 RX5 yX5_isRegion wsX5_isRegion) := goodIn_app (goodIn_of _ (by decide +kernel)) ggX5_probes_X5_isRegion
theorem dX5_probes_0 : decode cX5_probes 0 = .ok (.aload_n 0, 1) := by decide +kernel
theorem dX5_probes_1 : decode cX5_probes 1 = .ok (.aload_n 0, 1) := by decide +kernel
theorem dX5_probes_2 : decode cX5_probes 2 = .ok (.iload_n 1, 1) := by decide +kernel
theorem dX5_probes_3 : decode cX5_probes 3 = .ok (.invokevirtual 92, 3) := by decide +kernel
theorem dX5_probes_6 : decode cX5_probes 6 = .ok (.ifCond .eq 7, 3) := by decide +kernel
theorem dX5_probes_9 : decode cX5_probes 9 = .ok (.iconst 0, 1) := by decide +kernel
theorem dX5_probes_10 : decode cX5_probes 10 = .ok (.goto 4, 3) := by decide +kernel
theorem dX5_probes_13 : decode cX5_probes 13 = .ok (.iconst 1, 1) := by decide +kernel
theorem dX5_probes_14 : decode cX5_probes 14 = .ok (.putfield 78, 3) := by decide +kernel
theorem dX5_probes_17 : decode cX5_probes 17 = .ok (.aload_n 0, 1) := by decide +kernel
theorem dX5_probes_18 : decode cX5_probes 18 = .ok (.getfield 78, 3) := by decide +kernel
theorem dX5_probes_21 : decode cX5_probes 21 = .ok (.ifCond .le 7, 3) := by decide +kernel
theorem dX5_probes_24 : decode cX5_probes 24 = .ok (.iconst 0, 1) := by decide +kernel
theorem dX5_probes_25 : decode cX5_probes 25 = .ok (.goto 9, 3) := by decide +kernel
theorem dX5_probes_28 : decode cX5_probes 28 = .ok (.aload_n 0, 1) := by decide +kernel
theorem dX5_probes_29 : decode cX5_probes 29 = .ok (.getfield 20, 3) := by decide +kernel
theorem dX5_probes_32 : decode cX5_probes 32 = .ok (.iload_n 1, 1) := by decide +kernel
theorem dX5_probes_33 : decode cX5_probes 33 = .ok (.iaload, 1) := by decide +kernel
theorem dX5_probes_34 : decode cX5_probes 34 = .ok (.ireturn, 1) := by decide +kernel
set_option maxRecDepth 20000 in
theorem ggX5_failures_X5_isRegion : GoodIn wsX5_failures wsX5_isRegion := goodIn_r _ [7, 8, 9, 10, 6, 11, 12, 13, 14, 15, 16, 17, 18, 19, 20, 21, 22, 23, 24, 25, 26, 27, 28, 29, 30, 31, 32, 33, 34, 35, 36, 37, 38, 39] (by decide +kernel) (by decide +kernel)
set_option maxRecDepth 20000 in
theorem gX5_failures_X5_isRegion : GoodIn wsX5_failures (wsV RX5 92 RX5 yX5_isRegion wsX5_isRegion) := goodIn_app (goodIn_of _ (by decide +kernel)) ggX5_failures_X5_isRegion
theorem dX5_failures_0 : decode cX5_failures 0 = .ok (.aload_n 0, 1) := by decide +kernel
theorem dX5_failures_1 : decode cX5_failures 1 = .ok (.aload_n 0, 1) := by decide +kernel
theorem dX5_failures_2 : decode cX5_failures 2 = .ok (.iload_n 1, 1) := by decide +kernel
theorem dX5_failures_3 : decode cX5_failures 3 = .ok (.invokevirtual 92, 3) := by decide +kernel
theorem dX5_failures_6 : decode cX5_failures 6 = .ok (.ifCond .eq 7, 3) := by decide +kernel
theorem dX5_failures_9 : decode cX5_failures 9 = .ok (.iconst 0, 1) := by decide +kernel
theorem dX5_failures_10 : decode cX5_failures 10 = .ok (.goto 4, 3) := by decide +kernel
theorem dX5_failures_13 : decode cX5_failures 13 = .ok (.iconst 1, 1) := by decide +kernel
theorem dX5_failures_14 : decode cX5_failures 14 = .ok (.putfield 78, 3) := by decide +kernel
theorem dX5_failures_17 : decode cX5_failures 17 = .ok (.aload_n 0, 1) := by decide +kernel
theorem dX5_failures_18 : decode cX5_failures 18 = .ok (.getfield 78, 3) := by decide +kernel
theorem dX5_failures_21 : decode cX5_failures 21 = .ok (.ifCond .le 7, 3) := by decide +kernel
theorem dX5_failures_24 : decode cX5_failures 24 = .ok (.iconst 0, 1) := by decide +kernel
theorem dX5_failures_25 : decode cX5_failures 25 = .ok (.goto 9, 3) := by decide +kernel
theorem dX5_failures_28 : decode cX5_failures 28 = .ok (.aload_n 0, 1) := by decide +kernel
theorem dX5_failures_29 : decode cX5_failures 29 = .ok (.getfield 23, 3) := by decide +kernel
theorem dX5_failures_32 : decode cX5_failures 32 = .ok (.iload_n 1, 1) := by decide +kernel
theorem dX5_failures_33 : decode cX5_failures 33 = .ok (.iaload, 1) := by decide +kernel
theorem dX5_failures_34 : decode cX5_failures 34 = .ok (.ireturn, 1) := by decide +kernel
set_option maxRecDepth 20000 in
theorem ggX5_isBad_X5_isRegion : GoodIn wsX5_isBad wsX5_isRegion := goodIn_r _ [7, 8, 9, 10, 6, 11, 12, 13, 14, 15, 16, 17, 18, 19, 20, 21, 22, 23, 24, 25, 26, 27, 28, 29, 30, 31, 32, 33, 34, 35, 36, 37, 38, 39] (by decide +kernel) (by decide +kernel)
set_option maxRecDepth 20000 in
theorem gX5_isBad_X5_isRegion : GoodIn wsX5_isBad (wsV RX5 92 RX5 yX5_isRegion wsX5_isRegion) := goodIn_app (goodIn_of _ (by decide +kernel)) ggX5_isBad_X5_isRegion
theorem dX5_isBad_0 : decode cX5_isBad 0 = .ok (.aload_n 0, 1) := by decide +kernel
theorem dX5_isBad_1 : decode cX5_isBad 1 = .ok (.aload_n 0, 1) := by decide +kernel
theorem dX5_isBad_2 : decode cX5_isBad 2 = .ok (.iload_n 1, 1) := by decide +kernel
theorem dX5_isBad_3 : decode cX5_isBad 3 = .ok (.invokevirtual 92, 3) := by decide +kernel
theorem dX5_isBad_6 : decode cX5_isBad 6 = .ok (.ifCond .eq 7, 3) := by decide +kernel
theorem dX5_isBad_9 : decode cX5_isBad 9 = .ok (.iconst 0, 1) := by decide +kernel
theorem dX5_isBad_10 : decode cX5_isBad 10 = .ok (.goto 4, 3) := by decide +kernel
theorem dX5_isBad_13 : decode cX5_isBad 13 = .ok (.iconst 1, 1) := by decide +kernel
theorem dX5_isBad_14 : decode cX5_isBad 14 = .ok (.putfield 78, 3) := by decide +kernel
theorem dX5_isBad_17 : decode cX5_isBad 17 = .ok (.aload_n 0, 1) := by decide +kernel
theorem dX5_isBad_18 : decode cX5_isBad 18 = .ok (.getfield 78, 3) := by decide +kernel
theorem dX5_isBad_21 : decode cX5_isBad 21 = .ok (.ifCond .ne 16, 3) := by decide +kernel
theorem dX5_isBad_24 : decode cX5_isBad 24 = .ok (.aload_n 0, 1) := by decide +kernel
theorem dX5_isBad_25 : decode cX5_isBad 25 = .ok (.getfield 17, 3) := by decide +kernel
theorem dX5_isBad_28 : decode cX5_isBad 28 = .ok (.iload_n 1, 1) := by decide +kernel
theorem dX5_isBad_29 : decode cX5_isBad 29 = .ok (.baload, 1) := by decide +kernel
theorem dX5_isBad_30 : decode cX5_isBad 30 = .ok (.ifCond .eq 7, 3) := by decide +kernel
theorem dX5_isBad_33 : decode cX5_isBad 33 = .ok (.iconst 1, 1) := by decide +kernel
theorem dX5_isBad_34 : decode cX5_isBad 34 = .ok (.goto 4, 3) := by decide +kernel
theorem dX5_isBad_37 : decode cX5_isBad 37 = .ok (.iconst 0, 1) := by decide +kernel
theorem dX5_isBad_38 : decode cX5_isBad 38 = .ok (.ireturn, 1) := by decide +kernel
set_option maxRecDepth 20000 in
theorem ggX5_verdict_X5_isCheck : GoodIn wsX5_verdict wsX5_isCheck := goodIn_r _ [7, 8, 9, 10, 6, 11, 12, 13, 14, 15, 16, 17, 18, 19, 20, 21, 22, 23, 24, 25, 26, 27, 28, 29, 30, 31, 32, 33, 34, 35, 36, 37, 38, 39] (by decide +kernel) (by decide +kernel)
set_option maxRecDepth 20000 in
theorem gX5_verdict_X5_isCheck : GoodIn wsX5_verdict (wsV RX5 96 RX5 yX5_isCheck wsX5_isCheck) := goodIn_app (goodIn_of _ (by decide +kernel)) ggX5_verdict_X5_isCheck
theorem dX5_verdict_0 : decode cX5_verdict 0 = .ok (.aload_n 0, 1) := by decide +kernel
theorem dX5_verdict_1 : decode cX5_verdict 1 = .ok (.aload_n 0, 1) := by decide +kernel
theorem dX5_verdict_2 : decode cX5_verdict 2 = .ok (.iload_n 1, 1) := by decide +kernel
theorem dX5_verdict_3 : decode cX5_verdict 3 = .ok (.invokevirtual 96, 3) := by decide +kernel
theorem dX5_verdict_6 : decode cX5_verdict 6 = .ok (.ifCond .eq 7, 3) := by decide +kernel
theorem dX5_verdict_9 : decode cX5_verdict 9 = .ok (.iconst 0, 1) := by decide +kernel
theorem dX5_verdict_10 : decode cX5_verdict 10 = .ok (.goto 4, 3) := by decide +kernel
theorem dX5_verdict_13 : decode cX5_verdict 13 = .ok (.iconst 1, 1) := by decide +kernel
theorem dX5_verdict_14 : decode cX5_verdict 14 = .ok (.putfield 78, 3) := by decide +kernel
theorem dX5_verdict_17 : decode cX5_verdict 17 = .ok (.aload_n 0, 1) := by decide +kernel
theorem dX5_verdict_18 : decode cX5_verdict 18 = .ok (.getfield 78, 3) := by decide +kernel
theorem dX5_verdict_21 : decode cX5_verdict 21 = .ok (.ifCond .le 7, 3) := by decide +kernel
theorem dX5_verdict_24 : decode cX5_verdict 24 = .ok (.iconst 0, 1) := by decide +kernel
theorem dX5_verdict_25 : decode cX5_verdict 25 = .ok (.goto 9, 3) := by decide +kernel
theorem dX5_verdict_28 : decode cX5_verdict 28 = .ok (.aload_n 0, 1) := by decide +kernel
theorem dX5_verdict_29 : decode cX5_verdict 29 = .ok (.getfield 38, 3) := by decide +kernel
theorem dX5_verdict_32 : decode cX5_verdict 32 = .ok (.iload_n 1, 1) := by decide +kernel
theorem dX5_verdict_33 : decode cX5_verdict 33 = .ok (.iaload, 1) := by decide +kernel
theorem dX5_verdict_34 : decode cX5_verdict 34 = .ok (.ireturn, 1) := by decide +kernel
set_option maxRecDepth 20000 in
theorem ggX5_trusted_X5_isCheck : GoodIn wsX5_trusted wsX5_isCheck := goodIn_r _ [7, 8, 9, 10, 6, 11, 19, 20, 21, 22, 23, 24, 25, 26, 27, 28, 29, 30, 31, 32, 33, 34, 35, 36, 37, 38, 39, 40, 41, 42, 43, 44, 45, 46] (by decide +kernel) (by decide +kernel)
set_option maxRecDepth 20000 in
theorem gX5_trusted_X5_isCheck : GoodIn wsX5_trusted (wsV RX5 96 RX5 yX5_isCheck wsX5_isCheck) := goodIn_app (goodIn_of _ (by decide +kernel)) ggX5_trusted_X5_isCheck
set_option maxRecDepth 20000 in
theorem ggX5_trusted_X5_isTrusted : GoodIn wsX5_trusted wsX5_isTrusted := goodIn_r _ [15, 16, 17, 18, 19, 20, 21, 22, 23, 24, 25, 26, 27, 28, 29, 30, 31, 32, 33, 34, 35, 36, 37, 38, 39, 40, 41, 42, 43, 44, 45, 46] (by decide +kernel) (by decide +kernel)
set_option maxRecDepth 20000 in
theorem gX5_trusted_X5_isTrusted : GoodIn wsX5_trusted (wsV RX5 113 RX5 yX5_isTrusted wsX5_isTrusted) := goodIn_app (goodIn_of _ (by decide +kernel)) ggX5_trusted_X5_isTrusted
theorem dX5_trusted_0 : decode cX5_trusted 0 = .ok (.aload_n 0, 1) := by decide +kernel
theorem dX5_trusted_1 : decode cX5_trusted 1 = .ok (.aload_n 0, 1) := by decide +kernel
theorem dX5_trusted_2 : decode cX5_trusted 2 = .ok (.iload_n 1, 1) := by decide +kernel
theorem dX5_trusted_3 : decode cX5_trusted 3 = .ok (.invokevirtual 96, 3) := by decide +kernel
theorem dX5_trusted_6 : decode cX5_trusted 6 = .ok (.ifCond .eq 7, 3) := by decide +kernel
theorem dX5_trusted_9 : decode cX5_trusted 9 = .ok (.iconst 0, 1) := by decide +kernel
theorem dX5_trusted_10 : decode cX5_trusted 10 = .ok (.goto 4, 3) := by decide +kernel
theorem dX5_trusted_13 : decode cX5_trusted 13 = .ok (.iconst 1, 1) := by decide +kernel
theorem dX5_trusted_14 : decode cX5_trusted 14 = .ok (.putfield 78, 3) := by decide +kernel
theorem dX5_trusted_17 : decode cX5_trusted 17 = .ok (.iconst 0, 1) := by decide +kernel
theorem dX5_trusted_18 : decode cX5_trusted 18 = .ok (.istore_n 2, 1) := by decide +kernel
theorem dX5_trusted_19 : decode cX5_trusted 19 = .ok (.iconst 0, 1) := by decide +kernel
theorem dX5_trusted_20 : decode cX5_trusted 20 = .ok (.istore_n 3, 1) := by decide +kernel
theorem dX5_trusted_21 : decode cX5_trusted 21 = .ok (.iload_n 3, 1) := by decide +kernel
theorem dX5_trusted_22 : decode cX5_trusted 22 = .ok (.aload_n 0, 1) := by decide +kernel
theorem dX5_trusted_23 : decode cX5_trusted 23 = .ok (.getfield 82, 3) := by decide +kernel
theorem dX5_trusted_26 : decode cX5_trusted 26 = .ok (.if_icmp .ge 35, 3) := by decide +kernel
theorem dX5_trusted_29 : decode cX5_trusted 29 = .ok (.aload_n 0, 1) := by decide +kernel
theorem dX5_trusted_30 : decode cX5_trusted 30 = .ok (.getfield 78, 3) := by decide +kernel
theorem dX5_trusted_33 : decode cX5_trusted 33 = .ok (.ifCond .ne 28, 3) := by decide +kernel
theorem dX5_trusted_36 : decode cX5_trusted 36 = .ok (.iload_n 2, 1) := by decide +kernel
theorem dX5_trusted_37 : decode cX5_trusted 37 = .ok (.aload_n 0, 1) := by decide +kernel
theorem dX5_trusted_38 : decode cX5_trusted 38 = .ok (.iload_n 1, 1) := by decide +kernel
theorem dX5_trusted_39 : decode cX5_trusted 39 = .ok (.iload_n 3, 1) := by decide +kernel
theorem dX5_trusted_40 : decode cX5_trusted 40 = .ok (.invokevirtual 113, 3) := by decide +kernel
theorem dX5_trusted_43 : decode cX5_trusted 43 = .ok (.ifCond .eq 9, 3) := by decide +kernel
theorem dX5_trusted_46 : decode cX5_trusted 46 = .ok (.iconst 1, 1) := by decide +kernel
theorem dX5_trusted_47 : decode cX5_trusted 47 = .ok (.iload_n 3, 1) := by decide +kernel
theorem dX5_trusted_48 : decode cX5_trusted 48 = .ok (.ishl, 1) := by decide +kernel
theorem dX5_trusted_49 : decode cX5_trusted 49 = .ok (.goto 4, 3) := by decide +kernel
theorem dX5_trusted_52 : decode cX5_trusted 52 = .ok (.iconst 0, 1) := by decide +kernel
theorem dX5_trusted_53 : decode cX5_trusted 53 = .ok (.ior, 1) := by decide +kernel
theorem dX5_trusted_54 : decode cX5_trusted 54 = .ok (.istore_n 2, 1) := by decide +kernel
theorem dX5_trusted_55 : decode cX5_trusted 55 = .ok (.iinc 3 1, 3) := by decide +kernel
theorem dX5_trusted_58 : decode cX5_trusted 58 = .ok (.goto (-37), 3) := by decide +kernel
theorem dX5_trusted_61 : decode cX5_trusted 61 = .ok (.iload_n 2, 1) := by decide +kernel
theorem dX5_trusted_62 : decode cX5_trusted 62 = .ok (.ireturn, 1) := by decide +kernel
theorem dX5_alarms_0 : decode cX5_alarms 0 = .ok (.aload_n 0, 1) := by decide +kernel
theorem dX5_alarms_1 : decode cX5_alarms 1 = .ok (.iconst 0, 1) := by decide +kernel
theorem dX5_alarms_2 : decode cX5_alarms 2 = .ok (.putfield 78, 3) := by decide +kernel
theorem dX5_alarms_5 : decode cX5_alarms 5 = .ok (.aload_n 0, 1) := by decide +kernel
theorem dX5_alarms_6 : decode cX5_alarms 6 = .ok (.getfield 119, 3) := by decide +kernel
theorem dX5_alarms_9 : decode cX5_alarms 9 = .ok (.ireturn, 1) := by decide +kernel
set_option maxRecDepth 20000 in
theorem ggX5_hasAlarm_X5_isCheck : GoodIn wsX5_hasAlarm wsX5_isCheck := goodIn_r _ [7, 8, 9, 10, 6, 11, 12, 13, 14, 15, 16, 17, 18, 19, 20, 21, 22, 23, 24, 25, 26, 27, 28, 29, 30, 31, 32, 33, 34, 35, 36, 37, 38, 39] (by decide +kernel) (by decide +kernel)
set_option maxRecDepth 20000 in
theorem gX5_hasAlarm_X5_isCheck : GoodIn wsX5_hasAlarm (wsV RX5 96 RX5 yX5_isCheck wsX5_isCheck) := goodIn_app (goodIn_of _ (by decide +kernel)) ggX5_hasAlarm_X5_isCheck
theorem dX5_hasAlarm_0 : decode cX5_hasAlarm 0 = .ok (.aload_n 0, 1) := by decide +kernel
theorem dX5_hasAlarm_1 : decode cX5_hasAlarm 1 = .ok (.aload_n 0, 1) := by decide +kernel
theorem dX5_hasAlarm_2 : decode cX5_hasAlarm 2 = .ok (.iload_n 1, 1) := by decide +kernel
theorem dX5_hasAlarm_3 : decode cX5_hasAlarm 3 = .ok (.invokevirtual 96, 3) := by decide +kernel
theorem dX5_hasAlarm_6 : decode cX5_hasAlarm 6 = .ok (.ifCond .eq 7, 3) := by decide +kernel
theorem dX5_hasAlarm_9 : decode cX5_hasAlarm 9 = .ok (.iconst 0, 1) := by decide +kernel
theorem dX5_hasAlarm_10 : decode cX5_hasAlarm 10 = .ok (.goto 4, 3) := by decide +kernel
theorem dX5_hasAlarm_13 : decode cX5_hasAlarm 13 = .ok (.iconst 1, 1) := by decide +kernel
theorem dX5_hasAlarm_14 : decode cX5_hasAlarm 14 = .ok (.putfield 78, 3) := by decide +kernel
theorem dX5_hasAlarm_17 : decode cX5_hasAlarm 17 = .ok (.aload_n 0, 1) := by decide +kernel
theorem dX5_hasAlarm_18 : decode cX5_hasAlarm 18 = .ok (.getfield 78, 3) := by decide +kernel
theorem dX5_hasAlarm_21 : decode cX5_hasAlarm 21 = .ok (.ifCond .ne 16, 3) := by decide +kernel
theorem dX5_hasAlarm_24 : decode cX5_hasAlarm 24 = .ok (.aload_n 0, 1) := by decide +kernel
theorem dX5_hasAlarm_25 : decode cX5_hasAlarm 25 = .ok (.getfield 41, 3) := by decide +kernel
theorem dX5_hasAlarm_28 : decode cX5_hasAlarm 28 = .ok (.iload_n 1, 1) := by decide +kernel
theorem dX5_hasAlarm_29 : decode cX5_hasAlarm 29 = .ok (.iaload, 1) := by decide +kernel
theorem dX5_hasAlarm_30 : decode cX5_hasAlarm 30 = .ok (.ifCond .lt 7, 3) := by decide +kernel
theorem dX5_hasAlarm_33 : decode cX5_hasAlarm 33 = .ok (.iconst 1, 1) := by decide +kernel
theorem dX5_hasAlarm_34 : decode cX5_hasAlarm 34 = .ok (.goto 4, 3) := by decide +kernel
theorem dX5_hasAlarm_37 : decode cX5_hasAlarm 37 = .ok (.iconst 0, 1) := by decide +kernel
theorem dX5_hasAlarm_38 : decode cX5_hasAlarm 38 = .ok (.ireturn, 1) := by decide +kernel
set_option maxRecDepth 20000 in
theorem ggX5_isAlarm_X5_isIn : GoodIn wsX5_isAlarm wsX5_isIn := goodIn_r _ [6] (by decide +kernel) (by decide +kernel)
set_option maxRecDepth 20000 in
theorem gX5_isAlarm_X5_isIn : GoodIn wsX5_isAlarm (va_wsS RX5 85 yX5_isIn wsX5_isIn) := goodIn_app (goodIn_of _ (by decide +kernel)) ggX5_isAlarm_X5_isIn
theorem dX5_isAlarm_0 : decode cX5_isAlarm 0 = .ok (.aload_n 0, 1) := by decide +kernel
theorem dX5_isAlarm_1 : decode cX5_isAlarm 1 = .ok (.iload_n 1, 1) := by decide +kernel
theorem dX5_isAlarm_2 : decode cX5_isAlarm 2 = .ok (.iconst 0, 1) := by decide +kernel
theorem dX5_isAlarm_3 : decode cX5_isAlarm 3 = .ok (.aload_n 0, 1) := by decide +kernel
theorem dX5_isAlarm_4 : decode cX5_isAlarm 4 = .ok (.getfield 119, 3) := by decide +kernel
theorem dX5_isAlarm_7 : decode cX5_isAlarm 7 = .ok (.iconst 1, 1) := by decide +kernel
theorem dX5_isAlarm_8 : decode cX5_isAlarm 8 = .ok (.isub, 1) := by decide +kernel
theorem dX5_isAlarm_9 : decode cX5_isAlarm 9 = .ok (.invokestatic 85, 3) := by decide +kernel
theorem dX5_isAlarm_12 : decode cX5_isAlarm 12 = .ok (.ifCond .eq 7, 3) := by decide +kernel
theorem dX5_isAlarm_15 : decode cX5_isAlarm 15 = .ok (.iconst 0, 1) := by decide +kernel
theorem dX5_isAlarm_16 : decode cX5_isAlarm 16 = .ok (.goto 4, 3) := by decide +kernel
theorem dX5_isAlarm_19 : decode cX5_isAlarm 19 = .ok (.iconst 1, 1) := by decide +kernel
theorem dX5_isAlarm_20 : decode cX5_isAlarm 20 = .ok (.putfield 78, 3) := by decide +kernel
theorem dX5_isAlarm_23 : decode cX5_isAlarm 23 = .ok (.aload_n 0, 1) := by decide +kernel
theorem dX5_isAlarm_24 : decode cX5_isAlarm 24 = .ok (.getfield 78, 3) := by decide +kernel
theorem dX5_isAlarm_27 : decode cX5_isAlarm 27 = .ok (.ifCond .ne 7, 3) := by decide +kernel
theorem dX5_isAlarm_30 : decode cX5_isAlarm 30 = .ok (.iconst 1, 1) := by decide +kernel
theorem dX5_isAlarm_31 : decode cX5_isAlarm 31 = .ok (.goto 4, 3) := by decide +kernel
theorem dX5_isAlarm_34 : decode cX5_isAlarm 34 = .ok (.iconst 0, 1) := by decide +kernel
theorem dX5_isAlarm_35 : decode cX5_isAlarm 35 = .ok (.ireturn, 1) := by decide +kernel
set_option maxRecDepth 20000 in
theorem ggX5_alarmCheck_X5_isAlarm : GoodIn wsX5_alarmCheck wsX5_isAlarm := goodIn_r _ [6, 7, 8, 9, 10, 5, 11, 12, 13, 14, 15, 16, 17, 18, 19, 20, 21, 22, 23, 24, 25, 26, 27, 28, 29, 30, 31, 32, 33, 34, 35, 36, 37, 38, 39] (by decide +kernel) (by decide +kernel)
set_option maxRecDepth 20000 in
theorem gX5_alarmCheck_X5_isAlarm : GoodIn wsX5_alarmCheck (wsV RX5 144 RX5 yX5_isAlarm wsX5_isAlarm) := goodIn_app (goodIn_of _ (by decide +kernel)) ggX5_alarmCheck_X5_isAlarm
theorem dX5_alarmCheck_0 : decode cX5_alarmCheck 0 = .ok (.aload_n 0, 1) := by decide +kernel
theorem dX5_alarmCheck_1 : decode cX5_alarmCheck 1 = .ok (.iload_n 1, 1) := by decide +kernel
theorem dX5_alarmCheck_2 : decode cX5_alarmCheck 2 = .ok (.invokevirtual 144, 3) := by decide +kernel
theorem dX5_alarmCheck_5 : decode cX5_alarmCheck 5 = .ok (.ifCond .eq 15, 3) := by decide +kernel
theorem dX5_alarmCheck_8 : decode cX5_alarmCheck 8 = .ok (.aload_n 0, 1) := by decide +kernel
theorem dX5_alarmCheck_9 : decode cX5_alarmCheck 9 = .ok (.getfield 72, 3) := by decide +kernel
theorem dX5_alarmCheck_12 : decode cX5_alarmCheck 12 = .ok (.iload_n 1, 1) := by decide +kernel
theorem dX5_alarmCheck_13 : decode cX5_alarmCheck 13 = .ok (.iaload, 1) := by decide +kernel
theorem dX5_alarmCheck_14 : decode cX5_alarmCheck 14 = .ok (.bipush 8, 2) := by decide +kernel
theorem dX5_alarmCheck_16 : decode cX5_alarmCheck 16 = .ok (.irem, 1) := by decide +kernel
theorem dX5_alarmCheck_17 : decode cX5_alarmCheck 17 = .ok (.goto 4, 3) := by decide +kernel
theorem dX5_alarmCheck_20 : decode cX5_alarmCheck 20 = .ok (.iconst 0, 1) := by decide +kernel
theorem dX5_alarmCheck_21 : decode cX5_alarmCheck 21 = .ok (.ireturn, 1) := by decide +kernel
set_option maxRecDepth 20000 in
theorem ggX5_alarmRaised_X5_isAlarm : GoodIn wsX5_alarmRaised wsX5_isAlarm := goodIn_r _ [6, 7, 8, 9, 10, 5, 11, 12, 13, 14, 15, 16, 17, 18, 19, 20, 21, 22, 23, 24, 25, 26, 27, 28, 29, 30, 31, 32, 33, 34, 35, 36, 37, 38, 39] (by decide +kernel) (by decide +kernel)
set_option maxRecDepth 20000 in
theorem gX5_alarmRaised_X5_isAlarm : GoodIn wsX5_alarmRaised (wsV RX5 144 RX5 yX5_isAlarm wsX5_isAlarm) := goodIn_app (goodIn_of _ (by decide +kernel)) ggX5_alarmRaised_X5_isAlarm
theorem dX5_alarmRaised_0 : decode cX5_alarmRaised 0 = .ok (.aload_n 0, 1) := by decide +kernel
theorem dX5_alarmRaised_1 : decode cX5_alarmRaised 1 = .ok (.iload_n 1, 1) := by decide +kernel
theorem dX5_alarmRaised_2 : decode cX5_alarmRaised 2 = .ok (.invokevirtual 144, 3) := by decide +kernel
theorem dX5_alarmRaised_5 : decode cX5_alarmRaised 5 = .ok (.ifCond .eq 15, 3) := by decide +kernel
theorem dX5_alarmRaised_8 : decode cX5_alarmRaised 8 = .ok (.aload_n 0, 1) := by decide +kernel
theorem dX5_alarmRaised_9 : decode cX5_alarmRaised 9 = .ok (.getfield 72, 3) := by decide +kernel
theorem dX5_alarmRaised_12 : decode cX5_alarmRaised 12 = .ok (.iload_n 1, 1) := by decide +kernel
theorem dX5_alarmRaised_13 : decode cX5_alarmRaised 13 = .ok (.iaload, 1) := by decide +kernel
theorem dX5_alarmRaised_14 : decode cX5_alarmRaised 14 = .ok (.bipush 8, 2) := by decide +kernel
theorem dX5_alarmRaised_16 : decode cX5_alarmRaised 16 = .ok (.idiv, 1) := by decide +kernel
theorem dX5_alarmRaised_17 : decode cX5_alarmRaised 17 = .ok (.goto 4, 3) := by decide +kernel
theorem dX5_alarmRaised_20 : decode cX5_alarmRaised 20 = .ok (.iconst 0, 1) := by decide +kernel
theorem dX5_alarmRaised_21 : decode cX5_alarmRaised 21 = .ok (.ireturn, 1) := by decide +kernel
set_option maxRecDepth 20000 in
theorem ggX5_alarmClosed_X5_isAlarm : GoodIn wsX5_alarmClosed wsX5_isAlarm := goodIn_r _ [6, 7, 8, 9, 10, 5, 11, 12, 13, 14, 15, 16, 17, 18, 19, 20, 21, 22, 23, 24, 25, 26, 27, 28, 29, 30, 31, 32, 33, 34, 35, 36, 37, 38, 39] (by decide +kernel) (by decide +kernel)
set_option maxRecDepth 20000 in
theorem gX5_alarmClosed_X5_isAlarm : GoodIn wsX5_alarmClosed (wsV RX5 144 RX5 yX5_isAlarm wsX5_isAlarm) := goodIn_app (goodIn_of _ (by decide +kernel)) ggX5_alarmClosed_X5_isAlarm
theorem dX5_alarmClosed_0 : decode cX5_alarmClosed 0 = .ok (.aload_n 0, 1) := by decide +kernel
theorem dX5_alarmClosed_1 : decode cX5_alarmClosed 1 = .ok (.iload_n 1, 1) := by decide +kernel
theorem dX5_alarmClosed_2 : decode cX5_alarmClosed 2 = .ok (.invokevirtual 144, 3) := by decide +kernel
theorem dX5_alarmClosed_5 : decode cX5_alarmClosed 5 = .ok (.ifCond .eq 12, 3) := by decide +kernel
theorem dX5_alarmClosed_8 : decode cX5_alarmClosed 8 = .ok (.aload_n 0, 1) := by decide +kernel
theorem dX5_alarmClosed_9 : decode cX5_alarmClosed 9 = .ok (.getfield 75, 3) := by decide +kernel
theorem dX5_alarmClosed_12 : decode cX5_alarmClosed 12 = .ok (.iload_n 1, 1) := by decide +kernel
theorem dX5_alarmClosed_13 : decode cX5_alarmClosed 13 = .ok (.iaload, 1) := by decide +kernel
theorem dX5_alarmClosed_14 : decode cX5_alarmClosed 14 = .ok (.goto 4, 3) := by decide +kernel
theorem dX5_alarmClosed_17 : decode cX5_alarmClosed 17 = .ok (.iconst 0, 1) := by decide +kernel
theorem dX5_alarmClosed_18 : decode cX5_alarmClosed 18 = .ok (.ireturn, 1) := by decide +kernel
set_option maxRecDepth 20000 in
theorem ggX5_availability_X5_isCheck : GoodIn wsX5_availability wsX5_isCheck := goodIn_r _ [8, 9, 10, 11, 7, 12, 13, 14, 15, 16, 17, 18, 19, 20, 21, 22, 23, 24, 25, 26, 27, 28, 29, 30, 31, 32, 33, 34, 35, 36, 37, 38, 39, 40] (by decide +kernel) (by decide +kernel)
set_option maxRecDepth 20000 in
theorem gX5_availability_X5_isCheck : GoodIn wsX5_availability (wsV RX5 96 RX5 yX5_isCheck wsX5_isCheck) := goodIn_app (goodIn_of _ (by decide +kernel)) ggX5_availability_X5_isCheck
theorem dX5_availability_0 : decode cX5_availability 0 = .ok (.aload_n 0, 1) := by decide +kernel
theorem dX5_availability_1 : decode cX5_availability 1 = .ok (.aload_n 0, 1) := by decide +kernel
theorem dX5_availability_2 : decode cX5_availability 2 = .ok (.iload_n 1, 1) := by decide +kernel
theorem dX5_availability_3 : decode cX5_availability 3 = .ok (.invokevirtual 96, 3) := by decide +kernel
theorem dX5_availability_6 : decode cX5_availability 6 = .ok (.ifCond .ne 7, 3) := by decide +kernel
theorem dX5_availability_9 : decode cX5_availability 9 = .ok (.iconst 1, 1) := by decide +kernel
theorem dX5_availability_10 : decode cX5_availability 10 = .ok (.goto 17, 3) := by decide +kernel
theorem dX5_availability_13 : decode cX5_availability 13 = .ok (.aload_n 0, 1) := by decide +kernel
theorem dX5_availability_14 : decode cX5_availability 14 = .ok (.getfield 47, 3) := by decide +kernel
theorem dX5_availability_17 : decode cX5_availability 17 = .ok (.iload_n 1, 1) := by decide +kernel
theorem dX5_availability_18 : decode cX5_availability 18 = .ok (.iaload, 1) := by decide +kernel
theorem dX5_availability_19 : decode cX5_availability 19 = .ok (.ifCond .ne 7, 3) := by decide +kernel
theorem dX5_availability_22 : decode cX5_availability 22 = .ok (.iconst 2, 1) := by decide +kernel
theorem dX5_availability_23 : decode cX5_availability 23 = .ok (.goto 4, 3) := by decide +kernel
theorem dX5_availability_26 : decode cX5_availability 26 = .ok (.iconst 0, 1) := by decide +kernel
theorem dX5_availability_27 : decode cX5_availability 27 = .ok (.putfield 78, 3) := by decide +kernel
theorem dX5_availability_30 : decode cX5_availability 30 = .ok (.aload_n 0, 1) := by decide +kernel
theorem dX5_availability_31 : decode cX5_availability 31 = .ok (.getfield 78, 3) := by decide +kernel
theorem dX5_availability_34 : decode cX5_availability 34 = .ok (.ifCond .le 5, 3) := by decide +kernel
theorem dX5_availability_37 : decode cX5_availability 37 = .ok (.fconst 0, 1) := by decide +kernel
theorem dX5_availability_38 : decode cX5_availability 38 = .ok (.freturn, 1) := by decide +kernel
theorem dX5_availability_39 : decode cX5_availability 39 = .ok (.aload_n 0, 1) := by decide +kernel
theorem dX5_availability_40 : decode cX5_availability 40 = .ok (.getfield 44, 3) := by decide +kernel
theorem dX5_availability_43 : decode cX5_availability 43 = .ok (.iload_n 1, 1) := by decide +kernel
theorem dX5_availability_44 : decode cX5_availability 44 = .ok (.iaload, 1) := by decide +kernel
theorem dX5_availability_45 : decode cX5_availability 45 = .ok (.i2f, 1) := by decide +kernel
theorem dX5_availability_46 : decode cX5_availability 46 = .ok (.fstore_n 2, 1) := by decide +kernel
theorem dX5_availability_47 : decode cX5_availability 47 = .ok (.aload_n 0, 1) := by decide +kernel
theorem dX5_availability_48 : decode cX5_availability 48 = .ok (.getfield 47, 3) := by decide +kernel
theorem dX5_availability_51 : decode cX5_availability 51 = .ok (.iload_n 1, 1) := by decide +kernel
theorem dX5_availability_52 : decode cX5_availability 52 = .ok (.iaload, 1) := by decide +kernel
theorem dX5_availability_53 : decode cX5_availability 53 = .ok (.i2f, 1) := by decide +kernel
theorem dX5_availability_54 : decode cX5_availability 54 = .ok (.fstore_n 3, 1) := by decide +kernel
theorem dX5_availability_55 : decode cX5_availability 55 = .ok (.fload_n 2, 1) := by decide +kernel
theorem dX5_availability_56 : decode cX5_availability 56 = .ok (.fload_n 3, 1) := by decide +kernel
theorem dX5_availability_57 : decode cX5_availability 57 = .ok (.fdiv, 1) := by decide +kernel
theorem dX5_availability_58 : decode cX5_availability 58 = .ok (.freturn, 1) := by decide +kernel
