set_option maxRecDepth 20000 in
theorem ggX5_tell_X5_coveredNow : GoodIn wsX5_tell wsX5_coveredNow := goodIn_r _ [35, 1, 7, 8, 36, 18, 19, 12, 20, 15, 21, 22, 23, 24, 25, 26, 42, 43, 44, 45, 46, 47, 48, 49, 50, 51, 52, 53, 54, 55, 56, 57, 58, 59, 60, 61, 62, 63, 64, 65] (by decide +kernel) (by decide +kernel)
set_option maxRecDepth 20000 in
theorem gX5_tell_X5_coveredNow : GoodIn wsX5_tell (wsV RX5 103 RX5 yX5_coveredNow wsX5_coveredNow) := goodIn_app (goodIn_of _ (by decide +kernel)) ggX5_tell_X5_coveredNow
set_option maxRecDepth 20000 in
theorem ggX5_tell_X0_dearOnes : GoodIn wsX5_tell wsX0_dearOnes := goodIn_r _ [40, 25, 41, 57, 58, 59, 60, 61, 62, 63, 64, 65] (by decide +kernel) (by decide +kernel)
set_option maxRecDepth 20000 in
theorem gX5_tell_X0_dearOnes : GoodIn wsX5_tell (wsV RX5 187 RX0 yX0_dearOnes wsX0_dearOnes) := goodIn_app (goodIn_of _ (by decide +kernel)) ggX5_tell_X0_dearOnes
theorem dX5_tell_0 : decode cX5_tell 0 = .ok (.aload_n 0, 1) := by decide +kernel
theorem dX5_tell_1 : decode cX5_tell 1 = .ok (.getfield 10, 3) := by decide +kernel
theorem dX5_tell_4 : decode cX5_tell 4 = .ok (.aload_n 0, 1) := by decide +kernel
theorem dX5_tell_5 : decode cX5_tell 5 = .ok (.invokevirtual 107, 3) := by decide +kernel
theorem dX5_tell_8 : decode cX5_tell 8 = .ok (.aload_n 0, 1) := by decide +kernel
theorem dX5_tell_9 : decode cX5_tell 9 = .ok (.invokevirtual 103, 3) := by decide +kernel
theorem dX5_tell_12 : decode cX5_tell 12 = .ok (.iand, 1) := by decide +kernel
theorem dX5_tell_13 : decode cX5_tell 13 = .ok (.invokevirtual 187, 3) := by decide +kernel
theorem dX5_tell_16 : decode cX5_tell 16 = .ok (.ireturn, 1) := by decide +kernel
set_option maxRecDepth 20000 in
theorem ggX5_saw_X0_holds : GoodIn wsX5_saw wsX0_holds := goodIn_r _ [8, 9, 35, 36, 37, 38, 39, 40, 41, 42, 43] (by decide +kernel) (by decide +kernel)
set_option maxRecDepth 20000 in
theorem gX5_saw_X0_holds : GoodIn wsX5_saw (wsV RX5 77 RX0 yX0_holds wsX0_holds) := goodIn_app (goodIn_of _ (by decide +kernel)) ggX5_saw_X0_holds
set_option maxRecDepth 20000 in
theorem ggX5_saw_X5_isYesOrNo : GoodIn wsX5_saw wsX5_isYesOrNo := goodIn_r _ [13] (by decide +kernel) (by decide +kernel)
set_option maxRecDepth 20000 in
theorem gX5_saw_X5_isYesOrNo : GoodIn wsX5_saw (va_wsS RX5 135 yX5_isYesOrNo wsX5_isYesOrNo) := goodIn_app (goodIn_of _ (by decide +kernel)) ggX5_saw_X5_isYesOrNo
set_option maxRecDepth 20000 in
theorem ggX5_saw_X2_add : GoodIn wsX5_saw wsX2_add := goodIn_r _ [18, 19, 20, 21, 32, 33, 34] (by decide +kernel) (by decide +kernel)
set_option maxRecDepth 20000 in
theorem gX5_saw_X2_add : GoodIn wsX5_saw (wsV RX5 190 RX2 yX2_add wsX2_add) := goodIn_app (goodIn_of _ (by decide +kernel)) ggX5_saw_X2_add
theorem dX5_saw_0 : decode cX5_saw 0 = .ok (.aload_n 0, 1) := by decide +kernel
theorem dX5_saw_1 : decode cX5_saw 1 = .ok (.getfield 10, 3) := by decide +kernel
theorem dX5_saw_4 : decode cX5_saw 4 = .ok (.iload_n 1, 1) := by decide +kernel
theorem dX5_saw_5 : decode cX5_saw 5 = .ok (.invokevirtual 77, 3) := by decide +kernel
theorem dX5_saw_8 : decode cX5_saw 8 = .ok (.ifCond .eq 10, 3) := by decide +kernel
theorem dX5_saw_11 : decode cX5_saw 11 = .ok (.iload_n 2, 1) := by decide +kernel
theorem dX5_saw_12 : decode cX5_saw 12 = .ok (.invokestatic 135, 3) := by decide +kernel
theorem dX5_saw_15 : decode cX5_saw 15 = .ok (.ifCond .ne 5, 3) := by decide +kernel
theorem dX5_saw_18 : decode cX5_saw 18 = .ok (.iconst (-1), 1) := by decide +kernel
theorem dX5_saw_19 : decode cX5_saw 19 = .ok (.ireturn, 1) := by decide +kernel
theorem dX5_saw_20 : decode cX5_saw 20 = .ok (.aload_n 0, 1) := by decide +kernel
theorem dX5_saw_21 : decode cX5_saw 21 = .ok (.getfield 54, 3) := by decide +kernel
theorem dX5_saw_24 : decode cX5_saw 24 = .ok (.iload_n 1, 1) := by decide +kernel
theorem dX5_saw_25 : decode cX5_saw 25 = .ok (.iload_n 2, 1) := by decide +kernel
theorem dX5_saw_26 : decode cX5_saw 26 = .ok (.invokevirtual 190, 3) := by decide +kernel
theorem dX5_saw_29 : decode cX5_saw 29 = .ok (.ifCond .eq 13, 3) := by decide +kernel
theorem dX5_saw_32 : decode cX5_saw 32 = .ok (.aload_n 0, 1) := by decide +kernel
theorem dX5_saw_33 : decode cX5_saw 33 = .ok (.getfield 54, 3) := by decide +kernel
theorem dX5_saw_36 : decode cX5_saw 36 = .ok (.getfield 193, 3) := by decide +kernel
theorem dX5_saw_39 : decode cX5_saw 39 = .ok (.goto 5, 3) := by decide +kernel
theorem dX5_saw_42 : decode cX5_saw 42 = .ok (.bipush (-3), 2) := by decide +kernel
theorem dX5_saw_44 : decode cX5_saw 44 = .ok (.ireturn, 1) := by decide +kernel
theorem dX5_forget_0 : decode cX5_forget 0 = .ok (.aload_n 0, 1) := by decide +kernel
theorem dX5_forget_1 : decode cX5_forget 1 = .ok (.getfield 54, 3) := by decide +kernel
theorem dX5_forget_4 : decode cX5_forget 4 = .ok (.getfield 193, 3) := by decide +kernel
theorem dX5_forget_7 : decode cX5_forget 7 = .ok (.istore_n 1, 1) := by decide +kernel
theorem dX5_forget_8 : decode cX5_forget 8 = .ok (.aload_n 0, 1) := by decide +kernel
theorem dX5_forget_9 : decode cX5_forget 9 = .ok (.getfield 54, 3) := by decide +kernel
theorem dX5_forget_12 : decode cX5_forget 12 = .ok (.iconst 0, 1) := by decide +kernel
theorem dX5_forget_13 : decode cX5_forget 13 = .ok (.putfield 193, 3) := by decide +kernel
theorem dX5_forget_16 : decode cX5_forget 16 = .ok (.iload_n 1, 1) := by decide +kernel
theorem dX5_forget_17 : decode cX5_forget 17 = .ok (.ireturn, 1) := by decide +kernel
set_option maxRecDepth 20000 in
theorem ggX5_fit_X0_having : GoodIn wsX5_fit wsX0_having := goodIn_r _ [7, 8, 9, 31, 32, 33, 34, 35, 36, 37, 38, 39] (by decide +kernel) (by decide +kernel)
set_option maxRecDepth 20000 in
theorem gX5_fit_X0_having : GoodIn wsX5_fit (wsV RX5 194 RX0 yX0_having wsX0_having) := goodIn_app (goodIn_of _ (by decide +kernel)) ggX5_fit_X0_having
set_option maxRecDepth 20000 in
theorem ggX5_fit_X2_isSoBy : GoodIn wsX5_fit wsX2_isSoBy := goodIn_r _ [14, 15, 16, 17, 18, 19, 20, 40, 41, 42] (by decide +kernel) (by decide +kernel)
set_option maxRecDepth 20000 in
theorem gX5_fit_X2_isSoBy : GoodIn wsX5_fit (wsV RX5 197 RX2 yX2_isSoBy wsX2_isSoBy) := goodIn_app (goodIn_of _ (by decide +kernel)) ggX5_fit_X2_isSoBy
theorem dX5_fit_0 : decode cX5_fit 0 = .ok (.iload_n 1, 1) := by decide +kernel
theorem dX5_fit_1 : decode cX5_fit 1 = .ok (.ifCond .lt 8, 3) := by decide +kernel
theorem dX5_fit_4 : decode cX5_fit 4 = .ok (.iload_n 1, 1) := by decide +kernel
theorem dX5_fit_5 : decode cX5_fit 5 = .ok (.iconst 2, 1) := by decide +kernel
theorem dX5_fit_6 : decode cX5_fit 6 = .ok (.if_icmp .le 5, 3) := by decide +kernel
theorem dX5_fit_9 : decode cX5_fit 9 = .ok (.iconst (-1), 1) := by decide +kernel
theorem dX5_fit_10 : decode cX5_fit 10 = .ok (.ireturn, 1) := by decide +kernel
theorem dX5_fit_11 : decode cX5_fit 11 = .ok (.iconst 0, 1) := by decide +kernel
theorem dX5_fit_12 : decode cX5_fit 12 = .ok (.istore_n 2, 1) := by decide +kernel
theorem dX5_fit_13 : decode cX5_fit 13 = .ok (.bipush (-9), 2) := by decide +kernel
theorem dX5_fit_15 : decode cX5_fit 15 = .ok (.istore_n 3, 1) := by decide +kernel
theorem dX5_fit_16 : decode cX5_fit 16 = .ok (.bipush 31, 2) := by decide +kernel
theorem dX5_fit_18 : decode cX5_fit 18 = .ok (.istore 4, 2) := by decide +kernel
theorem dX5_fit_20 : decode cX5_fit 20 = .ok (.iconst 0, 1) := by decide +kernel
theorem dX5_fit_21 : decode cX5_fit 21 = .ok (.istore 5, 2) := by decide +kernel
theorem dX5_fit_23 : decode cX5_fit 23 = .ok (.iload 5, 2) := by decide +kernel
theorem dX5_fit_25 : decode cX5_fit 25 = .ok (.bipush 31, 2) := by decide +kernel
theorem dX5_fit_27 : decode cX5_fit 27 = .ok (.if_icmp .gt 49, 3) := by decide +kernel
theorem dX5_fit_30 : decode cX5_fit 30 = .ok (.aload_n 0, 1) := by decide +kernel
theorem dX5_fit_31 : decode cX5_fit 31 = .ok (.getfield 54, 3) := by decide +kernel
theorem dX5_fit_34 : decode cX5_fit 34 = .ok (.aload_n 0, 1) := by decide +kernel
theorem dX5_fit_35 : decode cX5_fit 35 = .ok (.getfield 10, 3) := by decide +kernel
theorem dX5_fit_38 : decode cX5_fit 38 = .ok (.iload 5, 2) := by decide +kernel
theorem dX5_fit_40 : decode cX5_fit 40 = .ok (.invokevirtual 194, 3) := by decide +kernel
theorem dX5_fit_43 : decode cX5_fit 43 = .ok (.invokevirtual 197, 3) := by decide +kernel
theorem dX5_fit_46 : decode cX5_fit 46 = .ok (.ifCond .eq 24, 3) := by decide +kernel
theorem dX5_fit_49 : decode cX5_fit 49 = .ok (.iload_n 2, 1) := by decide +kernel
theorem dX5_fit_50 : decode cX5_fit 50 = .ok (.ifCond .ne 8, 3) := by decide +kernel
theorem dX5_fit_53 : decode cX5_fit 53 = .ok (.iload 5, 2) := by decide +kernel
theorem dX5_fit_55 : decode cX5_fit 55 = .ok (.goto 4, 3) := by decide +kernel
theorem dX5_fit_58 : decode cX5_fit 58 = .ok (.iload_n 3, 1) := by decide +kernel
theorem dX5_fit_59 : decode cX5_fit 59 = .ok (.istore_n 3, 1) := by decide +kernel
theorem dX5_fit_60 : decode cX5_fit 60 = .ok (.iload 4, 2) := by decide +kernel
theorem dX5_fit_62 : decode cX5_fit 62 = .ok (.iload 5, 2) := by decide +kernel
theorem dX5_fit_64 : decode cX5_fit 64 = .ok (.iand, 1) := by decide +kernel
theorem dX5_fit_65 : decode cX5_fit 65 = .ok (.istore 4, 2) := by decide +kernel
theorem dX5_fit_67 : decode cX5_fit 67 = .ok (.iinc 2 1, 3) := by decide +kernel
theorem dX5_fit_70 : decode cX5_fit 70 = .ok (.iinc 5 1, 3) := by decide +kernel
theorem dX5_fit_73 : decode cX5_fit 73 = .ok (.goto (-50), 3) := by decide +kernel
theorem dX5_fit_76 : decode cX5_fit 76 = .ok (.iload_n 1, 1) := by decide +kernel
theorem dX5_fit_77 : decode cX5_fit 77 = .ok (.ifCond .ne 5, 3) := by decide +kernel
theorem dX5_fit_80 : decode cX5_fit 80 = .ok (.iload_n 2, 1) := by decide +kernel
theorem dX5_fit_81 : decode cX5_fit 81 = .ok (.ireturn, 1) := by decide +kernel
theorem dX5_fit_82 : decode cX5_fit 82 = .ok (.iload_n 1, 1) := by decide +kernel
theorem dX5_fit_83 : decode cX5_fit 83 = .ok (.iconst 1, 1) := by decide +kernel
theorem dX5_fit_84 : decode cX5_fit 84 = .ok (.if_icmp .eq 7, 3) := by decide +kernel
theorem dX5_fit_87 : decode cX5_fit 87 = .ok (.iload_n 2, 1) := by decide +kernel
theorem dX5_fit_88 : decode cX5_fit 88 = .ok (.ifCond .ne 7, 3) := by decide +kernel
theorem dX5_fit_91 : decode cX5_fit 91 = .ok (.iload_n 3, 1) := by decide +kernel
theorem dX5_fit_92 : decode cX5_fit 92 = .ok (.goto 5, 3) := by decide +kernel
theorem dX5_fit_95 : decode cX5_fit 95 = .ok (.iload 4, 2) := by decide +kernel
theorem dX5_fit_97 : decode cX5_fit 97 = .ok (.ireturn, 1) := by decide +kernel
set_option maxRecDepth 20000 in
theorem ggX5_lost_X5_isZ : GoodIn wsX5_lost wsX5_isZ := goodIn_r _ [7] (by decide +kernel) (by decide +kernel)
set_option maxRecDepth 20000 in
theorem gX5_lost_X5_isZ : GoodIn wsX5_lost (va_wsS RX5 142 yX5_isZ wsX5_isZ) := goodIn_app (goodIn_of _ (by decide +kernel)) ggX5_lost_X5_isZ
set_option maxRecDepth 20000 in
theorem ggX5_lost_X3_become : GoodIn wsX5_lost wsX3_become := goodIn_r _ [12, 13, 14, 15, 16, 17, 76, 77, 78, 79, 80] (by decide +kernel) (by decide +kernel)
set_option maxRecDepth 20000 in
theorem gX5_lost_X3_become : GoodIn wsX5_lost (wsV RX5 200 RX3 yX3_become wsX3_become) := goodIn_app (goodIn_of _ (by decide +kernel)) ggX5_lost_X3_become
set_option maxRecDepth 20000 in
theorem ggX5_lost_X5_passDay : GoodIn wsX5_lost wsX5_passDay := goodIn_r _ [21, 22, 23, 24, 3, 25, 26, 27, 28, 29, 30, 31, 32, 33, 34, 35, 36, 37, 38, 39, 40, 41, 42, 43, 44, 45, 46, 47, 48, 49, 50, 51, 52, 6, 53, 54, 55, 56, 57, 58, 59, 60, 61, 62, 63, 64, 65, 66, 67, 68, 69, 70, 71, 72, 73, 74, 75, 76, 77, 78, 79, 80, 81, 82, 83, 84, 85, 86, 87, 88, 89] (by decide +kernel) (by decide +kernel)
set_option maxRecDepth 20000 in
theorem gX5_lost_X5_passDay : GoodIn wsX5_lost (wsV RX5 145 RX5 yX5_passDay wsX5_passDay) := goodIn_app (goodIn_of _ (by decide +kernel)) ggX5_lost_X5_passDay
theorem dX5_lost_0 : decode cX5_lost 0 = .ok (.iload_n 1, 1) := by decide +kernel
theorem dX5_lost_1 : decode cX5_lost 1 = .ok (.invokestatic 142, 3) := by decide +kernel
theorem dX5_lost_4 : decode cX5_lost 4 = .ok (.ifCond .eq 13, 3) := by decide +kernel
theorem dX5_lost_7 : decode cX5_lost 7 = .ok (.iload_n 2, 1) := by decide +kernel
theorem dX5_lost_8 : decode cX5_lost 8 = .ok (.ifCond .lt 9, 3) := by decide +kernel
theorem dX5_lost_11 : decode cX5_lost 11 = .ok (.iload_n 2, 1) := by decide +kernel
theorem dX5_lost_12 : decode cX5_lost 12 = .ok (.bipush 7, 2) := by decide +kernel
theorem dX5_lost_14 : decode cX5_lost 14 = .ok (.if_icmp .le 5, 3) := by decide +kernel
theorem dX5_lost_17 : decode cX5_lost 17 = .ok (.iconst (-1), 1) := by decide +kernel
theorem dX5_lost_18 : decode cX5_lost 18 = .ok (.ireturn, 1) := by decide +kernel
theorem dX5_lost_19 : decode cX5_lost 19 = .ok (.aload_n 0, 1) := by decide +kernel
theorem dX5_lost_20 : decode cX5_lost 20 = .ok (.getfield 33, 3) := by decide +kernel
theorem dX5_lost_23 : decode cX5_lost 23 = .ok (.aload_n 0, 1) := by decide +kernel
theorem dX5_lost_24 : decode cX5_lost 24 = .ok (.getfield 29, 3) := by decide +kernel
theorem dX5_lost_27 : decode cX5_lost 27 = .ok (.invokevirtual 200, 3) := by decide +kernel
theorem dX5_lost_30 : decode cX5_lost 30 = .ok (.iconst 0, 1) := by decide +kernel
theorem dX5_lost_31 : decode cX5_lost 31 = .ok (.istore_n 3, 1) := by decide +kernel
theorem dX5_lost_32 : decode cX5_lost 32 = .ok (.iload_n 3, 1) := by decide +kernel
theorem dX5_lost_33 : decode cX5_lost 33 = .ok (.iload_n 2, 1) := by decide +kernel
theorem dX5_lost_34 : decode cX5_lost 34 = .ok (.if_icmp .ge 25, 3) := by decide +kernel
theorem dX5_lost_37 : decode cX5_lost 37 = .ok (.aload_n 0, 1) := by decide +kernel
theorem dX5_lost_38 : decode cX5_lost 38 = .ok (.aload_n 0, 1) := by decide +kernel
theorem dX5_lost_39 : decode cX5_lost 39 = .ok (.getfield 33, 3) := by decide +kernel
theorem dX5_lost_42 : decode cX5_lost 42 = .ok (.iload_n 1, 1) := by decide +kernel
theorem dX5_lost_43 : decode cX5_lost 43 = .ok (.iload_n 3, 1) := by decide +kernel
theorem dX5_lost_44 : decode cX5_lost 44 = .ok (.iadd, 1) := by decide +kernel
theorem dX5_lost_45 : decode cX5_lost 45 = .ok (.sipush 10000, 3) := by decide +kernel
theorem dX5_lost_48 : decode cX5_lost 48 = .ok (.irem, 1) := by decide +kernel
theorem dX5_lost_49 : decode cX5_lost 49 = .ok (.invokevirtual 145, 3) := by decide +kernel
theorem dX5_lost_52 : decode cX5_lost 52 = .ok (.pop, 1) := by decide +kernel
theorem dX5_lost_53 : decode cX5_lost 53 = .ok (.iinc 3 1, 3) := by decide +kernel
theorem dX5_lost_56 : decode cX5_lost 56 = .ok (.goto (-24), 3) := by decide +kernel
theorem dX5_lost_59 : decode cX5_lost 59 = .ok (.aload_n 0, 1) := by decide +kernel
theorem dX5_lost_60 : decode cX5_lost 60 = .ok (.getfield 33, 3) := by decide +kernel
theorem dX5_lost_63 : decode cX5_lost 63 = .ok (.getfield 100, 3) := by decide +kernel
theorem dX5_lost_66 : decode cX5_lost 66 = .ok (.ireturn, 1) := by decide +kernel
set_option maxRecDepth 20000 in
theorem ggX5_draw_X0_holds : GoodIn wsX5_draw wsX0_holds := goodIn_r _ [9, 10, 74, 75, 76, 77, 78, 79, 80, 81, 82] (by decide +kernel) (by decide +kernel)
set_option maxRecDepth 20000 in
theorem gX5_draw_X0_holds : GoodIn wsX5_draw (wsV RX5 77 RX0 yX0_holds wsX0_holds) := goodIn_app (goodIn_of _ (by decide +kernel)) ggX5_draw_X0_holds
set_option maxRecDepth 20000 in
theorem ggX5_draw_X5_isYesOrNo : GoodIn wsX5_draw wsX5_isYesOrNo := goodIn_r _ [14] (by decide +kernel) (by decide +kernel)
set_option maxRecDepth 20000 in
theorem gX5_draw_X5_isYesOrNo : GoodIn wsX5_draw (va_wsS RX5 135 yX5_isYesOrNo wsX5_isYesOrNo) := goodIn_app (goodIn_of _ (by decide +kernel)) ggX5_draw_X5_isYesOrNo
set_option maxRecDepth 20000 in
theorem ggX5_draw_X5_ableNow : GoodIn wsX5_draw wsX5_ableNow := goodIn_r _ [18, 1, 3, 19, 20, 21, 22, 8, 23, 24, 25, 26, 27, 28, 29, 30, 31, 32, 33, 34, 10, 35, 36, 37, 38, 39, 40, 64, 65, 66, 67, 68, 69, 70, 71, 72, 73, 83, 84, 85, 86, 87, 74, 75, 76, 77, 78, 79, 80, 81, 82] (by decide +kernel) (by decide +kernel)
set_option maxRecDepth 20000 in
theorem gX5_draw_X5_ableNow : GoodIn wsX5_draw (wsV RX5 107 RX5 yX5_ableNow wsX5_ableNow) := goodIn_app (goodIn_of _ (by decide +kernel)) ggX5_draw_X5_ableNow
set_option maxRecDepth 20000 in
theorem ggX5_draw_X5_bitOf : GoodIn wsX5_draw wsX5_bitOf := goodIn_r _ [43] (by decide +kernel) (by decide +kernel)
set_option maxRecDepth 20000 in
theorem gX5_draw_X5_bitOf : GoodIn wsX5_draw (va_wsS RX5 93 yX5_bitOf wsX5_bitOf) := goodIn_app (goodIn_of _ (by decide +kernel)) ggX5_draw_X5_bitOf
set_option maxRecDepth 20000 in
theorem ggX5_draw_X0_eagerTogether : GoodIn wsX5_draw wsX0_eagerTogether := goodIn_r _ [47, 10, 40, 42, 13, 43, 74, 75, 76, 77, 78, 79, 80, 81, 82] (by decide +kernel) (by decide +kernel)
set_option maxRecDepth 20000 in
theorem gX5_draw_X0_eagerTogether : GoodIn wsX5_draw (wsV RX5 203 RX0 yX0_eagerTogether wsX0_eagerTogether) := goodIn_app (goodIn_of _ (by decide +kernel)) ggX5_draw_X0_eagerTogether
set_option maxRecDepth 20000 in
theorem ggX5_draw_X0_shares : GoodIn wsX5_draw wsX0_shares := goodIn_r _ [51, 52, 53, 54, 55, 56, 45, 46, 8, 47, 10, 40, 42, 13, 43, 74, 75, 76, 77, 78, 79, 80, 81, 82] (by decide +kernel) (by decide +kernel)
set_option maxRecDepth 20000 in
theorem gX5_draw_X0_shares : GoodIn wsX5_draw (wsV RX5 155 RX0 yX0_shares wsX0_shares) := goodIn_app (goodIn_of _ (by decide +kernel)) ggX5_draw_X0_shares
set_option maxRecDepth 20000 in
theorem ggX5_draw_X5_drawn : GoodIn wsX5_draw wsX5_drawn := goodIn_r _ [59, 60, 61, 62, 63] (by decide +kernel) (by decide +kernel)
set_option maxRecDepth 20000 in
theorem gX5_draw_X5_drawn : GoodIn wsX5_draw (va_wsS RX5 206 yX5_drawn wsX5_drawn) := goodIn_app (goodIn_of _ (by decide +kernel)) ggX5_draw_X5_drawn
theorem dX5_draw_0 : decode cX5_draw 0 = .ok (.aload_n 0, 1) := by decide +kernel
theorem dX5_draw_1 : decode cX5_draw 1 = .ok (.getfield 10, 3) := by decide +kernel
theorem dX5_draw_4 : decode cX5_draw 4 = .ok (.iload_n 1, 1) := by decide +kernel
theorem dX5_draw_5 : decode cX5_draw 5 = .ok (.invokevirtual 77, 3) := by decide +kernel
theorem dX5_draw_8 : decode cX5_draw 8 = .ok (.ifCond .eq 10, 3) := by decide +kernel
theorem dX5_draw_11 : decode cX5_draw 11 = .ok (.iload_n 2, 1) := by decide +kernel
theorem dX5_draw_12 : decode cX5_draw 12 = .ok (.invokestatic 135, 3) := by decide +kernel
theorem dX5_draw_15 : decode cX5_draw 15 = .ok (.ifCond .ne 5, 3) := by decide +kernel
theorem dX5_draw_18 : decode cX5_draw 18 = .ok (.iconst (-1), 1) := by decide +kernel
theorem dX5_draw_19 : decode cX5_draw 19 = .ok (.ireturn, 1) := by decide +kernel
theorem dX5_draw_20 : decode cX5_draw 20 = .ok (.aload_n 0, 1) := by decide +kernel
theorem dX5_draw_21 : decode cX5_draw 21 = .ok (.invokevirtual 107, 3) := by decide +kernel
theorem dX5_draw_24 : decode cX5_draw 24 = .ok (.istore_n 3, 1) := by decide +kernel
theorem dX5_draw_25 : decode cX5_draw 25 = .ok (.iload_n 3, 1) := by decide +kernel
theorem dX5_draw_26 : decode cX5_draw 26 = .ok (.iload_n 1, 1) := by decide +kernel
theorem dX5_draw_27 : decode cX5_draw 27 = .ok (.invokestatic 93, 3) := by decide +kernel
theorem dX5_draw_30 : decode cX5_draw 30 = .ok (.iconst 1, 1) := by decide +kernel
theorem dX5_draw_31 : decode cX5_draw 31 = .ok (.if_icmp .ne 15, 3) := by decide +kernel
theorem dX5_draw_34 : decode cX5_draw 34 = .ok (.aload_n 0, 1) := by decide +kernel
theorem dX5_draw_35 : decode cX5_draw 35 = .ok (.getfield 10, 3) := by decide +kernel
theorem dX5_draw_38 : decode cX5_draw 38 = .ok (.getfield 87, 3) := by decide +kernel
theorem dX5_draw_41 : decode cX5_draw 41 = .ok (.iload_n 1, 1) := by decide +kernel
theorem dX5_draw_42 : decode cX5_draw 42 = .ok (.iaload, 1) := by decide +kernel
theorem dX5_draw_43 : decode cX5_draw 43 = .ok (.goto 4, 3) := by decide +kernel
theorem dX5_draw_46 : decode cX5_draw 46 = .ok (.iconst 0, 1) := by decide +kernel
theorem dX5_draw_47 : decode cX5_draw 47 = .ok (.istore 4, 2) := by decide +kernel
theorem dX5_draw_49 : decode cX5_draw 49 = .ok (.aload_n 0, 1) := by decide +kernel
theorem dX5_draw_50 : decode cX5_draw 50 = .ok (.getfield 10, 3) := by decide +kernel
theorem dX5_draw_53 : decode cX5_draw 53 = .ok (.iload_n 3, 1) := by decide +kernel
theorem dX5_draw_54 : decode cX5_draw 54 = .ok (.iconst 1, 1) := by decide +kernel
theorem dX5_draw_55 : decode cX5_draw 55 = .ok (.iload_n 1, 1) := by decide +kernel
theorem dX5_draw_56 : decode cX5_draw 56 = .ok (.ishl, 1) := by decide +kernel
theorem dX5_draw_57 : decode cX5_draw 57 = .ok (.iconst 1, 1) := by decide +kernel
theorem dX5_draw_58 : decode cX5_draw 58 = .ok (.isub, 1) := by decide +kernel
theorem dX5_draw_59 : decode cX5_draw 59 = .ok (.iand, 1) := by decide +kernel
theorem dX5_draw_60 : decode cX5_draw 60 = .ok (.invokevirtual 203, 3) := by decide +kernel
theorem dX5_draw_63 : decode cX5_draw 63 = .ok (.istore 5, 2) := by decide +kernel
theorem dX5_draw_65 : decode cX5_draw 65 = .ok (.aload_n 0, 1) := by decide +kernel
theorem dX5_draw_66 : decode cX5_draw 66 = .ok (.getfield 10, 3) := by decide +kernel
theorem dX5_draw_69 : decode cX5_draw 69 = .ok (.iload_n 3, 1) := by decide +kernel
theorem dX5_draw_70 : decode cX5_draw 70 = .ok (.invokevirtual 155, 3) := by decide +kernel
theorem dX5_draw_73 : decode cX5_draw 73 = .ok (.istore 6, 2) := by decide +kernel
theorem dX5_draw_75 : decode cX5_draw 75 = .ok (.iconst 0, 1) := by decide +kernel
theorem dX5_draw_76 : decode cX5_draw 76 = .ok (.istore 7, 2) := by decide +kernel
theorem dX5_draw_78 : decode cX5_draw 78 = .ok (.bipush (-9), 2) := by decide +kernel
theorem dX5_draw_80 : decode cX5_draw 80 = .ok (.istore 8, 2) := by decide +kernel
theorem dX5_draw_82 : decode cX5_draw 82 = .ok (.iconst 0, 1) := by decide +kernel
theorem dX5_draw_83 : decode cX5_draw 83 = .ok (.istore 9, 2) := by decide +kernel
theorem dX5_draw_85 : decode cX5_draw 85 = .ok (.iload 9, 2) := by decide +kernel
theorem dX5_draw_87 : decode cX5_draw 87 = .ok (.sipush 500, 3) := by decide +kernel
theorem dX5_draw_90 : decode cX5_draw 90 = .ok (.if_icmp .ge 59, 3) := by decide +kernel
theorem dX5_draw_93 : decode cX5_draw 93 = .ok (.iload 9, 2) := by decide +kernel
theorem dX5_draw_95 : decode cX5_draw 95 = .ok (.aload_n 0, 1) := by decide +kernel
theorem dX5_draw_96 : decode cX5_draw 96 = .ok (.getfield 29, 3) := by decide +kernel
theorem dX5_draw_99 : decode cX5_draw 99 = .ok (.getfield 110, 3) := by decide +kernel
theorem dX5_draw_102 : decode cX5_draw 102 = .ok (.iload 6, 2) := by decide +kernel
theorem dX5_draw_104 : decode cX5_draw 104 = .ok (.invokestatic 206, 3) := by decide +kernel
theorem dX5_draw_107 : decode cX5_draw 107 = .ok (.istore 10, 2) := by decide +kernel
theorem dX5_draw_109 : decode cX5_draw 109 = .ok (.iload 10, 2) := by decide +kernel
theorem dX5_draw_111 : decode cX5_draw 111 = .ok (.iload 5, 2) := by decide +kernel
theorem dX5_draw_113 : decode cX5_draw 113 = .ok (.if_icmp .lt 30, 3) := by decide +kernel
theorem dX5_draw_116 : decode cX5_draw 116 = .ok (.iload 10, 2) := by decide +kernel
theorem dX5_draw_118 : decode cX5_draw 118 = .ok (.iload 5, 2) := by decide +kernel
theorem dX5_draw_120 : decode cX5_draw 120 = .ok (.iload 4, 2) := by decide +kernel
theorem dX5_draw_122 : decode cX5_draw 122 = .ok (.iadd, 1) := by decide +kernel
theorem dX5_draw_123 : decode cX5_draw 123 = .ok (.if_icmp .ge 20, 3) := by decide +kernel
theorem dX5_draw_126 : decode cX5_draw 126 = .ok (.iload 7, 2) := by decide +kernel
theorem dX5_draw_128 : decode cX5_draw 128 = .ok (.ifCond .ne 8, 3) := by decide +kernel
theorem dX5_draw_131 : decode cX5_draw 131 = .ok (.iload 9, 2) := by decide +kernel
theorem dX5_draw_133 : decode cX5_draw 133 = .ok (.goto 5, 3) := by decide +kernel
theorem dX5_draw_136 : decode cX5_draw 136 = .ok (.iload 8, 2) := by decide +kernel
theorem dX5_draw_138 : decode cX5_draw 138 = .ok (.istore 8, 2) := by decide +kernel
theorem dX5_draw_140 : decode cX5_draw 140 = .ok (.iinc 7 1, 3) := by decide +kernel
theorem dX5_draw_143 : decode cX5_draw 143 = .ok (.iinc 9 1, 3) := by decide +kernel
theorem dX5_draw_146 : decode cX5_draw 146 = .ok (.goto (-61), 3) := by decide +kernel
theorem dX5_draw_149 : decode cX5_draw 149 = .ok (.iload_n 2, 1) := by decide +kernel
theorem dX5_draw_150 : decode cX5_draw 150 = .ok (.ifCond .ne 8, 3) := by decide +kernel
theorem dX5_draw_153 : decode cX5_draw 153 = .ok (.iload 7, 2) := by decide +kernel
theorem dX5_draw_155 : decode cX5_draw 155 = .ok (.goto 5, 3) := by decide +kernel
theorem dX5_draw_158 : decode cX5_draw 158 = .ok (.iload 8, 2) := by decide +kernel
theorem dX5_draw_160 : decode cX5_draw 160 = .ok (.ireturn, 1) := by decide +kernel
set_option maxRecDepth 20000 in
theorem ggX5_rate_X0_holds : GoodIn wsX5_rate wsX0_holds := goodIn_r _ [7, 8, 62, 63, 64, 65, 66, 67, 68, 69, 70] (by decide +kernel) (by decide +kernel)
set_option maxRecDepth 20000 in
theorem gX5_rate_X0_holds : GoodIn wsX5_rate (wsV RX5 77 RX0 yX0_holds wsX0_holds) := goodIn_app (goodIn_of _ (by decide +kernel)) ggX5_rate_X0_holds
set_option maxRecDepth 20000 in
theorem ggX5_rate_X5_rateAsCalf : GoodIn wsX5_rate wsX5_rateAsCalf := goodIn_r _ [13, 14, 15, 1, 16, 17, 18, 19, 12, 20, 21, 52, 53, 54, 55, 56, 57, 58, 59, 60, 61, 62, 63, 64, 65, 66, 67, 68, 69, 70] (by decide +kernel) (by decide +kernel)
set_option maxRecDepth 20000 in
theorem gX5_rate_X5_rateAsCalf : GoodIn wsX5_rate (wsV RX5 209 RX5 yX5_rateAsCalf wsX5_rateAsCalf) := goodIn_app (goodIn_of _ (by decide +kernel)) ggX5_rate_X5_rateAsCalf
set_option maxRecDepth 20000 in
theorem ggX5_rate_X5_rateAsChild : GoodIn wsX5_rate wsX5_rateAsChild := goodIn_r _ [25, 14, 26, 1, 27, 17, 18, 19, 12, 20, 21, 28, 29, 30, 31, 32, 33, 34, 52, 53, 54, 55, 56, 57, 58, 59, 60, 61, 62, 63, 64, 65, 66, 67, 68, 69, 70] (by decide +kernel) (by decide +kernel)
set_option maxRecDepth 20000 in
theorem gX5_rate_X5_rateAsChild : GoodIn wsX5_rate (wsV RX5 212 RX5 yX5_rateAsChild wsX5_rateAsChild) := goodIn_app (goodIn_of _ (by decide +kernel)) ggX5_rate_X5_rateAsChild
set_option maxRecDepth 20000 in
theorem ggX5_rate_X5_rateAsDog : GoodIn wsX5_rate wsX5_rateAsDog := goodIn_r _ [38, 14, 39, 9, 10, 11, 12, 13, 15, 1, 16, 17, 18, 19, 20, 21, 52, 53, 54, 55, 56, 57, 58, 59, 60, 61, 62, 63, 64, 65, 66, 67, 68, 69, 70] (by decide +kernel) (by decide +kernel)
set_option maxRecDepth 20000 in
theorem gX5_rate_X5_rateAsDog : GoodIn wsX5_rate (wsV RX5 215 RX5 yX5_rateAsDog wsX5_rateAsDog) := goodIn_app (goodIn_of _ (by decide +kernel)) ggX5_rate_X5_rateAsDog
set_option maxRecDepth 20000 in
theorem ggX5_rate_X5_rateAsDrum : GoodIn wsX5_rate wsX5_rateAsDrum := goodIn_r _ [43, 14, 44, 22, 23, 24, 12, 25, 26, 1, 27, 17, 18, 19, 20, 21, 28, 29, 30, 31, 32, 33, 34, 52, 53, 54, 55, 56, 57, 58, 59, 60, 61, 62, 63, 64, 65, 66, 67, 68, 69, 70] (by decide +kernel) (by decide +kernel)
set_option maxRecDepth 20000 in
theorem gX5_rate_X5_rateAsDrum : GoodIn wsX5_rate (wsV RX5 218 RX5 yX5_rateAsDrum wsX5_rateAsDrum) := goodIn_app (goodIn_of _ (by decide +kernel)) ggX5_rate_X5_rateAsDrum
set_option maxRecDepth 20000 in
theorem ggX5_rate_X5_rateAsPriest : GoodIn wsX5_rate wsX5_rateAsPriest := goodIn_r _ [48, 14, 49, 50, 51, 17, 18, 19, 12, 20, 1, 21, 52, 53, 54, 55, 56, 57, 58, 59, 60, 61, 71, 72, 73, 74, 75, 62, 63, 64, 65, 66, 67, 68, 69, 70] (by decide +kernel) (by decide +kernel)
set_option maxRecDepth 20000 in
theorem gX5_rate_X5_rateAsPriest : GoodIn wsX5_rate (wsV RX5 221 RX5 yX5_rateAsPriest wsX5_rateAsPriest) := goodIn_app (goodIn_of _ (by decide +kernel)) ggX5_rate_X5_rateAsPriest
set_option maxRecDepth 20000 in
theorem ggX5_rate_X5_rateAsThing : GoodIn wsX5_rate wsX5_rateAsThing := goodIn_r _ [20, 14, 1, 21, 52, 53, 54, 55, 56, 57, 58, 59, 60, 61, 62, 63, 64, 65, 66, 67, 68, 69, 70] (by decide +kernel) (by decide +kernel)
set_option maxRecDepth 20000 in
theorem gX5_rate_X5_rateAsThing : GoodIn wsX5_rate (wsV RX5 224 RX5 yX5_rateAsThing wsX5_rateAsThing) := goodIn_app (goodIn_of _ (by decide +kernel)) ggX5_rate_X5_rateAsThing
theorem dX5_rate_0 : decode cX5_rate 0 = .ok (.iload_n 1, 1) := by decide +kernel
theorem dX5_rate_1 : decode cX5_rate 1 = .ok (.ifCond .lt 20, 3) := by decide +kernel
theorem dX5_rate_4 : decode cX5_rate 4 = .ok (.iload_n 1, 1) := by decide +kernel
theorem dX5_rate_5 : decode cX5_rate 5 = .ok (.bipush 6, 2) := by decide +kernel
theorem dX5_rate_7 : decode cX5_rate 7 = .ok (.if_icmp .ge 14, 3) := by decide +kernel
theorem dX5_rate_10 : decode cX5_rate 10 = .ok (.aload_n 0, 1) := by decide +kernel
theorem dX5_rate_11 : decode cX5_rate 11 = .ok (.getfield 10, 3) := by decide +kernel
theorem dX5_rate_14 : decode cX5_rate 14 = .ok (.iload_n 2, 1) := by decide +kernel
theorem dX5_rate_15 : decode cX5_rate 15 = .ok (.invokevirtual 77, 3) := by decide +kernel
theorem dX5_rate_18 : decode cX5_rate 18 = .ok (.ifCond .ne 6, 3) := by decide +kernel
theorem dX5_rate_21 : decode cX5_rate 21 = .ok (.ldc 161, 2) := by decide +kernel
theorem dX5_rate_23 : decode cX5_rate 23 = .ok (.ireturn, 1) := by decide +kernel
theorem dX5_rate_24 : decode cX5_rate 24 = .ok (.iload_n 1, 1) := by decide +kernel
theorem dX5_rate_25 : decode cX5_rate 25 = .ok (.tableswitch 65 1 5 #[35, 41, 47, 53, 59], 35) := by decide +kernel
theorem dX5_rate_60 : decode cX5_rate 60 = .ok (.aload_n 0, 1) := by decide +kernel
theorem dX5_rate_61 : decode cX5_rate 61 = .ok (.iload_n 2, 1) := by decide +kernel
theorem dX5_rate_62 : decode cX5_rate 62 = .ok (.invokevirtual 209, 3) := by decide +kernel
theorem dX5_rate_65 : decode cX5_rate 65 = .ok (.ireturn, 1) := by decide +kernel
theorem dX5_rate_66 : decode cX5_rate 66 = .ok (.aload_n 0, 1) := by decide +kernel
theorem dX5_rate_67 : decode cX5_rate 67 = .ok (.iload_n 2, 1) := by decide +kernel
theorem dX5_rate_68 : decode cX5_rate 68 = .ok (.invokevirtual 212, 3) := by decide +kernel
theorem dX5_rate_71 : decode cX5_rate 71 = .ok (.ireturn, 1) := by decide +kernel
theorem dX5_rate_72 : decode cX5_rate 72 = .ok (.aload_n 0, 1) := by decide +kernel
theorem dX5_rate_73 : decode cX5_rate 73 = .ok (.iload_n 2, 1) := by decide +kernel
theorem dX5_rate_74 : decode cX5_rate 74 = .ok (.invokevirtual 215, 3) := by decide +kernel
theorem dX5_rate_77 : decode cX5_rate 77 = .ok (.ireturn, 1) := by decide +kernel
theorem dX5_rate_78 : decode cX5_rate 78 = .ok (.aload_n 0, 1) := by decide +kernel
theorem dX5_rate_79 : decode cX5_rate 79 = .ok (.iload_n 2, 1) := by decide +kernel
theorem dX5_rate_80 : decode cX5_rate 80 = .ok (.invokevirtual 218, 3) := by decide +kernel
theorem dX5_rate_83 : decode cX5_rate 83 = .ok (.ireturn, 1) := by decide +kernel
theorem dX5_rate_84 : decode cX5_rate 84 = .ok (.aload_n 0, 1) := by decide +kernel
theorem dX5_rate_85 : decode cX5_rate 85 = .ok (.iload_n 2, 1) := by decide +kernel
theorem dX5_rate_86 : decode cX5_rate 86 = .ok (.invokevirtual 221, 3) := by decide +kernel
theorem dX5_rate_89 : decode cX5_rate 89 = .ok (.ireturn, 1) := by decide +kernel
theorem dX5_rate_90 : decode cX5_rate 90 = .ok (.aload_n 0, 1) := by decide +kernel
theorem dX5_rate_91 : decode cX5_rate 91 = .ok (.iload_n 2, 1) := by decide +kernel
theorem dX5_rate_92 : decode cX5_rate 92 = .ok (.invokevirtual 224, 3) := by decide +kernel
theorem dX5_rate_95 : decode cX5_rate 95 = .ok (.ireturn, 1) := by decide +kernel
set_option maxRecDepth 20000 in
theorem ggX5_keep_X3_become : GoodIn wsX5_keep wsX3_become := goodIn_r _ [9, 10, 11, 12, 13, 14, 25, 26, 27, 28, 29] (by decide +kernel) (by decide +kernel)
set_option maxRecDepth 20000 in
theorem gX5_keep_X3_become : GoodIn wsX5_keep (wsV RX5 200 RX3 yX3_become wsX3_become) := goodIn_app (goodIn_of _ (by decide +kernel)) ggX5_keep_X3_become
theorem dX5_keep_0 : decode cX5_keep 0 = .ok (.iload_n 1, 1) := by decide +kernel
theorem dX5_keep_1 : decode cX5_keep 1 = .ok (.ifCond .lt 8, 3) := by decide +kernel
theorem dX5_keep_4 : decode cX5_keep 4 = .ok (.iload_n 1, 1) := by decide +kernel
theorem dX5_keep_5 : decode cX5_keep 5 = .ok (.iconst 2, 1) := by decide +kernel
theorem dX5_keep_6 : decode cX5_keep 6 = .ok (.if_icmp .lt 5, 3) := by decide +kernel
theorem dX5_keep_9 : decode cX5_keep 9 = .ok (.iconst (-1), 1) := by decide +kernel
theorem dX5_keep_10 : decode cX5_keep 10 = .ok (.ireturn, 1) := by decide +kernel
theorem dX5_keep_11 : decode cX5_keep 11 = .ok (.aload_n 0, 1) := by decide +kernel
theorem dX5_keep_12 : decode cX5_keep 12 = .ok (.getfield 43, 3) := by decide +kernel
theorem dX5_keep_15 : decode cX5_keep 15 = .ok (.iload_n 1, 1) := by decide +kernel
theorem dX5_keep_16 : decode cX5_keep 16 = .ok (.aaload, 1) := by decide +kernel
theorem dX5_keep_17 : decode cX5_keep 17 = .ok (.aload_n 0, 1) := by decide +kernel
theorem dX5_keep_18 : decode cX5_keep 18 = .ok (.getfield 29, 3) := by decide +kernel
theorem dX5_keep_21 : decode cX5_keep 21 = .ok (.invokevirtual 200, 3) := by decide +kernel
theorem dX5_keep_24 : decode cX5_keep 24 = .ok (.aload_n 0, 1) := by decide +kernel
theorem dX5_keep_25 : decode cX5_keep 25 = .ok (.getfield 47, 3) := by decide +kernel
theorem dX5_keep_28 : decode cX5_keep 28 = .ok (.iload_n 1, 1) := by decide +kernel
theorem dX5_keep_29 : decode cX5_keep 29 = .ok (.iconst 1, 1) := by decide +kernel
theorem dX5_keep_30 : decode cX5_keep 30 = .ok (.bastore, 1) := by decide +kernel
theorem dX5_keep_31 : decode cX5_keep 31 = .ok (.aload_n 0, 1) := by decide +kernel
theorem dX5_keep_32 : decode cX5_keep 32 = .ok (.getfield 29, 3) := by decide +kernel
theorem dX5_keep_35 : decode cX5_keep 35 = .ok (.getfield 110, 3) := by decide +kernel
theorem dX5_keep_38 : decode cX5_keep 38 = .ok (.ireturn, 1) := by decide +kernel
set_option maxRecDepth 20000 in
theorem ggX5_back_X3_become : GoodIn wsX5_back wsX3_become := goodIn_r _ [11, 12, 13, 14, 15, 16, 30, 31, 32, 33, 34] (by decide +kernel) (by decide +kernel)
set_option maxRecDepth 20000 in
theorem gX5_back_X3_become : GoodIn wsX5_back (wsV RX5 200 RX3 yX3_become wsX3_become) := goodIn_app (goodIn_of _ (by decide +kernel)) ggX5_back_X3_become
theorem dX5_back_0 : decode cX5_back 0 = .ok (.iload_n 1, 1) := by decide +kernel
theorem dX5_back_1 : decode cX5_back 1 = .ok (.ifCond .lt 8, 3) := by decide +kernel
theorem dX5_back_4 : decode cX5_back 4 = .ok (.iload_n 1, 1) := by decide +kernel
theorem dX5_back_5 : decode cX5_back 5 = .ok (.iconst 2, 1) := by decide +kernel
theorem dX5_back_6 : decode cX5_back 6 = .ok (.if_icmp .lt 5, 3) := by decide +kernel
theorem dX5_back_9 : decode cX5_back 9 = .ok (.iconst (-1), 1) := by decide +kernel
theorem dX5_back_10 : decode cX5_back 10 = .ok (.ireturn, 1) := by decide +kernel
theorem dX5_back_11 : decode cX5_back 11 = .ok (.aload_n 0, 1) := by decide +kernel
theorem dX5_back_12 : decode cX5_back 12 = .ok (.getfield 47, 3) := by decide +kernel
theorem dX5_back_15 : decode cX5_back 15 = .ok (.iload_n 1, 1) := by decide +kernel
theorem dX5_back_16 : decode cX5_back 16 = .ok (.baload, 1) := by decide +kernel
theorem dX5_back_17 : decode cX5_back 17 = .ok (.ifCond .ne 6, 3) := by decide +kernel
theorem dX5_back_20 : decode cX5_back 20 = .ok (.bipush (-2), 2) := by decide +kernel
theorem dX5_back_22 : decode cX5_back 22 = .ok (.ireturn, 1) := by decide +kernel
theorem dX5_back_23 : decode cX5_back 23 = .ok (.aload_n 0, 1) := by decide +kernel
theorem dX5_back_24 : decode cX5_back 24 = .ok (.getfield 29, 3) := by decide +kernel
theorem dX5_back_27 : decode cX5_back 27 = .ok (.aload_n 0, 1) := by decide +kernel
theorem dX5_back_28 : decode cX5_back 28 = .ok (.getfield 43, 3) := by decide +kernel
theorem dX5_back_31 : decode cX5_back 31 = .ok (.iload_n 1, 1) := by decide +kernel
theorem dX5_back_32 : decode cX5_back 32 = .ok (.aaload, 1) := by decide +kernel
theorem dX5_back_33 : decode cX5_back 33 = .ok (.invokevirtual 200, 3) := by decide +kernel
theorem dX5_back_36 : decode cX5_back 36 = .ok (.aload_n 0, 1) := by decide +kernel
theorem dX5_back_37 : decode cX5_back 37 = .ok (.getfield 39, 3) := by decide +kernel
theorem dX5_back_40 : decode cX5_back 40 = .ok (.iconst 0, 1) := by decide +kernel
theorem dX5_back_41 : decode cX5_back 41 = .ok (.putfield 120, 3) := by decide +kernel
theorem dX5_back_44 : decode cX5_back 44 = .ok (.aload_n 0, 1) := by decide +kernel
theorem dX5_back_45 : decode cX5_back 45 = .ok (.getfield 29, 3) := by decide +kernel
theorem dX5_back_48 : decode cX5_back 48 = .ok (.getfield 110, 3) := by decide +kernel
theorem dX5_back_51 : decode cX5_back 51 = .ok (.ireturn, 1) := by decide +kernel
theorem dX5_count_0 : decode cX5_count 0 = .ok (.iload_n 1, 1) := by decide +kernel
theorem dX5_count_1 : decode cX5_count 1 = .ok (.tableswitch 87 0 5 #[39, 47, 55, 63, 71, 79], 39) := by decide +kernel
theorem dX5_count_40 : decode cX5_count 40 = .ok (.aload_n 0, 1) := by decide +kernel
theorem dX5_count_41 : decode cX5_count 41 = .ok (.getfield 10, 3) := by decide +kernel
theorem dX5_count_44 : decode cX5_count 44 = .ok (.getfield 171, 3) := by decide +kernel
theorem dX5_count_47 : decode cX5_count 47 = .ok (.ireturn, 1) := by decide +kernel
theorem dX5_count_48 : decode cX5_count 48 = .ok (.aload_n 0, 1) := by decide +kernel
theorem dX5_count_49 : decode cX5_count 49 = .ok (.getfield 10, 3) := by decide +kernel
theorem dX5_count_52 : decode cX5_count 52 = .ok (.getfield 168, 3) := by decide +kernel
theorem dX5_count_55 : decode cX5_count 55 = .ok (.ireturn, 1) := by decide +kernel
theorem dX5_count_56 : decode cX5_count 56 = .ok (.aload_n 0, 1) := by decide +kernel
theorem dX5_count_57 : decode cX5_count 57 = .ok (.getfield 10, 3) := by decide +kernel
theorem dX5_count_60 : decode cX5_count 60 = .ok (.getfield 162, 3) := by decide +kernel
theorem dX5_count_63 : decode cX5_count 63 = .ok (.ireturn, 1) := by decide +kernel
theorem dX5_count_64 : decode cX5_count 64 = .ok (.aload_n 0, 1) := by decide +kernel
theorem dX5_count_65 : decode cX5_count 65 = .ok (.getfield 10, 3) := by decide +kernel
theorem dX5_count_68 : decode cX5_count 68 = .ok (.getfield 165, 3) := by decide +kernel
theorem dX5_count_71 : decode cX5_count 71 = .ok (.ireturn, 1) := by decide +kernel
theorem dX5_count_72 : decode cX5_count 72 = .ok (.aload_n 0, 1) := by decide +kernel
theorem dX5_count_73 : decode cX5_count 73 = .ok (.getfield 54, 3) := by decide +kernel
theorem dX5_count_76 : decode cX5_count 76 = .ok (.getfield 193, 3) := by decide +kernel
theorem dX5_count_79 : decode cX5_count 79 = .ok (.ireturn, 1) := by decide +kernel
theorem dX5_count_80 : decode cX5_count 80 = .ok (.aload_n 0, 1) := by decide +kernel
theorem dX5_count_81 : decode cX5_count 81 = .ok (.getfield 22, 3) := by decide +kernel
theorem dX5_count_84 : decode cX5_count 84 = .ok (.getfield 66, 3) := by decide +kernel
theorem dX5_count_87 : decode cX5_count 87 = .ok (.ireturn, 1) := by decide +kernel
theorem dX5_count_88 : decode cX5_count 88 = .ok (.iconst (-1), 1) := by decide +kernel
theorem dX5_count_89 : decode cX5_count 89 = .ok (.ireturn, 1) := by decide +kernel
theorem dX5_trace_0 : decode cX5_trace 0 = .ok (.aload_n 0, 1) := by decide +kernel
theorem dX5_trace_1 : decode cX5_trace 1 = .ok (.getfield 58, 3) := by decide +kernel
theorem dX5_trace_4 : decode cX5_trace 4 = .ok (.lreturn, 1) := by decide +kernel
theorem dX5_beginAnew_0 : decode cX5_beginAnew 0 = .ok (.aload_n 0, 1) := by decide +kernel
theorem dX5_beginAnew_1 : decode cX5_beginAnew 1 = .ok (.getfield 29, 3) := by decide +kernel
theorem dX5_beginAnew_4 : decode cX5_beginAnew 4 = .ok (.aload_n 0, 1) := by decide +kernel
theorem dX5_beginAnew_5 : decode cX5_beginAnew 5 = .ok (.getfield 10, 3) := by decide +kernel
theorem dX5_beginAnew_8 : decode cX5_beginAnew 8 = .ok (.getfield 227, 3) := by decide +kernel
theorem dX5_beginAnew_11 : decode cX5_beginAnew 11 = .ok (.putfield 113, 3) := by decide +kernel
theorem dX5_beginAnew_14 : decode cX5_beginAnew 14 = .ok (.aload_n 0, 1) := by decide +kernel
theorem dX5_beginAnew_15 : decode cX5_beginAnew 15 = .ok (.getfield 29, 3) := by decide +kernel
theorem dX5_beginAnew_18 : decode cX5_beginAnew 18 = .ok (.aload_n 0, 1) := by decide +kernel
theorem dX5_beginAnew_19 : decode cX5_beginAnew 19 = .ok (.getfield 10, 3) := by decide +kernel
theorem dX5_beginAnew_22 : decode cX5_beginAnew 22 = .ok (.getfield 228, 3) := by decide +kernel
theorem dX5_beginAnew_25 : decode cX5_beginAnew 25 = .ok (.putfield 90, 3) := by decide +kernel
theorem dX5_beginAnew_28 : decode cX5_beginAnew 28 = .ok (.aload_n 0, 1) := by decide +kernel
theorem dX5_beginAnew_29 : decode cX5_beginAnew 29 = .ok (.getfield 29, 3) := by decide +kernel
theorem dX5_beginAnew_32 : decode cX5_beginAnew 32 = .ok (.iconst 0, 1) := by decide +kernel
theorem dX5_beginAnew_33 : decode cX5_beginAnew 33 = .ok (.putfield 97, 3) := by decide +kernel
theorem dX5_beginAnew_36 : decode cX5_beginAnew 36 = .ok (.aload_n 0, 1) := by decide +kernel
theorem dX5_beginAnew_37 : decode cX5_beginAnew 37 = .ok (.getfield 29, 3) := by decide +kernel
theorem dX5_beginAnew_40 : decode cX5_beginAnew 40 = .ok (.iconst 0, 1) := by decide +kernel
theorem dX5_beginAnew_41 : decode cX5_beginAnew 41 = .ok (.putfield 100, 3) := by decide +kernel
theorem dX5_beginAnew_44 : decode cX5_beginAnew 44 = .ok (.aload_n 0, 1) := by decide +kernel
theorem dX5_beginAnew_45 : decode cX5_beginAnew 45 = .ok (.getfield 29, 3) := by decide +kernel
theorem dX5_beginAnew_48 : decode cX5_beginAnew 48 = .ok (.iconst 0, 1) := by decide +kernel
theorem dX5_beginAnew_49 : decode cX5_beginAnew 49 = .ok (.putfield 110, 3) := by decide +kernel
theorem dX5_beginAnew_52 : decode cX5_beginAnew 52 = .ok (.aload_n 0, 1) := by decide +kernel
theorem dX5_beginAnew_53 : decode cX5_beginAnew 53 = .ok (.getfield 39, 3) := by decide +kernel
theorem dX5_beginAnew_56 : decode cX5_beginAnew 56 = .ok (.iconst 0, 1) := by decide +kernel
theorem dX5_beginAnew_57 : decode cX5_beginAnew 57 = .ok (.putfield 120, 3) := by decide +kernel
theorem dX5_beginAnew_60 : decode cX5_beginAnew 60 = .ok (.aload_n 0, 1) := by decide +kernel
theorem dX5_beginAnew_61 : decode cX5_beginAnew 61 = .ok (.getfield 54, 3) := by decide +kernel
theorem dX5_beginAnew_64 : decode cX5_beginAnew 64 = .ok (.iconst 0, 1) := by decide +kernel
theorem dX5_beginAnew_65 : decode cX5_beginAnew 65 = .ok (.putfield 193, 3) := by decide +kernel
theorem dX5_beginAnew_68 : decode cX5_beginAnew 68 = .ok (.iconst 0, 1) := by decide +kernel
theorem dX5_beginAnew_69 : decode cX5_beginAnew 69 = .ok (.istore_n 1, 1) := by decide +kernel
theorem dX5_beginAnew_70 : decode cX5_beginAnew 70 = .ok (.iload_n 1, 1) := by decide +kernel
theorem dX5_beginAnew_71 : decode cX5_beginAnew 71 = .ok (.iconst 2, 1) := by decide +kernel
theorem dX5_beginAnew_72 : decode cX5_beginAnew 72 = .ok (.if_icmp .ge 16, 3) := by decide +kernel
theorem dX5_beginAnew_75 : decode cX5_beginAnew 75 = .ok (.aload_n 0, 1) := by decide +kernel
theorem dX5_beginAnew_76 : decode cX5_beginAnew 76 = .ok (.getfield 47, 3) := by decide +kernel
theorem dX5_beginAnew_79 : decode cX5_beginAnew 79 = .ok (.iload_n 1, 1) := by decide +kernel
theorem dX5_beginAnew_80 : decode cX5_beginAnew 80 = .ok (.iconst 0, 1) := by decide +kernel
theorem dX5_beginAnew_81 : decode cX5_beginAnew 81 = .ok (.bastore, 1) := by decide +kernel
theorem dX5_beginAnew_82 : decode cX5_beginAnew 82 = .ok (.iinc 1 1, 3) := by decide +kernel
theorem dX5_beginAnew_85 : decode cX5_beginAnew 85 = .ok (.goto (-15), 3) := by decide +kernel
theorem dX5_beginAnew_88 : decode cX5_beginAnew 88 = .ok (.return_, 1) := by decide +kernel
set_option maxRecDepth 20000 in
theorem ggX5_coveredNow_X0_coveredBy : GoodIn wsX5_coveredNow wsX0_coveredBy := goodIn_r _ [8, 9, 10, 11, 12, 7, 13, 14, 15, 26, 27, 28, 29, 30, 31, 32, 33, 34, 35, 36, 37, 38, 39] (by decide +kernel) (by decide +kernel)
set_option maxRecDepth 20000 in
theorem gX5_coveredNow_X0_coveredBy : GoodIn wsX5_coveredNow (wsV RX5 174 RX0 yX0_coveredBy wsX0_coveredBy) := goodIn_app (goodIn_of _ (by decide +kernel)) ggX5_coveredNow_X0_coveredBy
theorem dX5_coveredNow_0 : decode cX5_coveredNow 0 = .ok (.aload_n 0, 1) := by decide +kernel
theorem dX5_coveredNow_1 : decode cX5_coveredNow 1 = .ok (.getfield 10, 3) := by decide +kernel
theorem dX5_coveredNow_4 : decode cX5_coveredNow 4 = .ok (.aload_n 0, 1) := by decide +kernel
theorem dX5_coveredNow_5 : decode cX5_coveredNow 5 = .ok (.getfield 29, 3) := by decide +kernel
theorem dX5_coveredNow_8 : decode cX5_coveredNow 8 = .ok (.getfield 113, 3) := by decide +kernel
theorem dX5_coveredNow_11 : decode cX5_coveredNow 11 = .ok (.aload_n 0, 1) := by decide +kernel
theorem dX5_coveredNow_12 : decode cX5_coveredNow 12 = .ok (.getfield 29, 3) := by decide +kernel
theorem dX5_coveredNow_15 : decode cX5_coveredNow 15 = .ok (.invokevirtual 174, 3) := by decide +kernel
theorem dX5_coveredNow_18 : decode cX5_coveredNow 18 = .ok (.ireturn, 1) := by decide +kernel
set_option maxRecDepth 20000 in
theorem ggX5_ableNow_X0_ableBy : GoodIn wsX5_ableNow wsX0_ableBy := goodIn_r _ [8, 9, 10, 11, 12, 13, 14, 7, 15, 16, 17, 18, 19, 20, 21, 22, 23, 24, 25, 26, 37, 38, 39, 40, 41, 42, 43, 44, 45, 46, 47, 48, 49, 50] (by decide +kernel) (by decide +kernel)
set_option maxRecDepth 20000 in
theorem gX5_ableNow_X0_ableBy : GoodIn wsX5_ableNow (wsV RX5 178 RX0 yX0_ableBy wsX0_ableBy) := goodIn_app (goodIn_of _ (by decide +kernel)) ggX5_ableNow_X0_ableBy
theorem dX5_ableNow_0 : decode cX5_ableNow 0 = .ok (.aload_n 0, 1) := by decide +kernel
theorem dX5_ableNow_1 : decode cX5_ableNow 1 = .ok (.getfield 10, 3) := by decide +kernel
theorem dX5_ableNow_4 : decode cX5_ableNow 4 = .ok (.aload_n 0, 1) := by decide +kernel
theorem dX5_ableNow_5 : decode cX5_ableNow 5 = .ok (.getfield 29, 3) := by decide +kernel
theorem dX5_ableNow_8 : decode cX5_ableNow 8 = .ok (.getfield 113, 3) := by decide +kernel
theorem dX5_ableNow_11 : decode cX5_ableNow 11 = .ok (.aload_n 0, 1) := by decide +kernel
theorem dX5_ableNow_12 : decode cX5_ableNow 12 = .ok (.getfield 29, 3) := by decide +kernel
theorem dX5_ableNow_15 : decode cX5_ableNow 15 = .ok (.invokevirtual 178, 3) := by decide +kernel
theorem dX5_ableNow_18 : decode cX5_ableNow 18 = .ok (.ireturn, 1) := by decide +kernel
set_option maxRecDepth 20000 in
theorem ggX5_passDay_X0_ableBy : GoodIn wsX5_passDay wsX0_ableBy := goodIn_r _ [9, 10, 11, 12, 13, 14, 15, 8, 16, 17, 18, 19, 20, 21, 22, 23, 24, 25, 26, 27, 57, 58, 59, 60, 61, 62, 63, 64, 65, 66, 67, 68, 69, 70] (by decide +kernel) (by decide +kernel)
set_option maxRecDepth 20000 in
theorem gX5_passDay_X0_ableBy : GoodIn wsX5_passDay (wsV RX5 178 RX0 yX0_ableBy wsX0_ableBy) := goodIn_app (goodIn_of _ (by decide +kernel)) ggX5_passDay_X0_ableBy
set_option maxRecDepth 20000 in
theorem ggX5_passDay_X0_eagerTogether : GoodIn wsX5_passDay wsX0_eagerTogether := goodIn_r _ [31, 21, 27, 32, 33, 34, 62, 63, 64, 65, 66, 67, 68, 69, 70] (by decide +kernel) (by decide +kernel)
set_option maxRecDepth 20000 in
theorem gX5_passDay_X0_eagerTogether : GoodIn wsX5_passDay (wsV RX5 203 RX0 yX0_eagerTogether wsX0_eagerTogether) := goodIn_app (goodIn_of _ (by decide +kernel)) ggX5_passDay_X0_eagerTogether
set_option maxRecDepth 20000 in
theorem ggX5_passDay_X5_drawn : GoodIn wsX5_passDay wsX5_drawn := goodIn_r _ [37, 38, 39, 40, 41] (by decide +kernel) (by decide +kernel)
set_option maxRecDepth 20000 in
theorem gX5_passDay_X5_drawn : GoodIn wsX5_passDay (va_wsS RX5 206 yX5_drawn wsX5_drawn) := goodIn_app (goodIn_of _ (by decide +kernel)) ggX5_passDay_X5_drawn
set_option maxRecDepth 20000 in
theorem ggX5_passDay_X0_countedOff : GoodIn wsX5_passDay wsX0_countedOff := goodIn_r _ [45, 21, 27, 32, 33, 34, 62, 63, 64, 65, 66, 67, 68, 69, 70] (by decide +kernel) (by decide +kernel)
set_option maxRecDepth 20000 in
theorem gX5_passDay_X0_countedOff : GoodIn wsX5_passDay (wsV RX5 229 RX0 yX0_countedOff wsX0_countedOff) := goodIn_app (goodIn_of _ (by decide +kernel)) ggX5_passDay_X0_countedOff
set_option maxRecDepth 20000 in
theorem ggX5_passDay_X0_coveredBy : GoodIn wsX5_passDay wsX0_coveredBy := goodIn_r _ [16, 11, 17, 18, 19, 8, 20, 21, 22, 57, 58, 59, 60, 61, 62, 63, 64, 65, 66, 67, 68, 69, 70] (by decide +kernel) (by decide +kernel)
set_option maxRecDepth 20000 in
theorem gX5_passDay_X0_coveredBy : GoodIn wsX5_passDay (wsV RX5 174 RX0 yX0_coveredBy wsX0_coveredBy) := goodIn_app (goodIn_of _ (by decide +kernel)) ggX5_passDay_X0_coveredBy
theorem dX5_passDay_0 : decode cX5_passDay 0 = .ok (.aload_n 0, 1) := by decide +kernel
theorem dX5_passDay_1 : decode cX5_passDay 1 = .ok (.getfield 10, 3) := by decide +kernel
theorem dX5_passDay_4 : decode cX5_passDay 4 = .ok (.aload_n 1, 1) := by decide +kernel
theorem dX5_passDay_5 : decode cX5_passDay 5 = .ok (.getfield 113, 3) := by decide +kernel
theorem dX5_passDay_8 : decode cX5_passDay 8 = .ok (.aload_n 1, 1) := by decide +kernel
theorem dX5_passDay_9 : decode cX5_passDay 9 = .ok (.invokevirtual 178, 3) := by decide +kernel
theorem dX5_passDay_12 : decode cX5_passDay 12 = .ok (.istore_n 3, 1) := by decide +kernel
theorem dX5_passDay_13 : decode cX5_passDay 13 = .ok (.bipush (-9), 2) := by decide +kernel
theorem dX5_passDay_15 : decode cX5_passDay 15 = .ok (.istore 4, 2) := by decide +kernel
theorem dX5_passDay_17 : decode cX5_passDay 17 = .ok (.iload_n 3, 1) := by decide +kernel
theorem dX5_passDay_18 : decode cX5_passDay 18 = .ok (.ifCond .eq 29, 3) := by decide +kernel
theorem dX5_passDay_21 : decode cX5_passDay 21 = .ok (.aload_n 0, 1) := by decide +kernel
theorem dX5_passDay_22 : decode cX5_passDay 22 = .ok (.getfield 10, 3) := by decide +kernel
theorem dX5_passDay_25 : decode cX5_passDay 25 = .ok (.iload_n 3, 1) := by decide +kernel
theorem dX5_passDay_26 : decode cX5_passDay 26 = .ok (.iload_n 2, 1) := by decide +kernel
theorem dX5_passDay_27 : decode cX5_passDay 27 = .ok (.aload_n 1, 1) := by decide +kernel
theorem dX5_passDay_28 : decode cX5_passDay 28 = .ok (.getfield 110, 3) := by decide +kernel
theorem dX5_passDay_31 : decode cX5_passDay 31 = .ok (.aload_n 0, 1) := by decide +kernel
theorem dX5_passDay_32 : decode cX5_passDay 32 = .ok (.getfield 10, 3) := by decide +kernel
theorem dX5_passDay_35 : decode cX5_passDay 35 = .ok (.iload_n 3, 1) := by decide +kernel
theorem dX5_passDay_36 : decode cX5_passDay 36 = .ok (.invokevirtual 203, 3) := by decide +kernel
theorem dX5_passDay_39 : decode cX5_passDay 39 = .ok (.invokestatic 206, 3) := by decide +kernel
theorem dX5_passDay_42 : decode cX5_passDay 42 = .ok (.invokevirtual 229, 3) := by decide +kernel
theorem dX5_passDay_45 : decode cX5_passDay 45 = .ok (.istore 4, 2) := by decide +kernel
theorem dX5_passDay_47 : decode cX5_passDay 47 = .ok (.iload 4, 2) := by decide +kernel
theorem dX5_passDay_49 : decode cX5_passDay 49 = .ok (.bipush (-9), 2) := by decide +kernel
theorem dX5_passDay_51 : decode cX5_passDay 51 = .ok (.if_icmp .eq 29, 3) := by decide +kernel
theorem dX5_passDay_54 : decode cX5_passDay 54 = .ok (.aload_n 1, 1) := by decide +kernel
theorem dX5_passDay_55 : decode cX5_passDay 55 = .ok (.dup, 1) := by decide +kernel
theorem dX5_passDay_56 : decode cX5_passDay 56 = .ok (.getfield 100, 3) := by decide +kernel
theorem dX5_passDay_59 : decode cX5_passDay 59 = .ok (.aload_n 0, 1) := by decide +kernel
theorem dX5_passDay_60 : decode cX5_passDay 60 = .ok (.getfield 10, 3) := by decide +kernel
theorem dX5_passDay_63 : decode cX5_passDay 63 = .ok (.aload_n 1, 1) := by decide +kernel
theorem dX5_passDay_64 : decode cX5_passDay 64 = .ok (.getfield 113, 3) := by decide +kernel
theorem dX5_passDay_67 : decode cX5_passDay 67 = .ok (.aload_n 1, 1) := by decide +kernel
theorem dX5_passDay_68 : decode cX5_passDay 68 = .ok (.invokevirtual 174, 3) := by decide +kernel
theorem dX5_passDay_71 : decode cX5_passDay 71 = .ok (.iconst 1, 1) := by decide +kernel
theorem dX5_passDay_72 : decode cX5_passDay 72 = .ok (.iload 4, 2) := by decide +kernel
theorem dX5_passDay_74 : decode cX5_passDay 74 = .ok (.ishl, 1) := by decide +kernel
theorem dX5_passDay_75 : decode cX5_passDay 75 = .ok (.iand, 1) := by decide +kernel
theorem dX5_passDay_76 : decode cX5_passDay 76 = .ok (.ior, 1) := by decide +kernel
theorem dX5_passDay_77 : decode cX5_passDay 77 = .ok (.putfield 100, 3) := by decide +kernel
theorem dX5_passDay_80 : decode cX5_passDay 80 = .ok (.aload_n 1, 1) := by decide +kernel
theorem dX5_passDay_81 : decode cX5_passDay 81 = .ok (.dup, 1) := by decide +kernel
theorem dX5_passDay_82 : decode cX5_passDay 82 = .ok (.getfield 110, 3) := by decide +kernel
theorem dX5_passDay_85 : decode cX5_passDay 85 = .ok (.iconst 1, 1) := by decide +kernel
theorem dX5_passDay_86 : decode cX5_passDay 86 = .ok (.iadd, 1) := by decide +kernel
theorem dX5_passDay_87 : decode cX5_passDay 87 = .ok (.putfield 110, 3) := by decide +kernel
theorem dX5_passDay_90 : decode cX5_passDay 90 = .ok (.iload 4, 2) := by decide +kernel
theorem dX5_passDay_92 : decode cX5_passDay 92 = .ok (.ireturn, 1) := by decide +kernel
set_option maxRecDepth 20000 in
theorem ggX5_leastHarmful_X5_ableNow : GoodIn wsX5_leastHarmful wsX5_ableNow := goodIn_r _ [7, 1, 8, 9, 10, 11, 12, 13, 14, 15, 16, 17, 18, 19, 20, 21, 22, 23, 24, 25, 26, 27, 28, 29, 30, 31, 32, 67, 68, 69, 70, 71, 72, 73, 74, 75, 76, 86, 87, 88, 89, 90, 77, 78, 79, 80, 81, 82, 83, 84, 85] (by decide +kernel) (by decide +kernel)
set_option maxRecDepth 20000 in
theorem gX5_leastHarmful_X5_ableNow : GoodIn wsX5_leastHarmful (wsV RX5 107 RX5 yX5_ableNow wsX5_ableNow) := goodIn_app (goodIn_of _ (by decide +kernel)) ggX5_leastHarmful_X5_ableNow
set_option maxRecDepth 20000 in
theorem ggX5_leastHarmful_X5_coveredNow : GoodIn wsX5_leastHarmful wsX5_coveredNow := goodIn_r _ [36, 1, 8, 9, 37, 19, 20, 13, 21, 16, 22, 23, 24, 25, 26, 27, 67, 68, 69, 70, 71, 72, 73, 74, 75, 76, 86, 87, 88, 89, 90, 77, 78, 79, 80, 81, 82, 83, 84, 85] (by decide +kernel) (by decide +kernel)
set_option maxRecDepth 20000 in
theorem gX5_leastHarmful_X5_coveredNow : GoodIn wsX5_leastHarmful (wsV RX5 103 RX5 yX5_coveredNow wsX5_coveredNow) := goodIn_app (goodIn_of _ (by decide +kernel)) ggX5_leastHarmful_X5_coveredNow
set_option maxRecDepth 20000 in
theorem ggX5_leastHarmful_X0_harmUpper : GoodIn wsX5_leastHarmful wsX0_harmUpper := goodIn_r _ [41, 26, 42, 32, 43, 6, 44, 77, 78, 79, 80, 81, 82, 83, 84, 85] (by decide +kernel) (by decide +kernel)
set_option maxRecDepth 20000 in
theorem gX5_leastHarmful_X0_harmUpper : GoodIn wsX5_leastHarmful (wsV RX5 152 RX0 yX0_harmUpper wsX0_harmUpper) := goodIn_app (goodIn_of _ (by decide +kernel)) ggX5_leastHarmful_X0_harmUpper
set_option maxRecDepth 20000 in
theorem ggX5_leastHarmful_X0_shares : GoodIn wsX5_leastHarmful wsX0_shares := goodIn_r _ [48, 49, 50, 51, 52, 53, 54, 55, 13, 56, 26, 32, 43, 6, 44, 77, 78, 79, 80, 81, 82, 83, 84, 85] (by decide +kernel) (by decide +kernel)
set_option maxRecDepth 20000 in
theorem gX5_leastHarmful_X0_shares : GoodIn wsX5_leastHarmful (wsV RX5 155 RX0 yX0_shares wsX0_shares) := goodIn_app (goodIn_of _ (by decide +kernel)) ggX5_leastHarmful_X0_shares
set_option maxRecDepth 20000 in
theorem ggX5_leastHarmful_J6_bitCount_0f7a4 : GoodIn wsX5_leastHarmful wsJ6_bitCount_0f7a4 := goodIn_r _ [60, 61, 62, 63] (by decide +kernel) (by decide +kernel)
set_option maxRecDepth 20000 in
theorem gX5_leastHarmful_J6_bitCount_0f7a4 : GoodIn wsX5_leastHarmful (va_wsS RX5 130 yJ6_bitCount_0f7a4 wsJ6_bitCount_0f7a4) := goodIn_app (goodIn_of _ (by decide +kernel)) ggX5_leastHarmful_J6_bitCount_0f7a4
set_option maxRecDepth 20000 in
theorem ggX5_leastHarmful_J6_compare_7cf53 : GoodIn wsX5_leastHarmful wsJ6_compare_7cf53 := goodIn_r _ [66] (by decide +kernel) (by decide +kernel)
set_option maxRecDepth 20000 in
theorem gX5_leastHarmful_J6_compare_7cf53 : GoodIn wsX5_leastHarmful (va_wsS RX5 232 yJ6_compare_7cf53 wsJ6_compare_7cf53) := goodIn_app (goodIn_of _ (by decide +kernel)) ggX5_leastHarmful_J6_compare_7cf53
theorem dX5_leastHarmful_0 : decode cX5_leastHarmful 0 = .ok (.aload_n 0, 1) := by decide +kernel
theorem dX5_leastHarmful_1 : decode cX5_leastHarmful 1 = .ok (.invokevirtual 107, 3) := by decide +kernel
theorem dX5_leastHarmful_4 : decode cX5_leastHarmful 4 = .ok (.istore_n 2, 1) := by decide +kernel
theorem dX5_leastHarmful_5 : decode cX5_leastHarmful 5 = .ok (.aload_n 0, 1) := by decide +kernel
theorem dX5_leastHarmful_6 : decode cX5_leastHarmful 6 = .ok (.invokevirtual 103, 3) := by decide +kernel
theorem dX5_leastHarmful_9 : decode cX5_leastHarmful 9 = .ok (.istore_n 3, 1) := by decide +kernel
theorem dX5_leastHarmful_10 : decode cX5_leastHarmful 10 = .ok (.iconst 0, 1) := by decide +kernel
theorem dX5_leastHarmful_11 : decode cX5_leastHarmful 11 = .ok (.istore 4, 2) := by decide +kernel
theorem dX5_leastHarmful_13 : decode cX5_leastHarmful 13 = .ok (.aload_n 0, 1) := by decide +kernel
theorem dX5_leastHarmful_14 : decode cX5_leastHarmful 14 = .ok (.getfield 10, 3) := by decide +kernel
theorem dX5_leastHarmful_17 : decode cX5_leastHarmful 17 = .ok (.iload_n 2, 1) := by decide +kernel
theorem dX5_leastHarmful_18 : decode cX5_leastHarmful 18 = .ok (.iload_n 3, 1) := by decide +kernel
theorem dX5_leastHarmful_19 : decode cX5_leastHarmful 19 = .ok (.invokevirtual 152, 3) := by decide +kernel
theorem dX5_leastHarmful_22 : decode cX5_leastHarmful 22 = .ok (.istore 5, 2) := by decide +kernel
theorem dX5_leastHarmful_24 : decode cX5_leastHarmful 24 = .ok (.aload_n 0, 1) := by decide +kernel
theorem dX5_leastHarmful_25 : decode cX5_leastHarmful 25 = .ok (.getfield 10, 3) := by decide +kernel
theorem dX5_leastHarmful_28 : decode cX5_leastHarmful 28 = .ok (.iload_n 2, 1) := by decide +kernel
theorem dX5_leastHarmful_29 : decode cX5_leastHarmful 29 = .ok (.invokevirtual 155, 3) := by decide +kernel
theorem dX5_leastHarmful_32 : decode cX5_leastHarmful 32 = .ok (.istore 6, 2) := by decide +kernel
theorem dX5_leastHarmful_34 : decode cX5_leastHarmful 34 = .ok (.iconst 1, 1) := by decide +kernel
theorem dX5_leastHarmful_35 : decode cX5_leastHarmful 35 = .ok (.istore 7, 2) := by decide +kernel
theorem dX5_leastHarmful_37 : decode cX5_leastHarmful 37 = .ok (.iload 7, 2) := by decide +kernel
theorem dX5_leastHarmful_39 : decode cX5_leastHarmful 39 = .ok (.iconst 1, 1) := by decide +kernel
theorem dX5_leastHarmful_40 : decode cX5_leastHarmful 40 = .ok (.aload_n 0, 1) := by decide +kernel
theorem dX5_leastHarmful_41 : decode cX5_leastHarmful 41 = .ok (.getfield 10, 3) := by decide +kernel
theorem dX5_leastHarmful_44 : decode cX5_leastHarmful 44 = .ok (.getfield 171, 3) := by decide +kernel
theorem dX5_leastHarmful_47 : decode cX5_leastHarmful 47 = .ok (.ishl, 1) := by decide +kernel
theorem dX5_leastHarmful_48 : decode cX5_leastHarmful 48 = .ok (.if_icmp .ge 111, 3) := by decide +kernel
theorem dX5_leastHarmful_51 : decode cX5_leastHarmful 51 = .ok (.iload 7, 2) := by decide +kernel
theorem dX5_leastHarmful_53 : decode cX5_leastHarmful 53 = .ok (.iload_n 2, 1) := by decide +kernel
theorem dX5_leastHarmful_54 : decode cX5_leastHarmful 54 = .ok (.iconst (-1), 1) := by decide +kernel
theorem dX5_leastHarmful_55 : decode cX5_leastHarmful 55 = .ok (.ixor, 1) := by decide +kernel
theorem dX5_leastHarmful_56 : decode cX5_leastHarmful 56 = .ok (.iand, 1) := by decide +kernel
theorem dX5_leastHarmful_57 : decode cX5_leastHarmful 57 = .ok (.ifCond .ne 96, 3) := by decide +kernel
theorem dX5_leastHarmful_60 : decode cX5_leastHarmful 60 = .ok (.iload 7, 2) := by decide +kernel
theorem dX5_leastHarmful_62 : decode cX5_leastHarmful 62 = .ok (.invokestatic 130, 3) := by decide +kernel
theorem dX5_leastHarmful_65 : decode cX5_leastHarmful 65 = .ok (.iload_n 1, 1) := by decide +kernel
theorem dX5_leastHarmful_66 : decode cX5_leastHarmful 66 = .ok (.if_icmp .le 6, 3) := by decide +kernel
theorem dX5_leastHarmful_69 : decode cX5_leastHarmful 69 = .ok (.goto 84, 3) := by decide +kernel
theorem dX5_leastHarmful_72 : decode cX5_leastHarmful 72 = .ok (.aload_n 0, 1) := by decide +kernel
theorem dX5_leastHarmful_73 : decode cX5_leastHarmful 73 = .ok (.getfield 10, 3) := by decide +kernel
theorem dX5_leastHarmful_76 : decode cX5_leastHarmful 76 = .ok (.iload_n 2, 1) := by decide +kernel
theorem dX5_leastHarmful_77 : decode cX5_leastHarmful 77 = .ok (.iload 7, 2) := by decide +kernel
theorem dX5_leastHarmful_79 : decode cX5_leastHarmful 79 = .ok (.iconst (-1), 1) := by decide +kernel
theorem dX5_leastHarmful_80 : decode cX5_leastHarmful 80 = .ok (.ixor, 1) := by decide +kernel
theorem dX5_leastHarmful_81 : decode cX5_leastHarmful 81 = .ok (.iand, 1) := by decide +kernel
theorem dX5_leastHarmful_82 : decode cX5_leastHarmful 82 = .ok (.iload_n 3, 1) := by decide +kernel
theorem dX5_leastHarmful_83 : decode cX5_leastHarmful 83 = .ok (.invokevirtual 152, 3) := by decide +kernel
theorem dX5_leastHarmful_86 : decode cX5_leastHarmful 86 = .ok (.istore 8, 2) := by decide +kernel
theorem dX5_leastHarmful_88 : decode cX5_leastHarmful 88 = .ok (.aload_n 0, 1) := by decide +kernel
theorem dX5_leastHarmful_89 : decode cX5_leastHarmful 89 = .ok (.getfield 10, 3) := by decide +kernel
theorem dX5_leastHarmful_92 : decode cX5_leastHarmful 92 = .ok (.iload_n 2, 1) := by decide +kernel
theorem dX5_leastHarmful_93 : decode cX5_leastHarmful 93 = .ok (.iload 7, 2) := by decide +kernel
theorem dX5_leastHarmful_95 : decode cX5_leastHarmful 95 = .ok (.iconst (-1), 1) := by decide +kernel
theorem dX5_leastHarmful_96 : decode cX5_leastHarmful 96 = .ok (.ixor, 1) := by decide +kernel
theorem dX5_leastHarmful_97 : decode cX5_leastHarmful 97 = .ok (.iand, 1) := by decide +kernel
theorem dX5_leastHarmful_98 : decode cX5_leastHarmful 98 = .ok (.invokevirtual 155, 3) := by decide +kernel
theorem dX5_leastHarmful_101 : decode cX5_leastHarmful 101 = .ok (.istore 9, 2) := by decide +kernel
theorem dX5_leastHarmful_103 : decode cX5_leastHarmful 103 = .ok (.iload 8, 2) := by decide +kernel
theorem dX5_leastHarmful_105 : decode cX5_leastHarmful 105 = .ok (.iload 6, 2) := by decide +kernel
theorem dX5_leastHarmful_107 : decode cX5_leastHarmful 107 = .ok (.imul, 1) := by decide +kernel
theorem dX5_leastHarmful_108 : decode cX5_leastHarmful 108 = .ok (.iload 5, 2) := by decide +kernel
theorem dX5_leastHarmful_110 : decode cX5_leastHarmful 110 = .ok (.iload 9, 2) := by decide +kernel
theorem dX5_leastHarmful_112 : decode cX5_leastHarmful 112 = .ok (.imul, 1) := by decide +kernel
theorem dX5_leastHarmful_113 : decode cX5_leastHarmful 113 = .ok (.invokestatic 232, 3) := by decide +kernel
theorem dX5_leastHarmful_116 : decode cX5_leastHarmful 116 = .ok (.istore 10, 2) := by decide +kernel
theorem dX5_leastHarmful_118 : decode cX5_leastHarmful 118 = .ok (.iload 10, 2) := by decide +kernel
theorem dX5_leastHarmful_120 : decode cX5_leastHarmful 120 = .ok (.ifCond .lt 21, 3) := by decide +kernel
theorem dX5_leastHarmful_123 : decode cX5_leastHarmful 123 = .ok (.iload 10, 2) := by decide +kernel
theorem dX5_leastHarmful_125 : decode cX5_leastHarmful 125 = .ok (.ifCond .ne 28, 3) := by decide +kernel
theorem dX5_leastHarmful_128 : decode cX5_leastHarmful 128 = .ok (.iload 7, 2) := by decide +kernel
theorem dX5_leastHarmful_130 : decode cX5_leastHarmful 130 = .ok (.invokestatic 130, 3) := by decide +kernel
theorem dX5_leastHarmful_133 : decode cX5_leastHarmful 133 = .ok (.iload 4, 2) := by decide +kernel
theorem dX5_leastHarmful_135 : decode cX5_leastHarmful 135 = .ok (.invokestatic 130, 3) := by decide +kernel
theorem dX5_leastHarmful_138 : decode cX5_leastHarmful 138 = .ok (.if_icmp .ge 15, 3) := by decide +kernel
theorem dX5_leastHarmful_141 : decode cX5_leastHarmful 141 = .ok (.iload 7, 2) := by decide +kernel
theorem dX5_leastHarmful_143 : decode cX5_leastHarmful 143 = .ok (.istore 4, 2) := by decide +kernel
theorem dX5_leastHarmful_145 : decode cX5_leastHarmful 145 = .ok (.iload 8, 2) := by decide +kernel
theorem dX5_leastHarmful_147 : decode cX5_leastHarmful 147 = .ok (.istore 5, 2) := by decide +kernel
theorem dX5_leastHarmful_149 : decode cX5_leastHarmful 149 = .ok (.iload 9, 2) := by decide +kernel
theorem dX5_leastHarmful_151 : decode cX5_leastHarmful 151 = .ok (.istore 6, 2) := by decide +kernel
theorem dX5_leastHarmful_153 : decode cX5_leastHarmful 153 = .ok (.iinc 7 1, 3) := by decide +kernel
theorem dX5_leastHarmful_156 : decode cX5_leastHarmful 156 = .ok (.goto (-119), 3) := by decide +kernel
theorem dX5_leastHarmful_159 : decode cX5_leastHarmful 159 = .ok (.iload 4, 2) := by decide +kernel
theorem dX5_leastHarmful_161 : decode cX5_leastHarmful 161 = .ok (.ireturn, 1) := by decide +kernel
theorem dX5_rateAsThing_0 : decode cX5_rateAsThing 0 = .ok (.aload_n 0, 1) := by decide +kernel
theorem dX5_rateAsThing_1 : decode cX5_rateAsThing 1 = .ok (.dup, 1) := by decide +kernel
theorem dX5_rateAsThing_2 : decode cX5_rateAsThing 2 = .ok (.getfield 58, 3) := by decide +kernel
theorem dX5_rateAsThing_5 : decode cX5_rateAsThing 5 = .ok (.lconst 1, 1) := by decide +kernel
theorem dX5_rateAsThing_6 : decode cX5_rateAsThing 6 = .ok (.ladd, 1) := by decide +kernel
theorem dX5_rateAsThing_7 : decode cX5_rateAsThing 7 = .ok (.putfield 58, 3) := by decide +kernel
theorem dX5_rateAsThing_10 : decode cX5_rateAsThing 10 = .ok (.aload_n 0, 1) := by decide +kernel
theorem dX5_rateAsThing_11 : decode cX5_rateAsThing 11 = .ok (.getfield 10, 3) := by decide +kernel
theorem dX5_rateAsThing_14 : decode cX5_rateAsThing 14 = .ok (.getfield 84, 3) := by decide +kernel
theorem dX5_rateAsThing_17 : decode cX5_rateAsThing 17 = .ok (.iload_n 1, 1) := by decide +kernel
theorem dX5_rateAsThing_18 : decode cX5_rateAsThing 18 = .ok (.iaload, 1) := by decide +kernel
theorem dX5_rateAsThing_19 : decode cX5_rateAsThing 19 = .ok (.ireturn, 1) := by decide +kernel
set_option maxRecDepth 20000 in
theorem ggX5_rateAsCalf_X5_rateAsThing : GoodIn wsX5_rateAsCalf wsX5_rateAsThing := goodIn_r _ [9, 1, 3, 10, 11, 12, 13, 14, 15, 16, 17, 18, 19, 20, 21, 22, 23, 24, 25, 26, 27, 28, 29] (by decide +kernel) (by decide +kernel)
set_option maxRecDepth 20000 in
theorem gX5_rateAsCalf_X5_rateAsThing : GoodIn wsX5_rateAsCalf (wsV RX5 224 RX5 yX5_rateAsThing wsX5_rateAsThing) := goodIn_app (goodIn_of _ (by decide +kernel)) ggX5_rateAsCalf_X5_rateAsThing
theorem dX5_rateAsCalf_0 : decode cX5_rateAsCalf 0 = .ok (.aload_n 0, 1) := by decide +kernel
theorem dX5_rateAsCalf_1 : decode cX5_rateAsCalf 1 = .ok (.dup, 1) := by decide +kernel
theorem dX5_rateAsCalf_2 : decode cX5_rateAsCalf 2 = .ok (.getfield 58, 3) := by decide +kernel
theorem dX5_rateAsCalf_5 : decode cX5_rateAsCalf 5 = .ok (.ldc2_w 235, 3) := by decide +kernel
theorem dX5_rateAsCalf_8 : decode cX5_rateAsCalf 8 = .ok (.ladd, 1) := by decide +kernel
theorem dX5_rateAsCalf_9 : decode cX5_rateAsCalf 9 = .ok (.putfield 58, 3) := by decide +kernel
theorem dX5_rateAsCalf_12 : decode cX5_rateAsCalf 12 = .ok (.aload_n 0, 1) := by decide +kernel
theorem dX5_rateAsCalf_13 : decode cX5_rateAsCalf 13 = .ok (.iload_n 1, 1) := by decide +kernel
theorem dX5_rateAsCalf_14 : decode cX5_rateAsCalf 14 = .ok (.invokevirtual 224, 3) := by decide +kernel
theorem dX5_rateAsCalf_17 : decode cX5_rateAsCalf 17 = .ok (.aload_n 0, 1) := by decide +kernel
theorem dX5_rateAsCalf_18 : decode cX5_rateAsCalf 18 = .ok (.getfield 10, 3) := by decide +kernel
theorem dX5_rateAsCalf_21 : decode cX5_rateAsCalf 21 = .ok (.getfield 87, 3) := by decide +kernel
theorem dX5_rateAsCalf_24 : decode cX5_rateAsCalf 24 = .ok (.iload_n 1, 1) := by decide +kernel
theorem dX5_rateAsCalf_25 : decode cX5_rateAsCalf 25 = .ok (.iaload, 1) := by decide +kernel
theorem dX5_rateAsCalf_26 : decode cX5_rateAsCalf 26 = .ok (.iadd, 1) := by decide +kernel
theorem dX5_rateAsCalf_27 : decode cX5_rateAsCalf 27 = .ok (.ireturn, 1) := by decide +kernel
set_option maxRecDepth 20000 in
theorem ggX5_rateAsChild_X5_rateAsThing : GoodIn wsX5_rateAsChild wsX5_rateAsThing := goodIn_r _ [9, 1, 3, 10, 18, 19, 20, 21, 22, 23, 24, 25, 26, 27, 28, 29, 30, 31, 32, 33, 34, 35, 36] (by decide +kernel) (by decide +kernel)
set_option maxRecDepth 20000 in
theorem gX5_rateAsChild_X5_rateAsThing : GoodIn wsX5_rateAsChild (wsV RX5 224 RX5 yX5_rateAsThing wsX5_rateAsThing) := goodIn_app (goodIn_of _ (by decide +kernel)) ggX5_rateAsChild_X5_rateAsThing
set_option maxRecDepth 20000 in
theorem ggX5_rateAsChild_J6_bitCount_0f7a4 : GoodIn wsX5_rateAsChild wsJ6_bitCount_0f7a4 := goodIn_r _ [14, 15, 16, 17] (by decide +kernel) (by decide +kernel)
set_option maxRecDepth 20000 in
theorem gX5_rateAsChild_J6_bitCount_0f7a4 : GoodIn wsX5_rateAsChild (va_wsS RX5 130 yJ6_bitCount_0f7a4 wsJ6_bitCount_0f7a4) := goodIn_app (goodIn_of _ (by decide +kernel)) ggX5_rateAsChild_J6_bitCount_0f7a4
theorem dX5_rateAsChild_0 : decode cX5_rateAsChild 0 = .ok (.aload_n 0, 1) := by decide +kernel
theorem dX5_rateAsChild_1 : decode cX5_rateAsChild 1 = .ok (.dup, 1) := by decide +kernel
theorem dX5_rateAsChild_2 : decode cX5_rateAsChild 2 = .ok (.getfield 58, 3) := by decide +kernel
theorem dX5_rateAsChild_5 : decode cX5_rateAsChild 5 = .ok (.ldc2_w 237, 3) := by decide +kernel
theorem dX5_rateAsChild_8 : decode cX5_rateAsChild 8 = .ok (.ladd, 1) := by decide +kernel
theorem dX5_rateAsChild_9 : decode cX5_rateAsChild 9 = .ok (.putfield 58, 3) := by decide +kernel
theorem dX5_rateAsChild_12 : decode cX5_rateAsChild 12 = .ok (.aload_n 0, 1) := by decide +kernel
theorem dX5_rateAsChild_13 : decode cX5_rateAsChild 13 = .ok (.iload_n 1, 1) := by decide +kernel
theorem dX5_rateAsChild_14 : decode cX5_rateAsChild 14 = .ok (.invokevirtual 224, 3) := by decide +kernel
theorem dX5_rateAsChild_17 : decode cX5_rateAsChild 17 = .ok (.aload_n 0, 1) := by decide +kernel
theorem dX5_rateAsChild_18 : decode cX5_rateAsChild 18 = .ok (.getfield 10, 3) := by decide +kernel
theorem dX5_rateAsChild_21 : decode cX5_rateAsChild 21 = .ok (.getfield 80, 3) := by decide +kernel
theorem dX5_rateAsChild_24 : decode cX5_rateAsChild 24 = .ok (.iload_n 1, 1) := by decide +kernel
theorem dX5_rateAsChild_25 : decode cX5_rateAsChild 25 = .ok (.iaload, 1) := by decide +kernel
theorem dX5_rateAsChild_26 : decode cX5_rateAsChild 26 = .ok (.invokestatic 130, 3) := by decide +kernel
theorem dX5_rateAsChild_29 : decode cX5_rateAsChild 29 = .ok (.isub, 1) := by decide +kernel
theorem dX5_rateAsChild_30 : decode cX5_rateAsChild 30 = .ok (.ireturn, 1) := by decide +kernel
set_option maxRecDepth 20000 in
theorem ggX5_rateAsDog_X5_rateAsCalf : GoodIn wsX5_rateAsDog wsX5_rateAsCalf := goodIn_r _ [7, 1, 8, 9, 10, 11, 12, 13, 6, 14, 15, 16, 17, 18, 19, 20, 21, 22, 23, 24, 25, 26, 27, 28, 29, 30, 31, 32, 33, 34] (by decide +kernel) (by decide +kernel)
set_option maxRecDepth 20000 in
theorem gX5_rateAsDog_X5_rateAsCalf : GoodIn wsX5_rateAsDog (wsV RX5 209 RX5 yX5_rateAsCalf wsX5_rateAsCalf) := goodIn_app (goodIn_of _ (by decide +kernel)) ggX5_rateAsDog_X5_rateAsCalf
theorem dX5_rateAsDog_0 : decode cX5_rateAsDog 0 = .ok (.aload_n 0, 1) := by decide +kernel
theorem dX5_rateAsDog_1 : decode cX5_rateAsDog 1 = .ok (.dup, 1) := by decide +kernel
theorem dX5_rateAsDog_2 : decode cX5_rateAsDog 2 = .ok (.getfield 58, 3) := by decide +kernel
theorem dX5_rateAsDog_5 : decode cX5_rateAsDog 5 = .ok (.ldc2_w 239, 3) := by decide +kernel
theorem dX5_rateAsDog_8 : decode cX5_rateAsDog 8 = .ok (.ladd, 1) := by decide +kernel
theorem dX5_rateAsDog_9 : decode cX5_rateAsDog 9 = .ok (.putfield 58, 3) := by decide +kernel
theorem dX5_rateAsDog_12 : decode cX5_rateAsDog 12 = .ok (.iconst 2, 1) := by decide +kernel
theorem dX5_rateAsDog_13 : decode cX5_rateAsDog 13 = .ok (.aload_n 0, 1) := by decide +kernel
theorem dX5_rateAsDog_14 : decode cX5_rateAsDog 14 = .ok (.iload_n 1, 1) := by decide +kernel
theorem dX5_rateAsDog_15 : decode cX5_rateAsDog 15 = .ok (.invokevirtual 209, 3) := by decide +kernel
theorem dX5_rateAsDog_18 : decode cX5_rateAsDog 18 = .ok (.imul, 1) := by decide +kernel
theorem dX5_rateAsDog_19 : decode cX5_rateAsDog 19 = .ok (.ireturn, 1) := by decide +kernel
set_option maxRecDepth 20000 in
theorem ggX5_rateAsDrum_X5_rateAsChild : GoodIn wsX5_rateAsDrum wsX5_rateAsChild := goodIn_r _ [7, 1, 8, 9, 10, 11, 12, 13, 6, 14, 15, 16, 17, 18, 19, 20, 21, 22, 23, 24, 25, 26, 27, 28, 29, 30, 31, 32, 33, 34, 35, 36, 37, 38, 39, 40, 41] (by decide +kernel) (by decide +kernel)
set_option maxRecDepth 20000 in
theorem gX5_rateAsDrum_X5_rateAsChild : GoodIn wsX5_rateAsDrum (wsV RX5 212 RX5 yX5_rateAsChild wsX5_rateAsChild) := goodIn_app (goodIn_of _ (by decide +kernel)) ggX5_rateAsDrum_X5_rateAsChild
theorem dX5_rateAsDrum_0 : decode cX5_rateAsDrum 0 = .ok (.aload_n 0, 1) := by decide +kernel
theorem dX5_rateAsDrum_1 : decode cX5_rateAsDrum 1 = .ok (.dup, 1) := by decide +kernel
theorem dX5_rateAsDrum_2 : decode cX5_rateAsDrum 2 = .ok (.getfield 58, 3) := by decide +kernel
theorem dX5_rateAsDrum_5 : decode cX5_rateAsDrum 5 = .ok (.ldc2_w 241, 3) := by decide +kernel
theorem dX5_rateAsDrum_8 : decode cX5_rateAsDrum 8 = .ok (.ladd, 1) := by decide +kernel
theorem dX5_rateAsDrum_9 : decode cX5_rateAsDrum 9 = .ok (.putfield 58, 3) := by decide +kernel
theorem dX5_rateAsDrum_12 : decode cX5_rateAsDrum 12 = .ok (.aload_n 0, 1) := by decide +kernel
theorem dX5_rateAsDrum_13 : decode cX5_rateAsDrum 13 = .ok (.iload_n 1, 1) := by decide +kernel
theorem dX5_rateAsDrum_14 : decode cX5_rateAsDrum 14 = .ok (.invokevirtual 212, 3) := by decide +kernel
theorem dX5_rateAsDrum_17 : decode cX5_rateAsDrum 17 = .ok (.iload_n 1, 1) := by decide +kernel
theorem dX5_rateAsDrum_18 : decode cX5_rateAsDrum 18 = .ok (.iadd, 1) := by decide +kernel
theorem dX5_rateAsDrum_19 : decode cX5_rateAsDrum 19 = .ok (.ireturn, 1) := by decide +kernel
set_option maxRecDepth 20000 in
theorem ggX5_rateAsPriest_X5_rateAsThing : GoodIn wsX5_rateAsPriest wsX5_rateAsThing := goodIn_r _ [9, 1, 10, 11, 12, 13, 14, 15, 16, 17, 18, 19, 20, 21, 27, 28, 29, 30, 31, 32, 33, 34, 35] (by decide +kernel) (by decide +kernel)
set_option maxRecDepth 20000 in
theorem gX5_rateAsPriest_X5_rateAsThing : GoodIn wsX5_rateAsPriest (wsV RX5 224 RX5 yX5_rateAsThing wsX5_rateAsThing) := goodIn_app (goodIn_of _ (by decide +kernel)) ggX5_rateAsPriest_X5_rateAsThing
theorem dX5_rateAsPriest_0 : decode cX5_rateAsPriest 0 = .ok (.aload_n 0, 1) := by decide +kernel
theorem dX5_rateAsPriest_1 : decode cX5_rateAsPriest 1 = .ok (.dup, 1) := by decide +kernel
theorem dX5_rateAsPriest_2 : decode cX5_rateAsPriest 2 = .ok (.getfield 58, 3) := by decide +kernel
theorem dX5_rateAsPriest_5 : decode cX5_rateAsPriest 5 = .ok (.ldc2_w 243, 3) := by decide +kernel
theorem dX5_rateAsPriest_8 : decode cX5_rateAsPriest 8 = .ok (.ladd, 1) := by decide +kernel
theorem dX5_rateAsPriest_9 : decode cX5_rateAsPriest 9 = .ok (.putfield 58, 3) := by decide +kernel
theorem dX5_rateAsPriest_12 : decode cX5_rateAsPriest 12 = .ok (.aload_n 0, 1) := by decide +kernel
theorem dX5_rateAsPriest_13 : decode cX5_rateAsPriest 13 = .ok (.iload_n 1, 1) := by decide +kernel
theorem dX5_rateAsPriest_14 : decode cX5_rateAsPriest 14 = .ok (.invokevirtual 224, 3) := by decide +kernel
theorem dX5_rateAsPriest_17 : decode cX5_rateAsPriest 17 = .ok (.aload_n 0, 1) := by decide +kernel
theorem dX5_rateAsPriest_18 : decode cX5_rateAsPriest 18 = .ok (.getfield 29, 3) := by decide +kernel
theorem dX5_rateAsPriest_21 : decode cX5_rateAsPriest 21 = .ok (.getfield 110, 3) := by decide +kernel
theorem dX5_rateAsPriest_24 : decode cX5_rateAsPriest 24 = .ok (.iadd, 1) := by decide +kernel
theorem dX5_rateAsPriest_25 : decode cX5_rateAsPriest 25 = .ok (.ireturn, 1) := by decide +kernel
theorem dX5_drawn_0 : decode cX5_drawn 0 = .ok (.ldc2_w 245, 3) := by decide +kernel
theorem dX5_drawn_3 : decode cX5_drawn 3 = .ok (.iload_n 0, 1) := by decide +kernel
theorem dX5_drawn_4 : decode cX5_drawn 4 = .ok (.i2l, 1) := by decide +kernel
theorem dX5_drawn_5 : decode cX5_drawn 5 = .ok (.lmul, 1) := by decide +kernel
theorem dX5_drawn_6 : decode cX5_drawn 6 = .ok (.ldc2_w 247, 3) := by decide +kernel
theorem dX5_drawn_9 : decode cX5_drawn 9 = .ok (.iload_n 1, 1) := by decide +kernel
theorem dX5_drawn_10 : decode cX5_drawn 10 = .ok (.i2l, 1) := by decide +kernel
theorem dX5_drawn_11 : decode cX5_drawn 11 = .ok (.lmul, 1) := by decide +kernel
theorem dX5_drawn_12 : decode cX5_drawn 12 = .ok (.ladd, 1) := by decide +kernel
theorem dX5_drawn_13 : decode cX5_drawn 13 = .ok (.lconst 1, 1) := by decide +kernel
theorem dX5_drawn_14 : decode cX5_drawn 14 = .ok (.ladd, 1) := by decide +kernel
theorem dX5_drawn_15 : decode cX5_drawn 15 = .ok (.lstore_n 3, 1) := by decide +kernel
theorem dX5_drawn_16 : decode cX5_drawn 16 = .ok (.lload_n 3, 1) := by decide +kernel
theorem dX5_drawn_17 : decode cX5_drawn 17 = .ok (.lload_n 3, 1) := by decide +kernel
theorem dX5_drawn_18 : decode cX5_drawn 18 = .ok (.lmul, 1) := by decide +kernel
theorem dX5_drawn_19 : decode cX5_drawn 19 = .ok (.ldc2_w 249, 3) := by decide +kernel
theorem dX5_drawn_22 : decode cX5_drawn 22 = .ok (.lrem, 1) := by decide +kernel
theorem dX5_drawn_23 : decode cX5_drawn 23 = .ok (.ldc2_w 251, 3) := by decide +kernel
theorem dX5_drawn_26 : decode cX5_drawn 26 = .ok (.ldiv, 1) := by decide +kernel
theorem dX5_drawn_27 : decode cX5_drawn 27 = .ok (.lstore 5, 2) := by decide +kernel
theorem dX5_drawn_29 : decode cX5_drawn 29 = .ok (.iload_n 2, 1) := by decide +kernel
theorem dX5_drawn_30 : decode cX5_drawn 30 = .ok (.ifCond .le 12, 3) := by decide +kernel
theorem dX5_drawn_33 : decode cX5_drawn 33 = .ok (.lload 5, 2) := by decide +kernel
theorem dX5_drawn_35 : decode cX5_drawn 35 = .ok (.iload_n 2, 1) := by decide +kernel
theorem dX5_drawn_36 : decode cX5_drawn 36 = .ok (.i2l, 1) := by decide +kernel
theorem dX5_drawn_37 : decode cX5_drawn 37 = .ok (.lrem, 1) := by decide +kernel
theorem dX5_drawn_38 : decode cX5_drawn 38 = .ok (.l2i, 1) := by decide +kernel
theorem dX5_drawn_39 : decode cX5_drawn 39 = .ok (.goto 4, 3) := by decide +kernel
theorem dX5_drawn_42 : decode cX5_drawn 42 = .ok (.iconst 0, 1) := by decide +kernel
theorem dX5_drawn_43 : decode cX5_drawn 43 = .ok (.ireturn, 1) := by decide +kernel
set_option maxRecDepth 20000 in
theorem ggX5_fewerWords_J6_bitCount_0f7a4 : GoodIn wsX5_fewerWords wsJ6_bitCount_0f7a4 := goodIn_r _ [4, 5, 6, 7] (by decide +kernel) (by decide +kernel)
set_option maxRecDepth 20000 in
theorem gX5_fewerWords_J6_bitCount_0f7a4 : GoodIn wsX5_fewerWords (va_wsS RX5 130 yJ6_bitCount_0f7a4 wsJ6_bitCount_0f7a4) := goodIn_app (goodIn_of _ (by decide +kernel)) ggX5_fewerWords_J6_bitCount_0f7a4
theorem dX5_fewerWords_0 : decode cX5_fewerWords 0 = .ok (.iload_n 0, 1) := by decide +kernel
theorem dX5_fewerWords_1 : decode cX5_fewerWords 1 = .ok (.bipush (-9), 2) := by decide +kernel
theorem dX5_fewerWords_3 : decode cX5_fewerWords 3 = .ok (.if_icmp .eq 14, 3) := by decide +kernel
theorem dX5_fewerWords_6 : decode cX5_fewerWords 6 = .ok (.iload_n 1, 1) := by decide +kernel
theorem dX5_fewerWords_7 : decode cX5_fewerWords 7 = .ok (.invokestatic 130, 3) := by decide +kernel
theorem dX5_fewerWords_10 : decode cX5_fewerWords 10 = .ok (.iload_n 0, 1) := by decide +kernel
theorem dX5_fewerWords_11 : decode cX5_fewerWords 11 = .ok (.invokestatic 130, 3) := by decide +kernel
theorem dX5_fewerWords_14 : decode cX5_fewerWords 14 = .ok (.if_icmp .ge 7, 3) := by decide +kernel
theorem dX5_fewerWords_17 : decode cX5_fewerWords 17 = .ok (.iload_n 1, 1) := by decide +kernel
theorem dX5_fewerWords_18 : decode cX5_fewerWords 18 = .ok (.goto 4, 3) := by decide +kernel
theorem dX5_fewerWords_21 : decode cX5_fewerWords 21 = .ok (.iload_n 0, 1) := by decide +kernel
theorem dX5_fewerWords_22 : decode cX5_fewerWords 22 = .ok (.ireturn, 1) := by decide +kernel
set_option maxRecDepth 20000 in
theorem ggX5_partOf_X5_commonDivisor : GoodIn wsX5_partOf wsX5_commonDivisor := goodIn_r _ [8] (by decide +kernel) (by decide +kernel)
set_option maxRecDepth 20000 in
theorem gX5_partOf_X5_commonDivisor : GoodIn wsX5_partOf (va_wsS RX5 258 yX5_commonDivisor wsX5_commonDivisor) := goodIn_app (goodIn_of _ (by decide +kernel)) ggX5_partOf_X5_commonDivisor
theorem dX5_partOf_0 : decode cX5_partOf 0 = .ok (.iload_n 0, 1) := by decide +kernel
theorem dX5_partOf_1 : decode cX5_partOf 1 = .ok (.invokestatic 253, 3) := by decide +kernel
theorem dX5_partOf_4 : decode cX5_partOf 4 = .ok (.iload_n 1, 1) := by decide +kernel
theorem dX5_partOf_5 : decode cX5_partOf 5 = .ok (.invokestatic 258, 3) := by decide +kernel
theorem dX5_partOf_8 : decode cX5_partOf 8 = .ok (.istore_n 3, 1) := by decide +kernel
theorem dX5_partOf_9 : decode cX5_partOf 9 = .ok (.iload_n 3, 1) := by decide +kernel
theorem dX5_partOf_10 : decode cX5_partOf 10 = .ok (.ifCond .ne 5, 3) := by decide +kernel
theorem dX5_partOf_13 : decode cX5_partOf 13 = .ok (.iconst 0, 1) := by decide +kernel
theorem dX5_partOf_14 : decode cX5_partOf 14 = .ok (.ireturn, 1) := by decide +kernel
theorem dX5_partOf_15 : decode cX5_partOf 15 = .ok (.iload_n 2, 1) := by decide +kernel
theorem dX5_partOf_16 : decode cX5_partOf 16 = .ok (.ifCond .ne 7, 3) := by decide +kernel
theorem dX5_partOf_19 : decode cX5_partOf 19 = .ok (.iload_n 0, 1) := by decide +kernel
theorem dX5_partOf_20 : decode cX5_partOf 20 = .ok (.goto 4, 3) := by decide +kernel
theorem dX5_partOf_23 : decode cX5_partOf 23 = .ok (.iload_n 1, 1) := by decide +kernel
theorem dX5_partOf_24 : decode cX5_partOf 24 = .ok (.iload_n 3, 1) := by decide +kernel
theorem dX5_partOf_25 : decode cX5_partOf 25 = .ok (.idiv, 1) := by decide +kernel
theorem dX5_partOf_26 : decode cX5_partOf 26 = .ok (.ireturn, 1) := by decide +kernel
theorem dX5_commonDivisor_0 : decode cX5_commonDivisor 0 = .ok (.iload_n 0, 1) := by decide +kernel
theorem dX5_commonDivisor_1 : decode cX5_commonDivisor 1 = .ok (.istore_n 2, 1) := by decide +kernel
theorem dX5_commonDivisor_2 : decode cX5_commonDivisor 2 = .ok (.iload_n 1, 1) := by decide +kernel
theorem dX5_commonDivisor_3 : decode cX5_commonDivisor 3 = .ok (.istore_n 3, 1) := by decide +kernel
theorem dX5_commonDivisor_4 : decode cX5_commonDivisor 4 = .ok (.iconst 0, 1) := by decide +kernel
theorem dX5_commonDivisor_5 : decode cX5_commonDivisor 5 = .ok (.istore 4, 2) := by decide +kernel
theorem dX5_commonDivisor_7 : decode cX5_commonDivisor 7 = .ok (.iload 4, 2) := by decide +kernel
theorem dX5_commonDivisor_9 : decode cX5_commonDivisor 9 = .ok (.bipush 50, 2) := by decide +kernel
theorem dX5_commonDivisor_11 : decode cX5_commonDivisor 11 = .ok (.if_icmp .ge 23, 3) := by decide +kernel
theorem dX5_commonDivisor_14 : decode cX5_commonDivisor 14 = .ok (.iload_n 3, 1) := by decide +kernel
theorem dX5_commonDivisor_15 : decode cX5_commonDivisor 15 = .ok (.ifCond .eq 19, 3) := by decide +kernel
theorem dX5_commonDivisor_18 : decode cX5_commonDivisor 18 = .ok (.iload_n 2, 1) := by decide +kernel
theorem dX5_commonDivisor_19 : decode cX5_commonDivisor 19 = .ok (.iload_n 3, 1) := by decide +kernel
theorem dX5_commonDivisor_20 : decode cX5_commonDivisor 20 = .ok (.irem, 1) := by decide +kernel
theorem dX5_commonDivisor_21 : decode cX5_commonDivisor 21 = .ok (.istore 5, 2) := by decide +kernel
theorem dX5_commonDivisor_23 : decode cX5_commonDivisor 23 = .ok (.iload_n 3, 1) := by decide +kernel
theorem dX5_commonDivisor_24 : decode cX5_commonDivisor 24 = .ok (.istore_n 2, 1) := by decide +kernel
theorem dX5_commonDivisor_25 : decode cX5_commonDivisor 25 = .ok (.iload 5, 2) := by decide +kernel
theorem dX5_commonDivisor_27 : decode cX5_commonDivisor 27 = .ok (.istore_n 3, 1) := by decide +kernel
theorem dX5_commonDivisor_28 : decode cX5_commonDivisor 28 = .ok (.iinc 4 1, 3) := by decide +kernel
theorem dX5_commonDivisor_31 : decode cX5_commonDivisor 31 = .ok (.goto (-24), 3) := by decide +kernel
theorem dX5_commonDivisor_34 : decode cX5_commonDivisor 34 = .ok (.iload_n 2, 1) := by decide +kernel
theorem dX5_commonDivisor_35 : decode cX5_commonDivisor 35 = .ok (.ireturn, 1) := by decide +kernel
theorem dX5_areWords_0 : decode cX5_areWords 0 = .ok (.iload_n 0, 1) := by decide +kernel
theorem dX5_areWords_1 : decode cX5_areWords 1 = .ok (.ifCond .lt 13, 3) := by decide +kernel
theorem dX5_areWords_4 : decode cX5_areWords 4 = .ok (.iload_n 0, 1) := by decide +kernel
theorem dX5_areWords_5 : decode cX5_areWords 5 = .ok (.bipush 31, 2) := by decide +kernel
theorem dX5_areWords_7 : decode cX5_areWords 7 = .ok (.if_icmp .gt 7, 3) := by decide +kernel
theorem dX5_areWords_10 : decode cX5_areWords 10 = .ok (.iconst 1, 1) := by decide +kernel
theorem dX5_areWords_11 : decode cX5_areWords 11 = .ok (.goto 4, 3) := by decide +kernel
theorem dX5_areWords_14 : decode cX5_areWords 14 = .ok (.iconst 0, 1) := by decide +kernel
theorem dX5_areWords_15 : decode cX5_areWords 15 = .ok (.ireturn, 1) := by decide +kernel
theorem dX5_isYesOrNo_0 : decode cX5_isYesOrNo 0 = .ok (.iload_n 0, 1) := by decide +kernel
theorem dX5_isYesOrNo_1 : decode cX5_isYesOrNo 1 = .ok (.ifCond .eq 8, 3) := by decide +kernel
theorem dX5_isYesOrNo_4 : decode cX5_isYesOrNo 4 = .ok (.iload_n 0, 1) := by decide +kernel
theorem dX5_isYesOrNo_5 : decode cX5_isYesOrNo 5 = .ok (.iconst 1, 1) := by decide +kernel
theorem dX5_isYesOrNo_6 : decode cX5_isYesOrNo 6 = .ok (.if_icmp .ne 7, 3) := by decide +kernel
theorem dX5_isYesOrNo_9 : decode cX5_isYesOrNo 9 = .ok (.iconst 1, 1) := by decide +kernel
theorem dX5_isYesOrNo_10 : decode cX5_isYesOrNo 10 = .ok (.goto 4, 3) := by decide +kernel
theorem dX5_isYesOrNo_13 : decode cX5_isYesOrNo 13 = .ok (.iconst 0, 1) := by decide +kernel
theorem dX5_isYesOrNo_14 : decode cX5_isYesOrNo 14 = .ok (.ireturn, 1) := by decide +kernel
theorem dX5_isZ_0 : decode cX5_isZ 0 = .ok (.iload_n 0, 1) := by decide +kernel
theorem dX5_isZ_1 : decode cX5_isZ 1 = .ok (.ifCond .lt 14, 3) := by decide +kernel
theorem dX5_isZ_4 : decode cX5_isZ 4 = .ok (.iload_n 0, 1) := by decide +kernel
theorem dX5_isZ_5 : decode cX5_isZ 5 = .ok (.sipush 9999, 3) := by decide +kernel
theorem dX5_isZ_8 : decode cX5_isZ 8 = .ok (.if_icmp .gt 7, 3) := by decide +kernel
theorem dX5_isZ_11 : decode cX5_isZ 11 = .ok (.iconst 1, 1) := by decide +kernel
theorem dX5_isZ_12 : decode cX5_isZ 12 = .ok (.goto 4, 3) := by decide +kernel
theorem dX5_isZ_15 : decode cX5_isZ 15 = .ok (.iconst 0, 1) := by decide +kernel
theorem dX5_isZ_16 : decode cX5_isZ 16 = .ok (.ireturn, 1) := by decide +kernel
theorem dX5_bitOf_0 : decode cX5_bitOf 0 = .ok (.iload_n 0, 1) := by decide +kernel
theorem dX5_bitOf_1 : decode cX5_bitOf 1 = .ok (.iload_n 1, 1) := by decide +kernel
theorem dX5_bitOf_2 : decode cX5_bitOf 2 = .ok (.ishr, 1) := by decide +kernel
theorem dX5_bitOf_3 : decode cX5_bitOf 3 = .ok (.iconst 1, 1) := by decide +kernel
theorem dX5_bitOf_4 : decode cX5_bitOf 4 = .ok (.iand, 1) := by decide +kernel
theorem dX5_bitOf_5 : decode cX5_bitOf 5 = .ok (.ireturn, 1) := by decide +kernel
theorem dX5_withBit_0 : decode cX5_withBit 0 = .ok (.iload_n 2, 1) := by decide +kernel
theorem dX5_withBit_1 : decode cX5_withBit 1 = .ok (.iconst 1, 1) := by decide +kernel
theorem dX5_withBit_2 : decode cX5_withBit 2 = .ok (.if_icmp .ne 11, 3) := by decide +kernel
theorem dX5_withBit_5 : decode cX5_withBit 5 = .ok (.iload_n 0, 1) := by decide +kernel
theorem dX5_withBit_6 : decode cX5_withBit 6 = .ok (.iconst 1, 1) := by decide +kernel
theorem dX5_withBit_7 : decode cX5_withBit 7 = .ok (.iload_n 1, 1) := by decide +kernel
theorem dX5_withBit_8 : decode cX5_withBit 8 = .ok (.ishl, 1) := by decide +kernel
theorem dX5_withBit_9 : decode cX5_withBit 9 = .ok (.ior, 1) := by decide +kernel
theorem dX5_withBit_10 : decode cX5_withBit 10 = .ok (.goto 10, 3) := by decide +kernel
theorem dX5_withBit_13 : decode cX5_withBit 13 = .ok (.iload_n 0, 1) := by decide +kernel
theorem dX5_withBit_14 : decode cX5_withBit 14 = .ok (.iconst 1, 1) := by decide +kernel
theorem dX5_withBit_15 : decode cX5_withBit 15 = .ok (.iload_n 1, 1) := by decide +kernel
theorem dX5_withBit_16 : decode cX5_withBit 16 = .ok (.ishl, 1) := by decide +kernel
theorem dX5_withBit_17 : decode cX5_withBit 17 = .ok (.iconst (-1), 1) := by decide +kernel
theorem dX5_withBit_18 : decode cX5_withBit 18 = .ok (.ixor, 1) := by decide +kernel
theorem dX5_withBit_19 : decode cX5_withBit 19 = .ok (.iand, 1) := by decide +kernel
theorem dX5_withBit_20 : decode cX5_withBit 20 = .ok (.ireturn, 1) := by decide +kernel
set_option maxRecDepth 20000 in
theorem ggX6_init_X6_begins : GoodIn wsX6_init wsX6_begins := goodIn_r _ [22, 23, 24, 6, 32, 33, 34, 35, 36, 37, 38, 39, 40, 41, 42, 43, 44, 45, 46, 47, 48, 49, 50, 51, 52, 53, 54, 55, 56, 57] (by decide +kernel) (by decide +kernel)
set_option maxRecDepth 20000 in
theorem gX6_init_X6_begins : GoodIn wsX6_init (wsV RX6 47 RX6 yX6_begins wsX6_begins) := goodIn_app (goodIn_of _ (by decide +kernel)) ggX6_init_X6_begins
set_option maxRecDepth 20000 in
theorem ggX6_init_X6_settles : GoodIn wsX6_init wsX6_settles := goodIn_r _ [28, 6, 10, 7, 8, 9, 24, 29, 30, 31, 14, 32, 33, 34, 35, 36, 37, 38, 39, 40, 41, 42, 43, 44, 45, 46, 47, 48, 49, 50, 51, 52, 53, 54, 55, 56, 57] (by decide +kernel) (by decide +kernel)
set_option maxRecDepth 20000 in
theorem gX6_init_X6_settles : GoodIn wsX6_init (wsV RX6 50 RX6 yX6_settles wsX6_settles) := goodIn_app (goodIn_of _ (by decide +kernel)) ggX6_init_X6_settles
theorem dX6_init_0 : decode cX6_init 0 = .ok (.aload_n 0, 1) := by decide +kernel
theorem dX6_init_1 : decode cX6_init 1 = .ok (.invokespecial 1, 3) := by decide +kernel
theorem dX6_init_4 : decode cX6_init 4 = .ok (.aload_n 0, 1) := by decide +kernel
theorem dX6_init_5 : decode cX6_init 5 = .ok (.sipush 200, 3) := by decide +kernel
theorem dX6_init_8 : decode cX6_init 8 = .ok (.newarray .int, 2) := by decide +kernel
theorem dX6_init_10 : decode cX6_init 10 = .ok (.putfield 7, 3) := by decide +kernel
theorem dX6_init_13 : decode cX6_init 13 = .ok (.aload_n 0, 1) := by decide +kernel
theorem dX6_init_14 : decode cX6_init 14 = .ok (.bipush 10, 2) := by decide +kernel
theorem dX6_init_16 : decode cX6_init 16 = .ok (.newarray .int, 2) := by decide +kernel
theorem dX6_init_18 : decode cX6_init 18 = .ok (.putfield 13, 3) := by decide +kernel
theorem dX6_init_21 : decode cX6_init 21 = .ok (.aload_n 0, 1) := by decide +kernel
theorem dX6_init_22 : decode cX6_init 22 = .ok (.bipush 14, 2) := by decide +kernel
theorem dX6_init_24 : decode cX6_init 24 = .ok (.newarray .int, 2) := by decide +kernel
theorem dX6_init_26 : decode cX6_init 26 = .ok (.putfield 16, 3) := by decide +kernel
theorem dX6_init_29 : decode cX6_init 29 = .ok (.aload_n 0, 1) := by decide +kernel
theorem dX6_init_30 : decode cX6_init 30 = .ok (.bipush 14, 2) := by decide +kernel
theorem dX6_init_32 : decode cX6_init 32 = .ok (.newarray .int, 2) := by decide +kernel
theorem dX6_init_34 : decode cX6_init 34 = .ok (.putfield 19, 3) := by decide +kernel
theorem dX6_init_37 : decode cX6_init 37 = .ok (.aload_n 0, 1) := by decide +kernel
theorem dX6_init_38 : decode cX6_init 38 = .ok (.bipush 14, 2) := by decide +kernel
theorem dX6_init_40 : decode cX6_init 40 = .ok (.newarray .int, 2) := by decide +kernel
theorem dX6_init_42 : decode cX6_init 42 = .ok (.putfield 22, 3) := by decide +kernel
theorem dX6_init_45 : decode cX6_init 45 = .ok (.aload_n 0, 1) := by decide +kernel
theorem dX6_init_46 : decode cX6_init 46 = .ok (.iconst 5, 1) := by decide +kernel
theorem dX6_init_47 : decode cX6_init 47 = .ok (.newarray .int, 2) := by decide +kernel
theorem dX6_init_49 : decode cX6_init 49 = .ok (.putfield 25, 3) := by decide +kernel
theorem dX6_init_52 : decode cX6_init 52 = .ok (.aload_n 0, 1) := by decide +kernel
theorem dX6_init_53 : decode cX6_init 53 = .ok (.iconst 5, 1) := by decide +kernel
theorem dX6_init_54 : decode cX6_init 54 = .ok (.newarray .int, 2) := by decide +kernel
theorem dX6_init_56 : decode cX6_init 56 = .ok (.putfield 28, 3) := by decide +kernel
theorem dX6_init_59 : decode cX6_init 59 = .ok (.aload_n 0, 1) := by decide +kernel
theorem dX6_init_60 : decode cX6_init 60 = .ok (.bipush 10, 2) := by decide +kernel
theorem dX6_init_62 : decode cX6_init 62 = .ok (.newarray .int, 2) := by decide +kernel
theorem dX6_init_64 : decode cX6_init 64 = .ok (.putfield 31, 3) := by decide +kernel
theorem dX6_init_67 : decode cX6_init 67 = .ok (.aload_n 0, 1) := by decide +kernel
theorem dX6_init_68 : decode cX6_init 68 = .ok (.iconst 2, 1) := by decide +kernel
theorem dX6_init_69 : decode cX6_init 69 = .ok (.newarray .boolean, 2) := by decide +kernel
theorem dX6_init_71 : decode cX6_init 71 = .ok (.putfield 34, 3) := by decide +kernel
theorem dX6_init_74 : decode cX6_init 74 = .ok (.aload_n 0, 1) := by decide +kernel
theorem dX6_init_75 : decode cX6_init 75 = .ok (.bipush 50, 2) := by decide +kernel
theorem dX6_init_77 : decode cX6_init 77 = .ok (.newarray .int, 2) := by decide +kernel
theorem dX6_init_79 : decode cX6_init 79 = .ok (.putfield 38, 3) := by decide +kernel
theorem dX6_init_82 : decode cX6_init 82 = .ok (.aload_n 0, 1) := by decide +kernel
theorem dX6_init_83 : decode cX6_init 83 = .ok (.bipush 6, 2) := by decide +kernel
theorem dX6_init_85 : decode cX6_init 85 = .ok (.newarray .int, 2) := by decide +kernel
theorem dX6_init_87 : decode cX6_init 87 = .ok (.putfield 41, 3) := by decide +kernel
theorem dX6_init_90 : decode cX6_init 90 = .ok (.aload_n 0, 1) := by decide +kernel
theorem dX6_init_91 : decode cX6_init 91 = .ok (.bipush 6, 2) := by decide +kernel
theorem dX6_init_93 : decode cX6_init 93 = .ok (.newarray .int, 2) := by decide +kernel
theorem dX6_init_95 : decode cX6_init 95 = .ok (.putfield 44, 3) := by decide +kernel
theorem dX6_init_98 : decode cX6_init 98 = .ok (.aload_n 0, 1) := by decide +kernel
theorem dX6_init_99 : decode cX6_init 99 = .ok (.invokevirtual 47, 3) := by decide +kernel
theorem dX6_init_102 : decode cX6_init 102 = .ok (.aload_n 0, 1) := by decide +kernel
theorem dX6_init_103 : decode cX6_init 103 = .ok (.invokevirtual 50, 3) := by decide +kernel
theorem dX6_init_106 : decode cX6_init 106 = .ok (.return_, 1) := by decide +kernel
theorem dX6_in_0 : decode cX6_in 0 = .ok (.iload_n 0, 1) := by decide +kernel
theorem dX6_in_1 : decode cX6_in 1 = .ok (.iload_n 1, 1) := by decide +kernel
theorem dX6_in_2 : decode cX6_in 2 = .ok (.if_icmp .lt 12, 3) := by decide +kernel
theorem dX6_in_5 : decode cX6_in 5 = .ok (.iload_n 0, 1) := by decide +kernel
theorem dX6_in_6 : decode cX6_in 6 = .ok (.iload_n 2, 1) := by decide +kernel
theorem dX6_in_7 : decode cX6_in 7 = .ok (.if_icmp .gt 7, 3) := by decide +kernel
theorem dX6_in_10 : decode cX6_in 10 = .ok (.iconst 1, 1) := by decide +kernel
theorem dX6_in_11 : decode cX6_in 11 = .ok (.goto 4, 3) := by decide +kernel
theorem dX6_in_14 : decode cX6_in 14 = .ok (.iconst 0, 1) := by decide +kernel
theorem dX6_in_15 : decode cX6_in 15 = .ok (.ireturn, 1) := by decide +kernel
theorem dX6_ones_0 : decode cX6_ones 0 = .ok (.iconst 0, 1) := by decide +kernel
theorem dX6_ones_1 : decode cX6_ones 1 = .ok (.istore_n 1, 1) := by decide +kernel
theorem dX6_ones_2 : decode cX6_ones 2 = .ok (.iconst 0, 1) := by decide +kernel
theorem dX6_ones_3 : decode cX6_ones 3 = .ok (.istore_n 2, 1) := by decide +kernel
theorem dX6_ones_4 : decode cX6_ones 4 = .ok (.iload_n 2, 1) := by decide +kernel
theorem dX6_ones_5 : decode cX6_ones 5 = .ok (.bipush 7, 2) := by decide +kernel
theorem dX6_ones_7 : decode cX6_ones 7 = .ok (.if_icmp .ge 17, 3) := by decide +kernel
theorem dX6_ones_10 : decode cX6_ones 10 = .ok (.iload_n 1, 1) := by decide +kernel
theorem dX6_ones_11 : decode cX6_ones 11 = .ok (.iload_n 0, 1) := by decide +kernel
theorem dX6_ones_12 : decode cX6_ones 12 = .ok (.iload_n 2, 1) := by decide +kernel
theorem dX6_ones_13 : decode cX6_ones 13 = .ok (.ishr, 1) := by decide +kernel
theorem dX6_ones_14 : decode cX6_ones 14 = .ok (.iconst 1, 1) := by decide +kernel
theorem dX6_ones_15 : decode cX6_ones 15 = .ok (.iand, 1) := by decide +kernel
theorem dX6_ones_16 : decode cX6_ones 16 = .ok (.iadd, 1) := by decide +kernel
theorem dX6_ones_17 : decode cX6_ones 17 = .ok (.istore_n 1, 1) := by decide +kernel
theorem dX6_ones_18 : decode cX6_ones 18 = .ok (.iinc 2 1, 3) := by decide +kernel
theorem dX6_ones_21 : decode cX6_ones 21 = .ok (.goto (-17), 3) := by decide +kernel
theorem dX6_ones_24 : decode cX6_ones 24 = .ok (.iload_n 1, 1) := by decide +kernel
theorem dX6_ones_25 : decode cX6_ones 25 = .ok (.ireturn, 1) := by decide +kernel
set_option maxRecDepth 20000 in
theorem ggX6_type_X6_in : GoodIn wsX6_type wsX6_in := goodIn_r _ [7] (by decide +kernel) (by decide +kernel)
set_option maxRecDepth 20000 in
theorem gX6_type_X6_in : GoodIn wsX6_type (va_wsS RX6 57 yX6_in wsX6_in) := goodIn_app (goodIn_of _ (by decide +kernel)) ggX6_type_X6_in
theorem dX6_type_0 : decode cX6_type 0 = .ok (.aload_n 0, 1) := by decide +kernel
theorem dX6_type_1 : decode cX6_type 1 = .ok (.iconst 0, 1) := by decide +kernel
theorem dX6_type_2 : decode cX6_type 2 = .ok (.putfield 53, 3) := by decide +kernel
theorem dX6_type_5 : decode cX6_type 5 = .ok (.iload_n 1, 1) := by decide +kernel
theorem dX6_type_6 : decode cX6_type 6 = .ok (.iconst 0, 1) := by decide +kernel
theorem dX6_type_7 : decode cX6_type 7 = .ok (.sipush 255, 3) := by decide +kernel
theorem dX6_type_10 : decode cX6_type 10 = .ok (.invokestatic 57, 3) := by decide +kernel
theorem dX6_type_13 : decode cX6_type 13 = .ok (.ifCond .ne 5, 3) := by decide +kernel
theorem dX6_type_16 : decode cX6_type 16 = .ok (.iconst (-1), 1) := by decide +kernel
theorem dX6_type_17 : decode cX6_type 17 = .ok (.ireturn, 1) := by decide +kernel
theorem dX6_type_18 : decode cX6_type 18 = .ok (.aload_n 0, 1) := by decide +kernel
theorem dX6_type_19 : decode cX6_type 19 = .ok (.getfield 61, 3) := by decide +kernel
theorem dX6_type_22 : decode cX6_type 22 = .ok (.sipush 200, 3) := by decide +kernel
theorem dX6_type_25 : decode cX6_type 25 = .ok (.if_icmp .ne 6, 3) := by decide +kernel
theorem dX6_type_28 : decode cX6_type 28 = .ok (.bipush (-3), 2) := by decide +kernel
theorem dX6_type_30 : decode cX6_type 30 = .ok (.ireturn, 1) := by decide +kernel
theorem dX6_type_31 : decode cX6_type 31 = .ok (.aload_n 0, 1) := by decide +kernel
theorem dX6_type_32 : decode cX6_type 32 = .ok (.getfield 7, 3) := by decide +kernel
theorem dX6_type_35 : decode cX6_type 35 = .ok (.aload_n 0, 1) := by decide +kernel
theorem dX6_type_36 : decode cX6_type 36 = .ok (.getfield 61, 3) := by decide +kernel
theorem dX6_type_39 : decode cX6_type 39 = .ok (.iload_n 1, 1) := by decide +kernel
theorem dX6_type_40 : decode cX6_type 40 = .ok (.iastore, 1) := by decide +kernel
theorem dX6_type_41 : decode cX6_type 41 = .ok (.aload_n 0, 1) := by decide +kernel
theorem dX6_type_42 : decode cX6_type 42 = .ok (.dup, 1) := by decide +kernel
theorem dX6_type_43 : decode cX6_type 43 = .ok (.getfield 61, 3) := by decide +kernel
theorem dX6_type_46 : decode cX6_type 46 = .ok (.iconst 1, 1) := by decide +kernel
theorem dX6_type_47 : decode cX6_type 47 = .ok (.iadd, 1) := by decide +kernel
theorem dX6_type_48 : decode cX6_type 48 = .ok (.putfield 61, 3) := by decide +kernel
theorem dX6_type_51 : decode cX6_type 51 = .ok (.aload_n 0, 1) := by decide +kernel
theorem dX6_type_52 : decode cX6_type 52 = .ok (.getfield 61, 3) := by decide +kernel
theorem dX6_type_55 : decode cX6_type 55 = .ok (.ireturn, 1) := by decide +kernel
theorem dX6_clear_0 : decode cX6_clear 0 = .ok (.aload_n 0, 1) := by decide +kernel
theorem dX6_clear_1 : decode cX6_clear 1 = .ok (.iconst 0, 1) := by decide +kernel
theorem dX6_clear_2 : decode cX6_clear 2 = .ok (.putfield 53, 3) := by decide +kernel
theorem dX6_clear_5 : decode cX6_clear 5 = .ok (.aload_n 0, 1) := by decide +kernel
theorem dX6_clear_6 : decode cX6_clear 6 = .ok (.getfield 61, 3) := by decide +kernel
theorem dX6_clear_9 : decode cX6_clear 9 = .ok (.istore_n 1, 1) := by decide +kernel
theorem dX6_clear_10 : decode cX6_clear 10 = .ok (.aload_n 0, 1) := by decide +kernel
theorem dX6_clear_11 : decode cX6_clear 11 = .ok (.iconst 0, 1) := by decide +kernel
theorem dX6_clear_12 : decode cX6_clear 12 = .ok (.putfield 61, 3) := by decide +kernel
theorem dX6_clear_15 : decode cX6_clear 15 = .ok (.iload_n 1, 1) := by decide +kernel
theorem dX6_clear_16 : decode cX6_clear 16 = .ok (.ireturn, 1) := by decide +kernel
theorem dX6_letterAt_0 : decode cX6_letterAt 0 = .ok (.iload_n 1, 1) := by decide +kernel
theorem dX6_letterAt_1 : decode cX6_letterAt 1 = .ok (.aload_n 0, 1) := by decide +kernel
theorem dX6_letterAt_2 : decode cX6_letterAt 2 = .ok (.getfield 61, 3) := by decide +kernel
theorem dX6_letterAt_5 : decode cX6_letterAt 5 = .ok (.if_icmp .ge 12, 3) := by decide +kernel
theorem dX6_letterAt_8 : decode cX6_letterAt 8 = .ok (.aload_n 0, 1) := by decide +kernel
theorem dX6_letterAt_9 : decode cX6_letterAt 9 = .ok (.getfield 7, 3) := by decide +kernel
theorem dX6_letterAt_12 : decode cX6_letterAt 12 = .ok (.iload_n 1, 1) := by decide +kernel
theorem dX6_letterAt_13 : decode cX6_letterAt 13 = .ok (.iaload, 1) := by decide +kernel
theorem dX6_letterAt_14 : decode cX6_letterAt 14 = .ok (.goto 4, 3) := by decide +kernel
theorem dX6_letterAt_17 : decode cX6_letterAt 17 = .ok (.iconst (-1), 1) := by decide +kernel
theorem dX6_letterAt_18 : decode cX6_letterAt 18 = .ok (.ireturn, 1) := by decide +kernel
set_option maxRecDepth 20000 in
theorem ggX6_advances_X6_letterAt : GoodIn wsX6_advances wsX6_letterAt := goodIn_r _ [9, 10, 11, 15, 16, 17, 18, 19, 20, 21, 22, 23, 24, 25, 26, 27, 28, 29, 30, 31, 32, 33, 34, 35, 36, 37, 38, 39, 40] (by decide +kernel) (by decide +kernel)
set_option maxRecDepth 20000 in
theorem gX6_advances_X6_letterAt : GoodIn wsX6_advances (wsV RX6 67 RX6 yX6_letterAt wsX6_letterAt) := goodIn_app (goodIn_of _ (by decide +kernel)) ggX6_advances_X6_letterAt
set_option maxRecDepth 20000 in
theorem ggX6_advances_X6_in : GoodIn wsX6_advances wsX6_in := goodIn_r _ [14] (by decide +kernel) (by decide +kernel)
set_option maxRecDepth 20000 in
theorem gX6_advances_X6_in : GoodIn wsX6_advances (va_wsS RX6 57 yX6_in wsX6_in) := goodIn_app (goodIn_of _ (by decide +kernel)) ggX6_advances_X6_in
theorem dX6_advances_0 : decode cX6_advances 0 = .ok (.aload_n 0, 1) := by decide +kernel
theorem dX6_advances_1 : decode cX6_advances 1 = .ok (.aload_n 0, 1) := by decide +kernel
theorem dX6_advances_2 : decode cX6_advances 2 = .ok (.getfield 64, 3) := by decide +kernel
theorem dX6_advances_5 : decode cX6_advances 5 = .ok (.invokevirtual 67, 3) := by decide +kernel
theorem dX6_advances_8 : decode cX6_advances 8 = .ok (.bipush 32, 2) := by decide +kernel
theorem dX6_advances_10 : decode cX6_advances 10 = .ok (.if_icmp .ne 16, 3) := by decide +kernel
theorem dX6_advances_13 : decode cX6_advances 13 = .ok (.aload_n 0, 1) := by decide +kernel
theorem dX6_advances_14 : decode cX6_advances 14 = .ok (.dup, 1) := by decide +kernel
theorem dX6_advances_15 : decode cX6_advances 15 = .ok (.getfield 64, 3) := by decide +kernel
theorem dX6_advances_18 : decode cX6_advances 18 = .ok (.iconst 1, 1) := by decide +kernel
theorem dX6_advances_19 : decode cX6_advances 19 = .ok (.iadd, 1) := by decide +kernel
theorem dX6_advances_20 : decode cX6_advances 20 = .ok (.putfield 64, 3) := by decide +kernel
theorem dX6_advances_23 : decode cX6_advances 23 = .ok (.goto (-23), 3) := by decide +kernel
theorem dX6_advances_26 : decode cX6_advances 26 = .ok (.aload_n 0, 1) := by decide +kernel
theorem dX6_advances_27 : decode cX6_advances 27 = .ok (.aload_n 0, 1) := by decide +kernel
theorem dX6_advances_28 : decode cX6_advances 28 = .ok (.getfield 64, 3) := by decide +kernel
theorem dX6_advances_31 : decode cX6_advances 31 = .ok (.putfield 71, 3) := by decide +kernel
theorem dX6_advances_34 : decode cX6_advances 34 = .ok (.aload_n 0, 1) := by decide +kernel
theorem dX6_advances_35 : decode cX6_advances 35 = .ok (.aload_n 0, 1) := by decide +kernel
theorem dX6_advances_36 : decode cX6_advances 36 = .ok (.getfield 64, 3) := by decide +kernel
theorem dX6_advances_39 : decode cX6_advances 39 = .ok (.invokevirtual 67, 3) := by decide +kernel
theorem dX6_advances_42 : decode cX6_advances 42 = .ok (.istore_n 1, 1) := by decide +kernel
theorem dX6_advances_43 : decode cX6_advances 43 = .ok (.iload_n 1, 1) := by decide +kernel
theorem dX6_advances_44 : decode cX6_advances 44 = .ok (.ifCond .ge 11, 3) := by decide +kernel
theorem dX6_advances_47 : decode cX6_advances 47 = .ok (.aload_n 0, 1) := by decide +kernel
theorem dX6_advances_48 : decode cX6_advances 48 = .ok (.iconst 0, 1) := by decide +kernel
theorem dX6_advances_49 : decode cX6_advances 49 = .ok (.putfield 74, 3) := by decide +kernel
theorem dX6_advances_52 : decode cX6_advances 52 = .ok (.goto 183, 3) := by decide +kernel
theorem dX6_advances_55 : decode cX6_advances 55 = .ok (.iload_n 1, 1) := by decide +kernel
theorem dX6_advances_56 : decode cX6_advances 56 = .ok (.bipush 48, 2) := by decide +kernel
theorem dX6_advances_58 : decode cX6_advances 58 = .ok (.bipush 57, 2) := by decide +kernel
theorem dX6_advances_60 : decode cX6_advances 60 = .ok (.invokestatic 57, 3) := by decide +kernel
theorem dX6_advances_63 : decode cX6_advances 63 = .ok (.ifCond .eq 120, 3) := by decide +kernel
theorem dX6_advances_66 : decode cX6_advances 66 = .ok (.aload_n 0, 1) := by decide +kernel
theorem dX6_advances_67 : decode cX6_advances 67 = .ok (.iconst 0, 1) := by decide +kernel
theorem dX6_advances_68 : decode cX6_advances 68 = .ok (.putfield 77, 3) := by decide +kernel
theorem dX6_advances_71 : decode cX6_advances 71 = .ok (.aload_n 0, 1) := by decide +kernel
theorem dX6_advances_72 : decode cX6_advances 72 = .ok (.aload_n 0, 1) := by decide +kernel
theorem dX6_advances_73 : decode cX6_advances 73 = .ok (.getfield 64, 3) := by decide +kernel
theorem dX6_advances_76 : decode cX6_advances 76 = .ok (.invokevirtual 67, 3) := by decide +kernel
theorem dX6_advances_79 : decode cX6_advances 79 = .ok (.bipush 48, 2) := by decide +kernel
theorem dX6_advances_81 : decode cX6_advances 81 = .ok (.bipush 57, 2) := by decide +kernel
theorem dX6_advances_83 : decode cX6_advances 83 = .ok (.invokestatic 57, 3) := by decide +kernel
theorem dX6_advances_86 : decode cX6_advances 86 = .ok (.ifCond .eq 56, 3) := by decide +kernel
theorem dX6_advances_89 : decode cX6_advances 89 = .ok (.aload_n 0, 1) := by decide +kernel
theorem dX6_advances_90 : decode cX6_advances 90 = .ok (.aload_n 0, 1) := by decide +kernel
theorem dX6_advances_91 : decode cX6_advances 91 = .ok (.getfield 77, 3) := by decide +kernel
theorem dX6_advances_94 : decode cX6_advances 94 = .ok (.sipush 999, 3) := by decide +kernel
theorem dX6_advances_97 : decode cX6_advances 97 = .ok (.if_icmp .le 10, 3) := by decide +kernel
theorem dX6_advances_100 : decode cX6_advances 100 = .ok (.aload_n 0, 1) := by decide +kernel
theorem dX6_advances_101 : decode cX6_advances 101 = .ok (.getfield 77, 3) := by decide +kernel
theorem dX6_advances_104 : decode cX6_advances 104 = .ok (.goto 22, 3) := by decide +kernel
theorem dX6_advances_107 : decode cX6_advances 107 = .ok (.bipush 10, 2) := by decide +kernel
theorem dX6_advances_109 : decode cX6_advances 109 = .ok (.aload_n 0, 1) := by decide +kernel
theorem dX6_advances_110 : decode cX6_advances 110 = .ok (.getfield 77, 3) := by decide +kernel
theorem dX6_advances_113 : decode cX6_advances 113 = .ok (.imul, 1) := by decide +kernel
theorem dX6_advances_114 : decode cX6_advances 114 = .ok (.aload_n 0, 1) := by decide +kernel
theorem dX6_advances_115 : decode cX6_advances 115 = .ok (.aload_n 0, 1) := by decide +kernel
theorem dX6_advances_116 : decode cX6_advances 116 = .ok (.getfield 64, 3) := by decide +kernel
theorem dX6_advances_119 : decode cX6_advances 119 = .ok (.invokevirtual 67, 3) := by decide +kernel
theorem dX6_advances_122 : decode cX6_advances 122 = .ok (.iadd, 1) := by decide +kernel
theorem dX6_advances_123 : decode cX6_advances 123 = .ok (.bipush 48, 2) := by decide +kernel
theorem dX6_advances_125 : decode cX6_advances 125 = .ok (.isub, 1) := by decide +kernel
theorem dX6_advances_126 : decode cX6_advances 126 = .ok (.putfield 77, 3) := by decide +kernel
theorem dX6_advances_129 : decode cX6_advances 129 = .ok (.aload_n 0, 1) := by decide +kernel
theorem dX6_advances_130 : decode cX6_advances 130 = .ok (.dup, 1) := by decide +kernel
theorem dX6_advances_131 : decode cX6_advances 131 = .ok (.getfield 64, 3) := by decide +kernel
theorem dX6_advances_134 : decode cX6_advances 134 = .ok (.iconst 1, 1) := by decide +kernel
theorem dX6_advances_135 : decode cX6_advances 135 = .ok (.iadd, 1) := by decide +kernel
theorem dX6_advances_136 : decode cX6_advances 136 = .ok (.putfield 64, 3) := by decide +kernel
theorem dX6_advances_139 : decode cX6_advances 139 = .ok (.goto (-68), 3) := by decide +kernel
theorem dX6_advances_142 : decode cX6_advances 142 = .ok (.aload_n 0, 1) := by decide +kernel
theorem dX6_advances_143 : decode cX6_advances 143 = .ok (.aload_n 0, 1) := by decide +kernel
theorem dX6_advances_144 : decode cX6_advances 144 = .ok (.getfield 77, 3) := by decide +kernel
theorem dX6_advances_147 : decode cX6_advances 147 = .ok (.sipush 999, 3) := by decide +kernel
theorem dX6_advances_150 : decode cX6_advances 150 = .ok (.if_icmp .gt 22, 3) := by decide +kernel
theorem dX6_advances_153 : decode cX6_advances 153 = .ok (.iload_n 1, 1) := by decide +kernel
theorem dX6_advances_154 : decode cX6_advances 154 = .ok (.bipush 48, 2) := by decide +kernel
theorem dX6_advances_156 : decode cX6_advances 156 = .ok (.if_icmp .ne 20, 3) := by decide +kernel
theorem dX6_advances_159 : decode cX6_advances 159 = .ok (.aload_n 0, 1) := by decide +kernel
theorem dX6_advances_160 : decode cX6_advances 160 = .ok (.getfield 64, 3) := by decide +kernel
theorem dX6_advances_163 : decode cX6_advances 163 = .ok (.aload_n 0, 1) := by decide +kernel
theorem dX6_advances_164 : decode cX6_advances 164 = .ok (.getfield 71, 3) := by decide +kernel
theorem dX6_advances_167 : decode cX6_advances 167 = .ok (.isub, 1) := by decide +kernel
theorem dX6_advances_168 : decode cX6_advances 168 = .ok (.iconst 1, 1) := by decide +kernel
theorem dX6_advances_169 : decode cX6_advances 169 = .ok (.if_icmp .le 7, 3) := by decide +kernel
theorem dX6_advances_172 : decode cX6_advances 172 = .ok (.iconst 4, 1) := by decide +kernel
theorem dX6_advances_173 : decode cX6_advances 173 = .ok (.goto 4, 3) := by decide +kernel
theorem dX6_advances_176 : decode cX6_advances 176 = .ok (.iconst 2, 1) := by decide +kernel
theorem dX6_advances_177 : decode cX6_advances 177 = .ok (.putfield 74, 3) := by decide +kernel
theorem dX6_advances_180 : decode cX6_advances 180 = .ok (.goto 55, 3) := by decide +kernel
theorem dX6_advances_183 : decode cX6_advances 183 = .ok (.aload_n 0, 1) := by decide +kernel
theorem dX6_advances_184 : decode cX6_advances 184 = .ok (.dup, 1) := by decide +kernel
theorem dX6_advances_185 : decode cX6_advances 185 = .ok (.getfield 64, 3) := by decide +kernel
theorem dX6_advances_188 : decode cX6_advances 188 = .ok (.iconst 1, 1) := by decide +kernel
theorem dX6_advances_189 : decode cX6_advances 189 = .ok (.iadd, 1) := by decide +kernel
theorem dX6_advances_190 : decode cX6_advances 190 = .ok (.putfield 64, 3) := by decide +kernel
theorem dX6_advances_193 : decode cX6_advances 193 = .ok (.aload_n 0, 1) := by decide +kernel
theorem dX6_advances_194 : decode cX6_advances 194 = .ok (.iload_n 1, 1) := by decide +kernel
theorem dX6_advances_195 : decode cX6_advances 195 = .ok (.putfield 77, 3) := by decide +kernel
theorem dX6_advances_198 : decode cX6_advances 198 = .ok (.aload_n 0, 1) := by decide +kernel
theorem dX6_advances_199 : decode cX6_advances 199 = .ok (.iload_n 1, 1) := by decide +kernel
theorem dX6_advances_200 : decode cX6_advances 200 = .ok (.bipush 59, 2) := by decide +kernel
theorem dX6_advances_202 : decode cX6_advances 202 = .ok (.if_icmp .ne 7, 3) := by decide +kernel
theorem dX6_advances_205 : decode cX6_advances 205 = .ok (.iconst 3, 1) := by decide +kernel
theorem dX6_advances_206 : decode cX6_advances 206 = .ok (.goto 26, 3) := by decide +kernel
theorem dX6_advances_209 : decode cX6_advances 209 = .ok (.iload_n 1, 1) := by decide +kernel
theorem dX6_advances_210 : decode cX6_advances 210 = .ok (.bipush 116, 2) := by decide +kernel
theorem dX6_advances_212 : decode cX6_advances 212 = .ok (.if_icmp .eq 15, 3) := by decide +kernel
theorem dX6_advances_215 : decode cX6_advances 215 = .ok (.iload_n 1, 1) := by decide +kernel
theorem dX6_advances_216 : decode cX6_advances 216 = .ok (.bipush 118, 2) := by decide +kernel
theorem dX6_advances_218 : decode cX6_advances 218 = .ok (.if_icmp .eq 9, 3) := by decide +kernel
theorem dX6_advances_221 : decode cX6_advances 221 = .ok (.iload_n 1, 1) := by decide +kernel
theorem dX6_advances_222 : decode cX6_advances 222 = .ok (.bipush 119, 2) := by decide +kernel
theorem dX6_advances_224 : decode cX6_advances 224 = .ok (.if_icmp .ne 7, 3) := by decide +kernel
theorem dX6_advances_227 : decode cX6_advances 227 = .ok (.iconst 1, 1) := by decide +kernel
theorem dX6_advances_228 : decode cX6_advances 228 = .ok (.goto 4, 3) := by decide +kernel
theorem dX6_advances_231 : decode cX6_advances 231 = .ok (.iconst 4, 1) := by decide +kernel
theorem dX6_advances_232 : decode cX6_advances 232 = .ok (.putfield 74, 3) := by decide +kernel
theorem dX6_advances_235 : decode cX6_advances 235 = .ok (.return_, 1) := by decide +kernel
theorem dX6_isWell_0 : decode cX6_isWell 0 = .ok (.aload_n 0, 1) := by decide +kernel
theorem dX6_isWell_1 : decode cX6_isWell 1 = .ok (.getfield 80, 3) := by decide +kernel
theorem dX6_isWell_4 : decode cX6_isWell 4 = .ok (.ifCond .ge 7, 3) := by decide +kernel
theorem dX6_isWell_7 : decode cX6_isWell 7 = .ok (.iconst 1, 1) := by decide +kernel
theorem dX6_isWell_8 : decode cX6_isWell 8 = .ok (.goto 4, 3) := by decide +kernel
theorem dX6_isWell_11 : decode cX6_isWell 11 = .ok (.iconst 0, 1) := by decide +kernel
theorem dX6_isWell_12 : decode cX6_isWell 12 = .ok (.ireturn, 1) := by decide +kernel
set_option maxRecDepth 20000 in
theorem ggX6_takes_X6_isWell : GoodIn wsX6_takes wsX6_isWell := goodIn_r _ [8, 2, 24, 25, 26, 27, 28, 29, 30, 31, 32, 33, 34, 35, 36, 37, 38, 39, 40, 41, 42, 43, 44, 45, 46, 47, 48, 49] (by decide +kernel) (by decide +kernel)
set_option maxRecDepth 20000 in
theorem gX6_takes_X6_isWell : GoodIn wsX6_takes (wsV RX6 83 RX6 yX6_isWell wsX6_isWell) := goodIn_app (goodIn_of _ (by decide +kernel)) ggX6_takes_X6_isWell
set_option maxRecDepth 20000 in
theorem ggX6_takes_X6_advances : GoodIn wsX6_takes wsX6_advances := goodIn_r _ [12, 13, 1, 14, 3, 15, 16, 17, 7, 18, 19, 20, 21, 22, 23, 24, 25, 26, 27, 28, 29, 30, 31, 32, 33, 34, 35, 36, 37, 38, 39, 40, 41, 42, 43, 44, 45, 46, 47, 48, 49] (by decide +kernel) (by decide +kernel)
set_option maxRecDepth 20000 in
theorem gX6_takes_X6_advances : GoodIn wsX6_takes (wsV RX6 87 RX6 yX6_advances wsX6_advances) := goodIn_app (goodIn_of _ (by decide +kernel)) ggX6_takes_X6_advances
theorem dX6_takes_0 : decode cX6_takes 0 = .ok (.aload_n 0, 1) := by decide +kernel
theorem dX6_takes_1 : decode cX6_takes 1 = .ok (.invokevirtual 83, 3) := by decide +kernel
theorem dX6_takes_4 : decode cX6_takes 4 = .ok (.ifCond .ne 5, 3) := by decide +kernel
theorem dX6_takes_7 : decode cX6_takes 7 = .ok (.iconst 0, 1) := by decide +kernel
theorem dX6_takes_8 : decode cX6_takes 8 = .ok (.ireturn, 1) := by decide +kernel
theorem dX6_takes_9 : decode cX6_takes 9 = .ok (.iload_n 1, 1) := by decide +kernel
theorem dX6_takes_10 : decode cX6_takes 10 = .ok (.ifCond .ne 13, 3) := by decide +kernel
theorem dX6_takes_13 : decode cX6_takes 13 = .ok (.aload_n 0, 1) := by decide +kernel
theorem dX6_takes_14 : decode cX6_takes 14 = .ok (.aload_n 0, 1) := by decide +kernel
theorem dX6_takes_15 : decode cX6_takes 15 = .ok (.getfield 71, 3) := by decide +kernel
theorem dX6_takes_18 : decode cX6_takes 18 = .ok (.putfield 80, 3) := by decide +kernel
theorem dX6_takes_21 : decode cX6_takes 21 = .ok (.iconst 0, 1) := by decide +kernel
theorem dX6_takes_22 : decode cX6_takes 22 = .ok (.ireturn, 1) := by decide +kernel
theorem dX6_takes_23 : decode cX6_takes 23 = .ok (.aload_n 0, 1) := by decide +kernel
theorem dX6_takes_24 : decode cX6_takes 24 = .ok (.getfield 77, 3) := by decide +kernel
theorem dX6_takes_27 : decode cX6_takes 27 = .ok (.istore_n 2, 1) := by decide +kernel
theorem dX6_takes_28 : decode cX6_takes 28 = .ok (.aload_n 0, 1) := by decide +kernel
theorem dX6_takes_29 : decode cX6_takes 29 = .ok (.invokevirtual 87, 3) := by decide +kernel
theorem dX6_takes_32 : decode cX6_takes 32 = .ok (.iload_n 2, 1) := by decide +kernel
theorem dX6_takes_33 : decode cX6_takes 33 = .ok (.ireturn, 1) := by decide +kernel
set_option maxRecDepth 20000 in
theorem ggX6_number_X6_in : GoodIn wsX6_number wsX6_in := goodIn_r _ [6] (by decide +kernel) (by decide +kernel)
set_option maxRecDepth 20000 in
theorem gX6_number_X6_in : GoodIn wsX6_number (va_wsS RX6 57 yX6_in wsX6_in) := goodIn_app (goodIn_of _ (by decide +kernel)) ggX6_number_X6_in
set_option maxRecDepth 20000 in
theorem ggX6_number_X6_takes : GoodIn wsX6_number wsX6_takes := goodIn_r _ [10, 11, 12, 2, 13, 14, 15, 5, 16, 17, 18, 19, 20, 21, 1, 22, 23, 24, 25, 26, 27, 3, 4, 6, 28, 29, 30, 31, 32, 33, 34, 35, 36, 37, 38, 39, 40, 41, 42, 43, 44, 45, 46, 47, 48, 49, 50, 51, 52, 53] (by decide +kernel) (by decide +kernel)
set_option maxRecDepth 20000 in
theorem gX6_number_X6_takes : GoodIn wsX6_number (wsV RX6 90 RX6 yX6_takes wsX6_takes) := goodIn_app (goodIn_of _ (by decide +kernel)) ggX6_number_X6_takes
theorem dX6_number_0 : decode cX6_number 0 = .ok (.aload_n 0, 1) := by decide +kernel
theorem dX6_number_1 : decode cX6_number 1 = .ok (.aload_n 0, 1) := by decide +kernel
theorem dX6_number_2 : decode cX6_number 2 = .ok (.getfield 74, 3) := by decide +kernel
theorem dX6_number_5 : decode cX6_number 5 = .ok (.iconst 2, 1) := by decide +kernel
theorem dX6_number_6 : decode cX6_number 6 = .ok (.if_icmp .ne 19, 3) := by decide +kernel
theorem dX6_number_9 : decode cX6_number 9 = .ok (.aload_n 0, 1) := by decide +kernel
theorem dX6_number_10 : decode cX6_number 10 = .ok (.getfield 77, 3) := by decide +kernel
theorem dX6_number_13 : decode cX6_number 13 = .ok (.iload_n 1, 1) := by decide +kernel
theorem dX6_number_14 : decode cX6_number 14 = .ok (.iload_n 2, 1) := by decide +kernel
theorem dX6_number_15 : decode cX6_number 15 = .ok (.invokestatic 57, 3) := by decide +kernel
theorem dX6_number_18 : decode cX6_number 18 = .ok (.ifCond .eq 7, 3) := by decide +kernel
theorem dX6_number_21 : decode cX6_number 21 = .ok (.iconst 1, 1) := by decide +kernel
theorem dX6_number_22 : decode cX6_number 22 = .ok (.goto 4, 3) := by decide +kernel
theorem dX6_number_25 : decode cX6_number 25 = .ok (.iconst 0, 1) := by decide +kernel
theorem dX6_number_26 : decode cX6_number 26 = .ok (.invokevirtual 90, 3) := by decide +kernel
theorem dX6_number_29 : decode cX6_number 29 = .ok (.ireturn, 1) := by decide +kernel
theorem dX6_begins_0 : decode cX6_begins 0 = .ok (.aload_n 0, 1) := by decide +kernel
theorem dX6_begins_1 : decode cX6_begins 1 = .ok (.iconst 0, 1) := by decide +kernel
theorem dX6_begins_2 : decode cX6_begins 2 = .ok (.putfield 94, 3) := by decide +kernel
theorem dX6_begins_5 : decode cX6_begins 5 = .ok (.aload_n 0, 1) := by decide +kernel
theorem dX6_begins_6 : decode cX6_begins 6 = .ok (.iconst 0, 1) := by decide +kernel
theorem dX6_begins_7 : decode cX6_begins 7 = .ok (.putfield 97, 3) := by decide +kernel
theorem dX6_begins_10 : decode cX6_begins 10 = .ok (.aload_n 0, 1) := by decide +kernel
theorem dX6_begins_11 : decode cX6_begins 11 = .ok (.getfield 13, 3) := by decide +kernel
theorem dX6_begins_14 : decode cX6_begins 14 = .ok (.iconst 5, 1) := by decide +kernel
theorem dX6_begins_15 : decode cX6_begins 15 = .ok (.iconst 0, 1) := by decide +kernel
theorem dX6_begins_16 : decode cX6_begins 16 = .ok (.iastore, 1) := by decide +kernel
theorem dX6_begins_17 : decode cX6_begins 17 = .ok (.aload_n 0, 1) := by decide +kernel
theorem dX6_begins_18 : decode cX6_begins 18 = .ok (.getfield 13, 3) := by decide +kernel
theorem dX6_begins_21 : decode cX6_begins 21 = .ok (.bipush 6, 2) := by decide +kernel
theorem dX6_begins_23 : decode cX6_begins 23 = .ok (.iconst 5, 1) := by decide +kernel
theorem dX6_begins_24 : decode cX6_begins 24 = .ok (.iastore, 1) := by decide +kernel
theorem dX6_begins_25 : decode cX6_begins 25 = .ok (.aload_n 0, 1) := by decide +kernel
theorem dX6_begins_26 : decode cX6_begins 26 = .ok (.getfield 13, 3) := by decide +kernel
theorem dX6_begins_29 : decode cX6_begins 29 = .ok (.bipush 7, 2) := by decide +kernel
theorem dX6_begins_31 : decode cX6_begins 31 = .ok (.iconst 0, 1) := by decide +kernel
theorem dX6_begins_32 : decode cX6_begins 32 = .ok (.iastore, 1) := by decide +kernel
theorem dX6_begins_33 : decode cX6_begins 33 = .ok (.aload_n 0, 1) := by decide +kernel
theorem dX6_begins_34 : decode cX6_begins 34 = .ok (.getfield 13, 3) := by decide +kernel
theorem dX6_begins_37 : decode cX6_begins 37 = .ok (.bipush 8, 2) := by decide +kernel
theorem dX6_begins_39 : decode cX6_begins 39 = .ok (.bipush 100, 2) := by decide +kernel
theorem dX6_begins_41 : decode cX6_begins 41 = .ok (.iastore, 1) := by decide +kernel
theorem dX6_begins_42 : decode cX6_begins 42 = .ok (.aload_n 0, 1) := by decide +kernel
theorem dX6_begins_43 : decode cX6_begins 43 = .ok (.getfield 13, 3) := by decide +kernel
theorem dX6_begins_46 : decode cX6_begins 46 = .ok (.bipush 9, 2) := by decide +kernel
theorem dX6_begins_48 : decode cX6_begins 48 = .ok (.iconst 0, 1) := by decide +kernel
theorem dX6_begins_49 : decode cX6_begins 49 = .ok (.iastore, 1) := by decide +kernel
theorem dX6_begins_50 : decode cX6_begins 50 = .ok (.return_, 1) := by decide +kernel
set_option maxRecDepth 20000 in
theorem ggX6_readsItem_X6_number : GoodIn wsX6_readsItem wsX6_number := goodIn_r _ [11, 12, 13, 14, 15, 10, 16, 17, 18, 19, 20, 21, 22, 23, 24, 25, 26, 27, 28, 29, 30, 31, 32, 33, 34, 35, 36, 37, 38, 39, 40, 41, 42, 43, 44, 45, 46, 47, 48, 49, 50, 51, 52, 53, 54, 55, 56, 57, 58, 59, 60, 61, 62, 63] (by decide +kernel) (by decide +kernel)
set_option maxRecDepth 20000 in
theorem gX6_readsItem_X6_number : GoodIn wsX6_readsItem (wsV RX6 100 RX6 yX6_number wsX6_number) := goodIn_app (goodIn_of _ (by decide +kernel)) ggX6_readsItem_X6_number
theorem dX6_readsItem_0 : decode cX6_readsItem 0 = .ok (.iload_n 1, 1) := by decide +kernel
theorem dX6_readsItem_1 : decode cX6_readsItem 1 = .ok (.bipush 116, 2) := by decide +kernel
theorem dX6_readsItem_3 : decode cX6_readsItem 3 = .ok (.if_icmp .ne 87, 3) := by decide +kernel
theorem dX6_readsItem_6 : decode cX6_readsItem 6 = .ok (.bipush 7, 2) := by decide +kernel
theorem dX6_readsItem_8 : decode cX6_readsItem 8 = .ok (.aload_n 0, 1) := by decide +kernel
theorem dX6_readsItem_9 : decode cX6_readsItem 9 = .ok (.getfield 13, 3) := by decide +kernel
theorem dX6_readsItem_12 : decode cX6_readsItem 12 = .ok (.iconst 5, 1) := by decide +kernel
theorem dX6_readsItem_13 : decode cX6_readsItem 13 = .ok (.iaload, 1) := by decide +kernel
theorem dX6_readsItem_14 : decode cX6_readsItem 14 = .ok (.iadd, 1) := by decide +kernel
theorem dX6_readsItem_15 : decode cX6_readsItem 15 = .ok (.istore_n 2, 1) := by decide +kernel
theorem dX6_readsItem_16 : decode cX6_readsItem 16 = .ok (.aload_n 0, 1) := by decide +kernel
theorem dX6_readsItem_17 : decode cX6_readsItem 17 = .ok (.getfield 16, 3) := by decide +kernel
theorem dX6_readsItem_20 : decode cX6_readsItem 20 = .ok (.iload_n 2, 1) := by decide +kernel
theorem dX6_readsItem_21 : decode cX6_readsItem 21 = .ok (.aload_n 0, 1) := by decide +kernel
theorem dX6_readsItem_22 : decode cX6_readsItem 22 = .ok (.iconst 0, 1) := by decide +kernel
theorem dX6_readsItem_23 : decode cX6_readsItem 23 = .ok (.bipush 31, 2) := by decide +kernel
theorem dX6_readsItem_25 : decode cX6_readsItem 25 = .ok (.invokevirtual 100, 3) := by decide +kernel
theorem dX6_readsItem_28 : decode cX6_readsItem 28 = .ok (.iastore, 1) := by decide +kernel
theorem dX6_readsItem_29 : decode cX6_readsItem 29 = .ok (.aload_n 0, 1) := by decide +kernel
theorem dX6_readsItem_30 : decode cX6_readsItem 30 = .ok (.getfield 19, 3) := by decide +kernel
theorem dX6_readsItem_33 : decode cX6_readsItem 33 = .ok (.iload_n 2, 1) := by decide +kernel
theorem dX6_readsItem_34 : decode cX6_readsItem 34 = .ok (.aload_n 0, 1) := by decide +kernel
theorem dX6_readsItem_35 : decode cX6_readsItem 35 = .ok (.iconst 0, 1) := by decide +kernel
theorem dX6_readsItem_36 : decode cX6_readsItem 36 = .ok (.bipush 99, 2) := by decide +kernel
theorem dX6_readsItem_38 : decode cX6_readsItem 38 = .ok (.invokevirtual 100, 3) := by decide +kernel
theorem dX6_readsItem_41 : decode cX6_readsItem 41 = .ok (.iastore, 1) := by decide +kernel
theorem dX6_readsItem_42 : decode cX6_readsItem 42 = .ok (.aload_n 0, 1) := by decide +kernel
theorem dX6_readsItem_43 : decode cX6_readsItem 43 = .ok (.getfield 22, 3) := by decide +kernel
theorem dX6_readsItem_46 : decode cX6_readsItem 46 = .ok (.iload_n 2, 1) := by decide +kernel
theorem dX6_readsItem_47 : decode cX6_readsItem 47 = .ok (.aload_n 0, 1) := by decide +kernel
theorem dX6_readsItem_48 : decode cX6_readsItem 48 = .ok (.iconst 0, 1) := by decide +kernel
theorem dX6_readsItem_49 : decode cX6_readsItem 49 = .ok (.bipush 9, 2) := by decide +kernel
theorem dX6_readsItem_51 : decode cX6_readsItem 51 = .ok (.invokevirtual 100, 3) := by decide +kernel
theorem dX6_readsItem_54 : decode cX6_readsItem 54 = .ok (.iastore, 1) := by decide +kernel
theorem dX6_readsItem_55 : decode cX6_readsItem 55 = .ok (.aload_n 0, 1) := by decide +kernel
theorem dX6_readsItem_56 : decode cX6_readsItem 56 = .ok (.dup, 1) := by decide +kernel
theorem dX6_readsItem_57 : decode cX6_readsItem 57 = .ok (.getfield 97, 3) := by decide +kernel
theorem dX6_readsItem_60 : decode cX6_readsItem 60 = .ok (.aload_n 0, 1) := by decide +kernel
theorem dX6_readsItem_61 : decode cX6_readsItem 61 = .ok (.iconst 0, 1) := by decide +kernel
theorem dX6_readsItem_62 : decode cX6_readsItem 62 = .ok (.iconst 1, 1) := by decide +kernel
theorem dX6_readsItem_63 : decode cX6_readsItem 63 = .ok (.invokevirtual 100, 3) := by decide +kernel
theorem dX6_readsItem_66 : decode cX6_readsItem 66 = .ok (.aload_n 0, 1) := by decide +kernel
theorem dX6_readsItem_67 : decode cX6_readsItem 67 = .ok (.getfield 13, 3) := by decide +kernel
theorem dX6_readsItem_70 : decode cX6_readsItem 70 = .ok (.iconst 5, 1) := by decide +kernel
theorem dX6_readsItem_71 : decode cX6_readsItem 71 = .ok (.iaload, 1) := by decide +kernel
theorem dX6_readsItem_72 : decode cX6_readsItem 72 = .ok (.ishl, 1) := by decide +kernel
theorem dX6_readsItem_73 : decode cX6_readsItem 73 = .ok (.ior, 1) := by decide +kernel
theorem dX6_readsItem_74 : decode cX6_readsItem 74 = .ok (.putfield 97, 3) := by decide +kernel
theorem dX6_readsItem_77 : decode cX6_readsItem 77 = .ok (.aload_n 0, 1) := by decide +kernel
theorem dX6_readsItem_78 : decode cX6_readsItem 78 = .ok (.getfield 13, 3) := by decide +kernel
theorem dX6_readsItem_81 : decode cX6_readsItem 81 = .ok (.iconst 5, 1) := by decide +kernel
theorem dX6_readsItem_82 : decode cX6_readsItem 82 = .ok (.dup2, 1) := by decide +kernel
theorem dX6_readsItem_83 : decode cX6_readsItem 83 = .ok (.iaload, 1) := by decide +kernel
theorem dX6_readsItem_84 : decode cX6_readsItem 84 = .ok (.iconst 1, 1) := by decide +kernel
theorem dX6_readsItem_85 : decode cX6_readsItem 85 = .ok (.iadd, 1) := by decide +kernel
theorem dX6_readsItem_86 : decode cX6_readsItem 86 = .ok (.iastore, 1) := by decide +kernel
theorem dX6_readsItem_87 : decode cX6_readsItem 87 = .ok (.goto 97, 3) := by decide +kernel
theorem dX6_readsItem_90 : decode cX6_readsItem 90 = .ok (.iload_n 1, 1) := by decide +kernel
theorem dX6_readsItem_91 : decode cX6_readsItem 91 = .ok (.bipush 118, 2) := by decide +kernel
theorem dX6_readsItem_93 : decode cX6_readsItem 93 = .ok (.if_icmp .ne 30, 3) := by decide +kernel
theorem dX6_readsItem_96 : decode cX6_readsItem 96 = .ok (.aload_n 0, 1) := by decide +kernel
theorem dX6_readsItem_97 : decode cX6_readsItem 97 = .ok (.getfield 13, 3) := by decide +kernel
theorem dX6_readsItem_100 : decode cX6_readsItem 100 = .ok (.bipush 9, 2) := by decide +kernel
theorem dX6_readsItem_102 : decode cX6_readsItem 102 = .ok (.aload_n 0, 1) := by decide +kernel
theorem dX6_readsItem_103 : decode cX6_readsItem 103 = .ok (.iconst 0, 1) := by decide +kernel
theorem dX6_readsItem_104 : decode cX6_readsItem 104 = .ok (.bipush 31, 2) := by decide +kernel
theorem dX6_readsItem_106 : decode cX6_readsItem 106 = .ok (.invokevirtual 100, 3) := by decide +kernel
theorem dX6_readsItem_109 : decode cX6_readsItem 109 = .ok (.iastore, 1) := by decide +kernel
theorem dX6_readsItem_110 : decode cX6_readsItem 110 = .ok (.aload_n 0, 1) := by decide +kernel
theorem dX6_readsItem_111 : decode cX6_readsItem 111 = .ok (.dup, 1) := by decide +kernel
theorem dX6_readsItem_112 : decode cX6_readsItem 112 = .ok (.getfield 94, 3) := by decide +kernel
theorem dX6_readsItem_115 : decode cX6_readsItem 115 = .ok (.iconst 1, 1) := by decide +kernel
theorem dX6_readsItem_116 : decode cX6_readsItem 116 = .ok (.ior, 1) := by decide +kernel
theorem dX6_readsItem_117 : decode cX6_readsItem 117 = .ok (.putfield 94, 3) := by decide +kernel
theorem dX6_readsItem_120 : decode cX6_readsItem 120 = .ok (.goto 64, 3) := by decide +kernel
theorem dX6_readsItem_123 : decode cX6_readsItem 123 = .ok (.aload_n 0, 1) := by decide +kernel
theorem dX6_readsItem_124 : decode cX6_readsItem 124 = .ok (.getfield 13, 3) := by decide +kernel
theorem dX6_readsItem_127 : decode cX6_readsItem 127 = .ok (.bipush 6, 2) := by decide +kernel
theorem dX6_readsItem_129 : decode cX6_readsItem 129 = .ok (.aload_n 0, 1) := by decide +kernel
theorem dX6_readsItem_130 : decode cX6_readsItem 130 = .ok (.iconst 0, 1) := by decide +kernel
theorem dX6_readsItem_131 : decode cX6_readsItem 131 = .ok (.bipush 10, 2) := by decide +kernel
theorem dX6_readsItem_133 : decode cX6_readsItem 133 = .ok (.invokevirtual 100, 3) := by decide +kernel
theorem dX6_readsItem_136 : decode cX6_readsItem 136 = .ok (.iastore, 1) := by decide +kernel
theorem dX6_readsItem_137 : decode cX6_readsItem 137 = .ok (.aload_n 0, 1) := by decide +kernel
theorem dX6_readsItem_138 : decode cX6_readsItem 138 = .ok (.getfield 13, 3) := by decide +kernel
theorem dX6_readsItem_141 : decode cX6_readsItem 141 = .ok (.bipush 7, 2) := by decide +kernel
theorem dX6_readsItem_143 : decode cX6_readsItem 143 = .ok (.aload_n 0, 1) := by decide +kernel
theorem dX6_readsItem_144 : decode cX6_readsItem 144 = .ok (.iconst 0, 1) := by decide +kernel
theorem dX6_readsItem_145 : decode cX6_readsItem 145 = .ok (.bipush 10, 2) := by decide +kernel
theorem dX6_readsItem_147 : decode cX6_readsItem 147 = .ok (.aload_n 0, 1) := by decide +kernel
theorem dX6_readsItem_148 : decode cX6_readsItem 148 = .ok (.getfield 13, 3) := by decide +kernel
theorem dX6_readsItem_151 : decode cX6_readsItem 151 = .ok (.bipush 6, 2) := by decide +kernel
theorem dX6_readsItem_153 : decode cX6_readsItem 153 = .ok (.iaload, 1) := by decide +kernel
theorem dX6_readsItem_154 : decode cX6_readsItem 154 = .ok (.isub, 1) := by decide +kernel
theorem dX6_readsItem_155 : decode cX6_readsItem 155 = .ok (.invokevirtual 100, 3) := by decide +kernel
theorem dX6_readsItem_158 : decode cX6_readsItem 158 = .ok (.iastore, 1) := by decide +kernel
theorem dX6_readsItem_159 : decode cX6_readsItem 159 = .ok (.aload_n 0, 1) := by decide +kernel
theorem dX6_readsItem_160 : decode cX6_readsItem 160 = .ok (.getfield 13, 3) := by decide +kernel
theorem dX6_readsItem_163 : decode cX6_readsItem 163 = .ok (.bipush 8, 2) := by decide +kernel
theorem dX6_readsItem_165 : decode cX6_readsItem 165 = .ok (.aload_n 0, 1) := by decide +kernel
theorem dX6_readsItem_166 : decode cX6_readsItem 166 = .ok (.iconst 0, 1) := by decide +kernel
theorem dX6_readsItem_167 : decode cX6_readsItem 167 = .ok (.sipush 999, 3) := by decide +kernel
theorem dX6_readsItem_170 : decode cX6_readsItem 170 = .ok (.invokevirtual 100, 3) := by decide +kernel
theorem dX6_readsItem_173 : decode cX6_readsItem 173 = .ok (.iastore, 1) := by decide +kernel
theorem dX6_readsItem_174 : decode cX6_readsItem 174 = .ok (.aload_n 0, 1) := by decide +kernel
theorem dX6_readsItem_175 : decode cX6_readsItem 175 = .ok (.dup, 1) := by decide +kernel
theorem dX6_readsItem_176 : decode cX6_readsItem 176 = .ok (.getfield 94, 3) := by decide +kernel
theorem dX6_readsItem_179 : decode cX6_readsItem 179 = .ok (.iconst 2, 1) := by decide +kernel
theorem dX6_readsItem_180 : decode cX6_readsItem 180 = .ok (.ior, 1) := by decide +kernel
theorem dX6_readsItem_181 : decode cX6_readsItem 181 = .ok (.putfield 94, 3) := by decide +kernel
theorem dX6_readsItem_184 : decode cX6_readsItem 184 = .ok (.return_, 1) := by decide +kernel
set_option maxRecDepth 20000 in
theorem ggX6_house_X6_begins : GoodIn wsX6_house wsX6_begins := goodIn_r _ [12, 7, 13, 6, 55, 56, 57, 58, 59, 60, 61, 62, 63, 64, 65, 66, 67, 68, 69, 70, 71, 72, 73, 74, 75, 76, 77, 78, 79, 80] (by decide +kernel) (by decide +kernel)
set_option maxRecDepth 20000 in
theorem gX6_house_X6_begins : GoodIn wsX6_house (wsV RX6 47 RX6 yX6_begins wsX6_begins) := goodIn_app (goodIn_of _ (by decide +kernel)) ggX6_house_X6_begins
set_option maxRecDepth 20000 in
theorem ggX6_house_X6_advances : GoodIn wsX6_house wsX6_advances := goodIn_r _ [17, 3, 18, 4, 5, 19, 20, 21, 11, 22, 23, 24, 25, 26, 27, 55, 56, 57, 58, 59, 60, 61, 62, 63, 64, 65, 66, 67, 68, 69, 70, 71, 72, 73, 74, 75, 76, 77, 78, 79, 80] (by decide +kernel) (by decide +kernel)
set_option maxRecDepth 20000 in
theorem gX6_house_X6_advances : GoodIn wsX6_house (wsV RX6 87 RX6 yX6_advances wsX6_advances) := goodIn_app (goodIn_of _ (by decide +kernel)) ggX6_house_X6_advances
set_option maxRecDepth 20000 in
theorem ggX6_house_X6_isWell : GoodIn wsX6_house wsX6_isWell := goodIn_r _ [31, 2, 55, 56, 57, 58, 59, 60, 61, 62, 63, 64, 65, 66, 67, 68, 69, 70, 71, 72, 73, 74, 75, 76, 77, 78, 79, 80] (by decide +kernel) (by decide +kernel)
set_option maxRecDepth 20000 in
theorem gX6_house_X6_isWell : GoodIn wsX6_house (wsV RX6 83 RX6 yX6_isWell wsX6_isWell) := goodIn_app (goodIn_of _ (by decide +kernel)) ggX6_house_X6_isWell
set_option maxRecDepth 20000 in
theorem ggX6_house_X6_takes : GoodIn wsX6_house wsX6_takes := goodIn_r _ [35, 18, 2, 5, 28, 29, 30, 11, 31, 14, 15, 16, 17, 3, 4, 19, 20, 21, 22, 23, 24, 25, 26, 27, 55, 56, 57, 58, 59, 60, 61, 62, 63, 64, 65, 66, 67, 68, 69, 70, 71, 72, 73, 74, 75, 76, 77, 78, 79, 80] (by decide +kernel) (by decide +kernel)
set_option maxRecDepth 20000 in
theorem gX6_house_X6_takes : GoodIn wsX6_house (wsV RX6 90 RX6 yX6_takes wsX6_takes) := goodIn_app (goodIn_of _ (by decide +kernel)) ggX6_house_X6_takes
set_option maxRecDepth 20000 in
theorem ggX6_house_X6_readsItem : GoodIn wsX6_house wsX6_readsItem := goodIn_r _ [39, 6, 40, 41, 42, 13, 7, 43, 44, 45, 11, 46, 4, 5, 25, 26, 27, 32, 33, 34, 35, 18, 2, 28, 29, 30, 31, 14, 15, 16, 17, 3, 19, 20, 21, 22, 23, 24, 55, 56, 57, 58, 59, 60, 61, 62, 63, 64, 65, 66, 67, 68, 69, 70, 71, 72, 73, 74, 75, 76, 77, 78, 79, 80] (by decide +kernel) (by decide +kernel)
set_option maxRecDepth 20000 in
theorem gX6_house_X6_readsItem : GoodIn wsX6_house (wsV RX6 104 RX6 yX6_readsItem wsX6_readsItem) := goodIn_app (goodIn_of _ (by decide +kernel)) ggX6_house_X6_readsItem
set_option maxRecDepth 20000 in
theorem ggX6_house_X6_settles : GoodIn wsX6_house wsX6_settles := goodIn_r _ [50, 6, 51, 40, 41, 42, 13, 23, 52, 53, 54, 55, 56, 57, 58, 59, 60, 61, 62, 63, 64, 65, 66, 67, 68, 69, 70, 71, 72, 73, 74, 75, 76, 77, 78, 79, 80] (by decide +kernel) (by decide +kernel)
set_option maxRecDepth 20000 in
theorem gX6_house_X6_settles : GoodIn wsX6_house (wsV RX6 50 RX6 yX6_settles wsX6_settles) := goodIn_app (goodIn_of _ (by decide +kernel)) ggX6_house_X6_settles
theorem dX6_house_0 : decode cX6_house 0 = .ok (.aload_n 0, 1) := by decide +kernel
theorem dX6_house_1 : decode cX6_house 1 = .ok (.iconst 0, 1) := by decide +kernel
theorem dX6_house_2 : decode cX6_house 2 = .ok (.putfield 53, 3) := by decide +kernel
theorem dX6_house_5 : decode cX6_house 5 = .ok (.aload_n 0, 1) := by decide +kernel
theorem dX6_house_6 : decode cX6_house 6 = .ok (.iconst (-1), 1) := by decide +kernel
theorem dX6_house_7 : decode cX6_house 7 = .ok (.putfield 80, 3) := by decide +kernel
theorem dX6_house_10 : decode cX6_house 10 = .ok (.aload_n 0, 1) := by decide +kernel
theorem dX6_house_11 : decode cX6_house 11 = .ok (.iconst 0, 1) := by decide +kernel
theorem dX6_house_12 : decode cX6_house 12 = .ok (.putfield 64, 3) := by decide +kernel
theorem dX6_house_15 : decode cX6_house 15 = .ok (.aload_n 0, 1) := by decide +kernel
theorem dX6_house_16 : decode cX6_house 16 = .ok (.invokevirtual 47, 3) := by decide +kernel
theorem dX6_house_19 : decode cX6_house 19 = .ok (.iconst 0, 1) := by decide +kernel
theorem dX6_house_20 : decode cX6_house 20 = .ok (.istore_n 1, 1) := by decide +kernel
theorem dX6_house_21 : decode cX6_house 21 = .ok (.aload_n 0, 1) := by decide +kernel
theorem dX6_house_22 : decode cX6_house 22 = .ok (.invokevirtual 87, 3) := by decide +kernel
theorem dX6_house_25 : decode cX6_house 25 = .ok (.aload_n 0, 1) := by decide +kernel
theorem dX6_house_26 : decode cX6_house 26 = .ok (.invokevirtual 83, 3) := by decide +kernel
theorem dX6_house_29 : decode cX6_house 29 = .ok (.ifCond .eq 109, 3) := by decide +kernel
theorem dX6_house_32 : decode cX6_house 32 = .ok (.aload_n 0, 1) := by decide +kernel
theorem dX6_house_33 : decode cX6_house 33 = .ok (.getfield 74, 3) := by decide +kernel
theorem dX6_house_36 : decode cX6_house 36 = .ok (.ifCond .eq 102, 3) := by decide +kernel
theorem dX6_house_39 : decode cX6_house 39 = .ok (.aload_n 0, 1) := by decide +kernel
theorem dX6_house_40 : decode cX6_house 40 = .ok (.aload_n 0, 1) := by decide +kernel
theorem dX6_house_41 : decode cX6_house 41 = .ok (.getfield 74, 3) := by decide +kernel
theorem dX6_house_44 : decode cX6_house 44 = .ok (.iconst 1, 1) := by decide +kernel
theorem dX6_house_45 : decode cX6_house 45 = .ok (.if_icmp .ne 52, 3) := by decide +kernel
theorem dX6_house_48 : decode cX6_house 48 = .ok (.aload_n 0, 1) := by decide +kernel
theorem dX6_house_49 : decode cX6_house 49 = .ok (.getfield 77, 3) := by decide +kernel
theorem dX6_house_52 : decode cX6_house 52 = .ok (.bipush 116, 2) := by decide +kernel
theorem dX6_house_54 : decode cX6_house 54 = .ok (.if_icmp .ne 17, 3) := by decide +kernel
theorem dX6_house_57 : decode cX6_house 57 = .ok (.aload_n 0, 1) := by decide +kernel
theorem dX6_house_58 : decode cX6_house 58 = .ok (.getfield 13, 3) := by decide +kernel
theorem dX6_house_61 : decode cX6_house 61 = .ok (.iconst 5, 1) := by decide +kernel
theorem dX6_house_62 : decode cX6_house 62 = .ok (.iaload, 1) := by decide +kernel
theorem dX6_house_63 : decode cX6_house 63 = .ok (.bipush 7, 2) := by decide +kernel
theorem dX6_house_65 : decode cX6_house 65 = .ok (.if_icmp .ge 32, 3) := by decide +kernel
theorem dX6_house_68 : decode cX6_house 68 = .ok (.goto 25, 3) := by decide +kernel
theorem dX6_house_71 : decode cX6_house 71 = .ok (.aload_n 0, 1) := by decide +kernel
theorem dX6_house_72 : decode cX6_house 72 = .ok (.getfield 94, 3) := by decide +kernel
theorem dX6_house_75 : decode cX6_house 75 = .ok (.aload_n 0, 1) := by decide +kernel
theorem dX6_house_76 : decode cX6_house 76 = .ok (.getfield 77, 3) := by decide +kernel
theorem dX6_house_79 : decode cX6_house 79 = .ok (.bipush 118, 2) := by decide +kernel
theorem dX6_house_81 : decode cX6_house 81 = .ok (.if_icmp .ne 7, 3) := by decide +kernel
theorem dX6_house_84 : decode cX6_house 84 = .ok (.iconst 1, 1) := by decide +kernel
theorem dX6_house_85 : decode cX6_house 85 = .ok (.goto 4, 3) := by decide +kernel
theorem dX6_house_88 : decode cX6_house 88 = .ok (.iconst 2, 1) := by decide +kernel
theorem dX6_house_89 : decode cX6_house 89 = .ok (.iand, 1) := by decide +kernel
theorem dX6_house_90 : decode cX6_house 90 = .ok (.ifCond .ne 7, 3) := by decide +kernel
theorem dX6_house_93 : decode cX6_house 93 = .ok (.iconst 1, 1) := by decide +kernel
theorem dX6_house_94 : decode cX6_house 94 = .ok (.goto 4, 3) := by decide +kernel
theorem dX6_house_97 : decode cX6_house 97 = .ok (.iconst 0, 1) := by decide +kernel
theorem dX6_house_98 : decode cX6_house 98 = .ok (.invokevirtual 90, 3) := by decide +kernel
theorem dX6_house_101 : decode cX6_house 101 = .ok (.istore_n 2, 1) := by decide +kernel
theorem dX6_house_102 : decode cX6_house 102 = .ok (.aload_n 0, 1) := by decide +kernel
theorem dX6_house_103 : decode cX6_house 103 = .ok (.invokevirtual 83, 3) := by decide +kernel
theorem dX6_house_106 : decode cX6_house 106 = .ok (.ifCond .eq 8, 3) := by decide +kernel
theorem dX6_house_109 : decode cX6_house 109 = .ok (.aload_n 0, 1) := by decide +kernel
theorem dX6_house_110 : decode cX6_house 110 = .ok (.iload_n 2, 1) := by decide +kernel
theorem dX6_house_111 : decode cX6_house 111 = .ok (.invokevirtual 104, 3) := by decide +kernel
theorem dX6_house_114 : decode cX6_house 114 = .ok (.aload_n 0, 1) := by decide +kernel
theorem dX6_house_115 : decode cX6_house 115 = .ok (.aload_n 0, 1) := by decide +kernel
theorem dX6_house_116 : decode cX6_house 116 = .ok (.getfield 74, 3) := by decide +kernel
theorem dX6_house_119 : decode cX6_house 119 = .ok (.iconst 3, 1) := by decide +kernel
theorem dX6_house_120 : decode cX6_house 120 = .ok (.if_icmp .ne 7, 3) := by decide +kernel
theorem dX6_house_123 : decode cX6_house 123 = .ok (.iconst 1, 1) := by decide +kernel
theorem dX6_house_124 : decode cX6_house 124 = .ok (.goto 4, 3) := by decide +kernel
theorem dX6_house_127 : decode cX6_house 127 = .ok (.iconst 0, 1) := by decide +kernel
theorem dX6_house_128 : decode cX6_house 128 = .ok (.invokevirtual 90, 3) := by decide +kernel
theorem dX6_house_131 : decode cX6_house 131 = .ok (.pop, 1) := by decide +kernel
theorem dX6_house_132 : decode cX6_house 132 = .ok (.iinc 1 1, 3) := by decide +kernel
theorem dX6_house_135 : decode cX6_house 135 = .ok (.goto (-110), 3) := by decide +kernel
theorem dX6_house_138 : decode cX6_house 138 = .ok (.aload_n 0, 1) := by decide +kernel
theorem dX6_house_139 : decode cX6_house 139 = .ok (.invokevirtual 83, 3) := by decide +kernel
theorem dX6_house_142 : decode cX6_house 142 = .ok (.ifCond .ne 11, 3) := by decide +kernel
theorem dX6_house_145 : decode cX6_house 145 = .ok (.bipush (-10), 2) := by decide +kernel
theorem dX6_house_147 : decode cX6_house 147 = .ok (.aload_n 0, 1) := by decide +kernel
theorem dX6_house_148 : decode cX6_house 148 = .ok (.getfield 80, 3) := by decide +kernel
theorem dX6_house_151 : decode cX6_house 151 = .ok (.isub, 1) := by decide +kernel
theorem dX6_house_152 : decode cX6_house 152 = .ok (.ireturn, 1) := by decide +kernel
theorem dX6_house_153 : decode cX6_house 153 = .ok (.aload_n 0, 1) := by decide +kernel
theorem dX6_house_154 : decode cX6_house 154 = .ok (.invokevirtual 50, 3) := by decide +kernel
theorem dX6_house_157 : decode cX6_house 157 = .ok (.iload_n 1, 1) := by decide +kernel
theorem dX6_house_158 : decode cX6_house 158 = .ok (.ireturn, 1) := by decide +kernel
theorem dX6_settles_0 : decode cX6_settles 0 = .ok (.iconst 0, 1) := by decide +kernel
theorem dX6_settles_1 : decode cX6_settles 1 = .ok (.istore_n 1, 1) := by decide +kernel
theorem dX6_settles_2 : decode cX6_settles 2 = .ok (.iload_n 1, 1) := by decide +kernel
theorem dX6_settles_3 : decode cX6_settles 3 = .ok (.iconst 5, 1) := by decide +kernel
theorem dX6_settles_4 : decode cX6_settles 4 = .ok (.if_icmp .ge 30, 3) := by decide +kernel
theorem dX6_settles_7 : decode cX6_settles 7 = .ok (.aload_n 0, 1) := by decide +kernel
theorem dX6_settles_8 : decode cX6_settles 8 = .ok (.getfield 13, 3) := by decide +kernel
theorem dX6_settles_11 : decode cX6_settles 11 = .ok (.iload_n 1, 1) := by decide +kernel
theorem dX6_settles_12 : decode cX6_settles 12 = .ok (.aload_n 0, 1) := by decide +kernel
theorem dX6_settles_13 : decode cX6_settles 13 = .ok (.getfield 13, 3) := by decide +kernel
theorem dX6_settles_16 : decode cX6_settles 16 = .ok (.iconst 5, 1) := by decide +kernel
theorem dX6_settles_17 : decode cX6_settles 17 = .ok (.iload_n 1, 1) := by decide +kernel
theorem dX6_settles_18 : decode cX6_settles 18 = .ok (.iadd, 1) := by decide +kernel
theorem dX6_settles_19 : decode cX6_settles 19 = .ok (.iaload, 1) := by decide +kernel
theorem dX6_settles_20 : decode cX6_settles 20 = .ok (.iastore, 1) := by decide +kernel
theorem dX6_settles_21 : decode cX6_settles 21 = .ok (.aload_n 0, 1) := by decide +kernel
theorem dX6_settles_22 : decode cX6_settles 22 = .ok (.getfield 25, 3) := by decide +kernel
theorem dX6_settles_25 : decode cX6_settles 25 = .ok (.iload_n 1, 1) := by decide +kernel
theorem dX6_settles_26 : decode cX6_settles 26 = .ok (.iconst 0, 1) := by decide +kernel
theorem dX6_settles_27 : decode cX6_settles 27 = .ok (.iastore, 1) := by decide +kernel
theorem dX6_settles_28 : decode cX6_settles 28 = .ok (.iinc 1 1, 3) := by decide +kernel
theorem dX6_settles_31 : decode cX6_settles 31 = .ok (.goto (-29), 3) := by decide +kernel
theorem dX6_settles_34 : decode cX6_settles 34 = .ok (.iconst 0, 1) := by decide +kernel
theorem dX6_settles_35 : decode cX6_settles 35 = .ok (.istore_n 1, 1) := by decide +kernel
theorem dX6_settles_36 : decode cX6_settles 36 = .ok (.iload_n 1, 1) := by decide +kernel
theorem dX6_settles_37 : decode cX6_settles 37 = .ok (.bipush 7, 2) := by decide +kernel
theorem dX6_settles_39 : decode cX6_settles 39 = .ok (.if_icmp .ge 54, 3) := by decide +kernel
theorem dX6_settles_42 : decode cX6_settles 42 = .ok (.aload_n 0, 1) := by decide +kernel
theorem dX6_settles_43 : decode cX6_settles 43 = .ok (.getfield 16, 3) := by decide +kernel
theorem dX6_settles_46 : decode cX6_settles 46 = .ok (.iload_n 1, 1) := by decide +kernel
theorem dX6_settles_47 : decode cX6_settles 47 = .ok (.aload_n 0, 1) := by decide +kernel
theorem dX6_settles_48 : decode cX6_settles 48 = .ok (.getfield 16, 3) := by decide +kernel
theorem dX6_settles_51 : decode cX6_settles 51 = .ok (.bipush 7, 2) := by decide +kernel
theorem dX6_settles_53 : decode cX6_settles 53 = .ok (.iload_n 1, 1) := by decide +kernel
theorem dX6_settles_54 : decode cX6_settles 54 = .ok (.iadd, 1) := by decide +kernel
theorem dX6_settles_55 : decode cX6_settles 55 = .ok (.iaload, 1) := by decide +kernel
theorem dX6_settles_56 : decode cX6_settles 56 = .ok (.iastore, 1) := by decide +kernel
theorem dX6_settles_57 : decode cX6_settles 57 = .ok (.aload_n 0, 1) := by decide +kernel
theorem dX6_settles_58 : decode cX6_settles 58 = .ok (.getfield 19, 3) := by decide +kernel
theorem dX6_settles_61 : decode cX6_settles 61 = .ok (.iload_n 1, 1) := by decide +kernel
theorem dX6_settles_62 : decode cX6_settles 62 = .ok (.aload_n 0, 1) := by decide +kernel
theorem dX6_settles_63 : decode cX6_settles 63 = .ok (.getfield 19, 3) := by decide +kernel
theorem dX6_settles_66 : decode cX6_settles 66 = .ok (.bipush 7, 2) := by decide +kernel
theorem dX6_settles_68 : decode cX6_settles 68 = .ok (.iload_n 1, 1) := by decide +kernel
theorem dX6_settles_69 : decode cX6_settles 69 = .ok (.iadd, 1) := by decide +kernel
theorem dX6_settles_70 : decode cX6_settles 70 = .ok (.iaload, 1) := by decide +kernel
theorem dX6_settles_71 : decode cX6_settles 71 = .ok (.iastore, 1) := by decide +kernel
theorem dX6_settles_72 : decode cX6_settles 72 = .ok (.aload_n 0, 1) := by decide +kernel
theorem dX6_settles_73 : decode cX6_settles 73 = .ok (.getfield 22, 3) := by decide +kernel
theorem dX6_settles_76 : decode cX6_settles 76 = .ok (.iload_n 1, 1) := by decide +kernel
theorem dX6_settles_77 : decode cX6_settles 77 = .ok (.aload_n 0, 1) := by decide +kernel
theorem dX6_settles_78 : decode cX6_settles 78 = .ok (.getfield 22, 3) := by decide +kernel
theorem dX6_settles_81 : decode cX6_settles 81 = .ok (.bipush 7, 2) := by decide +kernel
theorem dX6_settles_83 : decode cX6_settles 83 = .ok (.iload_n 1, 1) := by decide +kernel
theorem dX6_settles_84 : decode cX6_settles 84 = .ok (.iadd, 1) := by decide +kernel
theorem dX6_settles_85 : decode cX6_settles 85 = .ok (.iaload, 1) := by decide +kernel
theorem dX6_settles_86 : decode cX6_settles 86 = .ok (.iastore, 1) := by decide +kernel
theorem dX6_settles_87 : decode cX6_settles 87 = .ok (.iinc 1 1, 3) := by decide +kernel
theorem dX6_settles_90 : decode cX6_settles 90 = .ok (.goto (-54), 3) := by decide +kernel
theorem dX6_settles_93 : decode cX6_settles 93 = .ok (.aload_n 0, 1) := by decide +kernel
theorem dX6_settles_94 : decode cX6_settles 94 = .ok (.getfield 25, 3) := by decide +kernel
theorem dX6_settles_97 : decode cX6_settles 97 = .ok (.iconst 1, 1) := by decide +kernel
theorem dX6_settles_98 : decode cX6_settles 98 = .ok (.aload_n 0, 1) := by decide +kernel
theorem dX6_settles_99 : decode cX6_settles 99 = .ok (.getfield 13, 3) := by decide +kernel
theorem dX6_settles_102 : decode cX6_settles 102 = .ok (.iconst 4, 1) := by decide +kernel
theorem dX6_settles_103 : decode cX6_settles 103 = .ok (.iaload, 1) := by decide +kernel
theorem dX6_settles_104 : decode cX6_settles 104 = .ok (.iastore, 1) := by decide +kernel
theorem dX6_settles_105 : decode cX6_settles 105 = .ok (.aload_n 0, 1) := by decide +kernel
theorem dX6_settles_106 : decode cX6_settles 106 = .ok (.getfield 25, 3) := by decide +kernel
theorem dX6_settles_109 : decode cX6_settles 109 = .ok (.iconst 2, 1) := by decide +kernel
theorem dX6_settles_110 : decode cX6_settles 110 = .ok (.aload_n 0, 1) := by decide +kernel
theorem dX6_settles_111 : decode cX6_settles 111 = .ok (.getfield 97, 3) := by decide +kernel
theorem dX6_settles_114 : decode cX6_settles 114 = .ok (.iastore, 1) := by decide +kernel
theorem dX6_settles_115 : decode cX6_settles 115 = .ok (.aload_n 0, 1) := by decide +kernel
theorem dX6_settles_116 : decode cX6_settles 116 = .ok (.iconst 0, 1) := by decide +kernel
theorem dX6_settles_117 : decode cX6_settles 117 = .ok (.putfield 61, 3) := by decide +kernel
theorem dX6_settles_120 : decode cX6_settles 120 = .ok (.aload_n 0, 1) := by decide +kernel
theorem dX6_settles_121 : decode cX6_settles 121 = .ok (.iconst 0, 1) := by decide +kernel
theorem dX6_settles_122 : decode cX6_settles 122 = .ok (.putfield 108, 3) := by decide +kernel
theorem dX6_settles_125 : decode cX6_settles 125 = .ok (.aload_n 0, 1) := by decide +kernel
theorem dX6_settles_126 : decode cX6_settles 126 = .ok (.iconst 0, 1) := by decide +kernel
theorem dX6_settles_127 : decode cX6_settles 127 = .ok (.putfield 111, 3) := by decide +kernel
theorem dX6_settles_130 : decode cX6_settles 130 = .ok (.aload_n 0, 1) := by decide +kernel
theorem dX6_settles_131 : decode cX6_settles 131 = .ok (.getfield 34, 3) := by decide +kernel
theorem dX6_settles_134 : decode cX6_settles 134 = .ok (.iconst 0, 1) := by decide +kernel
theorem dX6_settles_135 : decode cX6_settles 135 = .ok (.iconst 0, 1) := by decide +kernel
theorem dX6_settles_136 : decode cX6_settles 136 = .ok (.bastore, 1) := by decide +kernel
theorem dX6_settles_137 : decode cX6_settles 137 = .ok (.aload_n 0, 1) := by decide +kernel
theorem dX6_settles_138 : decode cX6_settles 138 = .ok (.getfield 34, 3) := by decide +kernel
theorem dX6_settles_141 : decode cX6_settles 141 = .ok (.iconst 1, 1) := by decide +kernel
theorem dX6_settles_142 : decode cX6_settles 142 = .ok (.iconst 0, 1) := by decide +kernel
theorem dX6_settles_143 : decode cX6_settles 143 = .ok (.bastore, 1) := by decide +kernel
theorem dX6_settles_144 : decode cX6_settles 144 = .ok (.return_, 1) := by decide +kernel
set_option maxRecDepth 20000 in
theorem ggX6_isThing_X6_in : GoodIn wsX6_isThing wsX6_in := goodIn_r _ [5] (by decide +kernel) (by decide +kernel)
set_option maxRecDepth 20000 in
theorem gX6_isThing_X6_in : GoodIn wsX6_isThing (va_wsS RX6 57 yX6_in wsX6_in) := goodIn_app (goodIn_of _ (by decide +kernel)) ggX6_isThing_X6_in
theorem dX6_isThing_0 : decode cX6_isThing 0 = .ok (.iload_n 1, 1) := by decide +kernel
theorem dX6_isThing_1 : decode cX6_isThing 1 = .ok (.iconst 0, 1) := by decide +kernel
theorem dX6_isThing_2 : decode cX6_isThing 2 = .ok (.aload_n 0, 1) := by decide +kernel
theorem dX6_isThing_3 : decode cX6_isThing 3 = .ok (.getfield 13, 3) := by decide +kernel
theorem dX6_isThing_6 : decode cX6_isThing 6 = .ok (.iconst 0, 1) := by decide +kernel
theorem dX6_isThing_7 : decode cX6_isThing 7 = .ok (.iaload, 1) := by decide +kernel
theorem dX6_isThing_8 : decode cX6_isThing 8 = .ok (.iconst 1, 1) := by decide +kernel
theorem dX6_isThing_9 : decode cX6_isThing 9 = .ok (.isub, 1) := by decide +kernel
theorem dX6_isThing_10 : decode cX6_isThing 10 = .ok (.invokestatic 57, 3) := by decide +kernel
theorem dX6_isThing_13 : decode cX6_isThing 13 = .ok (.ireturn, 1) := by decide +kernel
theorem dX6_everything_0 : decode cX6_everything 0 = .ok (.iconst 1, 1) := by decide +kernel
theorem dX6_everything_1 : decode cX6_everything 1 = .ok (.aload_n 0, 1) := by decide +kernel
theorem dX6_everything_2 : decode cX6_everything 2 = .ok (.getfield 13, 3) := by decide +kernel
theorem dX6_everything_5 : decode cX6_everything 5 = .ok (.iconst 0, 1) := by decide +kernel
theorem dX6_everything_6 : decode cX6_everything 6 = .ok (.iaload, 1) := by decide +kernel
theorem dX6_everything_7 : decode cX6_everything 7 = .ok (.ishl, 1) := by decide +kernel
theorem dX6_everything_8 : decode cX6_everything 8 = .ok (.iconst 1, 1) := by decide +kernel
theorem dX6_everything_9 : decode cX6_everything 9 = .ok (.isub, 1) := by decide +kernel
theorem dX6_everything_10 : decode cX6_everything 10 = .ok (.ireturn, 1) := by decide +kernel
theorem dX6_hasAll_0 : decode cX6_hasAll 0 = .ok (.aload_n 0, 1) := by decide +kernel
theorem dX6_hasAll_1 : decode cX6_hasAll 1 = .ok (.getfield 16, 3) := by decide +kernel
theorem dX6_hasAll_4 : decode cX6_hasAll 4 = .ok (.iload_n 1, 1) := by decide +kernel
theorem dX6_hasAll_5 : decode cX6_hasAll 5 = .ok (.iaload, 1) := by decide +kernel
theorem dX6_hasAll_6 : decode cX6_hasAll 6 = .ok (.iload_n 2, 1) := by decide +kernel
theorem dX6_hasAll_7 : decode cX6_hasAll 7 = .ok (.iand, 1) := by decide +kernel
theorem dX6_hasAll_8 : decode cX6_hasAll 8 = .ok (.iload_n 2, 1) := by decide +kernel
theorem dX6_hasAll_9 : decode cX6_hasAll 9 = .ok (.if_icmp .ne 7, 3) := by decide +kernel
theorem dX6_hasAll_12 : decode cX6_hasAll 12 = .ok (.iconst 1, 1) := by decide +kernel
theorem dX6_hasAll_13 : decode cX6_hasAll 13 = .ok (.goto 4, 3) := by decide +kernel
theorem dX6_hasAll_16 : decode cX6_hasAll 16 = .ok (.iconst 0, 1) := by decide +kernel
theorem dX6_hasAll_17 : decode cX6_hasAll 17 = .ok (.ireturn, 1) := by decide +kernel
set_option maxRecDepth 20000 in
theorem ggX6_covered_X6_hasAll : GoodIn wsX6_covered wsX6_hasAll := goodIn_r _ [6, 7, 8, 9, 10, 11, 12, 13, 14, 15, 16, 17, 18, 19, 20, 21, 22, 23, 24, 25, 26, 27, 28, 29, 30, 31, 32, 33] (by decide +kernel) (by decide +kernel)
set_option maxRecDepth 20000 in
theorem gX6_covered_X6_hasAll : GoodIn wsX6_covered (wsV RX6 114 RX6 yX6_hasAll wsX6_hasAll) := goodIn_app (goodIn_of _ (by decide +kernel)) ggX6_covered_X6_hasAll
theorem dX6_covered_0 : decode cX6_covered 0 = .ok (.iconst 0, 1) := by decide +kernel
theorem dX6_covered_1 : decode cX6_covered 1 = .ok (.istore_n 2, 1) := by decide +kernel
theorem dX6_covered_2 : decode cX6_covered 2 = .ok (.iconst 0, 1) := by decide +kernel
theorem dX6_covered_3 : decode cX6_covered 3 = .ok (.istore_n 3, 1) := by decide +kernel
theorem dX6_covered_4 : decode cX6_covered 4 = .ok (.iload_n 3, 1) := by decide +kernel
theorem dX6_covered_5 : decode cX6_covered 5 = .ok (.aload_n 0, 1) := by decide +kernel
theorem dX6_covered_6 : decode cX6_covered 6 = .ok (.getfield 13, 3) := by decide +kernel
theorem dX6_covered_9 : decode cX6_covered 9 = .ok (.iconst 0, 1) := by decide +kernel
theorem dX6_covered_10 : decode cX6_covered 10 = .ok (.iaload, 1) := by decide +kernel
theorem dX6_covered_11 : decode cX6_covered 11 = .ok (.if_icmp .ge 30, 3) := by decide +kernel
theorem dX6_covered_14 : decode cX6_covered 14 = .ok (.iload_n 2, 1) := by decide +kernel
theorem dX6_covered_15 : decode cX6_covered 15 = .ok (.aload_n 0, 1) := by decide +kernel
theorem dX6_covered_16 : decode cX6_covered 16 = .ok (.iload_n 3, 1) := by decide +kernel
theorem dX6_covered_17 : decode cX6_covered 17 = .ok (.aload_n 1, 1) := by decide +kernel
theorem dX6_covered_18 : decode cX6_covered 18 = .ok (.iconst 1, 1) := by decide +kernel
theorem dX6_covered_19 : decode cX6_covered 19 = .ok (.iaload, 1) := by decide +kernel
theorem dX6_covered_20 : decode cX6_covered 20 = .ok (.invokevirtual 114, 3) := by decide +kernel
theorem dX6_covered_23 : decode cX6_covered 23 = .ok (.ifCond .eq 9, 3) := by decide +kernel
theorem dX6_covered_26 : decode cX6_covered 26 = .ok (.iconst 1, 1) := by decide +kernel
theorem dX6_covered_27 : decode cX6_covered 27 = .ok (.iload_n 3, 1) := by decide +kernel
theorem dX6_covered_28 : decode cX6_covered 28 = .ok (.ishl, 1) := by decide +kernel
theorem dX6_covered_29 : decode cX6_covered 29 = .ok (.goto 4, 3) := by decide +kernel
theorem dX6_covered_32 : decode cX6_covered 32 = .ok (.iconst 0, 1) := by decide +kernel
theorem dX6_covered_33 : decode cX6_covered 33 = .ok (.ior, 1) := by decide +kernel
theorem dX6_covered_34 : decode cX6_covered 34 = .ok (.istore_n 2, 1) := by decide +kernel
theorem dX6_covered_35 : decode cX6_covered 35 = .ok (.iinc 3 1, 3) := by decide +kernel
theorem dX6_covered_38 : decode cX6_covered 38 = .ok (.goto (-34), 3) := by decide +kernel
theorem dX6_covered_41 : decode cX6_covered 41 = .ok (.iload_n 2, 1) := by decide +kernel
theorem dX6_covered_42 : decode cX6_covered 42 = .ok (.aload_n 1, 1) := by decide +kernel
theorem dX6_covered_43 : decode cX6_covered 43 = .ok (.iconst 4, 1) := by decide +kernel
theorem dX6_covered_44 : decode cX6_covered 44 = .ok (.iaload, 1) := by decide +kernel
theorem dX6_covered_45 : decode cX6_covered 45 = .ok (.iconst (-1), 1) := by decide +kernel
theorem dX6_covered_46 : decode cX6_covered 46 = .ok (.ixor, 1) := by decide +kernel
theorem dX6_covered_47 : decode cX6_covered 47 = .ok (.iand, 1) := by decide +kernel
theorem dX6_covered_48 : decode cX6_covered 48 = .ok (.ireturn, 1) := by decide +kernel
set_option maxRecDepth 20000 in
theorem ggX6_comers_X6_covered : GoodIn wsX6_comers wsX6_covered := goodIn_r _ [7, 1, 8, 9, 10, 6, 11, 12, 13, 14, 15, 16, 17, 18, 19, 20, 21, 22, 23, 24, 25, 26, 27, 28, 29, 30, 31, 32, 33, 34, 35, 36, 37, 38] (by decide +kernel) (by decide +kernel)
set_option maxRecDepth 20000 in
theorem gX6_comers_X6_covered : GoodIn wsX6_comers (wsV RX6 118 RX6 yX6_covered wsX6_covered) := goodIn_app (goodIn_of _ (by decide +kernel)) ggX6_comers_X6_covered
theorem dX6_comers_0 : decode cX6_comers 0 = .ok (.iconst 0, 1) := by decide +kernel
theorem dX6_comers_1 : decode cX6_comers 1 = .ok (.istore_n 2, 1) := by decide +kernel
theorem dX6_comers_2 : decode cX6_comers 2 = .ok (.iconst 0, 1) := by decide +kernel
theorem dX6_comers_3 : decode cX6_comers 3 = .ok (.istore_n 3, 1) := by decide +kernel
theorem dX6_comers_4 : decode cX6_comers 4 = .ok (.iload_n 3, 1) := by decide +kernel
theorem dX6_comers_5 : decode cX6_comers 5 = .ok (.aload_n 0, 1) := by decide +kernel
theorem dX6_comers_6 : decode cX6_comers 6 = .ok (.getfield 13, 3) := by decide +kernel
theorem dX6_comers_9 : decode cX6_comers 9 = .ok (.iconst 0, 1) := by decide +kernel
theorem dX6_comers_10 : decode cX6_comers 10 = .ok (.iaload, 1) := by decide +kernel
theorem dX6_comers_11 : decode cX6_comers 11 = .ok (.if_icmp .ge 28, 3) := by decide +kernel
theorem dX6_comers_14 : decode cX6_comers 14 = .ok (.iload_n 2, 1) := by decide +kernel
theorem dX6_comers_15 : decode cX6_comers 15 = .ok (.aload_n 0, 1) := by decide +kernel
theorem dX6_comers_16 : decode cX6_comers 16 = .ok (.getfield 22, 3) := by decide +kernel
theorem dX6_comers_19 : decode cX6_comers 19 = .ok (.iload_n 3, 1) := by decide +kernel
theorem dX6_comers_20 : decode cX6_comers 20 = .ok (.iaload, 1) := by decide +kernel
theorem dX6_comers_21 : decode cX6_comers 21 = .ok (.ifCond .le 9, 3) := by decide +kernel
theorem dX6_comers_24 : decode cX6_comers 24 = .ok (.iconst 1, 1) := by decide +kernel
theorem dX6_comers_25 : decode cX6_comers 25 = .ok (.iload_n 3, 1) := by decide +kernel
theorem dX6_comers_26 : decode cX6_comers 26 = .ok (.ishl, 1) := by decide +kernel
theorem dX6_comers_27 : decode cX6_comers 27 = .ok (.goto 4, 3) := by decide +kernel
theorem dX6_comers_30 : decode cX6_comers 30 = .ok (.iconst 0, 1) := by decide +kernel
theorem dX6_comers_31 : decode cX6_comers 31 = .ok (.ior, 1) := by decide +kernel
theorem dX6_comers_32 : decode cX6_comers 32 = .ok (.istore_n 2, 1) := by decide +kernel
theorem dX6_comers_33 : decode cX6_comers 33 = .ok (.iinc 3 1, 3) := by decide +kernel
theorem dX6_comers_36 : decode cX6_comers 36 = .ok (.goto (-32), 3) := by decide +kernel
theorem dX6_comers_39 : decode cX6_comers 39 = .ok (.iload_n 2, 1) := by decide +kernel
theorem dX6_comers_40 : decode cX6_comers 40 = .ok (.aload_n 1, 1) := by decide +kernel
theorem dX6_comers_41 : decode cX6_comers 41 = .ok (.iconst 4, 1) := by decide +kernel
theorem dX6_comers_42 : decode cX6_comers 42 = .ok (.iaload, 1) := by decide +kernel
theorem dX6_comers_43 : decode cX6_comers 43 = .ok (.iconst (-1), 1) := by decide +kernel
theorem dX6_comers_44 : decode cX6_comers 44 = .ok (.ixor, 1) := by decide +kernel
theorem dX6_comers_45 : decode cX6_comers 45 = .ok (.iand, 1) := by decide +kernel
theorem dX6_comers_46 : decode cX6_comers 46 = .ok (.aload_n 1, 1) := by decide +kernel
theorem dX6_comers_47 : decode cX6_comers 47 = .ok (.iconst 3, 1) := by decide +kernel
theorem dX6_comers_48 : decode cX6_comers 48 = .ok (.iaload, 1) := by decide +kernel
theorem dX6_comers_49 : decode cX6_comers 49 = .ok (.iconst (-1), 1) := by decide +kernel
theorem dX6_comers_50 : decode cX6_comers 50 = .ok (.ixor, 1) := by decide +kernel
theorem dX6_comers_51 : decode cX6_comers 51 = .ok (.iand, 1) := by decide +kernel
theorem dX6_comers_52 : decode cX6_comers 52 = .ok (.aload_n 1, 1) := by decide +kernel
theorem dX6_comers_53 : decode cX6_comers 53 = .ok (.iconst 2, 1) := by decide +kernel
theorem dX6_comers_54 : decode cX6_comers 54 = .ok (.iaload, 1) := by decide +kernel
theorem dX6_comers_55 : decode cX6_comers 55 = .ok (.aload_n 0, 1) := by decide +kernel
theorem dX6_comers_56 : decode cX6_comers 56 = .ok (.aload_n 1, 1) := by decide +kernel
theorem dX6_comers_57 : decode cX6_comers 57 = .ok (.invokevirtual 118, 3) := by decide +kernel
theorem dX6_comers_60 : decode cX6_comers 60 = .ok (.iand, 1) := by decide +kernel
theorem dX6_comers_61 : decode cX6_comers 61 = .ok (.iconst (-1), 1) := by decide +kernel
theorem dX6_comers_62 : decode cX6_comers 62 = .ok (.ixor, 1) := by decide +kernel
theorem dX6_comers_63 : decode cX6_comers 63 = .ok (.iand, 1) := by decide +kernel
theorem dX6_comers_64 : decode cX6_comers 64 = .ok (.ireturn, 1) := by decide +kernel
theorem dX6_eagerOf_0 : decode cX6_eagerOf 0 = .ok (.iconst 0, 1) := by decide +kernel
theorem dX6_eagerOf_1 : decode cX6_eagerOf 1 = .ok (.istore_n 2, 1) := by decide +kernel
theorem dX6_eagerOf_2 : decode cX6_eagerOf 2 = .ok (.iconst 0, 1) := by decide +kernel
theorem dX6_eagerOf_3 : decode cX6_eagerOf 3 = .ok (.istore_n 3, 1) := by decide +kernel
theorem dX6_eagerOf_4 : decode cX6_eagerOf 4 = .ok (.iload_n 3, 1) := by decide +kernel
theorem dX6_eagerOf_5 : decode cX6_eagerOf 5 = .ok (.aload_n 0, 1) := by decide +kernel
theorem dX6_eagerOf_6 : decode cX6_eagerOf 6 = .ok (.getfield 13, 3) := by decide +kernel
theorem dX6_eagerOf_9 : decode cX6_eagerOf 9 = .ok (.iconst 0, 1) := by decide +kernel
theorem dX6_eagerOf_10 : decode cX6_eagerOf 10 = .ok (.iaload, 1) := by decide +kernel
theorem dX6_eagerOf_11 : decode cX6_eagerOf 11 = .ok (.if_icmp .ge 31, 3) := by decide +kernel
theorem dX6_eagerOf_14 : decode cX6_eagerOf 14 = .ok (.iload_n 2, 1) := by decide +kernel
theorem dX6_eagerOf_15 : decode cX6_eagerOf 15 = .ok (.iload_n 1, 1) := by decide +kernel
theorem dX6_eagerOf_16 : decode cX6_eagerOf 16 = .ok (.iload_n 3, 1) := by decide +kernel
theorem dX6_eagerOf_17 : decode cX6_eagerOf 17 = .ok (.ishr, 1) := by decide +kernel
theorem dX6_eagerOf_18 : decode cX6_eagerOf 18 = .ok (.iconst 1, 1) := by decide +kernel
theorem dX6_eagerOf_19 : decode cX6_eagerOf 19 = .ok (.iand, 1) := by decide +kernel
theorem dX6_eagerOf_20 : decode cX6_eagerOf 20 = .ok (.iconst 1, 1) := by decide +kernel
theorem dX6_eagerOf_21 : decode cX6_eagerOf 21 = .ok (.if_icmp .ne 12, 3) := by decide +kernel
