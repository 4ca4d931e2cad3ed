theorem dX6_eagerOf_24 : decode cX6_eagerOf 24 = .ok (.aload_n 0, 1) := by decide +kernel
theorem dX6_eagerOf_25 : decode cX6_eagerOf 25 = .ok (.getfield 22, 3) := by decide +kernel
theorem dX6_eagerOf_28 : decode cX6_eagerOf 28 = .ok (.iload_n 3, 1) := by decide +kernel
theorem dX6_eagerOf_29 : decode cX6_eagerOf 29 = .ok (.iaload, 1) := by decide +kernel
theorem dX6_eagerOf_30 : decode cX6_eagerOf 30 = .ok (.goto 4, 3) := by decide +kernel
theorem dX6_eagerOf_33 : decode cX6_eagerOf 33 = .ok (.iconst 0, 1) := by decide +kernel
theorem dX6_eagerOf_34 : decode cX6_eagerOf 34 = .ok (.iadd, 1) := by decide +kernel
theorem dX6_eagerOf_35 : decode cX6_eagerOf 35 = .ok (.istore_n 2, 1) := by decide +kernel
theorem dX6_eagerOf_36 : decode cX6_eagerOf 36 = .ok (.iinc 3 1, 3) := by decide +kernel
theorem dX6_eagerOf_39 : decode cX6_eagerOf 39 = .ok (.goto (-35), 3) := by decide +kernel
theorem dX6_eagerOf_42 : decode cX6_eagerOf 42 = .ok (.iload_n 2, 1) := by decide +kernel
theorem dX6_eagerOf_43 : decode cX6_eagerOf 43 = .ok (.ireturn, 1) := by decide +kernel
theorem dX6_dearOf_0 : decode cX6_dearOf 0 = .ok (.iconst 0, 1) := by decide +kernel
theorem dX6_dearOf_1 : decode cX6_dearOf 1 = .ok (.istore_n 3, 1) := by decide +kernel
theorem dX6_dearOf_2 : decode cX6_dearOf 2 = .ok (.iconst 0, 1) := by decide +kernel
theorem dX6_dearOf_3 : decode cX6_dearOf 3 = .ok (.istore 4, 2) := by decide +kernel
theorem dX6_dearOf_5 : decode cX6_dearOf 5 = .ok (.iload 4, 2) := by decide +kernel
theorem dX6_dearOf_7 : decode cX6_dearOf 7 = .ok (.aload_n 0, 1) := by decide +kernel
theorem dX6_dearOf_8 : decode cX6_dearOf 8 = .ok (.getfield 13, 3) := by decide +kernel
theorem dX6_dearOf_11 : decode cX6_dearOf 11 = .ok (.iconst 0, 1) := by decide +kernel
theorem dX6_dearOf_12 : decode cX6_dearOf 12 = .ok (.iaload, 1) := by decide +kernel
theorem dX6_dearOf_13 : decode cX6_dearOf 13 = .ok (.if_icmp .ge 54, 3) := by decide +kernel
theorem dX6_dearOf_16 : decode cX6_dearOf 16 = .ok (.iload_n 3, 1) := by decide +kernel
theorem dX6_dearOf_17 : decode cX6_dearOf 17 = .ok (.iload_n 1, 1) := by decide +kernel
theorem dX6_dearOf_18 : decode cX6_dearOf 18 = .ok (.iload 4, 2) := by decide +kernel
theorem dX6_dearOf_20 : decode cX6_dearOf 20 = .ok (.ishr, 1) := by decide +kernel
theorem dX6_dearOf_21 : decode cX6_dearOf 21 = .ok (.iconst 1, 1) := by decide +kernel
theorem dX6_dearOf_22 : decode cX6_dearOf 22 = .ok (.iand, 1) := by decide +kernel
theorem dX6_dearOf_23 : decode cX6_dearOf 23 = .ok (.ifCond .ne 7, 3) := by decide +kernel
theorem dX6_dearOf_26 : decode cX6_dearOf 26 = .ok (.iconst 0, 1) := by decide +kernel
theorem dX6_dearOf_27 : decode cX6_dearOf 27 = .ok (.goto 32, 3) := by decide +kernel
theorem dX6_dearOf_30 : decode cX6_dearOf 30 = .ok (.iload_n 2, 1) := by decide +kernel
theorem dX6_dearOf_31 : decode cX6_dearOf 31 = .ok (.ifCond .eq 21, 3) := by decide +kernel
theorem dX6_dearOf_34 : decode cX6_dearOf 34 = .ok (.aload_n 0, 1) := by decide +kernel
theorem dX6_dearOf_35 : decode cX6_dearOf 35 = .ok (.getfield 19, 3) := by decide +kernel
theorem dX6_dearOf_38 : decode cX6_dearOf 38 = .ok (.iload 4, 2) := by decide +kernel
theorem dX6_dearOf_40 : decode cX6_dearOf 40 = .ok (.iaload, 1) := by decide +kernel
theorem dX6_dearOf_41 : decode cX6_dearOf 41 = .ok (.aload_n 0, 1) := by decide +kernel
theorem dX6_dearOf_42 : decode cX6_dearOf 42 = .ok (.getfield 22, 3) := by decide +kernel
theorem dX6_dearOf_45 : decode cX6_dearOf 45 = .ok (.iload 4, 2) := by decide +kernel
theorem dX6_dearOf_47 : decode cX6_dearOf 47 = .ok (.iaload, 1) := by decide +kernel
theorem dX6_dearOf_48 : decode cX6_dearOf 48 = .ok (.imul, 1) := by decide +kernel
theorem dX6_dearOf_49 : decode cX6_dearOf 49 = .ok (.goto 10, 3) := by decide +kernel
theorem dX6_dearOf_52 : decode cX6_dearOf 52 = .ok (.aload_n 0, 1) := by decide +kernel
theorem dX6_dearOf_53 : decode cX6_dearOf 53 = .ok (.getfield 19, 3) := by decide +kernel
theorem dX6_dearOf_56 : decode cX6_dearOf 56 = .ok (.iload 4, 2) := by decide +kernel
theorem dX6_dearOf_58 : decode cX6_dearOf 58 = .ok (.iaload, 1) := by decide +kernel
theorem dX6_dearOf_59 : decode cX6_dearOf 59 = .ok (.iadd, 1) := by decide +kernel
theorem dX6_dearOf_60 : decode cX6_dearOf 60 = .ok (.istore_n 3, 1) := by decide +kernel
theorem dX6_dearOf_61 : decode cX6_dearOf 61 = .ok (.iinc 4 1, 3) := by decide +kernel
theorem dX6_dearOf_64 : decode cX6_dearOf 64 = .ok (.goto (-59), 3) := by decide +kernel
theorem dX6_dearOf_67 : decode cX6_dearOf 67 = .ok (.iload_n 3, 1) := by decide +kernel
theorem dX6_dearOf_68 : decode cX6_dearOf 68 = .ok (.ireturn, 1) := by decide +kernel
set_option maxRecDepth 20000 in
theorem ggX6_harms_X6_comers : GoodIn wsX6_harms wsX6_comers := goodIn_r _ [7, 8, 9, 10, 11, 12, 6, 13, 14, 15, 16, 17, 18, 28, 29, 30, 31, 32, 33, 34, 35, 36, 37, 38, 39, 40, 41, 42, 43, 44, 45, 46, 47, 48, 49, 50, 51, 52, 53] (by decide +kernel) (by decide +kernel)
set_option maxRecDepth 20000 in
theorem gX6_harms_X6_comers : GoodIn wsX6_harms (wsV RX6 122 RX6 yX6_comers wsX6_comers) := goodIn_app (goodIn_of _ (by decide +kernel)) ggX6_harms_X6_comers
set_option maxRecDepth 20000 in
theorem ggX6_harms_X6_covered : GoodIn wsX6_harms wsX6_covered := goodIn_r _ [13, 8, 14, 15, 16, 6, 17, 18, 28, 29, 30, 31, 32, 33, 34, 35, 36, 37, 38, 39, 40, 41, 42, 43, 44, 45, 46, 47, 48, 49, 50, 51, 52, 53] (by decide +kernel) (by decide +kernel)
set_option maxRecDepth 20000 in
theorem gX6_harms_X6_covered : GoodIn wsX6_harms (wsV RX6 118 RX6 yX6_covered wsX6_covered) := goodIn_app (goodIn_of _ (by decide +kernel)) ggX6_harms_X6_covered
set_option maxRecDepth 20000 in
theorem ggX6_harms_X6_dearOf : GoodIn wsX6_harms wsX6_dearOf := goodIn_r _ [22, 8, 23, 9, 28, 29, 30, 31, 32, 33, 34, 35, 36, 37, 38, 39, 40, 41, 42, 43, 44, 45, 46, 47, 48, 49, 50, 51, 52, 53] (by decide +kernel) (by decide +kernel)
set_option maxRecDepth 20000 in
theorem gX6_harms_X6_dearOf : GoodIn wsX6_harms (wsV RX6 125 RX6 yX6_dearOf wsX6_dearOf) := goodIn_app (goodIn_of _ (by decide +kernel)) ggX6_harms_X6_dearOf
set_option maxRecDepth 20000 in
theorem ggX6_harms_X6_eagerOf : GoodIn wsX6_harms wsX6_eagerOf := goodIn_r _ [27, 8, 9, 28, 29, 30, 31, 32, 33, 34, 35, 36, 37, 38, 39, 40, 41, 42, 43, 44, 45, 46, 47, 48, 49, 50, 51, 52, 53] (by decide +kernel) (by decide +kernel)
set_option maxRecDepth 20000 in
theorem gX6_harms_X6_eagerOf : GoodIn wsX6_harms (wsV RX6 132 RX6 yX6_eagerOf wsX6_eagerOf) := goodIn_app (goodIn_of _ (by decide +kernel)) ggX6_harms_X6_eagerOf
theorem dX6_harms_0 : decode cX6_harms 0 = .ok (.aload_n 0, 1) := by decide +kernel
theorem dX6_harms_1 : decode cX6_harms 1 = .ok (.aload_n 0, 1) := by decide +kernel
theorem dX6_harms_2 : decode cX6_harms 2 = .ok (.aload_n 0, 1) := by decide +kernel
theorem dX6_harms_3 : decode cX6_harms 3 = .ok (.aload_n 1, 1) := by decide +kernel
theorem dX6_harms_4 : decode cX6_harms 4 = .ok (.invokevirtual 122, 3) := by decide +kernel
theorem dX6_harms_7 : decode cX6_harms 7 = .ok (.aload_n 0, 1) := by decide +kernel
theorem dX6_harms_8 : decode cX6_harms 8 = .ok (.aload_n 1, 1) := by decide +kernel
theorem dX6_harms_9 : decode cX6_harms 9 = .ok (.invokevirtual 118, 3) := by decide +kernel
theorem dX6_harms_12 : decode cX6_harms 12 = .ok (.iand, 1) := by decide +kernel
theorem dX6_harms_13 : decode cX6_harms 13 = .ok (.iconst 1, 1) := by decide +kernel
theorem dX6_harms_14 : decode cX6_harms 14 = .ok (.invokevirtual 125, 3) := by decide +kernel
theorem dX6_harms_17 : decode cX6_harms 17 = .ok (.putfield 129, 3) := by decide +kernel
theorem dX6_harms_20 : decode cX6_harms 20 = .ok (.aload_n 0, 1) := by decide +kernel
theorem dX6_harms_21 : decode cX6_harms 21 = .ok (.aload_n 0, 1) := by decide +kernel
theorem dX6_harms_22 : decode cX6_harms 22 = .ok (.aload_n 0, 1) := by decide +kernel
theorem dX6_harms_23 : decode cX6_harms 23 = .ok (.aload_n 1, 1) := by decide +kernel
theorem dX6_harms_24 : decode cX6_harms 24 = .ok (.invokevirtual 122, 3) := by decide +kernel
theorem dX6_harms_27 : decode cX6_harms 27 = .ok (.invokevirtual 132, 3) := by decide +kernel
theorem dX6_harms_30 : decode cX6_harms 30 = .ok (.putfield 135, 3) := by decide +kernel
theorem dX6_harms_33 : decode cX6_harms 33 = .ok (.aload_n 0, 1) := by decide +kernel
theorem dX6_harms_34 : decode cX6_harms 34 = .ok (.aload_n 0, 1) := by decide +kernel
theorem dX6_harms_35 : decode cX6_harms 35 = .ok (.getfield 135, 3) := by decide +kernel
theorem dX6_harms_38 : decode cX6_harms 38 = .ok (.ifCond .ne 7, 3) := by decide +kernel
theorem dX6_harms_41 : decode cX6_harms 41 = .ok (.iconst 1, 1) := by decide +kernel
theorem dX6_harms_42 : decode cX6_harms 42 = .ok (.goto 7, 3) := by decide +kernel
theorem dX6_harms_45 : decode cX6_harms 45 = .ok (.aload_n 0, 1) := by decide +kernel
theorem dX6_harms_46 : decode cX6_harms 46 = .ok (.getfield 135, 3) := by decide +kernel
theorem dX6_harms_49 : decode cX6_harms 49 = .ok (.putfield 135, 3) := by decide +kernel
theorem dX6_harms_52 : decode cX6_harms 52 = .ok (.return_, 1) := by decide +kernel
set_option maxRecDepth 20000 in
theorem ggX6_thing_X6_isThing : GoodIn wsX6_thing wsX6_isThing := goodIn_r _ [10, 11, 12, 13, 9, 14, 27, 28, 29, 30, 31, 32, 33, 34, 35, 36, 37, 38, 39, 40, 41, 42, 43, 44, 45, 46, 47, 48, 49, 50, 51, 52] (by decide +kernel) (by decide +kernel)
set_option maxRecDepth 20000 in
theorem gX6_thing_X6_isThing : GoodIn wsX6_thing (wsV RX6 138 RX6 yX6_isThing wsX6_isThing) := goodIn_app (goodIn_of _ (by decide +kernel)) ggX6_thing_X6_isThing
set_option maxRecDepth 20000 in
theorem ggX6_thing_X6_in : GoodIn wsX6_thing wsX6_in := goodIn_r _ [14] (by decide +kernel) (by decide +kernel)
set_option maxRecDepth 20000 in
theorem gX6_thing_X6_in : GoodIn wsX6_thing (va_wsS RX6 57 yX6_in wsX6_in) := goodIn_app (goodIn_of _ (by decide +kernel)) ggX6_thing_X6_in
set_option maxRecDepth 20000 in
theorem ggX6_thing_X6_covered : GoodIn wsX6_thing wsX6_covered := goodIn_r _ [18, 11, 19, 20, 21, 9, 22, 2, 27, 28, 29, 30, 31, 32, 33, 34, 35, 36, 37, 38, 39, 40, 41, 42, 43, 44, 45, 46, 47, 48, 49, 50, 51, 52] (by decide +kernel) (by decide +kernel)
set_option maxRecDepth 20000 in
theorem gX6_thing_X6_covered : GoodIn wsX6_thing (wsV RX6 118 RX6 yX6_covered wsX6_covered) := goodIn_app (goodIn_of _ (by decide +kernel)) ggX6_thing_X6_covered
set_option maxRecDepth 20000 in
theorem ggX6_thing_X6_comers : GoodIn wsX6_thing wsX6_comers := goodIn_r _ [26, 11, 4, 15, 16, 17, 9, 18, 19, 20, 21, 22, 2, 27, 28, 29, 30, 31, 32, 33, 34, 35, 36, 37, 38, 39, 40, 41, 42, 43, 44, 45, 46, 47, 48, 49, 50, 51, 52] (by decide +kernel) (by decide +kernel)
set_option maxRecDepth 20000 in
theorem gX6_thing_X6_comers : GoodIn wsX6_thing (wsV RX6 122 RX6 yX6_comers wsX6_comers) := goodIn_app (goodIn_of _ (by decide +kernel)) ggX6_thing_X6_comers
theorem dX6_thing_0 : decode cX6_thing 0 = .ok (.aload_n 0, 1) := by decide +kernel
theorem dX6_thing_1 : decode cX6_thing 1 = .ok (.iconst 0, 1) := by decide +kernel
theorem dX6_thing_2 : decode cX6_thing 2 = .ok (.putfield 53, 3) := by decide +kernel
theorem dX6_thing_5 : decode cX6_thing 5 = .ok (.aload_n 0, 1) := by decide +kernel
theorem dX6_thing_6 : decode cX6_thing 6 = .ok (.iload_n 1, 1) := by decide +kernel
theorem dX6_thing_7 : decode cX6_thing 7 = .ok (.invokevirtual 138, 3) := by decide +kernel
theorem dX6_thing_10 : decode cX6_thing 10 = .ok (.ifCond .eq 13, 3) := by decide +kernel
theorem dX6_thing_13 : decode cX6_thing 13 = .ok (.iload_n 2, 1) := by decide +kernel
theorem dX6_thing_14 : decode cX6_thing 14 = .ok (.iconst 0, 1) := by decide +kernel
theorem dX6_thing_15 : decode cX6_thing 15 = .ok (.bipush 7, 2) := by decide +kernel
theorem dX6_thing_17 : decode cX6_thing 17 = .ok (.invokestatic 57, 3) := by decide +kernel
theorem dX6_thing_20 : decode cX6_thing 20 = .ok (.ifCond .ne 5, 3) := by decide +kernel
theorem dX6_thing_23 : decode cX6_thing 23 = .ok (.iconst (-1), 1) := by decide +kernel
theorem dX6_thing_24 : decode cX6_thing 24 = .ok (.ireturn, 1) := by decide +kernel
theorem dX6_thing_25 : decode cX6_thing 25 = .ok (.iload_n 2, 1) := by decide +kernel
theorem dX6_thing_26 : decode cX6_thing 26 = .ok (.iconst 3, 1) := by decide +kernel
theorem dX6_thing_27 : decode cX6_thing 27 = .ok (.if_icmp .ge 37, 3) := by decide +kernel
theorem dX6_thing_30 : decode cX6_thing 30 = .ok (.iload_n 2, 1) := by decide +kernel
theorem dX6_thing_31 : decode cX6_thing 31 = .ok (.ifCond .ne 12, 3) := by decide +kernel
theorem dX6_thing_34 : decode cX6_thing 34 = .ok (.aload_n 0, 1) := by decide +kernel
theorem dX6_thing_35 : decode cX6_thing 35 = .ok (.getfield 16, 3) := by decide +kernel
theorem dX6_thing_38 : decode cX6_thing 38 = .ok (.iload_n 1, 1) := by decide +kernel
theorem dX6_thing_39 : decode cX6_thing 39 = .ok (.iaload, 1) := by decide +kernel
theorem dX6_thing_40 : decode cX6_thing 40 = .ok (.goto 23, 3) := by decide +kernel
theorem dX6_thing_43 : decode cX6_thing 43 = .ok (.iload_n 2, 1) := by decide +kernel
theorem dX6_thing_44 : decode cX6_thing 44 = .ok (.iconst 1, 1) := by decide +kernel
theorem dX6_thing_45 : decode cX6_thing 45 = .ok (.if_icmp .ne 12, 3) := by decide +kernel
theorem dX6_thing_48 : decode cX6_thing 48 = .ok (.aload_n 0, 1) := by decide +kernel
theorem dX6_thing_49 : decode cX6_thing 49 = .ok (.getfield 19, 3) := by decide +kernel
theorem dX6_thing_52 : decode cX6_thing 52 = .ok (.iload_n 1, 1) := by decide +kernel
theorem dX6_thing_53 : decode cX6_thing 53 = .ok (.iaload, 1) := by decide +kernel
theorem dX6_thing_54 : decode cX6_thing 54 = .ok (.goto 9, 3) := by decide +kernel
theorem dX6_thing_57 : decode cX6_thing 57 = .ok (.aload_n 0, 1) := by decide +kernel
theorem dX6_thing_58 : decode cX6_thing 58 = .ok (.getfield 22, 3) := by decide +kernel
theorem dX6_thing_61 : decode cX6_thing 61 = .ok (.iload_n 1, 1) := by decide +kernel
theorem dX6_thing_62 : decode cX6_thing 62 = .ok (.iaload, 1) := by decide +kernel
theorem dX6_thing_63 : decode cX6_thing 63 = .ok (.ireturn, 1) := by decide +kernel
theorem dX6_thing_64 : decode cX6_thing 64 = .ok (.iload_n 2, 1) := by decide +kernel
theorem dX6_thing_65 : decode cX6_thing 65 = .ok (.bipush 6, 2) := by decide +kernel
theorem dX6_thing_67 : decode cX6_thing 67 = .ok (.if_icmp .ne 14, 3) := by decide +kernel
theorem dX6_thing_70 : decode cX6_thing 70 = .ok (.aload_n 0, 1) := by decide +kernel
theorem dX6_thing_71 : decode cX6_thing 71 = .ok (.aload_n 0, 1) := by decide +kernel
theorem dX6_thing_72 : decode cX6_thing 72 = .ok (.getfield 25, 3) := by decide +kernel
theorem dX6_thing_75 : decode cX6_thing 75 = .ok (.invokevirtual 118, 3) := by decide +kernel
theorem dX6_thing_78 : decode cX6_thing 78 = .ok (.goto 28, 3) := by decide +kernel
theorem dX6_thing_81 : decode cX6_thing 81 = .ok (.iload_n 2, 1) := by decide +kernel
theorem dX6_thing_82 : decode cX6_thing 82 = .ok (.bipush 7, 2) := by decide +kernel
theorem dX6_thing_84 : decode cX6_thing 84 = .ok (.if_icmp .ne 14, 3) := by decide +kernel
theorem dX6_thing_87 : decode cX6_thing 87 = .ok (.aload_n 0, 1) := by decide +kernel
theorem dX6_thing_88 : decode cX6_thing 88 = .ok (.aload_n 0, 1) := by decide +kernel
theorem dX6_thing_89 : decode cX6_thing 89 = .ok (.getfield 25, 3) := by decide +kernel
theorem dX6_thing_92 : decode cX6_thing 92 = .ok (.invokevirtual 122, 3) := by decide +kernel
theorem dX6_thing_95 : decode cX6_thing 95 = .ok (.goto 11, 3) := by decide +kernel
theorem dX6_thing_98 : decode cX6_thing 98 = .ok (.aload_n 0, 1) := by decide +kernel
theorem dX6_thing_99 : decode cX6_thing 99 = .ok (.getfield 25, 3) := by decide +kernel
theorem dX6_thing_102 : decode cX6_thing 102 = .ok (.iload_n 2, 1) := by decide +kernel
theorem dX6_thing_103 : decode cX6_thing 103 = .ok (.iconst 1, 1) := by decide +kernel
theorem dX6_thing_104 : decode cX6_thing 104 = .ok (.isub, 1) := by decide +kernel
theorem dX6_thing_105 : decode cX6_thing 105 = .ok (.iaload, 1) := by decide +kernel
theorem dX6_thing_106 : decode cX6_thing 106 = .ok (.istore_n 3, 1) := by decide +kernel
theorem dX6_thing_107 : decode cX6_thing 107 = .ok (.iload_n 3, 1) := by decide +kernel
theorem dX6_thing_108 : decode cX6_thing 108 = .ok (.iload_n 1, 1) := by decide +kernel
theorem dX6_thing_109 : decode cX6_thing 109 = .ok (.ishr, 1) := by decide +kernel
theorem dX6_thing_110 : decode cX6_thing 110 = .ok (.iconst 1, 1) := by decide +kernel
theorem dX6_thing_111 : decode cX6_thing 111 = .ok (.iand, 1) := by decide +kernel
theorem dX6_thing_112 : decode cX6_thing 112 = .ok (.ireturn, 1) := by decide +kernel
set_option maxRecDepth 20000 in
theorem ggX6_now_X6_in : GoodIn wsX6_now wsX6_in := goodIn_r _ [7] (by decide +kernel) (by decide +kernel)
set_option maxRecDepth 20000 in
theorem gX6_now_X6_in : GoodIn wsX6_now (va_wsS RX6 57 yX6_in wsX6_in) := goodIn_app (goodIn_of _ (by decide +kernel)) ggX6_now_X6_in
set_option maxRecDepth 20000 in
theorem ggX6_now_X6_covered : GoodIn wsX6_now wsX6_covered := goodIn_r _ [11, 12, 13, 14, 15, 6, 16, 17, 28, 29, 30, 31, 32, 33, 34, 35, 36, 37, 38, 39, 40, 41, 42, 43, 44, 45, 46, 47, 48, 49, 50, 51, 52, 53] (by decide +kernel) (by decide +kernel)
set_option maxRecDepth 20000 in
theorem gX6_now_X6_covered : GoodIn wsX6_now (wsV RX6 118 RX6 yX6_covered wsX6_covered) := goodIn_app (goodIn_of _ (by decide +kernel)) ggX6_now_X6_covered
set_option maxRecDepth 20000 in
theorem ggX6_now_X6_comers : GoodIn wsX6_now wsX6_comers := goodIn_r _ [21, 12, 22, 8, 9, 10, 6, 11, 13, 14, 15, 16, 17, 28, 29, 30, 31, 32, 33, 34, 35, 36, 37, 38, 39, 40, 41, 42, 43, 44, 45, 46, 47, 48, 49, 50, 51, 52, 53] (by decide +kernel) (by decide +kernel)
set_option maxRecDepth 20000 in
theorem gX6_now_X6_comers : GoodIn wsX6_now (wsV RX6 122 RX6 yX6_comers wsX6_comers) := goodIn_app (goodIn_of _ (by decide +kernel)) ggX6_now_X6_comers
set_option maxRecDepth 20000 in
theorem ggX6_now_X6_dearOf : GoodIn wsX6_now wsX6_dearOf := goodIn_r _ [26, 12, 27, 22, 28, 29, 30, 31, 32, 33, 34, 35, 36, 37, 38, 39, 40, 41, 42, 43, 44, 45, 46, 47, 48, 49, 50, 51, 52, 53] (by decide +kernel) (by decide +kernel)
set_option maxRecDepth 20000 in
theorem gX6_now_X6_dearOf : GoodIn wsX6_now (wsV RX6 125 RX6 yX6_dearOf wsX6_dearOf) := goodIn_app (goodIn_of _ (by decide +kernel)) ggX6_now_X6_dearOf
theorem dX6_now_0 : decode cX6_now 0 = .ok (.aload_n 0, 1) := by decide +kernel
theorem dX6_now_1 : decode cX6_now 1 = .ok (.iconst 0, 1) := by decide +kernel
theorem dX6_now_2 : decode cX6_now 2 = .ok (.putfield 53, 3) := by decide +kernel
theorem dX6_now_5 : decode cX6_now 5 = .ok (.iload_n 1, 1) := by decide +kernel
theorem dX6_now_6 : decode cX6_now 6 = .ok (.iconst 0, 1) := by decide +kernel
theorem dX6_now_7 : decode cX6_now 7 = .ok (.bipush 6, 2) := by decide +kernel
theorem dX6_now_9 : decode cX6_now 9 = .ok (.invokestatic 57, 3) := by decide +kernel
theorem dX6_now_12 : decode cX6_now 12 = .ok (.ifCond .ne 5, 3) := by decide +kernel
theorem dX6_now_15 : decode cX6_now 15 = .ok (.iconst (-1), 1) := by decide +kernel
theorem dX6_now_16 : decode cX6_now 16 = .ok (.ireturn, 1) := by decide +kernel
theorem dX6_now_17 : decode cX6_now 17 = .ok (.iload_n 1, 1) := by decide +kernel
theorem dX6_now_18 : decode cX6_now 18 = .ok (.iconst 2, 1) := by decide +kernel
theorem dX6_now_19 : decode cX6_now 19 = .ok (.if_icmp .ge 10, 3) := by decide +kernel
theorem dX6_now_22 : decode cX6_now 22 = .ok (.aload_n 0, 1) := by decide +kernel
theorem dX6_now_23 : decode cX6_now 23 = .ok (.getfield 25, 3) := by decide +kernel
theorem dX6_now_26 : decode cX6_now 26 = .ok (.iload_n 1, 1) := by decide +kernel
theorem dX6_now_27 : decode cX6_now 27 = .ok (.iaload, 1) := by decide +kernel
theorem dX6_now_28 : decode cX6_now 28 = .ok (.ireturn, 1) := by decide +kernel
theorem dX6_now_29 : decode cX6_now 29 = .ok (.iload_n 1, 1) := by decide +kernel
theorem dX6_now_30 : decode cX6_now 30 = .ok (.iconst 2, 1) := by decide +kernel
theorem dX6_now_31 : decode cX6_now 31 = .ok (.if_icmp .ne 14, 3) := by decide +kernel
theorem dX6_now_34 : decode cX6_now 34 = .ok (.aload_n 0, 1) := by decide +kernel
theorem dX6_now_35 : decode cX6_now 35 = .ok (.aload_n 0, 1) := by decide +kernel
theorem dX6_now_36 : decode cX6_now 36 = .ok (.getfield 25, 3) := by decide +kernel
theorem dX6_now_39 : decode cX6_now 39 = .ok (.invokevirtual 118, 3) := by decide +kernel
theorem dX6_now_42 : decode cX6_now 42 = .ok (.goto 56, 3) := by decide +kernel
theorem dX6_now_45 : decode cX6_now 45 = .ok (.iload_n 1, 1) := by decide +kernel
theorem dX6_now_46 : decode cX6_now 46 = .ok (.iconst 3, 1) := by decide +kernel
theorem dX6_now_47 : decode cX6_now 47 = .ok (.if_icmp .ne 14, 3) := by decide +kernel
theorem dX6_now_50 : decode cX6_now 50 = .ok (.aload_n 0, 1) := by decide +kernel
theorem dX6_now_51 : decode cX6_now 51 = .ok (.aload_n 0, 1) := by decide +kernel
theorem dX6_now_52 : decode cX6_now 52 = .ok (.getfield 25, 3) := by decide +kernel
theorem dX6_now_55 : decode cX6_now 55 = .ok (.invokevirtual 122, 3) := by decide +kernel
theorem dX6_now_58 : decode cX6_now 58 = .ok (.goto 40, 3) := by decide +kernel
theorem dX6_now_61 : decode cX6_now 61 = .ok (.iload_n 1, 1) := by decide +kernel
theorem dX6_now_62 : decode cX6_now 62 = .ok (.iconst 4, 1) := by decide +kernel
theorem dX6_now_63 : decode cX6_now 63 = .ok (.if_icmp .ne 12, 3) := by decide +kernel
theorem dX6_now_66 : decode cX6_now 66 = .ok (.aload_n 0, 1) := by decide +kernel
theorem dX6_now_67 : decode cX6_now 67 = .ok (.getfield 25, 3) := by decide +kernel
theorem dX6_now_70 : decode cX6_now 70 = .ok (.iconst 4, 1) := by decide +kernel
theorem dX6_now_71 : decode cX6_now 71 = .ok (.iaload, 1) := by decide +kernel
theorem dX6_now_72 : decode cX6_now 72 = .ok (.goto 26, 3) := by decide +kernel
theorem dX6_now_75 : decode cX6_now 75 = .ok (.iload_n 1, 1) := by decide +kernel
theorem dX6_now_76 : decode cX6_now 76 = .ok (.iconst 5, 1) := by decide +kernel
theorem dX6_now_77 : decode cX6_now 77 = .ok (.if_icmp .ne 17, 3) := by decide +kernel
theorem dX6_now_80 : decode cX6_now 80 = .ok (.aload_n 0, 1) := by decide +kernel
theorem dX6_now_81 : decode cX6_now 81 = .ok (.aload_n 0, 1) := by decide +kernel
theorem dX6_now_82 : decode cX6_now 82 = .ok (.getfield 25, 3) := by decide +kernel
theorem dX6_now_85 : decode cX6_now 85 = .ok (.iconst 4, 1) := by decide +kernel
theorem dX6_now_86 : decode cX6_now 86 = .ok (.iaload, 1) := by decide +kernel
theorem dX6_now_87 : decode cX6_now 87 = .ok (.iconst 0, 1) := by decide +kernel
theorem dX6_now_88 : decode cX6_now 88 = .ok (.invokevirtual 125, 3) := by decide +kernel
theorem dX6_now_91 : decode cX6_now 91 = .ok (.goto 7, 3) := by decide +kernel
theorem dX6_now_94 : decode cX6_now 94 = .ok (.aload_n 0, 1) := by decide +kernel
theorem dX6_now_95 : decode cX6_now 95 = .ok (.getfield 111, 3) := by decide +kernel
theorem dX6_now_98 : decode cX6_now 98 = .ok (.ireturn, 1) := by decide +kernel
theorem dX6_notes_0 : decode cX6_notes 0 = .ok (.aload_n 0, 1) := by decide +kernel
theorem dX6_notes_1 : decode cX6_notes 1 = .ok (.getfield 111, 3) := by decide +kernel
theorem dX6_notes_4 : decode cX6_notes 4 = .ok (.bipush 10, 2) := by decide +kernel
theorem dX6_notes_6 : decode cX6_notes 6 = .ok (.if_icmp .ne 37, 3) := by decide +kernel
theorem dX6_notes_9 : decode cX6_notes 9 = .ok (.iconst 0, 1) := by decide +kernel
theorem dX6_notes_10 : decode cX6_notes 10 = .ok (.istore_n 1, 1) := by decide +kernel
theorem dX6_notes_11 : decode cX6_notes 11 = .ok (.iload_n 1, 1) := by decide +kernel
theorem dX6_notes_12 : decode cX6_notes 12 = .ok (.bipush 45, 2) := by decide +kernel
theorem dX6_notes_14 : decode cX6_notes 14 = .ok (.if_icmp .ge 23, 3) := by decide +kernel
theorem dX6_notes_17 : decode cX6_notes 17 = .ok (.aload_n 0, 1) := by decide +kernel
theorem dX6_notes_18 : decode cX6_notes 18 = .ok (.getfield 38, 3) := by decide +kernel
theorem dX6_notes_21 : decode cX6_notes 21 = .ok (.iload_n 1, 1) := by decide +kernel
theorem dX6_notes_22 : decode cX6_notes 22 = .ok (.aload_n 0, 1) := by decide +kernel
theorem dX6_notes_23 : decode cX6_notes 23 = .ok (.getfield 38, 3) := by decide +kernel
theorem dX6_notes_26 : decode cX6_notes 26 = .ok (.iload_n 1, 1) := by decide +kernel
theorem dX6_notes_27 : decode cX6_notes 27 = .ok (.iconst 5, 1) := by decide +kernel
theorem dX6_notes_28 : decode cX6_notes 28 = .ok (.iadd, 1) := by decide +kernel
theorem dX6_notes_29 : decode cX6_notes 29 = .ok (.iaload, 1) := by decide +kernel
theorem dX6_notes_30 : decode cX6_notes 30 = .ok (.iastore, 1) := by decide +kernel
theorem dX6_notes_31 : decode cX6_notes 31 = .ok (.iinc 1 1, 3) := by decide +kernel
theorem dX6_notes_34 : decode cX6_notes 34 = .ok (.goto (-23), 3) := by decide +kernel
theorem dX6_notes_37 : decode cX6_notes 37 = .ok (.aload_n 0, 1) := by decide +kernel
theorem dX6_notes_38 : decode cX6_notes 38 = .ok (.bipush 9, 2) := by decide +kernel
theorem dX6_notes_40 : decode cX6_notes 40 = .ok (.putfield 111, 3) := by decide +kernel
theorem dX6_notes_43 : decode cX6_notes 43 = .ok (.iconst 0, 1) := by decide +kernel
theorem dX6_notes_44 : decode cX6_notes 44 = .ok (.istore_n 1, 1) := by decide +kernel
theorem dX6_notes_45 : decode cX6_notes 45 = .ok (.iload_n 1, 1) := by decide +kernel
theorem dX6_notes_46 : decode cX6_notes 46 = .ok (.iconst 5, 1) := by decide +kernel
theorem dX6_notes_47 : decode cX6_notes 47 = .ok (.if_icmp .ge 28, 3) := by decide +kernel
theorem dX6_notes_50 : decode cX6_notes 50 = .ok (.aload_n 0, 1) := by decide +kernel
theorem dX6_notes_51 : decode cX6_notes 51 = .ok (.getfield 38, 3) := by decide +kernel
theorem dX6_notes_54 : decode cX6_notes 54 = .ok (.iconst 5, 1) := by decide +kernel
theorem dX6_notes_55 : decode cX6_notes 55 = .ok (.aload_n 0, 1) := by decide +kernel
theorem dX6_notes_56 : decode cX6_notes 56 = .ok (.getfield 111, 3) := by decide +kernel
theorem dX6_notes_59 : decode cX6_notes 59 = .ok (.imul, 1) := by decide +kernel
theorem dX6_notes_60 : decode cX6_notes 60 = .ok (.iload_n 1, 1) := by decide +kernel
theorem dX6_notes_61 : decode cX6_notes 61 = .ok (.iadd, 1) := by decide +kernel
theorem dX6_notes_62 : decode cX6_notes 62 = .ok (.aload_n 0, 1) := by decide +kernel
theorem dX6_notes_63 : decode cX6_notes 63 = .ok (.getfield 25, 3) := by decide +kernel
theorem dX6_notes_66 : decode cX6_notes 66 = .ok (.iload_n 1, 1) := by decide +kernel
theorem dX6_notes_67 : decode cX6_notes 67 = .ok (.iaload, 1) := by decide +kernel
theorem dX6_notes_68 : decode cX6_notes 68 = .ok (.iastore, 1) := by decide +kernel
theorem dX6_notes_69 : decode cX6_notes 69 = .ok (.iinc 1 1, 3) := by decide +kernel
theorem dX6_notes_72 : decode cX6_notes 72 = .ok (.goto (-27), 3) := by decide +kernel
theorem dX6_notes_75 : decode cX6_notes 75 = .ok (.aload_n 0, 1) := by decide +kernel
theorem dX6_notes_76 : decode cX6_notes 76 = .ok (.dup, 1) := by decide +kernel
theorem dX6_notes_77 : decode cX6_notes 77 = .ok (.getfield 111, 3) := by decide +kernel
theorem dX6_notes_80 : decode cX6_notes 80 = .ok (.iconst 1, 1) := by decide +kernel
theorem dX6_notes_81 : decode cX6_notes 81 = .ok (.iadd, 1) := by decide +kernel
theorem dX6_notes_82 : decode cX6_notes 82 = .ok (.putfield 111, 3) := by decide +kernel
theorem dX6_notes_85 : decode cX6_notes 85 = .ok (.return_, 1) := by decide +kernel
set_option maxRecDepth 20000 in
theorem ggX6_swears_X6_in : GoodIn wsX6_swears wsX6_in := goodIn_r _ [6] (by decide +kernel) (by decide +kernel)
set_option maxRecDepth 20000 in
theorem gX6_swears_X6_in : GoodIn wsX6_swears (va_wsS RX6 57 yX6_in wsX6_in) := goodIn_app (goodIn_of _ (by decide +kernel)) ggX6_swears_X6_in
set_option maxRecDepth 20000 in
theorem ggX6_swears_X6_notes : GoodIn wsX6_swears wsX6_notes := goodIn_r _ [10, 11, 12, 2, 26, 27, 28, 29, 30, 31, 32, 33, 34, 35, 36, 37, 38, 39, 40, 41, 42, 43, 44, 45, 46, 47, 48, 49, 50, 51] (by decide +kernel) (by decide +kernel)
set_option maxRecDepth 20000 in
theorem gX6_swears_X6_notes : GoodIn wsX6_swears (wsV RX6 142 RX6 yX6_notes wsX6_notes) := goodIn_app (goodIn_of _ (by decide +kernel)) ggX6_swears_X6_notes
set_option maxRecDepth 20000 in
theorem ggX6_swears_X6_covered : GoodIn wsX6_swears wsX6_covered := goodIn_r _ [16, 17, 18, 19, 20, 5, 21, 22, 26, 27, 28, 29, 30, 31, 32, 33, 34, 35, 36, 37, 38, 39, 40, 41, 42, 43, 44, 45, 46, 47, 48, 49, 50, 51] (by decide +kernel) (by decide +kernel)
set_option maxRecDepth 20000 in
theorem gX6_swears_X6_covered : GoodIn wsX6_swears (wsV RX6 118 RX6 yX6_covered wsX6_covered) := goodIn_app (goodIn_of _ (by decide +kernel)) ggX6_swears_X6_covered
set_option maxRecDepth 20000 in
theorem ggX6_swears_X6_ones : GoodIn wsX6_swears wsX6_ones := goodIn_r _ [25] (by decide +kernel) (by decide +kernel)
set_option maxRecDepth 20000 in
theorem gX6_swears_X6_ones : GoodIn wsX6_swears (va_wsS RX6 145 yX6_ones wsX6_ones) := goodIn_app (goodIn_of _ (by decide +kernel)) ggX6_swears_X6_ones
theorem dX6_swears_0 : decode cX6_swears 0 = .ok (.aload_n 0, 1) := by decide +kernel
theorem dX6_swears_1 : decode cX6_swears 1 = .ok (.iconst 0, 1) := by decide +kernel
theorem dX6_swears_2 : decode cX6_swears 2 = .ok (.putfield 53, 3) := by decide +kernel
theorem dX6_swears_5 : decode cX6_swears 5 = .ok (.iload_n 1, 1) := by decide +kernel
theorem dX6_swears_6 : decode cX6_swears 6 = .ok (.iconst 0, 1) := by decide +kernel
theorem dX6_swears_7 : decode cX6_swears 7 = .ok (.bipush 31, 2) := by decide +kernel
theorem dX6_swears_9 : decode cX6_swears 9 = .ok (.invokestatic 57, 3) := by decide +kernel
theorem dX6_swears_12 : decode cX6_swears 12 = .ok (.ifCond .ne 5, 3) := by decide +kernel
theorem dX6_swears_15 : decode cX6_swears 15 = .ok (.iconst (-1), 1) := by decide +kernel
theorem dX6_swears_16 : decode cX6_swears 16 = .ok (.ireturn, 1) := by decide +kernel
theorem dX6_swears_17 : decode cX6_swears 17 = .ok (.aload_n 0, 1) := by decide +kernel
theorem dX6_swears_18 : decode cX6_swears 18 = .ok (.invokevirtual 142, 3) := by decide +kernel
theorem dX6_swears_21 : decode cX6_swears 21 = .ok (.aload_n 0, 1) := by decide +kernel
theorem dX6_swears_22 : decode cX6_swears 22 = .ok (.getfield 25, 3) := by decide +kernel
theorem dX6_swears_25 : decode cX6_swears 25 = .ok (.iconst 1, 1) := by decide +kernel
theorem dX6_swears_26 : decode cX6_swears 26 = .ok (.iload_n 1, 1) := by decide +kernel
theorem dX6_swears_27 : decode cX6_swears 27 = .ok (.iastore, 1) := by decide +kernel
theorem dX6_swears_28 : decode cX6_swears 28 = .ok (.aload_n 0, 1) := by decide +kernel
theorem dX6_swears_29 : decode cX6_swears 29 = .ok (.aload_n 0, 1) := by decide +kernel
theorem dX6_swears_30 : decode cX6_swears 30 = .ok (.getfield 25, 3) := by decide +kernel
theorem dX6_swears_33 : decode cX6_swears 33 = .ok (.invokevirtual 118, 3) := by decide +kernel
theorem dX6_swears_36 : decode cX6_swears 36 = .ok (.invokestatic 145, 3) := by decide +kernel
theorem dX6_swears_39 : decode cX6_swears 39 = .ok (.ireturn, 1) := by decide +kernel
set_option maxRecDepth 20000 in
theorem ggX6_becomes_X6_isThing : GoodIn wsX6_becomes wsX6_isThing := goodIn_r _ [6, 7, 8, 9, 5, 10, 17, 18, 19, 20, 21, 22, 23, 24, 25, 26, 27, 28, 29, 30, 31, 32, 33, 34, 35, 36, 37, 38, 39, 40, 41, 42] (by decide +kernel) (by decide +kernel)
set_option maxRecDepth 20000 in
theorem gX6_becomes_X6_isThing : GoodIn wsX6_becomes (wsV RX6 138 RX6 yX6_isThing wsX6_isThing) := goodIn_app (goodIn_of _ (by decide +kernel)) ggX6_becomes_X6_isThing
set_option maxRecDepth 20000 in
theorem ggX6_becomes_X6_in : GoodIn wsX6_becomes wsX6_in := goodIn_r _ [10] (by decide +kernel) (by decide +kernel)
set_option maxRecDepth 20000 in
theorem gX6_becomes_X6_in : GoodIn wsX6_becomes (va_wsS RX6 57 yX6_in wsX6_in) := goodIn_app (goodIn_of _ (by decide +kernel)) ggX6_becomes_X6_in
set_option maxRecDepth 20000 in
theorem ggX6_becomes_X6_notes : GoodIn wsX6_becomes wsX6_notes := goodIn_r _ [14, 15, 16, 1, 17, 18, 19, 20, 21, 22, 23, 24, 25, 26, 27, 28, 29, 30, 31, 32, 33, 34, 35, 36, 37, 38, 39, 40, 41, 42] (by decide +kernel) (by decide +kernel)
set_option maxRecDepth 20000 in
theorem gX6_becomes_X6_notes : GoodIn wsX6_becomes (wsV RX6 142 RX6 yX6_notes wsX6_notes) := goodIn_app (goodIn_of _ (by decide +kernel)) ggX6_becomes_X6_notes
theorem dX6_becomes_0 : decode cX6_becomes 0 = .ok (.aload_n 0, 1) := by decide +kernel
theorem dX6_becomes_1 : decode cX6_becomes 1 = .ok (.iload_n 2, 1) := by decide +kernel
theorem dX6_becomes_2 : decode cX6_becomes 2 = .ok (.invokevirtual 138, 3) := by decide +kernel
theorem dX6_becomes_5 : decode cX6_becomes 5 = .ok (.ifCond .eq 12, 3) := by decide +kernel
theorem dX6_becomes_8 : decode cX6_becomes 8 = .ok (.iload_n 3, 1) := by decide +kernel
theorem dX6_becomes_9 : decode cX6_becomes 9 = .ok (.iconst 0, 1) := by decide +kernel
theorem dX6_becomes_10 : decode cX6_becomes 10 = .ok (.iconst 1, 1) := by decide +kernel
theorem dX6_becomes_11 : decode cX6_becomes 11 = .ok (.invokestatic 57, 3) := by decide +kernel
theorem dX6_becomes_14 : decode cX6_becomes 14 = .ok (.ifCond .ne 5, 3) := by decide +kernel
theorem dX6_becomes_17 : decode cX6_becomes 17 = .ok (.iconst (-1), 1) := by decide +kernel
theorem dX6_becomes_18 : decode cX6_becomes 18 = .ok (.ireturn, 1) := by decide +kernel
theorem dX6_becomes_19 : decode cX6_becomes 19 = .ok (.aload_n 0, 1) := by decide +kernel
theorem dX6_becomes_20 : decode cX6_becomes 20 = .ok (.invokevirtual 142, 3) := by decide +kernel
theorem dX6_becomes_23 : decode cX6_becomes 23 = .ok (.aload_n 0, 1) := by decide +kernel
theorem dX6_becomes_24 : decode cX6_becomes 24 = .ok (.getfield 25, 3) := by decide +kernel
theorem dX6_becomes_27 : decode cX6_becomes 27 = .ok (.iload_n 1, 1) := by decide +kernel
theorem dX6_becomes_28 : decode cX6_becomes 28 = .ok (.iaload, 1) := by decide +kernel
theorem dX6_becomes_29 : decode cX6_becomes 29 = .ok (.iload_n 2, 1) := by decide +kernel
theorem dX6_becomes_30 : decode cX6_becomes 30 = .ok (.ishr, 1) := by decide +kernel
theorem dX6_becomes_31 : decode cX6_becomes 31 = .ok (.iconst 1, 1) := by decide +kernel
theorem dX6_becomes_32 : decode cX6_becomes 32 = .ok (.iand, 1) := by decide +kernel
theorem dX6_becomes_33 : decode cX6_becomes 33 = .ok (.istore 4, 2) := by decide +kernel
theorem dX6_becomes_35 : decode cX6_becomes 35 = .ok (.aload_n 0, 1) := by decide +kernel
theorem dX6_becomes_36 : decode cX6_becomes 36 = .ok (.getfield 25, 3) := by decide +kernel
theorem dX6_becomes_39 : decode cX6_becomes 39 = .ok (.iload_n 1, 1) := by decide +kernel
theorem dX6_becomes_40 : decode cX6_becomes 40 = .ok (.aload_n 0, 1) := by decide +kernel
theorem dX6_becomes_41 : decode cX6_becomes 41 = .ok (.getfield 25, 3) := by decide +kernel
theorem dX6_becomes_44 : decode cX6_becomes 44 = .ok (.iload_n 1, 1) := by decide +kernel
theorem dX6_becomes_45 : decode cX6_becomes 45 = .ok (.iaload, 1) := by decide +kernel
theorem dX6_becomes_46 : decode cX6_becomes 46 = .ok (.iconst 1, 1) := by decide +kernel
theorem dX6_becomes_47 : decode cX6_becomes 47 = .ok (.iload_n 2, 1) := by decide +kernel
theorem dX6_becomes_48 : decode cX6_becomes 48 = .ok (.ishl, 1) := by decide +kernel
theorem dX6_becomes_49 : decode cX6_becomes 49 = .ok (.iconst (-1), 1) := by decide +kernel
theorem dX6_becomes_50 : decode cX6_becomes 50 = .ok (.ixor, 1) := by decide +kernel
theorem dX6_becomes_51 : decode cX6_becomes 51 = .ok (.iand, 1) := by decide +kernel
theorem dX6_becomes_52 : decode cX6_becomes 52 = .ok (.iload_n 3, 1) := by decide +kernel
theorem dX6_becomes_53 : decode cX6_becomes 53 = .ok (.iload_n 2, 1) := by decide +kernel
theorem dX6_becomes_54 : decode cX6_becomes 54 = .ok (.ishl, 1) := by decide +kernel
theorem dX6_becomes_55 : decode cX6_becomes 55 = .ok (.ior, 1) := by decide +kernel
theorem dX6_becomes_56 : decode cX6_becomes 56 = .ok (.iastore, 1) := by decide +kernel
theorem dX6_becomes_57 : decode cX6_becomes 57 = .ok (.iload 4, 2) := by decide +kernel
theorem dX6_becomes_59 : decode cX6_becomes 59 = .ok (.ireturn, 1) := by decide +kernel
set_option maxRecDepth 20000 in
theorem ggX6_keepsIn_X6_becomes : GoodIn wsX6_keepsIn wsX6_becomes := goodIn_r _ [6, 7, 8, 9, 10, 5, 11, 12, 13, 14, 15, 16, 17, 18, 19, 20, 21, 22, 23, 24, 25, 26, 27, 28, 29, 30, 31, 32, 33, 34, 35, 36, 37, 38, 39, 40, 41, 42, 43, 44, 45, 46, 47] (by decide +kernel) (by decide +kernel)
set_option maxRecDepth 20000 in
theorem gX6_keepsIn_X6_becomes : GoodIn wsX6_keepsIn (wsV RX6 148 RX6 yX6_becomes wsX6_becomes) := goodIn_app (goodIn_of _ (by decide +kernel)) ggX6_keepsIn_X6_becomes
theorem dX6_keepsIn_0 : decode cX6_keepsIn 0 = .ok (.aload_n 0, 1) := by decide +kernel
theorem dX6_keepsIn_1 : decode cX6_keepsIn 1 = .ok (.iconst 0, 1) := by decide +kernel
theorem dX6_keepsIn_2 : decode cX6_keepsIn 2 = .ok (.putfield 53, 3) := by decide +kernel
theorem dX6_keepsIn_5 : decode cX6_keepsIn 5 = .ok (.aload_n 0, 1) := by decide +kernel
theorem dX6_keepsIn_6 : decode cX6_keepsIn 6 = .ok (.iconst 3, 1) := by decide +kernel
theorem dX6_keepsIn_7 : decode cX6_keepsIn 7 = .ok (.iload_n 1, 1) := by decide +kernel
theorem dX6_keepsIn_8 : decode cX6_keepsIn 8 = .ok (.iload_n 2, 1) := by decide +kernel
theorem dX6_keepsIn_9 : decode cX6_keepsIn 9 = .ok (.invokevirtual 148, 3) := by decide +kernel
theorem dX6_keepsIn_12 : decode cX6_keepsIn 12 = .ok (.ireturn, 1) := by decide +kernel
set_option maxRecDepth 20000 in
theorem ggX6_tells_X6_becomes : GoodIn wsX6_tells wsX6_becomes := goodIn_r _ [6, 7, 8, 9, 10, 5, 11, 12, 13, 14, 15, 16, 17, 18, 19, 20, 21, 22, 23, 24, 25, 26, 27, 28, 29, 30, 31, 32, 33, 34, 35, 36, 37, 38, 39, 40, 41, 42, 43, 44, 45, 46, 47] (by decide +kernel) (by decide +kernel)
set_option maxRecDepth 20000 in
theorem gX6_tells_X6_becomes : GoodIn wsX6_tells (wsV RX6 148 RX6 yX6_becomes wsX6_becomes) := goodIn_app (goodIn_of _ (by decide +kernel)) ggX6_tells_X6_becomes
theorem dX6_tells_0 : decode cX6_tells 0 = .ok (.aload_n 0, 1) := by decide +kernel
theorem dX6_tells_1 : decode cX6_tells 1 = .ok (.iconst 0, 1) := by decide +kernel
theorem dX6_tells_2 : decode cX6_tells 2 = .ok (.putfield 53, 3) := by decide +kernel
theorem dX6_tells_5 : decode cX6_tells 5 = .ok (.aload_n 0, 1) := by decide +kernel
theorem dX6_tells_6 : decode cX6_tells 6 = .ok (.iconst 2, 1) := by decide +kernel
theorem dX6_tells_7 : decode cX6_tells 7 = .ok (.iload_n 1, 1) := by decide +kernel
theorem dX6_tells_8 : decode cX6_tells 8 = .ok (.iload_n 2, 1) := by decide +kernel
theorem dX6_tells_9 : decode cX6_tells 9 = .ok (.invokevirtual 148, 3) := by decide +kernel
theorem dX6_tells_12 : decode cX6_tells 12 = .ok (.ireturn, 1) := by decide +kernel
set_option maxRecDepth 20000 in
theorem ggX6_comesBy_X6_comers : GoodIn wsX6_comesBy wsX6_comers := goodIn_r _ [10, 11, 5, 12, 13, 14, 9, 15, 16, 17, 18, 19, 20, 25, 26, 27, 28, 29, 30, 31, 32, 33, 34, 35, 36, 37, 38, 39, 40, 41, 42, 43, 44, 45, 46, 47, 48, 49, 50] (by decide +kernel) (by decide +kernel)
set_option maxRecDepth 20000 in
theorem gX6_comesBy_X6_comers : GoodIn wsX6_comesBy (wsV RX6 122 RX6 yX6_comers wsX6_comers) := goodIn_app (goodIn_of _ (by decide +kernel)) ggX6_comesBy_X6_comers
set_option maxRecDepth 20000 in
theorem ggX6_comesBy_X6_eagerOf : GoodIn wsX6_comesBy wsX6_eagerOf := goodIn_r _ [24, 11, 5, 25, 26, 27, 28, 29, 30, 31, 32, 33, 34, 35, 36, 37, 38, 39, 40, 41, 42, 43, 44, 45, 46, 47, 48, 49, 50] (by decide +kernel) (by decide +kernel)
set_option maxRecDepth 20000 in
theorem gX6_comesBy_X6_eagerOf : GoodIn wsX6_comesBy (wsV RX6 132 RX6 yX6_eagerOf wsX6_eagerOf) := goodIn_app (goodIn_of _ (by decide +kernel)) ggX6_comesBy_X6_eagerOf
theorem dX6_comesBy_0 : decode cX6_comesBy 0 = .ok (.aload_n 0, 1) := by decide +kernel
theorem dX6_comesBy_1 : decode cX6_comesBy 1 = .ok (.aload_n 1, 1) := by decide +kernel
theorem dX6_comesBy_2 : decode cX6_comesBy 2 = .ok (.invokevirtual 122, 3) := by decide +kernel
theorem dX6_comesBy_5 : decode cX6_comesBy 5 = .ok (.istore_n 3, 1) := by decide +kernel
theorem dX6_comesBy_6 : decode cX6_comesBy 6 = .ok (.aload_n 0, 1) := by decide +kernel
theorem dX6_comesBy_7 : decode cX6_comesBy 7 = .ok (.iload_n 3, 1) := by decide +kernel
theorem dX6_comesBy_8 : decode cX6_comesBy 8 = .ok (.invokevirtual 132, 3) := by decide +kernel
theorem dX6_comesBy_11 : decode cX6_comesBy 11 = .ok (.istore 4, 2) := by decide +kernel
theorem dX6_comesBy_13 : decode cX6_comesBy 13 = .ok (.iload 4, 2) := by decide +kernel
theorem dX6_comesBy_15 : decode cX6_comesBy 15 = .ok (.ifCond .ne 6, 3) := by decide +kernel
theorem dX6_comesBy_18 : decode cX6_comesBy 18 = .ok (.bipush (-9), 2) := by decide +kernel
theorem dX6_comesBy_20 : decode cX6_comesBy 20 = .ok (.ireturn, 1) := by decide +kernel
theorem dX6_comesBy_21 : decode cX6_comesBy 21 = .ok (.ldc2_w 152, 3) := by decide +kernel
theorem dX6_comesBy_24 : decode cX6_comesBy 24 = .ok (.iload_n 2, 1) := by decide +kernel
theorem dX6_comesBy_25 : decode cX6_comesBy 25 = .ok (.i2l, 1) := by decide +kernel
theorem dX6_comesBy_26 : decode cX6_comesBy 26 = .ok (.lmul, 1) := by decide +kernel
theorem dX6_comesBy_27 : decode cX6_comesBy 27 = .ok (.ldc2_w 154, 3) := by decide +kernel
theorem dX6_comesBy_30 : decode cX6_comesBy 30 = .ok (.aload_n 1, 1) := by decide +kernel
theorem dX6_comesBy_31 : decode cX6_comesBy 31 = .ok (.iconst 0, 1) := by decide +kernel
theorem dX6_comesBy_32 : decode cX6_comesBy 32 = .ok (.iaload, 1) := by decide +kernel
theorem dX6_comesBy_33 : decode cX6_comesBy 33 = .ok (.i2l, 1) := by decide +kernel
theorem dX6_comesBy_34 : decode cX6_comesBy 34 = .ok (.lmul, 1) := by decide +kernel
theorem dX6_comesBy_35 : decode cX6_comesBy 35 = .ok (.ladd, 1) := by decide +kernel
theorem dX6_comesBy_36 : decode cX6_comesBy 36 = .ok (.lconst 1, 1) := by decide +kernel
theorem dX6_comesBy_37 : decode cX6_comesBy 37 = .ok (.ladd, 1) := by decide +kernel
theorem dX6_comesBy_38 : decode cX6_comesBy 38 = .ok (.lstore 5, 2) := by decide +kernel
theorem dX6_comesBy_40 : decode cX6_comesBy 40 = .ok (.lload 5, 2) := by decide +kernel
theorem dX6_comesBy_42 : decode cX6_comesBy 42 = .ok (.lload 5, 2) := by decide +kernel
theorem dX6_comesBy_44 : decode cX6_comesBy 44 = .ok (.lmul, 1) := by decide +kernel
theorem dX6_comesBy_45 : decode cX6_comesBy 45 = .ok (.ldc2_w 156, 3) := by decide +kernel
theorem dX6_comesBy_48 : decode cX6_comesBy 48 = .ok (.lrem, 1) := by decide +kernel
theorem dX6_comesBy_49 : decode cX6_comesBy 49 = .ok (.ldc2_w 158, 3) := by decide +kernel
theorem dX6_comesBy_52 : decode cX6_comesBy 52 = .ok (.ldiv, 1) := by decide +kernel
theorem dX6_comesBy_53 : decode cX6_comesBy 53 = .ok (.iload 4, 2) := by decide +kernel
theorem dX6_comesBy_55 : decode cX6_comesBy 55 = .ok (.i2l, 1) := by decide +kernel
theorem dX6_comesBy_56 : decode cX6_comesBy 56 = .ok (.lrem, 1) := by decide +kernel
theorem dX6_comesBy_57 : decode cX6_comesBy 57 = .ok (.l2i, 1) := by decide +kernel
theorem dX6_comesBy_58 : decode cX6_comesBy 58 = .ok (.istore 7, 2) := by decide +kernel
theorem dX6_comesBy_60 : decode cX6_comesBy 60 = .ok (.iconst 0, 1) := by decide +kernel
theorem dX6_comesBy_61 : decode cX6_comesBy 61 = .ok (.istore 8, 2) := by decide +kernel
theorem dX6_comesBy_63 : decode cX6_comesBy 63 = .ok (.iload_n 3, 1) := by decide +kernel
theorem dX6_comesBy_64 : decode cX6_comesBy 64 = .ok (.iload 8, 2) := by decide +kernel
theorem dX6_comesBy_66 : decode cX6_comesBy 66 = .ok (.ishr, 1) := by decide +kernel
theorem dX6_comesBy_67 : decode cX6_comesBy 67 = .ok (.iconst 1, 1) := by decide +kernel
theorem dX6_comesBy_68 : decode cX6_comesBy 68 = .ok (.iand, 1) := by decide +kernel
theorem dX6_comesBy_69 : decode cX6_comesBy 69 = .ok (.ifCond .eq 15, 3) := by decide +kernel
theorem dX6_comesBy_72 : decode cX6_comesBy 72 = .ok (.iload 7, 2) := by decide +kernel
theorem dX6_comesBy_74 : decode cX6_comesBy 74 = .ok (.aload_n 0, 1) := by decide +kernel
theorem dX6_comesBy_75 : decode cX6_comesBy 75 = .ok (.getfield 22, 3) := by decide +kernel
theorem dX6_comesBy_78 : decode cX6_comesBy 78 = .ok (.iload 8, 2) := by decide +kernel
theorem dX6_comesBy_80 : decode cX6_comesBy 80 = .ok (.iaload, 1) := by decide +kernel
theorem dX6_comesBy_81 : decode cX6_comesBy 81 = .ok (.if_icmp .lt 34, 3) := by decide +kernel
theorem dX6_comesBy_84 : decode cX6_comesBy 84 = .ok (.iload 7, 2) := by decide +kernel
theorem dX6_comesBy_86 : decode cX6_comesBy 86 = .ok (.iload_n 3, 1) := by decide +kernel
theorem dX6_comesBy_87 : decode cX6_comesBy 87 = .ok (.iload 8, 2) := by decide +kernel
theorem dX6_comesBy_89 : decode cX6_comesBy 89 = .ok (.ishr, 1) := by decide +kernel
theorem dX6_comesBy_90 : decode cX6_comesBy 90 = .ok (.iconst 1, 1) := by decide +kernel
theorem dX6_comesBy_91 : decode cX6_comesBy 91 = .ok (.iand, 1) := by decide +kernel
theorem dX6_comesBy_92 : decode cX6_comesBy 92 = .ok (.ifCond .ne 7, 3) := by decide +kernel
theorem dX6_comesBy_95 : decode cX6_comesBy 95 = .ok (.iconst 0, 1) := by decide +kernel
theorem dX6_comesBy_96 : decode cX6_comesBy 96 = .ok (.goto 10, 3) := by decide +kernel
theorem dX6_comesBy_99 : decode cX6_comesBy 99 = .ok (.aload_n 0, 1) := by decide +kernel
theorem dX6_comesBy_100 : decode cX6_comesBy 100 = .ok (.getfield 22, 3) := by decide +kernel
theorem dX6_comesBy_103 : decode cX6_comesBy 103 = .ok (.iload 8, 2) := by decide +kernel
theorem dX6_comesBy_105 : decode cX6_comesBy 105 = .ok (.iaload, 1) := by decide +kernel
theorem dX6_comesBy_106 : decode cX6_comesBy 106 = .ok (.isub, 1) := by decide +kernel
theorem dX6_comesBy_107 : decode cX6_comesBy 107 = .ok (.istore 7, 2) := by decide +kernel
theorem dX6_comesBy_109 : decode cX6_comesBy 109 = .ok (.iinc 8 1, 3) := by decide +kernel
theorem dX6_comesBy_112 : decode cX6_comesBy 112 = .ok (.goto (-49), 3) := by decide +kernel
theorem dX6_comesBy_115 : decode cX6_comesBy 115 = .ok (.iload 8, 2) := by decide +kernel
theorem dX6_comesBy_117 : decode cX6_comesBy 117 = .ok (.ireturn, 1) := by decide +kernel
set_option maxRecDepth 20000 in
theorem ggX6_goes_X6_comesBy : GoodIn wsX6_goes wsX6_comesBy := goodIn_r _ [5, 6, 7, 8, 9, 10, 11, 12, 13, 4, 14, 15, 16, 17, 18, 19, 20, 21, 22, 23, 24, 25, 26, 27, 28, 29, 30, 31, 32, 33, 34, 35, 36, 37, 38, 39, 40, 41, 42, 43, 44, 45, 46, 47, 48, 49, 50, 51, 52, 53, 54] (by decide +kernel) (by decide +kernel)
set_option maxRecDepth 20000 in
theorem gX6_goes_X6_comesBy : GoodIn wsX6_goes (wsV RX6 160 RX6 yX6_comesBy wsX6_comesBy) := goodIn_app (goodIn_of _ (by decide +kernel)) ggX6_goes_X6_comesBy
set_option maxRecDepth 20000 in
theorem ggX6_goes_X6_covered : GoodIn wsX6_goes wsX6_covered := goodIn_r _ [19, 15, 20, 21, 22, 4, 23, 24, 29, 30, 31, 32, 33, 34, 35, 36, 37, 38, 39, 40, 41, 42, 43, 44, 45, 46, 47, 48, 49, 50, 51, 52, 53, 54] (by decide +kernel) (by decide +kernel)
set_option maxRecDepth 20000 in
theorem gX6_goes_X6_covered : GoodIn wsX6_goes (wsV RX6 118 RX6 yX6_covered wsX6_covered) := goodIn_app (goodIn_of _ (by decide +kernel)) ggX6_goes_X6_covered
theorem dX6_goes_0 : decode cX6_goes 0 = .ok (.aload_n 0, 1) := by decide +kernel
theorem dX6_goes_1 : decode cX6_goes 1 = .ok (.aload_n 1, 1) := by decide +kernel
theorem dX6_goes_2 : decode cX6_goes 2 = .ok (.iload_n 2, 1) := by decide +kernel
theorem dX6_goes_3 : decode cX6_goes 3 = .ok (.invokevirtual 160, 3) := by decide +kernel
theorem dX6_goes_6 : decode cX6_goes 6 = .ok (.istore_n 3, 1) := by decide +kernel
theorem dX6_goes_7 : decode cX6_goes 7 = .ok (.aload_n 1, 1) := by decide +kernel
theorem dX6_goes_8 : decode cX6_goes 8 = .ok (.iconst 4, 1) := by decide +kernel
theorem dX6_goes_9 : decode cX6_goes 9 = .ok (.dup2, 1) := by decide +kernel
theorem dX6_goes_10 : decode cX6_goes 10 = .ok (.iaload, 1) := by decide +kernel
theorem dX6_goes_11 : decode cX6_goes 11 = .ok (.iload_n 3, 1) := by decide +kernel
theorem dX6_goes_12 : decode cX6_goes 12 = .ok (.bipush (-9), 2) := by decide +kernel
theorem dX6_goes_14 : decode cX6_goes 14 = .ok (.if_icmp .ne 7, 3) := by decide +kernel
theorem dX6_goes_17 : decode cX6_goes 17 = .ok (.iconst 0, 1) := by decide +kernel
theorem dX6_goes_18 : decode cX6_goes 18 = .ok (.goto 12, 3) := by decide +kernel
theorem dX6_goes_21 : decode cX6_goes 21 = .ok (.aload_n 0, 1) := by decide +kernel
theorem dX6_goes_22 : decode cX6_goes 22 = .ok (.aload_n 1, 1) := by decide +kernel
theorem dX6_goes_23 : decode cX6_goes 23 = .ok (.invokevirtual 118, 3) := by decide +kernel
theorem dX6_goes_26 : decode cX6_goes 26 = .ok (.iconst 1, 1) := by decide +kernel
theorem dX6_goes_27 : decode cX6_goes 27 = .ok (.iload_n 3, 1) := by decide +kernel
theorem dX6_goes_28 : decode cX6_goes 28 = .ok (.ishl, 1) := by decide +kernel
theorem dX6_goes_29 : decode cX6_goes 29 = .ok (.iand, 1) := by decide +kernel
theorem dX6_goes_30 : decode cX6_goes 30 = .ok (.ior, 1) := by decide +kernel
theorem dX6_goes_31 : decode cX6_goes 31 = .ok (.iastore, 1) := by decide +kernel
theorem dX6_goes_32 : decode cX6_goes 32 = .ok (.aload_n 1, 1) := by decide +kernel
theorem dX6_goes_33 : decode cX6_goes 33 = .ok (.iconst 0, 1) := by decide +kernel
theorem dX6_goes_34 : decode cX6_goes 34 = .ok (.dup2, 1) := by decide +kernel
theorem dX6_goes_35 : decode cX6_goes 35 = .ok (.iaload, 1) := by decide +kernel
theorem dX6_goes_36 : decode cX6_goes 36 = .ok (.iconst 1, 1) := by decide +kernel
theorem dX6_goes_37 : decode cX6_goes 37 = .ok (.iadd, 1) := by decide +kernel
theorem dX6_goes_38 : decode cX6_goes 38 = .ok (.iastore, 1) := by decide +kernel
theorem dX6_goes_39 : decode cX6_goes 39 = .ok (.iload_n 3, 1) := by decide +kernel
theorem dX6_goes_40 : decode cX6_goes 40 = .ok (.ireturn, 1) := by decide +kernel
set_option maxRecDepth 20000 in
theorem ggX6_day_X6_in : GoodIn wsX6_day wsX6_in := goodIn_r _ [6] (by decide +kernel) (by decide +kernel)
set_option maxRecDepth 20000 in
theorem gX6_day_X6_in : GoodIn wsX6_day (va_wsS RX6 57 yX6_in wsX6_in) := goodIn_app (goodIn_of _ (by decide +kernel)) ggX6_day_X6_in
set_option maxRecDepth 20000 in
theorem ggX6_day_X6_notes : GoodIn wsX6_day wsX6_notes := goodIn_r _ [10, 11, 12, 2, 44, 45, 46, 47, 48, 49, 50, 51, 52, 53, 54, 55, 56, 57, 58, 59, 60, 61, 62, 63, 64, 65, 66, 67, 68, 69] (by decide +kernel) (by decide +kernel)
set_option maxRecDepth 20000 in
theorem gX6_day_X6_notes : GoodIn wsX6_day (wsV RX6 142 RX6 yX6_notes wsX6_notes) := goodIn_app (goodIn_of _ (by decide +kernel)) ggX6_day_X6_notes
set_option maxRecDepth 20000 in
theorem ggX6_day_X6_goes : GoodIn wsX6_day wsX6_goes := goodIn_r _ [16, 17, 18, 19, 5, 20, 21, 22, 23, 24, 25, 26, 27, 28, 29, 30, 31, 32, 33, 34, 35, 36, 37, 38, 39, 40, 41, 42, 43, 44, 45, 46, 47, 48, 49, 50, 51, 52, 53, 54, 55, 56, 57, 58, 59, 60, 61, 62, 63, 64, 65, 66, 67, 68, 69] (by decide +kernel) (by decide +kernel)
set_option maxRecDepth 20000 in
theorem gX6_day_X6_goes : GoodIn wsX6_day (wsV RX6 164 RX6 yX6_goes wsX6_goes) := goodIn_app (goodIn_of _ (by decide +kernel)) ggX6_day_X6_goes
theorem dX6_day_0 : decode cX6_day 0 = .ok (.aload_n 0, 1) := by decide +kernel
theorem dX6_day_1 : decode cX6_day 1 = .ok (.iconst 0, 1) := by decide +kernel
theorem dX6_day_2 : decode cX6_day 2 = .ok (.putfield 53, 3) := by decide +kernel
theorem dX6_day_5 : decode cX6_day 5 = .ok (.iload_n 1, 1) := by decide +kernel
theorem dX6_day_6 : decode cX6_day 6 = .ok (.iconst 0, 1) := by decide +kernel
theorem dX6_day_7 : decode cX6_day 7 = .ok (.sipush 9999, 3) := by decide +kernel
theorem dX6_day_10 : decode cX6_day 10 = .ok (.invokestatic 57, 3) := by decide +kernel
theorem dX6_day_13 : decode cX6_day 13 = .ok (.ifCond .ne 5, 3) := by decide +kernel
theorem dX6_day_16 : decode cX6_day 16 = .ok (.iconst (-1), 1) := by decide +kernel
theorem dX6_day_17 : decode cX6_day 17 = .ok (.ireturn, 1) := by decide +kernel
theorem dX6_day_18 : decode cX6_day 18 = .ok (.aload_n 0, 1) := by decide +kernel
theorem dX6_day_19 : decode cX6_day 19 = .ok (.getfield 25, 3) := by decide +kernel
theorem dX6_day_22 : decode cX6_day 22 = .ok (.iconst 0, 1) := by decide +kernel
theorem dX6_day_23 : decode cX6_day 23 = .ok (.iaload, 1) := by decide +kernel
theorem dX6_day_24 : decode cX6_day 24 = .ok (.sipush 999, 3) := by decide +kernel
theorem dX6_day_27 : decode cX6_day 27 = .ok (.if_icmp .ne 6, 3) := by decide +kernel
theorem dX6_day_30 : decode cX6_day 30 = .ok (.bipush (-2), 2) := by decide +kernel
theorem dX6_day_32 : decode cX6_day 32 = .ok (.ireturn, 1) := by decide +kernel
theorem dX6_day_33 : decode cX6_day 33 = .ok (.aload_n 0, 1) := by decide +kernel
theorem dX6_day_34 : decode cX6_day 34 = .ok (.invokevirtual 142, 3) := by decide +kernel
theorem dX6_day_37 : decode cX6_day 37 = .ok (.aload_n 0, 1) := by decide +kernel
theorem dX6_day_38 : decode cX6_day 38 = .ok (.aload_n 0, 1) := by decide +kernel
theorem dX6_day_39 : decode cX6_day 39 = .ok (.getfield 25, 3) := by decide +kernel
theorem dX6_day_42 : decode cX6_day 42 = .ok (.iload_n 1, 1) := by decide +kernel
theorem dX6_day_43 : decode cX6_day 43 = .ok (.invokevirtual 164, 3) := by decide +kernel
theorem dX6_day_46 : decode cX6_day 46 = .ok (.ireturn, 1) := by decide +kernel
theorem dX6_undo_0 : decode cX6_undo 0 = .ok (.aload_n 0, 1) := by decide +kernel
theorem dX6_undo_1 : decode cX6_undo 1 = .ok (.iconst 0, 1) := by decide +kernel
theorem dX6_undo_2 : decode cX6_undo 2 = .ok (.putfield 53, 3) := by decide +kernel
theorem dX6_undo_5 : decode cX6_undo 5 = .ok (.aload_n 0, 1) := by decide +kernel
theorem dX6_undo_6 : decode cX6_undo 6 = .ok (.getfield 111, 3) := by decide +kernel
theorem dX6_undo_9 : decode cX6_undo 9 = .ok (.ifCond .ne 6, 3) := by decide +kernel
theorem dX6_undo_12 : decode cX6_undo 12 = .ok (.bipush (-2), 2) := by decide +kernel
theorem dX6_undo_14 : decode cX6_undo 14 = .ok (.ireturn, 1) := by decide +kernel
theorem dX6_undo_15 : decode cX6_undo 15 = .ok (.aload_n 0, 1) := by decide +kernel
theorem dX6_undo_16 : decode cX6_undo 16 = .ok (.dup, 1) := by decide +kernel
theorem dX6_undo_17 : decode cX6_undo 17 = .ok (.getfield 111, 3) := by decide +kernel
theorem dX6_undo_20 : decode cX6_undo 20 = .ok (.iconst 1, 1) := by decide +kernel
theorem dX6_undo_21 : decode cX6_undo 21 = .ok (.isub, 1) := by decide +kernel
theorem dX6_undo_22 : decode cX6_undo 22 = .ok (.putfield 111, 3) := by decide +kernel
theorem dX6_undo_25 : decode cX6_undo 25 = .ok (.iconst 0, 1) := by decide +kernel
theorem dX6_undo_26 : decode cX6_undo 26 = .ok (.istore_n 1, 1) := by decide +kernel
theorem dX6_undo_27 : decode cX6_undo 27 = .ok (.iload_n 1, 1) := by decide +kernel
theorem dX6_undo_28 : decode cX6_undo 28 = .ok (.iconst 5, 1) := by decide +kernel
theorem dX6_undo_29 : decode cX6_undo 29 = .ok (.if_icmp .ge 28, 3) := by decide +kernel
theorem dX6_undo_32 : decode cX6_undo 32 = .ok (.aload_n 0, 1) := by decide +kernel
theorem dX6_undo_33 : decode cX6_undo 33 = .ok (.getfield 25, 3) := by decide +kernel
theorem dX6_undo_36 : decode cX6_undo 36 = .ok (.iload_n 1, 1) := by decide +kernel
theorem dX6_undo_37 : decode cX6_undo 37 = .ok (.aload_n 0, 1) := by decide +kernel
theorem dX6_undo_38 : decode cX6_undo 38 = .ok (.getfield 38, 3) := by decide +kernel
theorem dX6_undo_41 : decode cX6_undo 41 = .ok (.iconst 5, 1) := by decide +kernel
theorem dX6_undo_42 : decode cX6_undo 42 = .ok (.aload_n 0, 1) := by decide +kernel
theorem dX6_undo_43 : decode cX6_undo 43 = .ok (.getfield 111, 3) := by decide +kernel
theorem dX6_undo_46 : decode cX6_undo 46 = .ok (.imul, 1) := by decide +kernel
theorem dX6_undo_47 : decode cX6_undo 47 = .ok (.iload_n 1, 1) := by decide +kernel
theorem dX6_undo_48 : decode cX6_undo 48 = .ok (.iadd, 1) := by decide +kernel
theorem dX6_undo_49 : decode cX6_undo 49 = .ok (.iaload, 1) := by decide +kernel
theorem dX6_undo_50 : decode cX6_undo 50 = .ok (.iastore, 1) := by decide +kernel
theorem dX6_undo_51 : decode cX6_undo 51 = .ok (.iinc 1 1, 3) := by decide +kernel
theorem dX6_undo_54 : decode cX6_undo 54 = .ok (.goto (-27), 3) := by decide +kernel
theorem dX6_undo_57 : decode cX6_undo 57 = .ok (.aload_n 0, 1) := by decide +kernel
theorem dX6_undo_58 : decode cX6_undo 58 = .ok (.getfield 111, 3) := by decide +kernel
theorem dX6_undo_61 : decode cX6_undo 61 = .ok (.ireturn, 1) := by decide +kernel
theorem dX6_gcd_0 : decode cX6_gcd 0 = .ok (.iload_n 0, 1) := by decide +kernel
theorem dX6_gcd_1 : decode cX6_gcd 1 = .ok (.ifCond .ge 8, 3) := by decide +kernel
theorem dX6_gcd_4 : decode cX6_gcd 4 = .ok (.iload_n 0, 1) := by decide +kernel
theorem dX6_gcd_5 : decode cX6_gcd 5 = .ok (.ineg, 1) := by decide +kernel
theorem dX6_gcd_6 : decode cX6_gcd 6 = .ok (.goto 4, 3) := by decide +kernel
theorem dX6_gcd_9 : decode cX6_gcd 9 = .ok (.iload_n 0, 1) := by decide +kernel
theorem dX6_gcd_10 : decode cX6_gcd 10 = .ok (.istore_n 2, 1) := by decide +kernel
theorem dX6_gcd_11 : decode cX6_gcd 11 = .ok (.iload_n 1, 1) := by decide +kernel
theorem dX6_gcd_12 : decode cX6_gcd 12 = .ok (.istore_n 3, 1) := by decide +kernel
theorem dX6_gcd_13 : decode cX6_gcd 13 = .ok (.iload_n 3, 1) := by decide +kernel
theorem dX6_gcd_14 : decode cX6_gcd 14 = .ok (.ifCond .eq 16, 3) := by decide +kernel
theorem dX6_gcd_17 : decode cX6_gcd 17 = .ok (.iload_n 2, 1) := by decide +kernel
theorem dX6_gcd_18 : decode cX6_gcd 18 = .ok (.iload_n 3, 1) := by decide +kernel
theorem dX6_gcd_19 : decode cX6_gcd 19 = .ok (.irem, 1) := by decide +kernel
theorem dX6_gcd_20 : decode cX6_gcd 20 = .ok (.istore 4, 2) := by decide +kernel
theorem dX6_gcd_22 : decode cX6_gcd 22 = .ok (.iload_n 3, 1) := by decide +kernel
theorem dX6_gcd_23 : decode cX6_gcd 23 = .ok (.istore_n 2, 1) := by decide +kernel
theorem dX6_gcd_24 : decode cX6_gcd 24 = .ok (.iload 4, 2) := by decide +kernel
theorem dX6_gcd_26 : decode cX6_gcd 26 = .ok (.istore_n 3, 1) := by decide +kernel
theorem dX6_gcd_27 : decode cX6_gcd 27 = .ok (.goto (-14), 3) := by decide +kernel
theorem dX6_gcd_30 : decode cX6_gcd 30 = .ok (.iload_n 2, 1) := by decide +kernel
theorem dX6_gcd_31 : decode cX6_gcd 31 = .ok (.ireturn, 1) := by decide +kernel
set_option maxRecDepth 20000 in
theorem ggX6_part_X6_gcd : GoodIn wsX6_part wsX6_gcd := goodIn_r _ [4] (by decide +kernel) (by decide +kernel)
set_option maxRecDepth 20000 in
theorem gX6_part_X6_gcd : GoodIn wsX6_part (va_wsS RX6 167 yX6_gcd wsX6_gcd) := goodIn_app (goodIn_of _ (by decide +kernel)) ggX6_part_X6_gcd
theorem dX6_part_0 : decode cX6_part 0 = .ok (.iload_n 0, 1) := by decide +kernel
theorem dX6_part_1 : decode cX6_part 1 = .ok (.iload_n 1, 1) := by decide +kernel
theorem dX6_part_2 : decode cX6_part 2 = .ok (.invokestatic 167, 3) := by decide +kernel
theorem dX6_part_5 : decode cX6_part 5 = .ok (.istore_n 3, 1) := by decide +kernel
theorem dX6_part_6 : decode cX6_part 6 = .ok (.iload_n 2, 1) := by decide +kernel
theorem dX6_part_7 : decode cX6_part 7 = .ok (.ifCond .ne 9, 3) := by decide +kernel
theorem dX6_part_10 : decode cX6_part 10 = .ok (.iload_n 0, 1) := by decide +kernel
theorem dX6_part_11 : decode cX6_part 11 = .ok (.iload_n 3, 1) := by decide +kernel
theorem dX6_part_12 : decode cX6_part 12 = .ok (.idiv, 1) := by decide +kernel
theorem dX6_part_13 : decode cX6_part 13 = .ok (.goto 6, 3) := by decide +kernel
theorem dX6_part_16 : decode cX6_part 16 = .ok (.iload_n 1, 1) := by decide +kernel
theorem dX6_part_17 : decode cX6_part 17 = .ok (.iload_n 3, 1) := by decide +kernel
theorem dX6_part_18 : decode cX6_part 18 = .ok (.idiv, 1) := by decide +kernel
theorem dX6_part_19 : decode cX6_part 19 = .ok (.ireturn, 1) := by decide +kernel
set_option maxRecDepth 20000 in
theorem ggX6_harm_X6_in : GoodIn wsX6_harm wsX6_in := goodIn_r _ [8] (by decide +kernel) (by decide +kernel)
set_option maxRecDepth 20000 in
theorem gX6_harm_X6_in : GoodIn wsX6_harm (va_wsS RX6 57 yX6_in wsX6_in) := goodIn_app (goodIn_of _ (by decide +kernel)) ggX6_harm_X6_in
set_option maxRecDepth 20000 in
theorem ggX6_harm_X6_harms : GoodIn wsX6_harm wsX6_harms := goodIn_r _ [12, 3, 4, 13, 14, 15, 7, 16, 17, 18, 19, 20, 21, 22, 23, 24, 25, 26, 27, 28, 29, 30, 31, 32, 33, 34, 35, 36, 43, 44, 45, 46, 47, 48, 49, 50, 51, 52, 53, 54, 55, 56, 57, 58, 59, 60, 61, 62, 63, 64, 65, 66, 67, 68] (by decide +kernel) (by decide +kernel)
set_option maxRecDepth 20000 in
theorem gX6_harm_X6_harms : GoodIn wsX6_harm (wsV RX6 170 RX6 yX6_harms wsX6_harms) := goodIn_app (goodIn_of _ (by decide +kernel)) ggX6_harm_X6_harms
set_option maxRecDepth 20000 in
theorem ggX6_harm_X6_part : GoodIn wsX6_harm wsX6_part := goodIn_r _ [39, 40, 41, 7, 42] (by decide +kernel) (by decide +kernel)
set_option maxRecDepth 20000 in
theorem gX6_harm_X6_part : GoodIn wsX6_harm (va_wsS RX6 174 yX6_part wsX6_part) := goodIn_app (goodIn_of _ (by decide +kernel)) ggX6_harm_X6_part
theorem dX6_harm_0 : decode cX6_harm 0 = .ok (.aload_n 0, 1) := by decide +kernel
theorem dX6_harm_1 : decode cX6_harm 1 = .ok (.iconst 0, 1) := by decide +kernel
theorem dX6_harm_2 : decode cX6_harm 2 = .ok (.putfield 53, 3) := by decide +kernel
theorem dX6_harm_5 : decode cX6_harm 5 = .ok (.iload_n 1, 1) := by decide +kernel
theorem dX6_harm_6 : decode cX6_harm 6 = .ok (.iconst 0, 1) := by decide +kernel
theorem dX6_harm_7 : decode cX6_harm 7 = .ok (.iconst 1, 1) := by decide +kernel
theorem dX6_harm_8 : decode cX6_harm 8 = .ok (.invokestatic 57, 3) := by decide +kernel
theorem dX6_harm_11 : decode cX6_harm 11 = .ok (.ifCond .ne 5, 3) := by decide +kernel
theorem dX6_harm_14 : decode cX6_harm 14 = .ok (.iconst (-1), 1) := by decide +kernel
theorem dX6_harm_15 : decode cX6_harm 15 = .ok (.ireturn, 1) := by decide +kernel
theorem dX6_harm_16 : decode cX6_harm 16 = .ok (.aload_n 0, 1) := by decide +kernel
theorem dX6_harm_17 : decode cX6_harm 17 = .ok (.aload_n 0, 1) := by decide +kernel
theorem dX6_harm_18 : decode cX6_harm 18 = .ok (.getfield 25, 3) := by decide +kernel
theorem dX6_harm_21 : decode cX6_harm 21 = .ok (.invokevirtual 170, 3) := by decide +kernel
theorem dX6_harm_24 : decode cX6_harm 24 = .ok (.aload_n 0, 1) := by decide +kernel
theorem dX6_harm_25 : decode cX6_harm 25 = .ok (.getfield 129, 3) := by decide +kernel
theorem dX6_harm_28 : decode cX6_harm 28 = .ok (.aload_n 0, 1) := by decide +kernel
theorem dX6_harm_29 : decode cX6_harm 29 = .ok (.getfield 135, 3) := by decide +kernel
theorem dX6_harm_32 : decode cX6_harm 32 = .ok (.iload_n 1, 1) := by decide +kernel
theorem dX6_harm_33 : decode cX6_harm 33 = .ok (.invokestatic 174, 3) := by decide +kernel
theorem dX6_harm_36 : decode cX6_harm 36 = .ok (.ireturn, 1) := by decide +kernel
set_option maxRecDepth 20000 in
theorem ggX6_odds_X6_isThing : GoodIn wsX6_odds wsX6_isThing := goodIn_r _ [8, 9, 10, 11, 7, 12, 36, 37, 38, 39, 40, 41, 42, 43, 44, 45, 46, 47, 48, 49, 50, 51, 52, 53, 54, 55, 56, 57, 58, 59, 60, 61] (by decide +kernel) (by decide +kernel)
set_option maxRecDepth 20000 in
theorem gX6_odds_X6_isThing : GoodIn wsX6_odds (wsV RX6 138 RX6 yX6_isThing wsX6_isThing) := goodIn_app (goodIn_of _ (by decide +kernel)) ggX6_odds_X6_isThing
set_option maxRecDepth 20000 in
theorem ggX6_odds_X6_in : GoodIn wsX6_odds wsX6_in := goodIn_r _ [12] (by decide +kernel) (by decide +kernel)
set_option maxRecDepth 20000 in
theorem gX6_odds_X6_in : GoodIn wsX6_odds (va_wsS RX6 57 yX6_in wsX6_in) := goodIn_app (goodIn_of _ (by decide +kernel)) ggX6_odds_X6_in
set_option maxRecDepth 20000 in
theorem ggX6_odds_X6_comers : GoodIn wsX6_odds wsX6_comers := goodIn_r _ [16, 9, 3, 17, 18, 19, 7, 20, 21, 22, 23, 24, 25, 36, 37, 38, 39, 40, 41, 42, 43, 44, 45, 46, 47, 48, 49, 50, 51, 52, 53, 54, 55, 56, 57, 58, 59, 60, 61] (by decide +kernel) (by decide +kernel)
set_option maxRecDepth 20000 in
theorem gX6_odds_X6_comers : GoodIn wsX6_odds (wsV RX6 122 RX6 yX6_comers wsX6_comers) := goodIn_app (goodIn_of _ (by decide +kernel)) ggX6_odds_X6_comers
set_option maxRecDepth 20000 in
theorem ggX6_odds_X6_eagerOf : GoodIn wsX6_odds wsX6_eagerOf := goodIn_r _ [29, 9, 3, 36, 37, 38, 39, 40, 41, 42, 43, 44, 45, 46, 47, 48, 49, 50, 51, 52, 53, 54, 55, 56, 57, 58, 59, 60, 61] (by decide +kernel) (by decide +kernel)
set_option maxRecDepth 20000 in
theorem gX6_odds_X6_eagerOf : GoodIn wsX6_odds (wsV RX6 132 RX6 yX6_eagerOf wsX6_eagerOf) := goodIn_app (goodIn_of _ (by decide +kernel)) ggX6_odds_X6_eagerOf
set_option maxRecDepth 20000 in
theorem ggX6_odds_X6_part : GoodIn wsX6_odds wsX6_part := goodIn_r _ [32, 33, 34, 7, 35] (by decide +kernel) (by decide +kernel)
set_option maxRecDepth 20000 in
theorem gX6_odds_X6_part : GoodIn wsX6_odds (va_wsS RX6 174 yX6_part wsX6_part) := goodIn_app (goodIn_of _ (by decide +kernel)) ggX6_odds_X6_part
theorem dX6_odds_0 : decode cX6_odds 0 = .ok (.aload_n 0, 1) := by decide +kernel
theorem dX6_odds_1 : decode cX6_odds 1 = .ok (.iconst 0, 1) := by decide +kernel
theorem dX6_odds_2 : decode cX6_odds 2 = .ok (.putfield 53, 3) := by decide +kernel
theorem dX6_odds_5 : decode cX6_odds 5 = .ok (.aload_n 0, 1) := by decide +kernel
theorem dX6_odds_6 : decode cX6_odds 6 = .ok (.iload_n 1, 1) := by decide +kernel
theorem dX6_odds_7 : decode cX6_odds 7 = .ok (.invokevirtual 138, 3) := by decide +kernel
theorem dX6_odds_10 : decode cX6_odds 10 = .ok (.ifCond .eq 12, 3) := by decide +kernel
theorem dX6_odds_13 : decode cX6_odds 13 = .ok (.iload_n 2, 1) := by decide +kernel
theorem dX6_odds_14 : decode cX6_odds 14 = .ok (.iconst 0, 1) := by decide +kernel
theorem dX6_odds_15 : decode cX6_odds 15 = .ok (.iconst 1, 1) := by decide +kernel
theorem dX6_odds_16 : decode cX6_odds 16 = .ok (.invokestatic 57, 3) := by decide +kernel
theorem dX6_odds_19 : decode cX6_odds 19 = .ok (.ifCond .ne 5, 3) := by decide +kernel
theorem dX6_odds_22 : decode cX6_odds 22 = .ok (.iconst (-1), 1) := by decide +kernel
theorem dX6_odds_23 : decode cX6_odds 23 = .ok (.ireturn, 1) := by decide +kernel
theorem dX6_odds_24 : decode cX6_odds 24 = .ok (.aload_n 0, 1) := by decide +kernel
theorem dX6_odds_25 : decode cX6_odds 25 = .ok (.aload_n 0, 1) := by decide +kernel
theorem dX6_odds_26 : decode cX6_odds 26 = .ok (.getfield 25, 3) := by decide +kernel
theorem dX6_odds_29 : decode cX6_odds 29 = .ok (.invokevirtual 122, 3) := by decide +kernel
theorem dX6_odds_32 : decode cX6_odds 32 = .ok (.iload_n 1, 1) := by decide +kernel
theorem dX6_odds_33 : decode cX6_odds 33 = .ok (.ishr, 1) := by decide +kernel
theorem dX6_odds_34 : decode cX6_odds 34 = .ok (.iconst 1, 1) := by decide +kernel
theorem dX6_odds_35 : decode cX6_odds 35 = .ok (.iand, 1) := by decide +kernel
theorem dX6_odds_36 : decode cX6_odds 36 = .ok (.iconst 1, 1) := by decide +kernel
theorem dX6_odds_37 : decode cX6_odds 37 = .ok (.if_icmp .ne 7, 3) := by decide +kernel
theorem dX6_odds_40 : decode cX6_odds 40 = .ok (.iconst 1, 1) := by decide +kernel
theorem dX6_odds_41 : decode cX6_odds 41 = .ok (.goto 4, 3) := by decide +kernel
theorem dX6_odds_44 : decode cX6_odds 44 = .ok (.iconst 0, 1) := by decide +kernel
theorem dX6_odds_45 : decode cX6_odds 45 = .ok (.istore_n 3, 1) := by decide +kernel
theorem dX6_odds_46 : decode cX6_odds 46 = .ok (.iload_n 3, 1) := by decide +kernel
theorem dX6_odds_47 : decode cX6_odds 47 = .ok (.ifCond .eq 28, 3) := by decide +kernel
theorem dX6_odds_50 : decode cX6_odds 50 = .ok (.aload_n 0, 1) := by decide +kernel
theorem dX6_odds_51 : decode cX6_odds 51 = .ok (.getfield 22, 3) := by decide +kernel
theorem dX6_odds_54 : decode cX6_odds 54 = .ok (.iload_n 1, 1) := by decide +kernel
theorem dX6_odds_55 : decode cX6_odds 55 = .ok (.iaload, 1) := by decide +kernel
theorem dX6_odds_56 : decode cX6_odds 56 = .ok (.aload_n 0, 1) := by decide +kernel
theorem dX6_odds_57 : decode cX6_odds 57 = .ok (.aload_n 0, 1) := by decide +kernel
theorem dX6_odds_58 : decode cX6_odds 58 = .ok (.aload_n 0, 1) := by decide +kernel
theorem dX6_odds_59 : decode cX6_odds 59 = .ok (.getfield 25, 3) := by decide +kernel
theorem dX6_odds_62 : decode cX6_odds 62 = .ok (.invokevirtual 122, 3) := by decide +kernel
theorem dX6_odds_65 : decode cX6_odds 65 = .ok (.invokevirtual 132, 3) := by decide +kernel
theorem dX6_odds_68 : decode cX6_odds 68 = .ok (.iload_n 2, 1) := by decide +kernel
theorem dX6_odds_69 : decode cX6_odds 69 = .ok (.invokestatic 174, 3) := by decide +kernel
theorem dX6_odds_72 : decode cX6_odds 72 = .ok (.goto 4, 3) := by decide +kernel
theorem dX6_odds_75 : decode cX6_odds 75 = .ok (.iload_n 2, 1) := by decide +kernel
theorem dX6_odds_76 : decode cX6_odds 76 = .ok (.ireturn, 1) := by decide +kernel
set_option maxRecDepth 20000 in
theorem ggX6_swear_X6_in : GoodIn wsX6_swear wsX6_in := goodIn_r _ [10] (by decide +kernel) (by decide +kernel)
set_option maxRecDepth 20000 in
theorem gX6_swear_X6_in : GoodIn wsX6_swear (va_wsS RX6 57 yX6_in wsX6_in) := goodIn_app (goodIn_of _ (by decide +kernel)) ggX6_swear_X6_in
set_option maxRecDepth 20000 in
theorem ggX6_swear_X6_harms : GoodIn wsX6_swear wsX6_harms := goodIn_r _ [14, 6, 5, 15, 16, 17, 9, 18, 4, 19, 20, 21, 22, 23, 24, 25, 26, 27, 28, 29, 30, 31, 32, 33, 34, 35, 36, 37, 44, 45, 46, 47, 48, 49, 50, 51, 52, 53, 54, 55, 56, 57, 58, 59, 60, 61, 62, 63, 64, 65, 66, 67, 68, 69] (by decide +kernel) (by decide +kernel)
set_option maxRecDepth 20000 in
theorem gX6_swear_X6_harms : GoodIn wsX6_swear (wsV RX6 170 RX6 yX6_harms wsX6_harms) := goodIn_app (goodIn_of _ (by decide +kernel)) ggX6_swear_X6_harms
set_option maxRecDepth 20000 in
theorem ggX6_swear_X6_part : GoodIn wsX6_swear wsX6_part := goodIn_r _ [40, 41, 42, 9, 43] (by decide +kernel) (by decide +kernel)
set_option maxRecDepth 20000 in
theorem gX6_swear_X6_part : GoodIn wsX6_swear (va_wsS RX6 174 yX6_part wsX6_part) := goodIn_app (goodIn_of _ (by decide +kernel)) ggX6_swear_X6_part
theorem dX6_swear_0 : decode cX6_swear 0 = .ok (.aload_n 0, 1) := by decide +kernel
theorem dX6_swear_1 : decode cX6_swear 1 = .ok (.iconst 0, 1) := by decide +kernel
theorem dX6_swear_2 : decode cX6_swear 2 = .ok (.putfield 53, 3) := by decide +kernel
theorem dX6_swear_5 : decode cX6_swear 5 = .ok (.iload_n 1, 1) := by decide +kernel
theorem dX6_swear_6 : decode cX6_swear 6 = .ok (.iconst 0, 1) := by decide +kernel
theorem dX6_swear_7 : decode cX6_swear 7 = .ok (.iconst 1, 1) := by decide +kernel
theorem dX6_swear_8 : decode cX6_swear 8 = .ok (.invokestatic 57, 3) := by decide +kernel
theorem dX6_swear_11 : decode cX6_swear 11 = .ok (.ifCond .ne 6, 3) := by decide +kernel
theorem dX6_swear_14 : decode cX6_swear 14 = .ok (.ldc 177, 2) := by decide +kernel
theorem dX6_swear_16 : decode cX6_swear 16 = .ok (.ireturn, 1) := by decide +kernel
theorem dX6_swear_17 : decode cX6_swear 17 = .ok (.aload_n 0, 1) := by decide +kernel
theorem dX6_swear_18 : decode cX6_swear 18 = .ok (.aload_n 0, 1) := by decide +kernel
theorem dX6_swear_19 : decode cX6_swear 19 = .ok (.getfield 25, 3) := by decide +kernel
theorem dX6_swear_22 : decode cX6_swear 22 = .ok (.invokevirtual 170, 3) := by decide +kernel
theorem dX6_swear_25 : decode cX6_swear 25 = .ok (.aload_n 0, 1) := by decide +kernel
theorem dX6_swear_26 : decode cX6_swear 26 = .ok (.getfield 13, 3) := by decide +kernel
theorem dX6_swear_29 : decode cX6_swear 29 = .ok (.iconst 2, 1) := by decide +kernel
theorem dX6_swear_30 : decode cX6_swear 30 = .ok (.iaload, 1) := by decide +kernel
theorem dX6_swear_31 : decode cX6_swear 31 = .ok (.aload_n 0, 1) := by decide +kernel
theorem dX6_swear_32 : decode cX6_swear 32 = .ok (.getfield 13, 3) := by decide +kernel
theorem dX6_swear_35 : decode cX6_swear 35 = .ok (.iconst 3, 1) := by decide +kernel
theorem dX6_swear_36 : decode cX6_swear 36 = .ok (.iaload, 1) := by decide +kernel
theorem dX6_swear_37 : decode cX6_swear 37 = .ok (.imul, 1) := by decide +kernel
theorem dX6_swear_38 : decode cX6_swear 38 = .ok (.aload_n 0, 1) := by decide +kernel
theorem dX6_swear_39 : decode cX6_swear 39 = .ok (.getfield 135, 3) := by decide +kernel
theorem dX6_swear_42 : decode cX6_swear 42 = .ok (.imul, 1) := by decide +kernel
theorem dX6_swear_43 : decode cX6_swear 43 = .ok (.aload_n 0, 1) := by decide +kernel
theorem dX6_swear_44 : decode cX6_swear 44 = .ok (.getfield 13, 3) := by decide +kernel
theorem dX6_swear_47 : decode cX6_swear 47 = .ok (.iconst 1, 1) := by decide +kernel
theorem dX6_swear_48 : decode cX6_swear 48 = .ok (.iaload, 1) := by decide +kernel
theorem dX6_swear_49 : decode cX6_swear 49 = .ok (.aload_n 0, 1) := by decide +kernel
theorem dX6_swear_50 : decode cX6_swear 50 = .ok (.getfield 13, 3) := by decide +kernel
theorem dX6_swear_53 : decode cX6_swear 53 = .ok (.iconst 2, 1) := by decide +kernel
theorem dX6_swear_54 : decode cX6_swear 54 = .ok (.iaload, 1) := by decide +kernel
theorem dX6_swear_55 : decode cX6_swear 55 = .ok (.iadd, 1) := by decide +kernel
theorem dX6_swear_56 : decode cX6_swear 56 = .ok (.aload_n 0, 1) := by decide +kernel
theorem dX6_swear_57 : decode cX6_swear 57 = .ok (.getfield 129, 3) := by decide +kernel
theorem dX6_swear_60 : decode cX6_swear 60 = .ok (.imul, 1) := by decide +kernel
theorem dX6_swear_61 : decode cX6_swear 61 = .ok (.isub, 1) := by decide +kernel
theorem dX6_swear_62 : decode cX6_swear 62 = .ok (.istore_n 2, 1) := by decide +kernel
theorem dX6_swear_63 : decode cX6_swear 63 = .ok (.iload_n 2, 1) := by decide +kernel
theorem dX6_swear_64 : decode cX6_swear 64 = .ok (.bipush 10, 2) := by decide +kernel
theorem dX6_swear_66 : decode cX6_swear 66 = .ok (.aload_n 0, 1) := by decide +kernel
theorem dX6_swear_67 : decode cX6_swear 67 = .ok (.getfield 135, 3) := by decide +kernel
theorem dX6_swear_70 : decode cX6_swear 70 = .ok (.imul, 1) := by decide +kernel
theorem dX6_swear_71 : decode cX6_swear 71 = .ok (.iload_n 1, 1) := by decide +kernel
theorem dX6_swear_72 : decode cX6_swear 72 = .ok (.invokestatic 174, 3) := by decide +kernel
theorem dX6_swear_75 : decode cX6_swear 75 = .ok (.ireturn, 1) := by decide +kernel
set_option maxRecDepth 20000 in
theorem ggX6_sense_X6_in : GoodIn wsX6_sense wsX6_in := goodIn_r _ [8] (by decide +kernel) (by decide +kernel)
set_option maxRecDepth 20000 in
theorem gX6_sense_X6_in : GoodIn wsX6_sense (va_wsS RX6 57 yX6_in wsX6_in) := goodIn_app (goodIn_of _ (by decide +kernel)) ggX6_sense_X6_in
set_option maxRecDepth 20000 in
theorem ggX6_sense_X6_ones : GoodIn wsX6_sense wsX6_ones := goodIn_r _ [11] (by decide +kernel) (by decide +kernel)
set_option maxRecDepth 20000 in
theorem gX6_sense_X6_ones : GoodIn wsX6_sense (va_wsS RX6 145 yX6_ones wsX6_ones) := goodIn_app (goodIn_of _ (by decide +kernel)) ggX6_sense_X6_ones
theorem dX6_sense_0 : decode cX6_sense 0 = .ok (.aload_n 0, 1) := by decide +kernel
theorem dX6_sense_1 : decode cX6_sense 1 = .ok (.iconst 0, 1) := by decide +kernel
theorem dX6_sense_2 : decode cX6_sense 2 = .ok (.putfield 53, 3) := by decide +kernel
theorem dX6_sense_5 : decode cX6_sense 5 = .ok (.iload_n 1, 1) := by decide +kernel
theorem dX6_sense_6 : decode cX6_sense 6 = .ok (.iconst 0, 1) := by decide +kernel
theorem dX6_sense_7 : decode cX6_sense 7 = .ok (.iconst 5, 1) := by decide +kernel
theorem dX6_sense_8 : decode cX6_sense 8 = .ok (.invokestatic 57, 3) := by decide +kernel
theorem dX6_sense_11 : decode cX6_sense 11 = .ok (.ifCond .ne 5, 3) := by decide +kernel
theorem dX6_sense_14 : decode cX6_sense 14 = .ok (.iconst (-1), 1) := by decide +kernel
theorem dX6_sense_15 : decode cX6_sense 15 = .ok (.ireturn, 1) := by decide +kernel
theorem dX6_sense_16 : decode cX6_sense 16 = .ok (.iconst 0, 1) := by decide +kernel
theorem dX6_sense_17 : decode cX6_sense 17 = .ok (.istore_n 2, 1) := by decide +kernel
theorem dX6_sense_18 : decode cX6_sense 18 = .ok (.iconst 0, 1) := by decide +kernel
theorem dX6_sense_19 : decode cX6_sense 19 = .ok (.istore_n 3, 1) := by decide +kernel
theorem dX6_sense_20 : decode cX6_sense 20 = .ok (.iload_n 3, 1) := by decide +kernel
theorem dX6_sense_21 : decode cX6_sense 21 = .ok (.aload_n 0, 1) := by decide +kernel
theorem dX6_sense_22 : decode cX6_sense 22 = .ok (.getfield 13, 3) := by decide +kernel
theorem dX6_sense_25 : decode cX6_sense 25 = .ok (.iconst 0, 1) := by decide +kernel
theorem dX6_sense_26 : decode cX6_sense 26 = .ok (.iaload, 1) := by decide +kernel
theorem dX6_sense_27 : decode cX6_sense 27 = .ok (.if_icmp .ge 39, 3) := by decide +kernel
theorem dX6_sense_30 : decode cX6_sense 30 = .ok (.iload_n 2, 1) := by decide +kernel
theorem dX6_sense_31 : decode cX6_sense 31 = .ok (.aload_n 0, 1) := by decide +kernel
theorem dX6_sense_32 : decode cX6_sense 32 = .ok (.getfield 16, 3) := by decide +kernel
theorem dX6_sense_35 : decode cX6_sense 35 = .ok (.iload_n 3, 1) := by decide +kernel
theorem dX6_sense_36 : decode cX6_sense 36 = .ok (.iaload, 1) := by decide +kernel
theorem dX6_sense_37 : decode cX6_sense 37 = .ok (.aload_n 0, 1) := by decide +kernel
theorem dX6_sense_38 : decode cX6_sense 38 = .ok (.getfield 25, 3) := by decide +kernel
theorem dX6_sense_41 : decode cX6_sense 41 = .ok (.iconst 1, 1) := by decide +kernel
theorem dX6_sense_42 : decode cX6_sense 42 = .ok (.iaload, 1) := by decide +kernel
theorem dX6_sense_43 : decode cX6_sense 43 = .ok (.iand, 1) := by decide +kernel
theorem dX6_sense_44 : decode cX6_sense 44 = .ok (.invokestatic 145, 3) := by decide +kernel
theorem dX6_sense_47 : decode cX6_sense 47 = .ok (.iload_n 1, 1) := by decide +kernel
theorem dX6_sense_48 : decode cX6_sense 48 = .ok (.if_icmp .lt 9, 3) := by decide +kernel
theorem dX6_sense_51 : decode cX6_sense 51 = .ok (.iconst 1, 1) := by decide +kernel
theorem dX6_sense_52 : decode cX6_sense 52 = .ok (.iload_n 3, 1) := by decide +kernel
theorem dX6_sense_53 : decode cX6_sense 53 = .ok (.ishl, 1) := by decide +kernel
theorem dX6_sense_54 : decode cX6_sense 54 = .ok (.goto 4, 3) := by decide +kernel
theorem dX6_sense_57 : decode cX6_sense 57 = .ok (.iconst 0, 1) := by decide +kernel
theorem dX6_sense_58 : decode cX6_sense 58 = .ok (.ior, 1) := by decide +kernel
theorem dX6_sense_59 : decode cX6_sense 59 = .ok (.istore_n 2, 1) := by decide +kernel
theorem dX6_sense_60 : decode cX6_sense 60 = .ok (.iinc 3 1, 3) := by decide +kernel
theorem dX6_sense_63 : decode cX6_sense 63 = .ok (.goto (-43), 3) := by decide +kernel
theorem dX6_sense_66 : decode cX6_sense 66 = .ok (.iload_n 2, 1) := by decide +kernel
theorem dX6_sense_67 : decode cX6_sense 67 = .ok (.aload_n 0, 1) := by decide +kernel
theorem dX6_sense_68 : decode cX6_sense 68 = .ok (.getfield 25, 3) := by decide +kernel
theorem dX6_sense_71 : decode cX6_sense 71 = .ok (.iconst 4, 1) := by decide +kernel
theorem dX6_sense_72 : decode cX6_sense 72 = .ok (.iaload, 1) := by decide +kernel
theorem dX6_sense_73 : decode cX6_sense 73 = .ok (.iconst (-1), 1) := by decide +kernel
theorem dX6_sense_74 : decode cX6_sense 74 = .ok (.ixor, 1) := by decide +kernel
theorem dX6_sense_75 : decode cX6_sense 75 = .ok (.iand, 1) := by decide +kernel
theorem dX6_sense_76 : decode cX6_sense 76 = .ok (.ireturn, 1) := by decide +kernel
theorem dX6_asNow_0 : decode cX6_asNow 0 = .ok (.iconst 0, 1) := by decide +kernel
theorem dX6_asNow_1 : decode cX6_asNow 1 = .ok (.istore_n 1, 1) := by decide +kernel
theorem dX6_asNow_2 : decode cX6_asNow 2 = .ok (.iload_n 1, 1) := by decide +kernel
theorem dX6_asNow_3 : decode cX6_asNow 3 = .ok (.iconst 5, 1) := by decide +kernel
theorem dX6_asNow_4 : decode cX6_asNow 4 = .ok (.if_icmp .ge 21, 3) := by decide +kernel
theorem dX6_asNow_7 : decode cX6_asNow 7 = .ok (.aload_n 0, 1) := by decide +kernel
theorem dX6_asNow_8 : decode cX6_asNow 8 = .ok (.getfield 28, 3) := by decide +kernel
theorem dX6_asNow_11 : decode cX6_asNow 11 = .ok (.iload_n 1, 1) := by decide +kernel
theorem dX6_asNow_12 : decode cX6_asNow 12 = .ok (.aload_n 0, 1) := by decide +kernel
theorem dX6_asNow_13 : decode cX6_asNow 13 = .ok (.getfield 25, 3) := by decide +kernel
theorem dX6_asNow_16 : decode cX6_asNow 16 = .ok (.iload_n 1, 1) := by decide +kernel
theorem dX6_asNow_17 : decode cX6_asNow 17 = .ok (.iaload, 1) := by decide +kernel
theorem dX6_asNow_18 : decode cX6_asNow 18 = .ok (.iastore, 1) := by decide +kernel
theorem dX6_asNow_19 : decode cX6_asNow 19 = .ok (.iinc 1 1, 3) := by decide +kernel
theorem dX6_asNow_22 : decode cX6_asNow 22 = .ok (.goto (-20), 3) := by decide +kernel
theorem dX6_asNow_25 : decode cX6_asNow 25 = .ok (.return_, 1) := by decide +kernel
set_option maxRecDepth 20000 in
theorem ggX6_both_X6_in : GoodIn wsX6_both wsX6_in := goodIn_r _ [7] (by decide +kernel) (by decide +kernel)
set_option maxRecDepth 20000 in
theorem gX6_both_X6_in : GoodIn wsX6_both (va_wsS RX6 57 yX6_in wsX6_in) := goodIn_app (goodIn_of _ (by decide +kernel)) ggX6_both_X6_in
set_option maxRecDepth 20000 in
theorem ggX6_both_X6_asNow : GoodIn wsX6_both wsX6_asNow := goodIn_r _ [11, 2, 3, 22, 23, 24, 25, 26, 27, 28, 29, 30, 31, 32, 33, 34, 35, 36, 37, 38, 39, 40, 41, 42, 43, 44, 45, 46, 47] (by decide +kernel) (by decide +kernel)
set_option maxRecDepth 20000 in
theorem gX6_both_X6_asNow : GoodIn wsX6_both (wsV RX6 178 RX6 yX6_asNow wsX6_asNow) := goodIn_app (goodIn_of _ (by decide +kernel)) ggX6_both_X6_asNow
set_option maxRecDepth 20000 in
theorem ggX6_both_X6_covered : GoodIn wsX6_both wsX6_covered := goodIn_r _ [15, 16, 17, 18, 19, 6, 20, 21, 22, 23, 24, 25, 26, 27, 28, 29, 30, 31, 32, 33, 34, 35, 36, 37, 38, 39, 40, 41, 42, 43, 44, 45, 46, 47] (by decide +kernel) (by decide +kernel)
set_option maxRecDepth 20000 in
theorem gX6_both_X6_covered : GoodIn wsX6_both (wsV RX6 118 RX6 yX6_covered wsX6_covered) := goodIn_app (goodIn_of _ (by decide +kernel)) ggX6_both_X6_covered
theorem dX6_both_0 : decode cX6_both 0 = .ok (.aload_n 0, 1) := by decide +kernel
theorem dX6_both_1 : decode cX6_both 1 = .ok (.iconst 0, 1) := by decide +kernel
theorem dX6_both_2 : decode cX6_both 2 = .ok (.putfield 53, 3) := by decide +kernel
theorem dX6_both_5 : decode cX6_both 5 = .ok (.iload_n 1, 1) := by decide +kernel
theorem dX6_both_6 : decode cX6_both 6 = .ok (.iconst 0, 1) := by decide +kernel
theorem dX6_both_7 : decode cX6_both 7 = .ok (.bipush 31, 2) := by decide +kernel
theorem dX6_both_9 : decode cX6_both 9 = .ok (.invokestatic 57, 3) := by decide +kernel
theorem dX6_both_12 : decode cX6_both 12 = .ok (.ifCond .ne 5, 3) := by decide +kernel
theorem dX6_both_15 : decode cX6_both 15 = .ok (.iconst (-1), 1) := by decide +kernel
theorem dX6_both_16 : decode cX6_both 16 = .ok (.ireturn, 1) := by decide +kernel
theorem dX6_both_17 : decode cX6_both 17 = .ok (.aload_n 0, 1) := by decide +kernel
theorem dX6_both_18 : decode cX6_both 18 = .ok (.invokevirtual 178, 3) := by decide +kernel
theorem dX6_both_21 : decode cX6_both 21 = .ok (.aload_n 0, 1) := by decide +kernel
theorem dX6_both_22 : decode cX6_both 22 = .ok (.getfield 28, 3) := by decide +kernel
theorem dX6_both_25 : decode cX6_both 25 = .ok (.iconst 1, 1) := by decide +kernel
theorem dX6_both_26 : decode cX6_both 26 = .ok (.iload_n 1, 1) := by decide +kernel
theorem dX6_both_27 : decode cX6_both 27 = .ok (.iastore, 1) := by decide +kernel
theorem dX6_both_28 : decode cX6_both 28 = .ok (.aload_n 0, 1) := by decide +kernel
theorem dX6_both_29 : decode cX6_both 29 = .ok (.aload_n 0, 1) := by decide +kernel
theorem dX6_both_30 : decode cX6_both 30 = .ok (.getfield 25, 3) := by decide +kernel
theorem dX6_both_33 : decode cX6_both 33 = .ok (.invokevirtual 118, 3) := by decide +kernel
theorem dX6_both_36 : decode cX6_both 36 = .ok (.aload_n 0, 1) := by decide +kernel
theorem dX6_both_37 : decode cX6_both 37 = .ok (.aload_n 0, 1) := by decide +kernel
theorem dX6_both_38 : decode cX6_both 38 = .ok (.getfield 28, 3) := by decide +kernel
theorem dX6_both_41 : decode cX6_both 41 = .ok (.invokevirtual 118, 3) := by decide +kernel
theorem dX6_both_44 : decode cX6_both 44 = .ok (.iand, 1) := by decide +kernel
theorem dX6_both_45 : decode cX6_both 45 = .ok (.ireturn, 1) := by decide +kernel
set_option maxRecDepth 20000 in
theorem ggX6_means_X6_everything : GoodIn wsX6_means wsX6_everything := goodIn_r _ [7, 8, 34, 35, 36, 37, 38, 39, 40, 41, 42, 43, 44, 45, 46, 47, 48, 49, 50, 51, 52, 53, 54, 55, 56, 57, 58, 59] (by decide +kernel) (by decide +kernel)
set_option maxRecDepth 20000 in
theorem gX6_means_X6_everything : GoodIn wsX6_means (wsV RX6 181 RX6 yX6_everything wsX6_everything) := goodIn_app (goodIn_of _ (by decide +kernel)) ggX6_means_X6_everything
set_option maxRecDepth 20000 in
theorem ggX6_means_X6_in : GoodIn wsX6_means wsX6_in := goodIn_r _ [11] (by decide +kernel) (by decide +kernel)
set_option maxRecDepth 20000 in
theorem gX6_means_X6_in : GoodIn wsX6_means (va_wsS RX6 57 yX6_in wsX6_in) := goodIn_app (goodIn_of _ (by decide +kernel)) ggX6_means_X6_in
set_option maxRecDepth 20000 in
theorem ggX6_means_X6_asNow : GoodIn wsX6_means wsX6_asNow := goodIn_r _ [15, 2, 16, 34, 35, 36, 37, 38, 39, 40, 41, 42, 43, 44, 45, 46, 47, 48, 49, 50, 51, 52, 53, 54, 55, 56, 57, 58, 59] (by decide +kernel) (by decide +kernel)
set_option maxRecDepth 20000 in
theorem gX6_means_X6_asNow : GoodIn wsX6_means (wsV RX6 178 RX6 yX6_asNow wsX6_asNow) := goodIn_app (goodIn_of _ (by decide +kernel)) ggX6_means_X6_asNow
set_option maxRecDepth 20000 in
theorem ggX6_means_X6_comers : GoodIn wsX6_means wsX6_comers := goodIn_r _ [20, 8, 21, 22, 23, 24, 6, 25, 26, 27, 28, 29, 30, 34, 35, 36, 37, 38, 39, 40, 41, 42, 43, 44, 45, 46, 47, 48, 49, 50, 51, 52, 53, 54, 55, 56, 57, 58, 59] (by decide +kernel) (by decide +kernel)
set_option maxRecDepth 20000 in
theorem gX6_means_X6_comers : GoodIn wsX6_means (wsV RX6 122 RX6 yX6_comers wsX6_comers) := goodIn_app (goodIn_of _ (by decide +kernel)) ggX6_means_X6_comers
set_option maxRecDepth 20000 in
theorem ggX6_means_X6_covered : GoodIn wsX6_means wsX6_covered := goodIn_r _ [25, 8, 26, 27, 28, 6, 29, 30, 34, 35, 36, 37, 38, 39, 40, 41, 42, 43, 44, 45, 46, 47, 48, 49, 50, 51, 52, 53, 54, 55, 56, 57, 58, 59] (by decide +kernel) (by decide +kernel)
set_option maxRecDepth 20000 in
theorem gX6_means_X6_covered : GoodIn wsX6_means (wsV RX6 118 RX6 yX6_covered wsX6_covered) := goodIn_app (goodIn_of _ (by decide +kernel)) ggX6_means_X6_covered
set_option maxRecDepth 20000 in
theorem ggX6_means_X6_ones : GoodIn wsX6_means wsX6_ones := goodIn_r _ [33] (by decide +kernel) (by decide +kernel)
set_option maxRecDepth 20000 in
theorem gX6_means_X6_ones : GoodIn wsX6_means (va_wsS RX6 145 yX6_ones wsX6_ones) := goodIn_app (goodIn_of _ (by decide +kernel)) ggX6_means_X6_ones
theorem dX6_means_0 : decode cX6_means 0 = .ok (.aload_n 0, 1) := by decide +kernel
theorem dX6_means_1 : decode cX6_means 1 = .ok (.iconst 0, 1) := by decide +kernel
theorem dX6_means_2 : decode cX6_means 2 = .ok (.putfield 53, 3) := by decide +kernel
theorem dX6_means_5 : decode cX6_means 5 = .ok (.iload_n 1, 1) := by decide +kernel
theorem dX6_means_6 : decode cX6_means 6 = .ok (.iconst 0, 1) := by decide +kernel
theorem dX6_means_7 : decode cX6_means 7 = .ok (.aload_n 0, 1) := by decide +kernel
theorem dX6_means_8 : decode cX6_means 8 = .ok (.invokevirtual 181, 3) := by decide +kernel
theorem dX6_means_11 : decode cX6_means 11 = .ok (.invokestatic 57, 3) := by decide +kernel
theorem dX6_means_14 : decode cX6_means 14 = .ok (.ifCond .ne 5, 3) := by decide +kernel
theorem dX6_means_17 : decode cX6_means 17 = .ok (.iconst (-1), 1) := by decide +kernel
theorem dX6_means_18 : decode cX6_means 18 = .ok (.ireturn, 1) := by decide +kernel
theorem dX6_means_19 : decode cX6_means 19 = .ok (.aload_n 0, 1) := by decide +kernel
theorem dX6_means_20 : decode cX6_means 20 = .ok (.invokevirtual 178, 3) := by decide +kernel
theorem dX6_means_23 : decode cX6_means 23 = .ok (.bipush (-9), 2) := by decide +kernel
theorem dX6_means_25 : decode cX6_means 25 = .ok (.istore_n 2, 1) := by decide +kernel
theorem dX6_means_26 : decode cX6_means 26 = .ok (.iconst 0, 1) := by decide +kernel
theorem dX6_means_27 : decode cX6_means 27 = .ok (.istore_n 3, 1) := by decide +kernel
theorem dX6_means_28 : decode cX6_means 28 = .ok (.iload_n 3, 1) := by decide +kernel
theorem dX6_means_29 : decode cX6_means 29 = .ok (.bipush 32, 2) := by decide +kernel
theorem dX6_means_31 : decode cX6_means 31 = .ok (.if_icmp .ge 84, 3) := by decide +kernel
theorem dX6_means_34 : decode cX6_means 34 = .ok (.aload_n 0, 1) := by decide +kernel
theorem dX6_means_35 : decode cX6_means 35 = .ok (.getfield 28, 3) := by decide +kernel
theorem dX6_means_38 : decode cX6_means 38 = .ok (.iconst 1, 1) := by decide +kernel
theorem dX6_means_39 : decode cX6_means 39 = .ok (.iload_n 3, 1) := by decide +kernel
theorem dX6_means_40 : decode cX6_means 40 = .ok (.iastore, 1) := by decide +kernel
theorem dX6_means_41 : decode cX6_means 41 = .ok (.aload_n 0, 1) := by decide +kernel
theorem dX6_means_42 : decode cX6_means 42 = .ok (.aload_n 0, 1) := by decide +kernel
theorem dX6_means_43 : decode cX6_means 43 = .ok (.getfield 28, 3) := by decide +kernel
theorem dX6_means_46 : decode cX6_means 46 = .ok (.invokevirtual 122, 3) := by decide +kernel
theorem dX6_means_49 : decode cX6_means 49 = .ok (.aload_n 0, 1) := by decide +kernel
theorem dX6_means_50 : decode cX6_means 50 = .ok (.aload_n 0, 1) := by decide +kernel
theorem dX6_means_51 : decode cX6_means 51 = .ok (.getfield 28, 3) := by decide +kernel
theorem dX6_means_54 : decode cX6_means 54 = .ok (.invokevirtual 118, 3) := by decide +kernel
theorem dX6_means_57 : decode cX6_means 57 = .ok (.iand, 1) := by decide +kernel
theorem dX6_means_58 : decode cX6_means 58 = .ok (.istore 4, 2) := by decide +kernel
theorem dX6_means_60 : decode cX6_means 60 = .ok (.iload 4, 2) := by decide +kernel
theorem dX6_means_62 : decode cX6_means 62 = .ok (.ifCond .eq 16, 3) := by decide +kernel
theorem dX6_means_65 : decode cX6_means 65 = .ok (.iload 4, 2) := by decide +kernel
theorem dX6_means_67 : decode cX6_means 67 = .ok (.iload_n 1, 1) := by decide +kernel
theorem dX6_means_68 : decode cX6_means 68 = .ok (.iconst (-1), 1) := by decide +kernel
theorem dX6_means_69 : decode cX6_means 69 = .ok (.ixor, 1) := by decide +kernel
theorem dX6_means_70 : decode cX6_means 70 = .ok (.iand, 1) := by decide +kernel
theorem dX6_means_71 : decode cX6_means 71 = .ok (.ifCond .ne 7, 3) := by decide +kernel
theorem dX6_means_74 : decode cX6_means 74 = .ok (.iconst 1, 1) := by decide +kernel
theorem dX6_means_75 : decode cX6_means 75 = .ok (.goto 4, 3) := by decide +kernel
theorem dX6_means_78 : decode cX6_means 78 = .ok (.iconst 0, 1) := by decide +kernel
theorem dX6_means_79 : decode cX6_means 79 = .ok (.istore 5, 2) := by decide +kernel
theorem dX6_means_81 : decode cX6_means 81 = .ok (.iload 5, 2) := by decide +kernel
theorem dX6_means_83 : decode cX6_means 83 = .ok (.ifCond .eq 24, 3) := by decide +kernel
theorem dX6_means_86 : decode cX6_means 86 = .ok (.iload_n 2, 1) := by decide +kernel
theorem dX6_means_87 : decode cX6_means 87 = .ok (.bipush (-9), 2) := by decide +kernel
theorem dX6_means_89 : decode cX6_means 89 = .ok (.if_icmp .eq 14, 3) := by decide +kernel
theorem dX6_means_92 : decode cX6_means 92 = .ok (.iload_n 3, 1) := by decide +kernel
theorem dX6_means_93 : decode cX6_means 93 = .ok (.invokestatic 145, 3) := by decide +kernel
theorem dX6_means_96 : decode cX6_means 96 = .ok (.iload_n 2, 1) := by decide +kernel
theorem dX6_means_97 : decode cX6_means 97 = .ok (.invokestatic 145, 3) := by decide +kernel
theorem dX6_means_100 : decode cX6_means 100 = .ok (.if_icmp .ge 7, 3) := by decide +kernel
theorem dX6_means_103 : decode cX6_means 103 = .ok (.iload_n 3, 1) := by decide +kernel
theorem dX6_means_104 : decode cX6_means 104 = .ok (.goto 4, 3) := by decide +kernel
theorem dX6_means_107 : decode cX6_means 107 = .ok (.iload_n 2, 1) := by decide +kernel
theorem dX6_means_108 : decode cX6_means 108 = .ok (.istore_n 2, 1) := by decide +kernel
theorem dX6_means_109 : decode cX6_means 109 = .ok (.iinc 3 1, 3) := by decide +kernel
theorem dX6_means_112 : decode cX6_means 112 = .ok (.goto (-84), 3) := by decide +kernel
theorem dX6_means_115 : decode cX6_means 115 = .ok (.iload_n 2, 1) := by decide +kernel
theorem dX6_means_116 : decode cX6_means 116 = .ok (.ireturn, 1) := by decide +kernel
set_option maxRecDepth 20000 in
theorem ggX6_span_X6_asNow : GoodIn wsX6_span wsX6_asNow := goodIn_r _ [7, 2, 8, 22, 23, 24, 25, 26, 27, 28, 29, 30, 31, 32, 33, 34, 35, 36, 37, 38, 39, 40, 41, 42, 43, 44, 45, 46, 47] (by decide +kernel) (by decide +kernel)
set_option maxRecDepth 20000 in
theorem gX6_span_X6_asNow : GoodIn wsX6_span (wsV RX6 178 RX6 yX6_asNow wsX6_asNow) := goodIn_app (goodIn_of _ (by decide +kernel)) ggX6_span_X6_asNow
set_option maxRecDepth 20000 in
theorem ggX6_span_X6_covered : GoodIn wsX6_span wsX6_covered := goodIn_r _ [12, 13, 14, 15, 16, 6, 17, 18, 22, 23, 24, 25, 26, 27, 28, 29, 30, 31, 32, 33, 34, 35, 36, 37, 38, 39, 40, 41, 42, 43, 44, 45, 46, 47] (by decide +kernel) (by decide +kernel)
set_option maxRecDepth 20000 in
theorem gX6_span_X6_covered : GoodIn wsX6_span (wsV RX6 118 RX6 yX6_covered wsX6_covered) := goodIn_app (goodIn_of _ (by decide +kernel)) ggX6_span_X6_covered
set_option maxRecDepth 20000 in
theorem ggX6_span_X6_ones : GoodIn wsX6_span wsX6_ones := goodIn_r _ [21] (by decide +kernel) (by decide +kernel)
set_option maxRecDepth 20000 in
theorem gX6_span_X6_ones : GoodIn wsX6_span (va_wsS RX6 145 yX6_ones wsX6_ones) := goodIn_app (goodIn_of _ (by decide +kernel)) ggX6_span_X6_ones
theorem dX6_span_0 : decode cX6_span 0 = .ok (.aload_n 0, 1) := by decide +kernel
theorem dX6_span_1 : decode cX6_span 1 = .ok (.iconst 0, 1) := by decide +kernel
theorem dX6_span_2 : decode cX6_span 2 = .ok (.putfield 53, 3) := by decide +kernel
theorem dX6_span_5 : decode cX6_span 5 = .ok (.aload_n 0, 1) := by decide +kernel
theorem dX6_span_6 : decode cX6_span 6 = .ok (.invokevirtual 178, 3) := by decide +kernel
theorem dX6_span_9 : decode cX6_span 9 = .ok (.bipush (-9), 2) := by decide +kernel
theorem dX6_span_11 : decode cX6_span 11 = .ok (.istore_n 1, 1) := by decide +kernel
theorem dX6_span_12 : decode cX6_span 12 = .ok (.iconst 0, 1) := by decide +kernel
theorem dX6_span_13 : decode cX6_span 13 = .ok (.istore_n 2, 1) := by decide +kernel
theorem dX6_span_14 : decode cX6_span 14 = .ok (.iload_n 2, 1) := by decide +kernel
theorem dX6_span_15 : decode cX6_span 15 = .ok (.bipush 32, 2) := by decide +kernel
theorem dX6_span_17 : decode cX6_span 17 = .ok (.if_icmp .ge 54, 3) := by decide +kernel
theorem dX6_span_20 : decode cX6_span 20 = .ok (.aload_n 0, 1) := by decide +kernel
theorem dX6_span_21 : decode cX6_span 21 = .ok (.getfield 28, 3) := by decide +kernel
theorem dX6_span_24 : decode cX6_span 24 = .ok (.iconst 1, 1) := by decide +kernel
theorem dX6_span_25 : decode cX6_span 25 = .ok (.iload_n 2, 1) := by decide +kernel
theorem dX6_span_26 : decode cX6_span 26 = .ok (.iastore, 1) := by decide +kernel
theorem dX6_span_27 : decode cX6_span 27 = .ok (.aload_n 0, 1) := by decide +kernel
theorem dX6_span_28 : decode cX6_span 28 = .ok (.aload_n 0, 1) := by decide +kernel
theorem dX6_span_29 : decode cX6_span 29 = .ok (.getfield 28, 3) := by decide +kernel
theorem dX6_span_32 : decode cX6_span 32 = .ok (.invokevirtual 118, 3) := by decide +kernel
theorem dX6_span_35 : decode cX6_span 35 = .ok (.invokestatic 145, 3) := by decide +kernel
theorem dX6_span_38 : decode cX6_span 38 = .ok (.iconst 1, 1) := by decide +kernel
theorem dX6_span_39 : decode cX6_span 39 = .ok (.if_icmp .ne 24, 3) := by decide +kernel
theorem dX6_span_42 : decode cX6_span 42 = .ok (.iload_n 1, 1) := by decide +kernel
theorem dX6_span_43 : decode cX6_span 43 = .ok (.bipush (-9), 2) := by decide +kernel
theorem dX6_span_45 : decode cX6_span 45 = .ok (.if_icmp .eq 14, 3) := by decide +kernel
theorem dX6_span_48 : decode cX6_span 48 = .ok (.iload_n 2, 1) := by decide +kernel
theorem dX6_span_49 : decode cX6_span 49 = .ok (.invokestatic 145, 3) := by decide +kernel
theorem dX6_span_52 : decode cX6_span 52 = .ok (.iload_n 1, 1) := by decide +kernel
theorem dX6_span_53 : decode cX6_span 53 = .ok (.invokestatic 145, 3) := by decide +kernel
theorem dX6_span_56 : decode cX6_span 56 = .ok (.if_icmp .ge 7, 3) := by decide +kernel
theorem dX6_span_59 : decode cX6_span 59 = .ok (.iload_n 2, 1) := by decide +kernel
theorem dX6_span_60 : decode cX6_span 60 = .ok (.goto 4, 3) := by decide +kernel
theorem dX6_span_63 : decode cX6_span 63 = .ok (.iload_n 1, 1) := by decide +kernel
theorem dX6_span_64 : decode cX6_span 64 = .ok (.istore_n 1, 1) := by decide +kernel
theorem dX6_span_65 : decode cX6_span 65 = .ok (.iinc 2 1, 3) := by decide +kernel
theorem dX6_span_68 : decode cX6_span 68 = .ok (.goto (-54), 3) := by decide +kernel
theorem dX6_span_71 : decode cX6_span 71 = .ok (.iload_n 1, 1) := by decide +kernel
theorem dX6_span_72 : decode cX6_span 72 = .ok (.ireturn, 1) := by decide +kernel
set_option maxRecDepth 20000 in
theorem ggX6_shut_X6_in : GoodIn wsX6_shut wsX6_in := goodIn_r _ [9] (by decide +kernel) (by decide +kernel)
set_option maxRecDepth 20000 in
theorem gX6_shut_X6_in : GoodIn wsX6_shut (va_wsS RX6 57 yX6_in wsX6_in) := goodIn_app (goodIn_of _ (by decide +kernel)) ggX6_shut_X6_in
set_option maxRecDepth 20000 in
theorem ggX6_shut_X6_asNow : GoodIn wsX6_shut wsX6_asNow := goodIn_r _ [13, 5, 2, 51, 52, 53, 54, 55, 56, 57, 58, 59, 60, 61, 62, 63, 64, 65, 66, 67, 68, 69, 70, 71, 72, 73, 74, 75, 76] (by decide +kernel) (by decide +kernel)
set_option maxRecDepth 20000 in
theorem gX6_shut_X6_asNow : GoodIn wsX6_shut (wsV RX6 178 RX6 yX6_asNow wsX6_asNow) := goodIn_app (goodIn_of _ (by decide +kernel)) ggX6_shut_X6_asNow
set_option maxRecDepth 20000 in
theorem ggX6_shut_X6_comers : GoodIn wsX6_shut wsX6_comers := goodIn_r _ [17, 18, 19, 20, 21, 22, 8, 23, 24, 25, 26, 27, 28, 51, 52, 53, 54, 55, 56, 57, 58, 59, 60, 61, 62, 63, 64, 65, 66, 67, 68, 69, 70, 71, 72, 73, 74, 75, 76] (by decide +kernel) (by decide +kernel)
set_option maxRecDepth 20000 in
theorem gX6_shut_X6_comers : GoodIn wsX6_shut (wsV RX6 122 RX6 yX6_comers wsX6_comers) := goodIn_app (goodIn_of _ (by decide +kernel)) ggX6_shut_X6_comers
set_option maxRecDepth 20000 in
theorem ggX6_shut_X6_harms : GoodIn wsX6_shut wsX6_harms := goodIn_r _ [32, 3, 4, 14, 15, 16, 8, 17, 18, 19, 20, 21, 22, 23, 24, 25, 26, 27, 28, 33, 34, 35, 36, 37, 38, 39, 40, 41, 51, 52, 53, 54, 55, 56, 57, 58, 59, 60, 61, 62, 63, 64, 65, 66, 67, 68, 69, 70, 71, 72, 73, 74, 75, 76] (by decide +kernel) (by decide +kernel)
set_option maxRecDepth 20000 in
theorem gX6_shut_X6_harms : GoodIn wsX6_shut (wsV RX6 170 RX6 yX6_harms wsX6_harms) := goodIn_app (goodIn_of _ (by decide +kernel)) ggX6_shut_X6_harms
set_option maxRecDepth 20000 in
theorem ggX6_shut_X6_ones : GoodIn wsX6_shut wsX6_ones := goodIn_r _ [44] (by decide +kernel) (by decide +kernel)
set_option maxRecDepth 20000 in
theorem gX6_shut_X6_ones : GoodIn wsX6_shut (va_wsS RX6 145 yX6_ones wsX6_ones) := goodIn_app (goodIn_of _ (by decide +kernel)) ggX6_shut_X6_ones
set_option maxRecDepth 20000 in
theorem ggX6_shut_X6_part : GoodIn wsX6_shut wsX6_part := goodIn_r _ [47, 48, 49, 8, 50] (by decide +kernel) (by decide +kernel)
set_option maxRecDepth 20000 in
theorem gX6_shut_X6_part : GoodIn wsX6_shut (va_wsS RX6 174 yX6_part wsX6_part) := goodIn_app (goodIn_of _ (by decide +kernel)) ggX6_shut_X6_part
theorem dX6_shut_0 : decode cX6_shut 0 = .ok (.aload_n 0, 1) := by decide +kernel
theorem dX6_shut_1 : decode cX6_shut 1 = .ok (.iconst 0, 1) := by decide +kernel
theorem dX6_shut_2 : decode cX6_shut 2 = .ok (.putfield 53, 3) := by decide +kernel
theorem dX6_shut_5 : decode cX6_shut 5 = .ok (.iload_n 1, 1) := by decide +kernel
theorem dX6_shut_6 : decode cX6_shut 6 = .ok (.iconst 0, 1) := by decide +kernel
theorem dX6_shut_7 : decode cX6_shut 7 = .ok (.bipush 7, 2) := by decide +kernel
theorem dX6_shut_9 : decode cX6_shut 9 = .ok (.invokestatic 57, 3) := by decide +kernel
theorem dX6_shut_12 : decode cX6_shut 12 = .ok (.ifCond .eq 12, 3) := by decide +kernel
theorem dX6_shut_15 : decode cX6_shut 15 = .ok (.iload_n 2, 1) := by decide +kernel
theorem dX6_shut_16 : decode cX6_shut 16 = .ok (.iconst 0, 1) := by decide +kernel
theorem dX6_shut_17 : decode cX6_shut 17 = .ok (.iconst 2, 1) := by decide +kernel
theorem dX6_shut_18 : decode cX6_shut 18 = .ok (.invokestatic 57, 3) := by decide +kernel
theorem dX6_shut_21 : decode cX6_shut 21 = .ok (.ifCond .ne 5, 3) := by decide +kernel
theorem dX6_shut_24 : decode cX6_shut 24 = .ok (.iconst (-1), 1) := by decide +kernel
theorem dX6_shut_25 : decode cX6_shut 25 = .ok (.ireturn, 1) := by decide +kernel
theorem dX6_shut_26 : decode cX6_shut 26 = .ok (.aload_n 0, 1) := by decide +kernel
theorem dX6_shut_27 : decode cX6_shut 27 = .ok (.invokevirtual 178, 3) := by decide +kernel
theorem dX6_shut_30 : decode cX6_shut 30 = .ok (.aload_n 0, 1) := by decide +kernel
theorem dX6_shut_31 : decode cX6_shut 31 = .ok (.aload_n 0, 1) := by decide +kernel
theorem dX6_shut_32 : decode cX6_shut 32 = .ok (.getfield 25, 3) := by decide +kernel
theorem dX6_shut_35 : decode cX6_shut 35 = .ok (.invokevirtual 122, 3) := by decide +kernel
theorem dX6_shut_38 : decode cX6_shut 38 = .ok (.istore_n 3, 1) := by decide +kernel
theorem dX6_shut_39 : decode cX6_shut 39 = .ok (.iconst 0, 1) := by decide +kernel
theorem dX6_shut_40 : decode cX6_shut 40 = .ok (.istore 4, 2) := by decide +kernel
theorem dX6_shut_42 : decode cX6_shut 42 = .ok (.aload_n 0, 1) := by decide +kernel
theorem dX6_shut_43 : decode cX6_shut 43 = .ok (.aload_n 0, 1) := by decide +kernel
theorem dX6_shut_44 : decode cX6_shut 44 = .ok (.getfield 25, 3) := by decide +kernel
theorem dX6_shut_47 : decode cX6_shut 47 = .ok (.invokevirtual 170, 3) := by decide +kernel
theorem dX6_shut_50 : decode cX6_shut 50 = .ok (.aload_n 0, 1) := by decide +kernel
theorem dX6_shut_51 : decode cX6_shut 51 = .ok (.getfield 129, 3) := by decide +kernel
theorem dX6_shut_54 : decode cX6_shut 54 = .ok (.istore 5, 2) := by decide +kernel
theorem dX6_shut_56 : decode cX6_shut 56 = .ok (.aload_n 0, 1) := by decide +kernel
theorem dX6_shut_57 : decode cX6_shut 57 = .ok (.getfield 135, 3) := by decide +kernel
theorem dX6_shut_60 : decode cX6_shut 60 = .ok (.istore 6, 2) := by decide +kernel
theorem dX6_shut_62 : decode cX6_shut 62 = .ok (.iconst 1, 1) := by decide +kernel
theorem dX6_shut_63 : decode cX6_shut 63 = .ok (.istore 7, 2) := by decide +kernel
theorem dX6_shut_65 : decode cX6_shut 65 = .ok (.iload 7, 2) := by decide +kernel
theorem dX6_shut_67 : decode cX6_shut 67 = .ok (.iload_n 3, 1) := by decide +kernel
theorem dX6_shut_68 : decode cX6_shut 68 = .ok (.if_icmp .gt 106, 3) := by decide +kernel
theorem dX6_shut_71 : decode cX6_shut 71 = .ok (.iload 7, 2) := by decide +kernel
theorem dX6_shut_73 : decode cX6_shut 73 = .ok (.iload_n 3, 1) := by decide +kernel
theorem dX6_shut_74 : decode cX6_shut 74 = .ok (.iconst (-1), 1) := by decide +kernel
theorem dX6_shut_75 : decode cX6_shut 75 = .ok (.ixor, 1) := by decide +kernel
theorem dX6_shut_76 : decode cX6_shut 76 = .ok (.iand, 1) := by decide +kernel
theorem dX6_shut_77 : decode cX6_shut 77 = .ok (.ifCond .ne 91, 3) := by decide +kernel
theorem dX6_shut_80 : decode cX6_shut 80 = .ok (.iload 7, 2) := by decide +kernel
theorem dX6_shut_82 : decode cX6_shut 82 = .ok (.invokestatic 145, 3) := by decide +kernel
theorem dX6_shut_85 : decode cX6_shut 85 = .ok (.iload_n 1, 1) := by decide +kernel
theorem dX6_shut_86 : decode cX6_shut 86 = .ok (.if_icmp .gt 82, 3) := by decide +kernel
theorem dX6_shut_89 : decode cX6_shut 89 = .ok (.aload_n 0, 1) := by decide +kernel
theorem dX6_shut_90 : decode cX6_shut 90 = .ok (.getfield 28, 3) := by decide +kernel
theorem dX6_shut_93 : decode cX6_shut 93 = .ok (.iconst 3, 1) := by decide +kernel
theorem dX6_shut_94 : decode cX6_shut 94 = .ok (.aload_n 0, 1) := by decide +kernel
theorem dX6_shut_95 : decode cX6_shut 95 = .ok (.getfield 25, 3) := by decide +kernel
theorem dX6_shut_98 : decode cX6_shut 98 = .ok (.iconst 3, 1) := by decide +kernel
theorem dX6_shut_99 : decode cX6_shut 99 = .ok (.iaload, 1) := by decide +kernel
theorem dX6_shut_100 : decode cX6_shut 100 = .ok (.iload 7, 2) := by decide +kernel
theorem dX6_shut_102 : decode cX6_shut 102 = .ok (.ior, 1) := by decide +kernel
theorem dX6_shut_103 : decode cX6_shut 103 = .ok (.iastore, 1) := by decide +kernel
theorem dX6_shut_104 : decode cX6_shut 104 = .ok (.aload_n 0, 1) := by decide +kernel
theorem dX6_shut_105 : decode cX6_shut 105 = .ok (.aload_n 0, 1) := by decide +kernel
theorem dX6_shut_106 : decode cX6_shut 106 = .ok (.getfield 28, 3) := by decide +kernel
theorem dX6_shut_109 : decode cX6_shut 109 = .ok (.invokevirtual 170, 3) := by decide +kernel
theorem dX6_shut_112 : decode cX6_shut 112 = .ok (.iload 5, 2) := by decide +kernel
theorem dX6_shut_114 : decode cX6_shut 114 = .ok (.aload_n 0, 1) := by decide +kernel
theorem dX6_shut_115 : decode cX6_shut 115 = .ok (.getfield 135, 3) := by decide +kernel
theorem dX6_shut_118 : decode cX6_shut 118 = .ok (.imul, 1) := by decide +kernel
theorem dX6_shut_119 : decode cX6_shut 119 = .ok (.aload_n 0, 1) := by decide +kernel
theorem dX6_shut_120 : decode cX6_shut 120 = .ok (.getfield 129, 3) := by decide +kernel
theorem dX6_shut_123 : decode cX6_shut 123 = .ok (.iload 6, 2) := by decide +kernel
theorem dX6_shut_125 : decode cX6_shut 125 = .ok (.imul, 1) := by decide +kernel
theorem dX6_shut_126 : decode cX6_shut 126 = .ok (.isub, 1) := by decide +kernel
theorem dX6_shut_127 : decode cX6_shut 127 = .ok (.istore 8, 2) := by decide +kernel
theorem dX6_shut_129 : decode cX6_shut 129 = .ok (.iload 8, 2) := by decide +kernel
theorem dX6_shut_131 : decode cX6_shut 131 = .ok (.ifCond .gt 21, 3) := by decide +kernel
theorem dX6_shut_134 : decode cX6_shut 134 = .ok (.iload 8, 2) := by decide +kernel
theorem dX6_shut_136 : decode cX6_shut 136 = .ok (.ifCond .ne 32, 3) := by decide +kernel
theorem dX6_shut_139 : decode cX6_shut 139 = .ok (.iload 7, 2) := by decide +kernel
theorem dX6_shut_141 : decode cX6_shut 141 = .ok (.invokestatic 145, 3) := by decide +kernel
theorem dX6_shut_144 : decode cX6_shut 144 = .ok (.iload 4, 2) := by decide +kernel
theorem dX6_shut_146 : decode cX6_shut 146 = .ok (.invokestatic 145, 3) := by decide +kernel
theorem dX6_shut_149 : decode cX6_shut 149 = .ok (.if_icmp .ge 19, 3) := by decide +kernel
theorem dX6_shut_152 : decode cX6_shut 152 = .ok (.iload 7, 2) := by decide +kernel
theorem dX6_shut_154 : decode cX6_shut 154 = .ok (.istore 4, 2) := by decide +kernel
theorem dX6_shut_156 : decode cX6_shut 156 = .ok (.aload_n 0, 1) := by decide +kernel
theorem dX6_shut_157 : decode cX6_shut 157 = .ok (.getfield 129, 3) := by decide +kernel
theorem dX6_shut_160 : decode cX6_shut 160 = .ok (.istore 5, 2) := by decide +kernel
theorem dX6_shut_162 : decode cX6_shut 162 = .ok (.aload_n 0, 1) := by decide +kernel
theorem dX6_shut_163 : decode cX6_shut 163 = .ok (.getfield 135, 3) := by decide +kernel
theorem dX6_shut_166 : decode cX6_shut 166 = .ok (.istore 6, 2) := by decide +kernel
theorem dX6_shut_168 : decode cX6_shut 168 = .ok (.iinc 7 1, 3) := by decide +kernel
theorem dX6_shut_171 : decode cX6_shut 171 = .ok (.goto (-106), 3) := by decide +kernel
theorem dX6_shut_174 : decode cX6_shut 174 = .ok (.iload_n 2, 1) := by decide +kernel
theorem dX6_shut_175 : decode cX6_shut 175 = .ok (.ifCond .ne 8, 3) := by decide +kernel
theorem dX6_shut_178 : decode cX6_shut 178 = .ok (.iload 4, 2) := by decide +kernel
theorem dX6_shut_180 : decode cX6_shut 180 = .ok (.goto 13, 3) := by decide +kernel
theorem dX6_shut_183 : decode cX6_shut 183 = .ok (.iload 5, 2) := by decide +kernel
theorem dX6_shut_185 : decode cX6_shut 185 = .ok (.iload 6, 2) := by decide +kernel
theorem dX6_shut_187 : decode cX6_shut 187 = .ok (.iload_n 2, 1) := by decide +kernel
theorem dX6_shut_188 : decode cX6_shut 188 = .ok (.iconst 1, 1) := by decide +kernel
theorem dX6_shut_189 : decode cX6_shut 189 = .ok (.isub, 1) := by decide +kernel
theorem dX6_shut_190 : decode cX6_shut 190 = .ok (.invokestatic 174, 3) := by decide +kernel
theorem dX6_shut_193 : decode cX6_shut 193 = .ok (.ireturn, 1) := by decide +kernel
set_option maxRecDepth 20000 in
theorem ggX6_tell_X6_asNow : GoodIn wsX6_tell wsX6_asNow := goodIn_r _ [9, 2, 3, 46, 47, 48, 49, 50, 51, 52, 53, 54, 55, 56, 57, 58, 59, 60, 61, 62, 63, 64, 65, 66, 67, 68, 69, 70, 71] (by decide +kernel) (by decide +kernel)
set_option maxRecDepth 20000 in
theorem gX6_tell_X6_asNow : GoodIn wsX6_tell (wsV RX6 178 RX6 yX6_asNow wsX6_asNow) := goodIn_app (goodIn_of _ (by decide +kernel)) ggX6_tell_X6_asNow
set_option maxRecDepth 20000 in
theorem ggX6_tell_X6_everything : GoodIn wsX6_tell wsX6_everything := goodIn_r _ [13, 14, 46, 47, 48, 49, 50, 51, 52, 53, 54, 55, 56, 57, 58, 59, 60, 61, 62, 63, 64, 65, 66, 67, 68, 69, 70, 71] (by decide +kernel) (by decide +kernel)
set_option maxRecDepth 20000 in
theorem gX6_tell_X6_everything : GoodIn wsX6_tell (wsV RX6 181 RX6 yX6_everything wsX6_everything) := goodIn_app (goodIn_of _ (by decide +kernel)) ggX6_tell_X6_everything
set_option maxRecDepth 20000 in
theorem ggX6_tell_X6_harms : GoodIn wsX6_tell wsX6_harms := goodIn_r _ [18, 4, 19, 20, 21, 22, 8, 23, 14, 24, 25, 26, 27, 28, 29, 30, 31, 32, 33, 34, 35, 36, 37, 38, 39, 40, 41, 42, 46, 47, 48, 49, 50, 51, 52, 53, 54, 55, 56, 57, 58, 59, 60, 61, 62, 63, 64, 65, 66, 67, 68, 69, 70, 71] (by decide +kernel) (by decide +kernel)
set_option maxRecDepth 20000 in
theorem gX6_tell_X6_harms : GoodIn wsX6_tell (wsV RX6 170 RX6 yX6_harms wsX6_harms) := goodIn_app (goodIn_of _ (by decide +kernel)) ggX6_tell_X6_harms
set_option maxRecDepth 20000 in
theorem ggX6_tell_X6_ones : GoodIn wsX6_tell wsX6_ones := goodIn_r _ [45] (by decide +kernel) (by decide +kernel)
set_option maxRecDepth 20000 in
theorem gX6_tell_X6_ones : GoodIn wsX6_tell (va_wsS RX6 145 yX6_ones wsX6_ones) := goodIn_app (goodIn_of _ (by decide +kernel)) ggX6_tell_X6_ones
theorem dX6_tell_0 : decode cX6_tell 0 = .ok (.aload_n 0, 1) := by decide +kernel
theorem dX6_tell_1 : decode cX6_tell 1 = .ok (.iconst 0, 1) := by decide +kernel
theorem dX6_tell_2 : decode cX6_tell 2 = .ok (.putfield 53, 3) := by decide +kernel
theorem dX6_tell_5 : decode cX6_tell 5 = .ok (.aload_n 0, 1) := by decide +kernel
theorem dX6_tell_6 : decode cX6_tell 6 = .ok (.invokevirtual 178, 3) := by decide +kernel
theorem dX6_tell_9 : decode cX6_tell 9 = .ok (.bipush (-9), 2) := by decide +kernel
theorem dX6_tell_11 : decode cX6_tell 11 = .ok (.istore_n 1, 1) := by decide +kernel
theorem dX6_tell_12 : decode cX6_tell 12 = .ok (.iconst 0, 1) := by decide +kernel
theorem dX6_tell_13 : decode cX6_tell 13 = .ok (.istore_n 2, 1) := by decide +kernel
theorem dX6_tell_14 : decode cX6_tell 14 = .ok (.iload_n 2, 1) := by decide +kernel
theorem dX6_tell_15 : decode cX6_tell 15 = .ok (.aload_n 0, 1) := by decide +kernel
theorem dX6_tell_16 : decode cX6_tell 16 = .ok (.invokevirtual 181, 3) := by decide +kernel
theorem dX6_tell_19 : decode cX6_tell 19 = .ok (.if_icmp .gt 61, 3) := by decide +kernel
theorem dX6_tell_22 : decode cX6_tell 22 = .ok (.aload_n 0, 1) := by decide +kernel
theorem dX6_tell_23 : decode cX6_tell 23 = .ok (.getfield 28, 3) := by decide +kernel
theorem dX6_tell_26 : decode cX6_tell 26 = .ok (.iconst 2, 1) := by decide +kernel
theorem dX6_tell_27 : decode cX6_tell 27 = .ok (.aload_n 0, 1) := by decide +kernel
theorem dX6_tell_28 : decode cX6_tell 28 = .ok (.getfield 25, 3) := by decide +kernel
theorem dX6_tell_31 : decode cX6_tell 31 = .ok (.iconst 2, 1) := by decide +kernel
theorem dX6_tell_32 : decode cX6_tell 32 = .ok (.iaload, 1) := by decide +kernel
theorem dX6_tell_33 : decode cX6_tell 33 = .ok (.iload_n 2, 1) := by decide +kernel
theorem dX6_tell_34 : decode cX6_tell 34 = .ok (.ior, 1) := by decide +kernel
theorem dX6_tell_35 : decode cX6_tell 35 = .ok (.iastore, 1) := by decide +kernel
theorem dX6_tell_36 : decode cX6_tell 36 = .ok (.aload_n 0, 1) := by decide +kernel
theorem dX6_tell_37 : decode cX6_tell 37 = .ok (.aload_n 0, 1) := by decide +kernel
theorem dX6_tell_38 : decode cX6_tell 38 = .ok (.getfield 28, 3) := by decide +kernel
theorem dX6_tell_41 : decode cX6_tell 41 = .ok (.invokevirtual 170, 3) := by decide +kernel
theorem dX6_tell_44 : decode cX6_tell 44 = .ok (.aload_n 0, 1) := by decide +kernel
theorem dX6_tell_45 : decode cX6_tell 45 = .ok (.getfield 129, 3) := by decide +kernel
theorem dX6_tell_48 : decode cX6_tell 48 = .ok (.ifCond .ne 24, 3) := by decide +kernel
theorem dX6_tell_51 : decode cX6_tell 51 = .ok (.iload_n 1, 1) := by decide +kernel
theorem dX6_tell_52 : decode cX6_tell 52 = .ok (.bipush (-9), 2) := by decide +kernel
theorem dX6_tell_54 : decode cX6_tell 54 = .ok (.if_icmp .eq 14, 3) := by decide +kernel
theorem dX6_tell_57 : decode cX6_tell 57 = .ok (.iload_n 2, 1) := by decide +kernel
theorem dX6_tell_58 : decode cX6_tell 58 = .ok (.invokestatic 145, 3) := by decide +kernel
theorem dX6_tell_61 : decode cX6_tell 61 = .ok (.iload_n 1, 1) := by decide +kernel
theorem dX6_tell_62 : decode cX6_tell 62 = .ok (.invokestatic 145, 3) := by decide +kernel
theorem dX6_tell_65 : decode cX6_tell 65 = .ok (.if_icmp .ge 7, 3) := by decide +kernel
theorem dX6_tell_68 : decode cX6_tell 68 = .ok (.iload_n 2, 1) := by decide +kernel
theorem dX6_tell_69 : decode cX6_tell 69 = .ok (.goto 4, 3) := by decide +kernel
theorem dX6_tell_72 : decode cX6_tell 72 = .ok (.iload_n 1, 1) := by decide +kernel
theorem dX6_tell_73 : decode cX6_tell 73 = .ok (.istore_n 1, 1) := by decide +kernel
theorem dX6_tell_74 : decode cX6_tell 74 = .ok (.iinc 2 1, 3) := by decide +kernel
theorem dX6_tell_77 : decode cX6_tell 77 = .ok (.goto (-63), 3) := by decide +kernel
theorem dX6_tell_80 : decode cX6_tell 80 = .ok (.iload_n 1, 1) := by decide +kernel
theorem dX6_tell_81 : decode cX6_tell 81 = .ok (.ireturn, 1) := by decide +kernel
set_option maxRecDepth 20000 in
theorem ggX6_saw_X6_isThing : GoodIn wsX6_saw wsX6_isThing := goodIn_r _ [9, 10, 11, 12, 8, 13, 14, 15, 16, 17, 18, 19, 20, 21, 22, 23, 24, 25, 26, 27, 28, 29, 30, 31, 32, 33, 34, 35, 36, 37, 38, 39] (by decide +kernel) (by decide +kernel)
set_option maxRecDepth 20000 in
theorem gX6_saw_X6_isThing : GoodIn wsX6_saw (wsV RX6 138 RX6 yX6_isThing wsX6_isThing) := goodIn_app (goodIn_of _ (by decide +kernel)) ggX6_saw_X6_isThing
set_option maxRecDepth 20000 in
theorem ggX6_saw_X6_in : GoodIn wsX6_saw wsX6_in := goodIn_r _ [13] (by decide +kernel) (by decide +kernel)
set_option maxRecDepth 20000 in
theorem gX6_saw_X6_in : GoodIn wsX6_saw (va_wsS RX6 57 yX6_in wsX6_in) := goodIn_app (goodIn_of _ (by decide +kernel)) ggX6_saw_X6_in
theorem dX6_saw_0 : decode cX6_saw 0 = .ok (.aload_n 0, 1) := by decide +kernel
theorem dX6_saw_1 : decode cX6_saw 1 = .ok (.iconst 0, 1) := by decide +kernel
theorem dX6_saw_2 : decode cX6_saw 2 = .ok (.putfield 53, 3) := by decide +kernel
theorem dX6_saw_5 : decode cX6_saw 5 = .ok (.aload_n 0, 1) := by decide +kernel
theorem dX6_saw_6 : decode cX6_saw 6 = .ok (.iload_n 1, 1) := by decide +kernel
theorem dX6_saw_7 : decode cX6_saw 7 = .ok (.invokevirtual 138, 3) := by decide +kernel
theorem dX6_saw_10 : decode cX6_saw 10 = .ok (.ifCond .eq 12, 3) := by decide +kernel
theorem dX6_saw_13 : decode cX6_saw 13 = .ok (.iload_n 2, 1) := by decide +kernel
theorem dX6_saw_14 : decode cX6_saw 14 = .ok (.iconst 0, 1) := by decide +kernel
theorem dX6_saw_15 : decode cX6_saw 15 = .ok (.iconst 1, 1) := by decide +kernel
theorem dX6_saw_16 : decode cX6_saw 16 = .ok (.invokestatic 57, 3) := by decide +kernel
theorem dX6_saw_19 : decode cX6_saw 19 = .ok (.ifCond .ne 5, 3) := by decide +kernel
theorem dX6_saw_22 : decode cX6_saw 22 = .ok (.iconst (-1), 1) := by decide +kernel
theorem dX6_saw_23 : decode cX6_saw 23 = .ok (.ireturn, 1) := by decide +kernel
theorem dX6_saw_24 : decode cX6_saw 24 = .ok (.aload_n 0, 1) := by decide +kernel
theorem dX6_saw_25 : decode cX6_saw 25 = .ok (.getfield 108, 3) := by decide +kernel
theorem dX6_saw_28 : decode cX6_saw 28 = .ok (.bipush 6, 2) := by decide +kernel
theorem dX6_saw_30 : decode cX6_saw 30 = .ok (.if_icmp .ne 6, 3) := by decide +kernel
theorem dX6_saw_33 : decode cX6_saw 33 = .ok (.bipush (-3), 2) := by decide +kernel
theorem dX6_saw_35 : decode cX6_saw 35 = .ok (.ireturn, 1) := by decide +kernel
theorem dX6_saw_36 : decode cX6_saw 36 = .ok (.aload_n 0, 1) := by decide +kernel
theorem dX6_saw_37 : decode cX6_saw 37 = .ok (.getfield 41, 3) := by decide +kernel
theorem dX6_saw_40 : decode cX6_saw 40 = .ok (.aload_n 0, 1) := by decide +kernel
theorem dX6_saw_41 : decode cX6_saw 41 = .ok (.getfield 108, 3) := by decide +kernel
theorem dX6_saw_44 : decode cX6_saw 44 = .ok (.iload_n 1, 1) := by decide +kernel
theorem dX6_saw_45 : decode cX6_saw 45 = .ok (.iastore, 1) := by decide +kernel
theorem dX6_saw_46 : decode cX6_saw 46 = .ok (.aload_n 0, 1) := by decide +kernel
theorem dX6_saw_47 : decode cX6_saw 47 = .ok (.getfield 44, 3) := by decide +kernel
theorem dX6_saw_50 : decode cX6_saw 50 = .ok (.aload_n 0, 1) := by decide +kernel
theorem dX6_saw_51 : decode cX6_saw 51 = .ok (.getfield 108, 3) := by decide +kernel
theorem dX6_saw_54 : decode cX6_saw 54 = .ok (.iload_n 2, 1) := by decide +kernel
theorem dX6_saw_55 : decode cX6_saw 55 = .ok (.iastore, 1) := by decide +kernel
theorem dX6_saw_56 : decode cX6_saw 56 = .ok (.aload_n 0, 1) := by decide +kernel
theorem dX6_saw_57 : decode cX6_saw 57 = .ok (.dup, 1) := by decide +kernel
theorem dX6_saw_58 : decode cX6_saw 58 = .ok (.getfield 108, 3) := by decide +kernel
theorem dX6_saw_61 : decode cX6_saw 61 = .ok (.iconst 1, 1) := by decide +kernel
theorem dX6_saw_62 : decode cX6_saw 62 = .ok (.iadd, 1) := by decide +kernel
theorem dX6_saw_63 : decode cX6_saw 63 = .ok (.putfield 108, 3) := by decide +kernel
theorem dX6_saw_66 : decode cX6_saw 66 = .ok (.aload_n 0, 1) := by decide +kernel
theorem dX6_saw_67 : decode cX6_saw 67 = .ok (.getfield 108, 3) := by decide +kernel
theorem dX6_saw_70 : decode cX6_saw 70 = .ok (.ireturn, 1) := by decide +kernel
theorem dX6_forget_0 : decode cX6_forget 0 = .ok (.aload_n 0, 1) := by decide +kernel
theorem dX6_forget_1 : decode cX6_forget 1 = .ok (.iconst 0, 1) := by decide +kernel
theorem dX6_forget_2 : decode cX6_forget 2 = .ok (.putfield 53, 3) := by decide +kernel
theorem dX6_forget_5 : decode cX6_forget 5 = .ok (.aload_n 0, 1) := by decide +kernel
theorem dX6_forget_6 : decode cX6_forget 6 = .ok (.getfield 108, 3) := by decide +kernel
theorem dX6_forget_9 : decode cX6_forget 9 = .ok (.istore_n 1, 1) := by decide +kernel
theorem dX6_forget_10 : decode cX6_forget 10 = .ok (.aload_n 0, 1) := by decide +kernel
theorem dX6_forget_11 : decode cX6_forget 11 = .ok (.iconst 0, 1) := by decide +kernel
theorem dX6_forget_12 : decode cX6_forget 12 = .ok (.putfield 108, 3) := by decide +kernel
theorem dX6_forget_15 : decode cX6_forget 15 = .ok (.iload_n 1, 1) := by decide +kernel
theorem dX6_forget_16 : decode cX6_forget 16 = .ok (.ireturn, 1) := by decide +kernel
set_option maxRecDepth 20000 in
theorem ggX6_fit_X6_in : GoodIn wsX6_fit wsX6_in := goodIn_r _ [8] (by decide +kernel) (by decide +kernel)
set_option maxRecDepth 20000 in
theorem gX6_fit_X6_in : GoodIn wsX6_fit (va_wsS RX6 57 yX6_in wsX6_in) := goodIn_app (goodIn_of _ (by decide +kernel)) ggX6_fit_X6_in
set_option maxRecDepth 20000 in
theorem ggX6_fit_X6_hasAll : GoodIn wsX6_fit wsX6_hasAll := goodIn_r _ [12, 13, 14, 15, 16, 17, 18, 19, 20, 21, 22, 23, 24, 25, 26, 27, 28, 29, 30, 31, 32, 33, 34, 35, 36, 37, 38, 39] (by decide +kernel) (by decide +kernel)
set_option maxRecDepth 20000 in
theorem gX6_fit_X6_hasAll : GoodIn wsX6_fit (wsV RX6 114 RX6 yX6_hasAll wsX6_hasAll) := goodIn_app (goodIn_of _ (by decide +kernel)) ggX6_fit_X6_hasAll
theorem dX6_fit_0 : decode cX6_fit 0 = .ok (.aload_n 0, 1) := by decide +kernel
theorem dX6_fit_1 : decode cX6_fit 1 = .ok (.iconst 0, 1) := by decide +kernel
theorem dX6_fit_2 : decode cX6_fit 2 = .ok (.putfield 53, 3) := by decide +kernel
theorem dX6_fit_5 : decode cX6_fit 5 = .ok (.iload_n 1, 1) := by decide +kernel
theorem dX6_fit_6 : decode cX6_fit 6 = .ok (.iconst 0, 1) := by decide +kernel
theorem dX6_fit_7 : decode cX6_fit 7 = .ok (.iconst 2, 1) := by decide +kernel
theorem dX6_fit_8 : decode cX6_fit 8 = .ok (.invokestatic 57, 3) := by decide +kernel
theorem dX6_fit_11 : decode cX6_fit 11 = .ok (.ifCond .ne 5, 3) := by decide +kernel
theorem dX6_fit_14 : decode cX6_fit 14 = .ok (.iconst (-1), 1) := by decide +kernel
theorem dX6_fit_15 : decode cX6_fit 15 = .ok (.ireturn, 1) := by decide +kernel
theorem dX6_fit_16 : decode cX6_fit 16 = .ok (.iconst 0, 1) := by decide +kernel
theorem dX6_fit_17 : decode cX6_fit 17 = .ok (.istore_n 2, 1) := by decide +kernel
theorem dX6_fit_18 : decode cX6_fit 18 = .ok (.bipush (-9), 2) := by decide +kernel
theorem dX6_fit_20 : decode cX6_fit 20 = .ok (.istore_n 3, 1) := by decide +kernel
theorem dX6_fit_21 : decode cX6_fit 21 = .ok (.bipush 31, 2) := by decide +kernel
theorem dX6_fit_23 : decode cX6_fit 23 = .ok (.istore 4, 2) := by decide +kernel
theorem dX6_fit_25 : decode cX6_fit 25 = .ok (.iconst 0, 1) := by decide +kernel
theorem dX6_fit_26 : decode cX6_fit 26 = .ok (.istore 5, 2) := by decide +kernel
theorem dX6_fit_28 : decode cX6_fit 28 = .ok (.iload 5, 2) := by decide +kernel
theorem dX6_fit_30 : decode cX6_fit 30 = .ok (.bipush 32, 2) := by decide +kernel
theorem dX6_fit_32 : decode cX6_fit 32 = .ok (.if_icmp .ge 100, 3) := by decide +kernel
theorem dX6_fit_35 : decode cX6_fit 35 = .ok (.iconst 1, 1) := by decide +kernel
theorem dX6_fit_36 : decode cX6_fit 36 = .ok (.istore 6, 2) := by decide +kernel
theorem dX6_fit_38 : decode cX6_fit 38 = .ok (.iconst 0, 1) := by decide +kernel
theorem dX6_fit_39 : decode cX6_fit 39 = .ok (.istore 7, 2) := by decide +kernel
theorem dX6_fit_41 : decode cX6_fit 41 = .ok (.iload 7, 2) := by decide +kernel
theorem dX6_fit_43 : decode cX6_fit 43 = .ok (.aload_n 0, 1) := by decide +kernel
theorem dX6_fit_44 : decode cX6_fit 44 = .ok (.getfield 108, 3) := by decide +kernel
theorem dX6_fit_47 : decode cX6_fit 47 = .ok (.if_icmp .ge 53, 3) := by decide +kernel
theorem dX6_fit_50 : decode cX6_fit 50 = .ok (.iload 6, 2) := by decide +kernel
theorem dX6_fit_52 : decode cX6_fit 52 = .ok (.ifCond .eq 39, 3) := by decide +kernel
theorem dX6_fit_55 : decode cX6_fit 55 = .ok (.aload_n 0, 1) := by decide +kernel
theorem dX6_fit_56 : decode cX6_fit 56 = .ok (.aload_n 0, 1) := by decide +kernel
theorem dX6_fit_57 : decode cX6_fit 57 = .ok (.getfield 41, 3) := by decide +kernel
theorem dX6_fit_60 : decode cX6_fit 60 = .ok (.iload 7, 2) := by decide +kernel
theorem dX6_fit_62 : decode cX6_fit 62 = .ok (.iaload, 1) := by decide +kernel
theorem dX6_fit_63 : decode cX6_fit 63 = .ok (.iload 5, 2) := by decide +kernel
theorem dX6_fit_65 : decode cX6_fit 65 = .ok (.invokevirtual 114, 3) := by decide +kernel
theorem dX6_fit_68 : decode cX6_fit 68 = .ok (.aload_n 0, 1) := by decide +kernel
theorem dX6_fit_69 : decode cX6_fit 69 = .ok (.getfield 44, 3) := by decide +kernel
theorem dX6_fit_72 : decode cX6_fit 72 = .ok (.iload 7, 2) := by decide +kernel
theorem dX6_fit_74 : decode cX6_fit 74 = .ok (.iaload, 1) := by decide +kernel
theorem dX6_fit_75 : decode cX6_fit 75 = .ok (.iconst 1, 1) := by decide +kernel
theorem dX6_fit_76 : decode cX6_fit 76 = .ok (.if_icmp .ne 7, 3) := by decide +kernel
theorem dX6_fit_79 : decode cX6_fit 79 = .ok (.iconst 1, 1) := by decide +kernel
theorem dX6_fit_80 : decode cX6_fit 80 = .ok (.goto 4, 3) := by decide +kernel
theorem dX6_fit_83 : decode cX6_fit 83 = .ok (.iconst 0, 1) := by decide +kernel
theorem dX6_fit_84 : decode cX6_fit 84 = .ok (.if_icmp .ne 7, 3) := by decide +kernel
theorem dX6_fit_87 : decode cX6_fit 87 = .ok (.iconst 1, 1) := by decide +kernel
theorem dX6_fit_88 : decode cX6_fit 88 = .ok (.goto 4, 3) := by decide +kernel
theorem dX6_fit_91 : decode cX6_fit 91 = .ok (.iconst 0, 1) := by decide +kernel
theorem dX6_fit_92 : decode cX6_fit 92 = .ok (.istore 6, 2) := by decide +kernel
theorem dX6_fit_94 : decode cX6_fit 94 = .ok (.iinc 7 1, 3) := by decide +kernel
theorem dX6_fit_97 : decode cX6_fit 97 = .ok (.goto (-56), 3) := by decide +kernel
theorem dX6_fit_100 : decode cX6_fit 100 = .ok (.iload 6, 2) := by decide +kernel
theorem dX6_fit_102 : decode cX6_fit 102 = .ok (.ifCond .eq 24, 3) := by decide +kernel
theorem dX6_fit_105 : decode cX6_fit 105 = .ok (.iload_n 2, 1) := by decide +kernel
theorem dX6_fit_106 : decode cX6_fit 106 = .ok (.ifCond .ne 8, 3) := by decide +kernel
theorem dX6_fit_109 : decode cX6_fit 109 = .ok (.iload 5, 2) := by decide +kernel
theorem dX6_fit_111 : decode cX6_fit 111 = .ok (.goto 4, 3) := by decide +kernel
theorem dX6_fit_114 : decode cX6_fit 114 = .ok (.iload_n 3, 1) := by decide +kernel
theorem dX6_fit_115 : decode cX6_fit 115 = .ok (.istore_n 3, 1) := by decide +kernel
theorem dX6_fit_116 : decode cX6_fit 116 = .ok (.iload 4, 2) := by decide +kernel
theorem dX6_fit_118 : decode cX6_fit 118 = .ok (.iload 5, 2) := by decide +kernel
theorem dX6_fit_120 : decode cX6_fit 120 = .ok (.iand, 1) := by decide +kernel
theorem dX6_fit_121 : decode cX6_fit 121 = .ok (.istore 4, 2) := by decide +kernel
theorem dX6_fit_123 : decode cX6_fit 123 = .ok (.iinc 2 1, 3) := by decide +kernel
theorem dX6_fit_126 : decode cX6_fit 126 = .ok (.iinc 5 1, 3) := by decide +kernel
theorem dX6_fit_129 : decode cX6_fit 129 = .ok (.goto (-101), 3) := by decide +kernel
theorem dX6_fit_132 : decode cX6_fit 132 = .ok (.iload_n 1, 1) := by decide +kernel
theorem dX6_fit_133 : decode cX6_fit 133 = .ok (.ifCond .ne 7, 3) := by decide +kernel
theorem dX6_fit_136 : decode cX6_fit 136 = .ok (.iload_n 2, 1) := by decide +kernel
theorem dX6_fit_137 : decode cX6_fit 137 = .ok (.goto 18, 3) := by decide +kernel
theorem dX6_fit_140 : decode cX6_fit 140 = .ok (.iload_n 1, 1) := by decide +kernel
theorem dX6_fit_141 : decode cX6_fit 141 = .ok (.iconst 1, 1) := by decide +kernel
theorem dX6_fit_142 : decode cX6_fit 142 = .ok (.if_icmp .eq 7, 3) := by decide +kernel
theorem dX6_fit_145 : decode cX6_fit 145 = .ok (.iload_n 2, 1) := by decide +kernel
theorem dX6_fit_146 : decode cX6_fit 146 = .ok (.ifCond .ne 7, 3) := by decide +kernel
theorem dX6_fit_149 : decode cX6_fit 149 = .ok (.iload_n 3, 1) := by decide +kernel
theorem dX6_fit_150 : decode cX6_fit 150 = .ok (.goto 5, 3) := by decide +kernel
theorem dX6_fit_153 : decode cX6_fit 153 = .ok (.iload 4, 2) := by decide +kernel
theorem dX6_fit_155 : decode cX6_fit 155 = .ok (.ireturn, 1) := by decide +kernel
set_option maxRecDepth 20000 in
theorem ggX6_lost_X6_in : GoodIn wsX6_lost wsX6_in := goodIn_r _ [6] (by decide +kernel) (by decide +kernel)
set_option maxRecDepth 20000 in
theorem gX6_lost_X6_in : GoodIn wsX6_lost (va_wsS RX6 57 yX6_in wsX6_in) := goodIn_app (goodIn_of _ (by decide +kernel)) ggX6_lost_X6_in
set_option maxRecDepth 20000 in
theorem ggX6_lost_X6_asNow : GoodIn wsX6_lost wsX6_asNow := goodIn_r _ [10, 2, 11, 43, 44, 45, 46, 47, 48, 49, 50, 51, 52, 53, 54, 55, 56, 57, 58, 59, 60, 61, 62, 63, 64, 65, 66, 67, 68] (by decide +kernel) (by decide +kernel)
set_option maxRecDepth 20000 in
theorem gX6_lost_X6_asNow : GoodIn wsX6_lost (wsV RX6 178 RX6 yX6_asNow wsX6_asNow) := goodIn_app (goodIn_of _ (by decide +kernel)) ggX6_lost_X6_asNow
set_option maxRecDepth 20000 in
theorem ggX6_lost_X6_goes : GoodIn wsX6_lost wsX6_goes := goodIn_r _ [15, 16, 17, 18, 5, 19, 20, 21, 22, 23, 24, 25, 26, 27, 28, 29, 30, 31, 32, 33, 34, 35, 36, 37, 38, 39, 40, 41, 42, 43, 44, 45, 46, 47, 48, 49, 50, 51, 52, 53, 54, 55, 56, 57, 58, 59, 60, 61, 62, 63, 64, 65, 66, 67, 68] (by decide +kernel) (by decide +kernel)
set_option maxRecDepth 20000 in
theorem gX6_lost_X6_goes : GoodIn wsX6_lost (wsV RX6 164 RX6 yX6_goes wsX6_goes) := goodIn_app (goodIn_of _ (by decide +kernel)) ggX6_lost_X6_goes
theorem dX6_lost_0 : decode cX6_lost 0 = .ok (.aload_n 0, 1) := by decide +kernel
theorem dX6_lost_1 : decode cX6_lost 1 = .ok (.iconst 0, 1) := by decide +kernel
theorem dX6_lost_2 : decode cX6_lost 2 = .ok (.putfield 53, 3) := by decide +kernel
theorem dX6_lost_5 : decode cX6_lost 5 = .ok (.iload_n 1, 1) := by decide +kernel
theorem dX6_lost_6 : decode cX6_lost 6 = .ok (.iconst 0, 1) := by decide +kernel
theorem dX6_lost_7 : decode cX6_lost 7 = .ok (.sipush 9999, 3) := by decide +kernel
theorem dX6_lost_10 : decode cX6_lost 10 = .ok (.invokestatic 57, 3) := by decide +kernel
theorem dX6_lost_13 : decode cX6_lost 13 = .ok (.ifCond .eq 13, 3) := by decide +kernel
theorem dX6_lost_16 : decode cX6_lost 16 = .ok (.iload_n 2, 1) := by decide +kernel
theorem dX6_lost_17 : decode cX6_lost 17 = .ok (.iconst 0, 1) := by decide +kernel
theorem dX6_lost_18 : decode cX6_lost 18 = .ok (.bipush 7, 2) := by decide +kernel
theorem dX6_lost_20 : decode cX6_lost 20 = .ok (.invokestatic 57, 3) := by decide +kernel
theorem dX6_lost_23 : decode cX6_lost 23 = .ok (.ifCond .ne 5, 3) := by decide +kernel
theorem dX6_lost_26 : decode cX6_lost 26 = .ok (.iconst (-1), 1) := by decide +kernel
theorem dX6_lost_27 : decode cX6_lost 27 = .ok (.ireturn, 1) := by decide +kernel
theorem dX6_lost_28 : decode cX6_lost 28 = .ok (.aload_n 0, 1) := by decide +kernel
theorem dX6_lost_29 : decode cX6_lost 29 = .ok (.invokevirtual 178, 3) := by decide +kernel
theorem dX6_lost_32 : decode cX6_lost 32 = .ok (.iconst 0, 1) := by decide +kernel
theorem dX6_lost_33 : decode cX6_lost 33 = .ok (.istore_n 3, 1) := by decide +kernel
theorem dX6_lost_34 : decode cX6_lost 34 = .ok (.iload_n 3, 1) := by decide +kernel
theorem dX6_lost_35 : decode cX6_lost 35 = .ok (.iload_n 2, 1) := by decide +kernel
theorem dX6_lost_36 : decode cX6_lost 36 = .ok (.if_icmp .ge 25, 3) := by decide +kernel
theorem dX6_lost_39 : decode cX6_lost 39 = .ok (.aload_n 0, 1) := by decide +kernel
theorem dX6_lost_40 : decode cX6_lost 40 = .ok (.aload_n 0, 1) := by decide +kernel
theorem dX6_lost_41 : decode cX6_lost 41 = .ok (.getfield 28, 3) := by decide +kernel
theorem dX6_lost_44 : decode cX6_lost 44 = .ok (.iload_n 1, 1) := by decide +kernel
theorem dX6_lost_45 : decode cX6_lost 45 = .ok (.iload_n 3, 1) := by decide +kernel
theorem dX6_lost_46 : decode cX6_lost 46 = .ok (.iadd, 1) := by decide +kernel
theorem dX6_lost_47 : decode cX6_lost 47 = .ok (.sipush 10000, 3) := by decide +kernel
theorem dX6_lost_50 : decode cX6_lost 50 = .ok (.irem, 1) := by decide +kernel
theorem dX6_lost_51 : decode cX6_lost 51 = .ok (.invokevirtual 164, 3) := by decide +kernel
theorem dX6_lost_54 : decode cX6_lost 54 = .ok (.pop, 1) := by decide +kernel
theorem dX6_lost_55 : decode cX6_lost 55 = .ok (.iinc 3 1, 3) := by decide +kernel
theorem dX6_lost_58 : decode cX6_lost 58 = .ok (.goto (-24), 3) := by decide +kernel
theorem dX6_lost_61 : decode cX6_lost 61 = .ok (.aload_n 0, 1) := by decide +kernel
theorem dX6_lost_62 : decode cX6_lost 62 = .ok (.getfield 28, 3) := by decide +kernel
theorem dX6_lost_65 : decode cX6_lost 65 = .ok (.iconst 4, 1) := by decide +kernel
theorem dX6_lost_66 : decode cX6_lost 66 = .ok (.iaload, 1) := by decide +kernel
theorem dX6_lost_67 : decode cX6_lost 67 = .ok (.ireturn, 1) := by decide +kernel
set_option maxRecDepth 20000 in
theorem ggX6_draw_X6_isThing : GoodIn wsX6_draw wsX6_isThing := goodIn_r _ [7, 8, 9, 10, 6, 11, 38, 39, 40, 41, 42, 43, 44, 45, 46, 47, 48, 49, 50, 51, 52, 53, 54, 55, 56, 57, 58, 59, 60, 61, 62, 63] (by decide +kernel) (by decide +kernel)
set_option maxRecDepth 20000 in
theorem gX6_draw_X6_isThing : GoodIn wsX6_draw (wsV RX6 138 RX6 yX6_isThing wsX6_isThing) := goodIn_app (goodIn_of _ (by decide +kernel)) ggX6_draw_X6_isThing
set_option maxRecDepth 20000 in
theorem ggX6_draw_X6_in : GoodIn wsX6_draw wsX6_in := goodIn_r _ [11] (by decide +kernel) (by decide +kernel)
set_option maxRecDepth 20000 in
theorem gX6_draw_X6_in : GoodIn wsX6_draw (va_wsS RX6 57 yX6_in wsX6_in) := goodIn_app (goodIn_of _ (by decide +kernel)) ggX6_draw_X6_in
set_option maxRecDepth 20000 in
theorem ggX6_draw_X6_comesBy : GoodIn wsX6_draw wsX6_comesBy := goodIn_r _ [15, 16, 17, 18, 19, 20, 21, 22, 23, 6, 24, 8, 25, 26, 27, 28, 29, 30, 31, 32, 33, 34, 35, 36, 37, 38, 39, 40, 41, 42, 43, 44, 45, 46, 47, 48, 49, 50, 51, 52, 53, 54, 55, 56, 57, 58, 59, 60, 61, 62, 63] (by decide +kernel) (by decide +kernel)
set_option maxRecDepth 20000 in
theorem gX6_draw_X6_comesBy : GoodIn wsX6_draw (wsV RX6 160 RX6 yX6_comesBy wsX6_comesBy) := goodIn_app (goodIn_of _ (by decide +kernel)) ggX6_draw_X6_comesBy
theorem dX6_draw_0 : decode cX6_draw 0 = .ok (.aload_n 0, 1) := by decide +kernel
theorem dX6_draw_1 : decode cX6_draw 1 = .ok (.iconst 0, 1) := by decide +kernel
theorem dX6_draw_2 : decode cX6_draw 2 = .ok (.putfield 53, 3) := by decide +kernel
theorem dX6_draw_5 : decode cX6_draw 5 = .ok (.aload_n 0, 1) := by decide +kernel
theorem dX6_draw_6 : decode cX6_draw 6 = .ok (.iload_n 1, 1) := by decide +kernel
theorem dX6_draw_7 : decode cX6_draw 7 = .ok (.invokevirtual 138, 3) := by decide +kernel
theorem dX6_draw_10 : decode cX6_draw 10 = .ok (.ifCond .eq 12, 3) := by decide +kernel
theorem dX6_draw_13 : decode cX6_draw 13 = .ok (.iload_n 2, 1) := by decide +kernel
theorem dX6_draw_14 : decode cX6_draw 14 = .ok (.iconst 0, 1) := by decide +kernel
theorem dX6_draw_15 : decode cX6_draw 15 = .ok (.iconst 1, 1) := by decide +kernel
theorem dX6_draw_16 : decode cX6_draw 16 = .ok (.invokestatic 57, 3) := by decide +kernel
theorem dX6_draw_19 : decode cX6_draw 19 = .ok (.ifCond .ne 5, 3) := by decide +kernel
theorem dX6_draw_22 : decode cX6_draw 22 = .ok (.iconst (-1), 1) := by decide +kernel
theorem dX6_draw_23 : decode cX6_draw 23 = .ok (.ireturn, 1) := by decide +kernel
theorem dX6_draw_24 : decode cX6_draw 24 = .ok (.iconst 0, 1) := by decide +kernel
theorem dX6_draw_25 : decode cX6_draw 25 = .ok (.istore_n 3, 1) := by decide +kernel
theorem dX6_draw_26 : decode cX6_draw 26 = .ok (.bipush (-9), 2) := by decide +kernel
theorem dX6_draw_28 : decode cX6_draw 28 = .ok (.istore 4, 2) := by decide +kernel
theorem dX6_draw_30 : decode cX6_draw 30 = .ok (.iconst 0, 1) := by decide +kernel
theorem dX6_draw_31 : decode cX6_draw 31 = .ok (.istore 5, 2) := by decide +kernel
theorem dX6_draw_33 : decode cX6_draw 33 = .ok (.iload 5, 2) := by decide +kernel
theorem dX6_draw_35 : decode cX6_draw 35 = .ok (.sipush 500, 3) := by decide +kernel
theorem dX6_draw_38 : decode cX6_draw 38 = .ok (.if_icmp .ge 39, 3) := by decide +kernel
theorem dX6_draw_41 : decode cX6_draw 41 = .ok (.aload_n 0, 1) := by decide +kernel
theorem dX6_draw_42 : decode cX6_draw 42 = .ok (.aload_n 0, 1) := by decide +kernel
theorem dX6_draw_43 : decode cX6_draw 43 = .ok (.getfield 25, 3) := by decide +kernel
theorem dX6_draw_46 : decode cX6_draw 46 = .ok (.iload 5, 2) := by decide +kernel
theorem dX6_draw_48 : decode cX6_draw 48 = .ok (.invokevirtual 160, 3) := by decide +kernel
theorem dX6_draw_51 : decode cX6_draw 51 = .ok (.iload_n 1, 1) := by decide +kernel
theorem dX6_draw_52 : decode cX6_draw 52 = .ok (.if_icmp .ne 19, 3) := by decide +kernel
theorem dX6_draw_55 : decode cX6_draw 55 = .ok (.iload_n 3, 1) := by decide +kernel
theorem dX6_draw_56 : decode cX6_draw 56 = .ok (.ifCond .ne 8, 3) := by decide +kernel
theorem dX6_draw_59 : decode cX6_draw 59 = .ok (.iload 5, 2) := by decide +kernel
theorem dX6_draw_61 : decode cX6_draw 61 = .ok (.goto 5, 3) := by decide +kernel
theorem dX6_draw_64 : decode cX6_draw 64 = .ok (.iload 4, 2) := by decide +kernel
theorem dX6_draw_66 : decode cX6_draw 66 = .ok (.istore 4, 2) := by decide +kernel
theorem dX6_draw_68 : decode cX6_draw 68 = .ok (.iinc 3 1, 3) := by decide +kernel
theorem dX6_draw_71 : decode cX6_draw 71 = .ok (.iinc 5 1, 3) := by decide +kernel
theorem dX6_draw_74 : decode cX6_draw 74 = .ok (.goto (-41), 3) := by decide +kernel
theorem dX6_draw_77 : decode cX6_draw 77 = .ok (.iload_n 2, 1) := by decide +kernel
theorem dX6_draw_78 : decode cX6_draw 78 = .ok (.ifCond .ne 7, 3) := by decide +kernel
theorem dX6_draw_81 : decode cX6_draw 81 = .ok (.iload_n 3, 1) := by decide +kernel
theorem dX6_draw_82 : decode cX6_draw 82 = .ok (.goto 5, 3) := by decide +kernel
theorem dX6_draw_85 : decode cX6_draw 85 = .ok (.iload 4, 2) := by decide +kernel
theorem dX6_draw_87 : decode cX6_draw 87 = .ok (.ireturn, 1) := by decide +kernel
set_option maxRecDepth 20000 in
theorem ggX6_rate_X6_in : GoodIn wsX6_rate wsX6_in := goodIn_r _ [16] (by decide +kernel) (by decide +kernel)
set_option maxRecDepth 20000 in
theorem gX6_rate_X6_in : GoodIn wsX6_rate (va_wsS RX6 57 yX6_in wsX6_in) := goodIn_app (goodIn_of _ (by decide +kernel)) ggX6_rate_X6_in
set_option maxRecDepth 20000 in
theorem ggX6_rate_X6_isThing : GoodIn wsX6_rate wsX6_isThing := goodIn_r _ [20, 21, 13, 14, 15, 16, 25, 26, 27, 28, 29, 30, 31, 32, 33, 34, 35, 36, 37, 38, 39, 40, 41, 42, 43, 44, 45, 46, 47, 48, 49, 50] (by decide +kernel) (by decide +kernel)
set_option maxRecDepth 20000 in
theorem gX6_rate_X6_isThing : GoodIn wsX6_rate (wsV RX6 138 RX6 yX6_isThing wsX6_isThing) := goodIn_app (goodIn_of _ (by decide +kernel)) ggX6_rate_X6_isThing
set_option maxRecDepth 20000 in
theorem ggX6_rate_X6_ones : GoodIn wsX6_rate wsX6_ones := goodIn_r _ [24] (by decide +kernel) (by decide +kernel)
set_option maxRecDepth 20000 in
theorem gX6_rate_X6_ones : GoodIn wsX6_rate (va_wsS RX6 145 yX6_ones wsX6_ones) := goodIn_app (goodIn_of _ (by decide +kernel)) ggX6_rate_X6_ones
theorem dX6_rate_0 : decode cX6_rate 0 = .ok (.aload_n 0, 1) := by decide +kernel
theorem dX6_rate_1 : decode cX6_rate 1 = .ok (.iconst 0, 1) := by decide +kernel
theorem dX6_rate_2 : decode cX6_rate 2 = .ok (.putfield 53, 3) := by decide +kernel
theorem dX6_rate_5 : decode cX6_rate 5 = .ok (.iload_n 1, 1) := by decide +kernel
theorem dX6_rate_6 : decode cX6_rate 6 = .ok (.iconst 0, 1) := by decide +kernel
theorem dX6_rate_7 : decode cX6_rate 7 = .ok (.iconst 5, 1) := by decide +kernel
theorem dX6_rate_8 : decode cX6_rate 8 = .ok (.invokestatic 57, 3) := by decide +kernel
theorem dX6_rate_11 : decode cX6_rate 11 = .ok (.ifCond .eq 11, 3) := by decide +kernel
theorem dX6_rate_14 : decode cX6_rate 14 = .ok (.aload_n 0, 1) := by decide +kernel
theorem dX6_rate_15 : decode cX6_rate 15 = .ok (.iload_n 2, 1) := by decide +kernel
theorem dX6_rate_16 : decode cX6_rate 16 = .ok (.invokevirtual 138, 3) := by decide +kernel
theorem dX6_rate_19 : decode cX6_rate 19 = .ok (.ifCond .ne 6, 3) := by decide +kernel
theorem dX6_rate_22 : decode cX6_rate 22 = .ok (.ldc 177, 2) := by decide +kernel
theorem dX6_rate_24 : decode cX6_rate 24 = .ok (.ireturn, 1) := by decide +kernel
theorem dX6_rate_25 : decode cX6_rate 25 = .ok (.aload_n 0, 1) := by decide +kernel
theorem dX6_rate_26 : decode cX6_rate 26 = .ok (.getfield 19, 3) := by decide +kernel
theorem dX6_rate_29 : decode cX6_rate 29 = .ok (.iload_n 2, 1) := by decide +kernel
theorem dX6_rate_30 : decode cX6_rate 30 = .ok (.iaload, 1) := by decide +kernel
theorem dX6_rate_31 : decode cX6_rate 31 = .ok (.aload_n 0, 1) := by decide +kernel
theorem dX6_rate_32 : decode cX6_rate 32 = .ok (.getfield 22, 3) := by decide +kernel
theorem dX6_rate_35 : decode cX6_rate 35 = .ok (.iload_n 2, 1) := by decide +kernel
theorem dX6_rate_36 : decode cX6_rate 36 = .ok (.iaload, 1) := by decide +kernel
theorem dX6_rate_37 : decode cX6_rate 37 = .ok (.iadd, 1) := by decide +kernel
theorem dX6_rate_38 : decode cX6_rate 38 = .ok (.istore_n 3, 1) := by decide +kernel
theorem dX6_rate_39 : decode cX6_rate 39 = .ok (.aload_n 0, 1) := by decide +kernel
theorem dX6_rate_40 : decode cX6_rate 40 = .ok (.getfield 19, 3) := by decide +kernel
theorem dX6_rate_43 : decode cX6_rate 43 = .ok (.iload_n 2, 1) := by decide +kernel
theorem dX6_rate_44 : decode cX6_rate 44 = .ok (.iaload, 1) := by decide +kernel
theorem dX6_rate_45 : decode cX6_rate 45 = .ok (.aload_n 0, 1) := by decide +kernel
theorem dX6_rate_46 : decode cX6_rate 46 = .ok (.getfield 16, 3) := by decide +kernel
theorem dX6_rate_49 : decode cX6_rate 49 = .ok (.iload_n 2, 1) := by decide +kernel
theorem dX6_rate_50 : decode cX6_rate 50 = .ok (.iaload, 1) := by decide +kernel
theorem dX6_rate_51 : decode cX6_rate 51 = .ok (.invokestatic 145, 3) := by decide +kernel
theorem dX6_rate_54 : decode cX6_rate 54 = .ok (.isub, 1) := by decide +kernel
theorem dX6_rate_55 : decode cX6_rate 55 = .ok (.istore 4, 2) := by decide +kernel
theorem dX6_rate_57 : decode cX6_rate 57 = .ok (.aload_n 0, 1) := by decide +kernel
theorem dX6_rate_58 : decode cX6_rate 58 = .ok (.dup, 1) := by decide +kernel
theorem dX6_rate_59 : decode cX6_rate 59 = .ok (.getfield 185, 3) := by decide +kernel
theorem dX6_rate_62 : decode cX6_rate 62 = .ok (.iload_n 1, 1) := by decide +kernel
theorem dX6_rate_63 : decode cX6_rate 63 = .ok (.ifCond .ne 7, 3) := by decide +kernel
theorem dX6_rate_66 : decode cX6_rate 66 = .ok (.lconst 1, 1) := by decide +kernel
theorem dX6_rate_67 : decode cX6_rate 67 = .ok (.goto 50, 3) := by decide +kernel
theorem dX6_rate_70 : decode cX6_rate 70 = .ok (.iload_n 1, 1) := by decide +kernel
theorem dX6_rate_71 : decode cX6_rate 71 = .ok (.iconst 1, 1) := by decide +kernel
theorem dX6_rate_72 : decode cX6_rate 72 = .ok (.if_icmp .ne 9, 3) := by decide +kernel
theorem dX6_rate_75 : decode cX6_rate 75 = .ok (.ldc2_w 189, 3) := by decide +kernel
theorem dX6_rate_78 : decode cX6_rate 78 = .ok (.goto 39, 3) := by decide +kernel
theorem dX6_rate_81 : decode cX6_rate 81 = .ok (.iload_n 1, 1) := by decide +kernel
theorem dX6_rate_82 : decode cX6_rate 82 = .ok (.iconst 2, 1) := by decide +kernel
theorem dX6_rate_83 : decode cX6_rate 83 = .ok (.if_icmp .ne 9, 3) := by decide +kernel
theorem dX6_rate_86 : decode cX6_rate 86 = .ok (.ldc2_w 191, 3) := by decide +kernel
theorem dX6_rate_89 : decode cX6_rate 89 = .ok (.goto 28, 3) := by decide +kernel
theorem dX6_rate_92 : decode cX6_rate 92 = .ok (.iload_n 1, 1) := by decide +kernel
theorem dX6_rate_93 : decode cX6_rate 93 = .ok (.iconst 3, 1) := by decide +kernel
theorem dX6_rate_94 : decode cX6_rate 94 = .ok (.if_icmp .ne 9, 3) := by decide +kernel
theorem dX6_rate_97 : decode cX6_rate 97 = .ok (.ldc2_w 193, 3) := by decide +kernel
theorem dX6_rate_100 : decode cX6_rate 100 = .ok (.goto 17, 3) := by decide +kernel
theorem dX6_rate_103 : decode cX6_rate 103 = .ok (.iload_n 1, 1) := by decide +kernel
theorem dX6_rate_104 : decode cX6_rate 104 = .ok (.iconst 4, 1) := by decide +kernel
theorem dX6_rate_105 : decode cX6_rate 105 = .ok (.if_icmp .ne 9, 3) := by decide +kernel
theorem dX6_rate_108 : decode cX6_rate 108 = .ok (.ldc2_w 195, 3) := by decide +kernel
theorem dX6_rate_111 : decode cX6_rate 111 = .ok (.goto 6, 3) := by decide +kernel
theorem dX6_rate_114 : decode cX6_rate 114 = .ok (.ldc2_w 197, 3) := by decide +kernel
theorem dX6_rate_117 : decode cX6_rate 117 = .ok (.ladd, 1) := by decide +kernel
theorem dX6_rate_118 : decode cX6_rate 118 = .ok (.putfield 185, 3) := by decide +kernel
theorem dX6_rate_121 : decode cX6_rate 121 = .ok (.iload_n 1, 1) := by decide +kernel
theorem dX6_rate_122 : decode cX6_rate 122 = .ok (.ifCond .ne 12, 3) := by decide +kernel
theorem dX6_rate_125 : decode cX6_rate 125 = .ok (.aload_n 0, 1) := by decide +kernel
theorem dX6_rate_126 : decode cX6_rate 126 = .ok (.getfield 19, 3) := by decide +kernel
theorem dX6_rate_129 : decode cX6_rate 129 = .ok (.iload_n 2, 1) := by decide +kernel
theorem dX6_rate_130 : decode cX6_rate 130 = .ok (.iaload, 1) := by decide +kernel
theorem dX6_rate_131 : decode cX6_rate 131 = .ok (.goto 58, 3) := by decide +kernel
theorem dX6_rate_134 : decode cX6_rate 134 = .ok (.iload_n 1, 1) := by decide +kernel
theorem dX6_rate_135 : decode cX6_rate 135 = .ok (.iconst 1, 1) := by decide +kernel
theorem dX6_rate_136 : decode cX6_rate 136 = .ok (.if_icmp .ne 7, 3) := by decide +kernel
theorem dX6_rate_139 : decode cX6_rate 139 = .ok (.iload_n 3, 1) := by decide +kernel
theorem dX6_rate_140 : decode cX6_rate 140 = .ok (.goto 49, 3) := by decide +kernel
theorem dX6_rate_143 : decode cX6_rate 143 = .ok (.iload_n 1, 1) := by decide +kernel
theorem dX6_rate_144 : decode cX6_rate 144 = .ok (.iconst 2, 1) := by decide +kernel
theorem dX6_rate_145 : decode cX6_rate 145 = .ok (.if_icmp .ne 8, 3) := by decide +kernel
theorem dX6_rate_148 : decode cX6_rate 148 = .ok (.iload 4, 2) := by decide +kernel
theorem dX6_rate_150 : decode cX6_rate 150 = .ok (.goto 39, 3) := by decide +kernel
theorem dX6_rate_153 : decode cX6_rate 153 = .ok (.iload_n 1, 1) := by decide +kernel
theorem dX6_rate_154 : decode cX6_rate 154 = .ok (.iconst 3, 1) := by decide +kernel
theorem dX6_rate_155 : decode cX6_rate 155 = .ok (.if_icmp .ne 9, 3) := by decide +kernel
theorem dX6_rate_158 : decode cX6_rate 158 = .ok (.iconst 2, 1) := by decide +kernel
theorem dX6_rate_159 : decode cX6_rate 159 = .ok (.iload_n 3, 1) := by decide +kernel
theorem dX6_rate_160 : decode cX6_rate 160 = .ok (.imul, 1) := by decide +kernel
theorem dX6_rate_161 : decode cX6_rate 161 = .ok (.goto 28, 3) := by decide +kernel
theorem dX6_rate_164 : decode cX6_rate 164 = .ok (.iload_n 1, 1) := by decide +kernel
theorem dX6_rate_165 : decode cX6_rate 165 = .ok (.iconst 4, 1) := by decide +kernel
theorem dX6_rate_166 : decode cX6_rate 166 = .ok (.if_icmp .ne 10, 3) := by decide +kernel
theorem dX6_rate_169 : decode cX6_rate 169 = .ok (.iload 4, 2) := by decide +kernel
theorem dX6_rate_171 : decode cX6_rate 171 = .ok (.iload_n 2, 1) := by decide +kernel
theorem dX6_rate_172 : decode cX6_rate 172 = .ok (.iadd, 1) := by decide +kernel
theorem dX6_rate_173 : decode cX6_rate 173 = .ok (.goto 16, 3) := by decide +kernel
theorem dX6_rate_176 : decode cX6_rate 176 = .ok (.aload_n 0, 1) := by decide +kernel
theorem dX6_rate_177 : decode cX6_rate 177 = .ok (.getfield 19, 3) := by decide +kernel
theorem dX6_rate_180 : decode cX6_rate 180 = .ok (.iload_n 2, 1) := by decide +kernel
theorem dX6_rate_181 : decode cX6_rate 181 = .ok (.iaload, 1) := by decide +kernel
theorem dX6_rate_182 : decode cX6_rate 182 = .ok (.aload_n 0, 1) := by decide +kernel
theorem dX6_rate_183 : decode cX6_rate 183 = .ok (.getfield 25, 3) := by decide +kernel
theorem dX6_rate_186 : decode cX6_rate 186 = .ok (.iconst 0, 1) := by decide +kernel
theorem dX6_rate_187 : decode cX6_rate 187 = .ok (.iaload, 1) := by decide +kernel
theorem dX6_rate_188 : decode cX6_rate 188 = .ok (.iadd, 1) := by decide +kernel
theorem dX6_rate_189 : decode cX6_rate 189 = .ok (.ireturn, 1) := by decide +kernel
set_option maxRecDepth 20000 in
theorem ggX6_keep_X6_in : GoodIn wsX6_keep wsX6_in := goodIn_r _ [8] (by decide +kernel) (by decide +kernel)
set_option maxRecDepth 20000 in
theorem gX6_keep_X6_in : GoodIn wsX6_keep (va_wsS RX6 57 yX6_in wsX6_in) := goodIn_app (goodIn_of _ (by decide +kernel)) ggX6_keep_X6_in
theorem dX6_keep_0 : decode cX6_keep 0 = .ok (.aload_n 0, 1) := by decide +kernel
theorem dX6_keep_1 : decode cX6_keep 1 = .ok (.iconst 0, 1) := by decide +kernel
theorem dX6_keep_2 : decode cX6_keep 2 = .ok (.putfield 53, 3) := by decide +kernel
theorem dX6_keep_5 : decode cX6_keep 5 = .ok (.iload_n 1, 1) := by decide +kernel
theorem dX6_keep_6 : decode cX6_keep 6 = .ok (.iconst 0, 1) := by decide +kernel
theorem dX6_keep_7 : decode cX6_keep 7 = .ok (.iconst 1, 1) := by decide +kernel
theorem dX6_keep_8 : decode cX6_keep 8 = .ok (.invokestatic 57, 3) := by decide +kernel
theorem dX6_keep_11 : decode cX6_keep 11 = .ok (.ifCond .ne 5, 3) := by decide +kernel
theorem dX6_keep_14 : decode cX6_keep 14 = .ok (.iconst (-1), 1) := by decide +kernel
theorem dX6_keep_15 : decode cX6_keep 15 = .ok (.ireturn, 1) := by decide +kernel
theorem dX6_keep_16 : decode cX6_keep 16 = .ok (.iconst 0, 1) := by decide +kernel
theorem dX6_keep_17 : decode cX6_keep 17 = .ok (.istore_n 2, 1) := by decide +kernel
theorem dX6_keep_18 : decode cX6_keep 18 = .ok (.iload_n 2, 1) := by decide +kernel
theorem dX6_keep_19 : decode cX6_keep 19 = .ok (.iconst 5, 1) := by decide +kernel
theorem dX6_keep_20 : decode cX6_keep 20 = .ok (.if_icmp .ge 25, 3) := by decide +kernel
theorem dX6_keep_23 : decode cX6_keep 23 = .ok (.aload_n 0, 1) := by decide +kernel
theorem dX6_keep_24 : decode cX6_keep 24 = .ok (.getfield 31, 3) := by decide +kernel
theorem dX6_keep_27 : decode cX6_keep 27 = .ok (.iconst 5, 1) := by decide +kernel
theorem dX6_keep_28 : decode cX6_keep 28 = .ok (.iload_n 1, 1) := by decide +kernel
theorem dX6_keep_29 : decode cX6_keep 29 = .ok (.imul, 1) := by decide +kernel
theorem dX6_keep_30 : decode cX6_keep 30 = .ok (.iload_n 2, 1) := by decide +kernel
theorem dX6_keep_31 : decode cX6_keep 31 = .ok (.iadd, 1) := by decide +kernel
theorem dX6_keep_32 : decode cX6_keep 32 = .ok (.aload_n 0, 1) := by decide +kernel
theorem dX6_keep_33 : decode cX6_keep 33 = .ok (.getfield 25, 3) := by decide +kernel
theorem dX6_keep_36 : decode cX6_keep 36 = .ok (.iload_n 2, 1) := by decide +kernel
theorem dX6_keep_37 : decode cX6_keep 37 = .ok (.iaload, 1) := by decide +kernel
theorem dX6_keep_38 : decode cX6_keep 38 = .ok (.iastore, 1) := by decide +kernel
theorem dX6_keep_39 : decode cX6_keep 39 = .ok (.iinc 2 1, 3) := by decide +kernel
theorem dX6_keep_42 : decode cX6_keep 42 = .ok (.goto (-24), 3) := by decide +kernel
theorem dX6_keep_45 : decode cX6_keep 45 = .ok (.aload_n 0, 1) := by decide +kernel
theorem dX6_keep_46 : decode cX6_keep 46 = .ok (.getfield 34, 3) := by decide +kernel
theorem dX6_keep_49 : decode cX6_keep 49 = .ok (.iload_n 1, 1) := by decide +kernel
theorem dX6_keep_50 : decode cX6_keep 50 = .ok (.iconst 1, 1) := by decide +kernel
theorem dX6_keep_51 : decode cX6_keep 51 = .ok (.bastore, 1) := by decide +kernel
theorem dX6_keep_52 : decode cX6_keep 52 = .ok (.aload_n 0, 1) := by decide +kernel
theorem dX6_keep_53 : decode cX6_keep 53 = .ok (.getfield 25, 3) := by decide +kernel
theorem dX6_keep_56 : decode cX6_keep 56 = .ok (.iconst 0, 1) := by decide +kernel
theorem dX6_keep_57 : decode cX6_keep 57 = .ok (.iaload, 1) := by decide +kernel
theorem dX6_keep_58 : decode cX6_keep 58 = .ok (.ireturn, 1) := by decide +kernel
set_option maxRecDepth 20000 in
theorem ggX6_back_X6_in : GoodIn wsX6_back wsX6_in := goodIn_r _ [9] (by decide +kernel) (by decide +kernel)
set_option maxRecDepth 20000 in
theorem gX6_back_X6_in : GoodIn wsX6_back (va_wsS RX6 57 yX6_in wsX6_in) := goodIn_app (goodIn_of _ (by decide +kernel)) ggX6_back_X6_in
theorem dX6_back_0 : decode cX6_back 0 = .ok (.aload_n 0, 1) := by decide +kernel
theorem dX6_back_1 : decode cX6_back 1 = .ok (.iconst 0, 1) := by decide +kernel
theorem dX6_back_2 : decode cX6_back 2 = .ok (.putfield 53, 3) := by decide +kernel
theorem dX6_back_5 : decode cX6_back 5 = .ok (.iload_n 1, 1) := by decide +kernel
theorem dX6_back_6 : decode cX6_back 6 = .ok (.iconst 0, 1) := by decide +kernel
theorem dX6_back_7 : decode cX6_back 7 = .ok (.iconst 1, 1) := by decide +kernel
theorem dX6_back_8 : decode cX6_back 8 = .ok (.invokestatic 57, 3) := by decide +kernel
theorem dX6_back_11 : decode cX6_back 11 = .ok (.ifCond .ne 5, 3) := by decide +kernel
theorem dX6_back_14 : decode cX6_back 14 = .ok (.iconst (-1), 1) := by decide +kernel
theorem dX6_back_15 : decode cX6_back 15 = .ok (.ireturn, 1) := by decide +kernel
theorem dX6_back_16 : decode cX6_back 16 = .ok (.aload_n 0, 1) := by decide +kernel
theorem dX6_back_17 : decode cX6_back 17 = .ok (.getfield 34, 3) := by decide +kernel
theorem dX6_back_20 : decode cX6_back 20 = .ok (.iload_n 1, 1) := by decide +kernel
theorem dX6_back_21 : decode cX6_back 21 = .ok (.baload, 1) := by decide +kernel
theorem dX6_back_22 : decode cX6_back 22 = .ok (.ifCond .ne 6, 3) := by decide +kernel
theorem dX6_back_25 : decode cX6_back 25 = .ok (.bipush (-2), 2) := by decide +kernel
theorem dX6_back_27 : decode cX6_back 27 = .ok (.ireturn, 1) := by decide +kernel
theorem dX6_back_28 : decode cX6_back 28 = .ok (.iconst 0, 1) := by decide +kernel
theorem dX6_back_29 : decode cX6_back 29 = .ok (.istore_n 2, 1) := by decide +kernel
theorem dX6_back_30 : decode cX6_back 30 = .ok (.iload_n 2, 1) := by decide +kernel
theorem dX6_back_31 : decode cX6_back 31 = .ok (.iconst 5, 1) := by decide +kernel
theorem dX6_back_32 : decode cX6_back 32 = .ok (.if_icmp .ge 25, 3) := by decide +kernel
theorem dX6_back_35 : decode cX6_back 35 = .ok (.aload_n 0, 1) := by decide +kernel
theorem dX6_back_36 : decode cX6_back 36 = .ok (.getfield 25, 3) := by decide +kernel
theorem dX6_back_39 : decode cX6_back 39 = .ok (.iload_n 2, 1) := by decide +kernel
theorem dX6_back_40 : decode cX6_back 40 = .ok (.aload_n 0, 1) := by decide +kernel
theorem dX6_back_41 : decode cX6_back 41 = .ok (.getfield 31, 3) := by decide +kernel
theorem dX6_back_44 : decode cX6_back 44 = .ok (.iconst 5, 1) := by decide +kernel
theorem dX6_back_45 : decode cX6_back 45 = .ok (.iload_n 1, 1) := by decide +kernel
theorem dX6_back_46 : decode cX6_back 46 = .ok (.imul, 1) := by decide +kernel
theorem dX6_back_47 : decode cX6_back 47 = .ok (.iload_n 2, 1) := by decide +kernel
theorem dX6_back_48 : decode cX6_back 48 = .ok (.iadd, 1) := by decide +kernel
theorem dX6_back_49 : decode cX6_back 49 = .ok (.iaload, 1) := by decide +kernel
theorem dX6_back_50 : decode cX6_back 50 = .ok (.iastore, 1) := by decide +kernel
theorem dX6_back_51 : decode cX6_back 51 = .ok (.iinc 2 1, 3) := by decide +kernel
theorem dX6_back_54 : decode cX6_back 54 = .ok (.goto (-24), 3) := by decide +kernel
theorem dX6_back_57 : decode cX6_back 57 = .ok (.aload_n 0, 1) := by decide +kernel
theorem dX6_back_58 : decode cX6_back 58 = .ok (.iconst 0, 1) := by decide +kernel
theorem dX6_back_59 : decode cX6_back 59 = .ok (.putfield 111, 3) := by decide +kernel
theorem dX6_back_62 : decode cX6_back 62 = .ok (.aload_n 0, 1) := by decide +kernel
theorem dX6_back_63 : decode cX6_back 63 = .ok (.getfield 25, 3) := by decide +kernel
theorem dX6_back_66 : decode cX6_back 66 = .ok (.iconst 0, 1) := by decide +kernel
theorem dX6_back_67 : decode cX6_back 67 = .ok (.iaload, 1) := by decide +kernel
theorem dX6_back_68 : decode cX6_back 68 = .ok (.ireturn, 1) := by decide +kernel
set_option maxRecDepth 20000 in
theorem ggX6_count_X6_in : GoodIn wsX6_count wsX6_in := goodIn_r _ [8] (by decide +kernel) (by decide +kernel)
set_option maxRecDepth 20000 in
theorem gX6_count_X6_in : GoodIn wsX6_count (va_wsS RX6 57 yX6_in wsX6_in) := goodIn_app (goodIn_of _ (by decide +kernel)) ggX6_count_X6_in
theorem dX6_count_0 : decode cX6_count 0 = .ok (.aload_n 0, 1) := by decide +kernel
theorem dX6_count_1 : decode cX6_count 1 = .ok (.iconst 0, 1) := by decide +kernel
theorem dX6_count_2 : decode cX6_count 2 = .ok (.putfield 53, 3) := by decide +kernel
theorem dX6_count_5 : decode cX6_count 5 = .ok (.iload_n 1, 1) := by decide +kernel
theorem dX6_count_6 : decode cX6_count 6 = .ok (.iconst 0, 1) := by decide +kernel
theorem dX6_count_7 : decode cX6_count 7 = .ok (.iconst 3, 1) := by decide +kernel
theorem dX6_count_8 : decode cX6_count 8 = .ok (.invokestatic 57, 3) := by decide +kernel
theorem dX6_count_11 : decode cX6_count 11 = .ok (.ifCond .eq 12, 3) := by decide +kernel
theorem dX6_count_14 : decode cX6_count 14 = .ok (.aload_n 0, 1) := by decide +kernel
theorem dX6_count_15 : decode cX6_count 15 = .ok (.getfield 13, 3) := by decide +kernel
theorem dX6_count_18 : decode cX6_count 18 = .ok (.iload_n 1, 1) := by decide +kernel
theorem dX6_count_19 : decode cX6_count 19 = .ok (.iaload, 1) := by decide +kernel
theorem dX6_count_20 : decode cX6_count 20 = .ok (.goto 28, 3) := by decide +kernel
theorem dX6_count_23 : decode cX6_count 23 = .ok (.iload_n 1, 1) := by decide +kernel
theorem dX6_count_24 : decode cX6_count 24 = .ok (.iconst 4, 1) := by decide +kernel
theorem dX6_count_25 : decode cX6_count 25 = .ok (.if_icmp .ne 10, 3) := by decide +kernel
theorem dX6_count_28 : decode cX6_count 28 = .ok (.aload_n 0, 1) := by decide +kernel
theorem dX6_count_29 : decode cX6_count 29 = .ok (.getfield 108, 3) := by decide +kernel
theorem dX6_count_32 : decode cX6_count 32 = .ok (.goto 16, 3) := by decide +kernel
theorem dX6_count_35 : decode cX6_count 35 = .ok (.iload_n 1, 1) := by decide +kernel
theorem dX6_count_36 : decode cX6_count 36 = .ok (.iconst 5, 1) := by decide +kernel
theorem dX6_count_37 : decode cX6_count 37 = .ok (.if_icmp .ne 10, 3) := by decide +kernel
theorem dX6_count_40 : decode cX6_count 40 = .ok (.aload_n 0, 1) := by decide +kernel
theorem dX6_count_41 : decode cX6_count 41 = .ok (.getfield 61, 3) := by decide +kernel
theorem dX6_count_44 : decode cX6_count 44 = .ok (.goto 4, 3) := by decide +kernel
theorem dX6_count_47 : decode cX6_count 47 = .ok (.iconst (-1), 1) := by decide +kernel
theorem dX6_count_48 : decode cX6_count 48 = .ok (.ireturn, 1) := by decide +kernel
theorem dX6_trace_0 : decode cX6_trace 0 = .ok (.aload_n 0, 1) := by decide +kernel
theorem dX6_trace_1 : decode cX6_trace 1 = .ok (.iconst 0, 1) := by decide +kernel
theorem dX6_trace_2 : decode cX6_trace 2 = .ok (.putfield 53, 3) := by decide +kernel
theorem dX6_trace_5 : decode cX6_trace 5 = .ok (.aload_n 0, 1) := by decide +kernel
theorem dX6_trace_6 : decode cX6_trace 6 = .ok (.getfield 185, 3) := by decide +kernel
theorem dX6_trace_9 : decode cX6_trace 9 = .ok (.lreturn, 1) := by decide +kernel
theorem dJ6_compare_7cf53_0 : decode cJ6_compare_7cf53 0 = .ok (.iload_n 0, 1) := by decide +kernel
theorem dJ6_compare_7cf53_1 : decode cJ6_compare_7cf53 1 = .ok (.iload_n 1, 1) := by decide +kernel
theorem dJ6_compare_7cf53_2 : decode cJ6_compare_7cf53 2 = .ok (.if_icmp .ge 7, 3) := by decide +kernel
theorem dJ6_compare_7cf53_5 : decode cJ6_compare_7cf53 5 = .ok (.iconst (-1), 1) := by decide +kernel
theorem dJ6_compare_7cf53_6 : decode cJ6_compare_7cf53 6 = .ok (.goto 13, 3) := by decide +kernel
theorem dJ6_compare_7cf53_9 : decode cJ6_compare_7cf53 9 = .ok (.iload_n 0, 1) := by decide +kernel
theorem dJ6_compare_7cf53_10 : decode cJ6_compare_7cf53 10 = .ok (.iload_n 1, 1) := by decide +kernel
theorem dJ6_compare_7cf53_11 : decode cJ6_compare_7cf53 11 = .ok (.if_icmp .ne 7, 3) := by decide +kernel
theorem dJ6_compare_7cf53_14 : decode cJ6_compare_7cf53 14 = .ok (.iconst 0, 1) := by decide +kernel
theorem dJ6_compare_7cf53_15 : decode cJ6_compare_7cf53 15 = .ok (.goto 4, 3) := by decide +kernel
theorem dJ6_compare_7cf53_18 : decode cJ6_compare_7cf53 18 = .ok (.iconst 1, 1) := by decide +kernel
theorem dJ6_compare_7cf53_19 : decode cJ6_compare_7cf53 19 = .ok (.ireturn, 1) := by decide +kernel
theorem dJ6_bitCount_0f7a4_0 : decode cJ6_bitCount_0f7a4 0 = .ok (.iload_n 0, 1) := by decide +kernel
theorem dJ6_bitCount_0f7a4_1 : decode cJ6_bitCount_0f7a4 1 = .ok (.iload_n 0, 1) := by decide +kernel
theorem dJ6_bitCount_0f7a4_2 : decode cJ6_bitCount_0f7a4 2 = .ok (.iconst 1, 1) := by decide +kernel
theorem dJ6_bitCount_0f7a4_3 : decode cJ6_bitCount_0f7a4 3 = .ok (.iushr, 1) := by decide +kernel
theorem dJ6_bitCount_0f7a4_4 : decode cJ6_bitCount_0f7a4 4 = .ok (.ldc_w 265, 3) := by decide +kernel
theorem dJ6_bitCount_0f7a4_7 : decode cJ6_bitCount_0f7a4 7 = .ok (.iand, 1) := by decide +kernel
theorem dJ6_bitCount_0f7a4_8 : decode cJ6_bitCount_0f7a4 8 = .ok (.isub, 1) := by decide +kernel
theorem dJ6_bitCount_0f7a4_9 : decode cJ6_bitCount_0f7a4 9 = .ok (.istore_n 0, 1) := by decide +kernel
theorem dJ6_bitCount_0f7a4_10 : decode cJ6_bitCount_0f7a4 10 = .ok (.iload_n 0, 1) := by decide +kernel
theorem dJ6_bitCount_0f7a4_11 : decode cJ6_bitCount_0f7a4 11 = .ok (.ldc_w 266, 3) := by decide +kernel
theorem dJ6_bitCount_0f7a4_14 : decode cJ6_bitCount_0f7a4 14 = .ok (.iand, 1) := by decide +kernel
theorem dJ6_bitCount_0f7a4_15 : decode cJ6_bitCount_0f7a4 15 = .ok (.iload_n 0, 1) := by decide +kernel
theorem dJ6_bitCount_0f7a4_16 : decode cJ6_bitCount_0f7a4 16 = .ok (.iconst 2, 1) := by decide +kernel
theorem dJ6_bitCount_0f7a4_17 : decode cJ6_bitCount_0f7a4 17 = .ok (.iushr, 1) := by decide +kernel
theorem dJ6_bitCount_0f7a4_18 : decode cJ6_bitCount_0f7a4 18 = .ok (.ldc_w 266, 3) := by decide +kernel
theorem dJ6_bitCount_0f7a4_21 : decode cJ6_bitCount_0f7a4 21 = .ok (.iand, 1) := by decide +kernel
theorem dJ6_bitCount_0f7a4_22 : decode cJ6_bitCount_0f7a4 22 = .ok (.iadd, 1) := by decide +kernel
theorem dJ6_bitCount_0f7a4_23 : decode cJ6_bitCount_0f7a4 23 = .ok (.istore_n 0, 1) := by decide +kernel
theorem dJ6_bitCount_0f7a4_24 : decode cJ6_bitCount_0f7a4 24 = .ok (.iload_n 0, 1) := by decide +kernel
theorem dJ6_bitCount_0f7a4_25 : decode cJ6_bitCount_0f7a4 25 = .ok (.iload_n 0, 1) := by decide +kernel
theorem dJ6_bitCount_0f7a4_26 : decode cJ6_bitCount_0f7a4 26 = .ok (.iconst 4, 1) := by decide +kernel
theorem dJ6_bitCount_0f7a4_27 : decode cJ6_bitCount_0f7a4 27 = .ok (.iushr, 1) := by decide +kernel
theorem dJ6_bitCount_0f7a4_28 : decode cJ6_bitCount_0f7a4 28 = .ok (.iadd, 1) := by decide +kernel
theorem dJ6_bitCount_0f7a4_29 : decode cJ6_bitCount_0f7a4 29 = .ok (.ldc_w 267, 3) := by decide +kernel
theorem dJ6_bitCount_0f7a4_32 : decode cJ6_bitCount_0f7a4 32 = .ok (.iand, 1) := by decide +kernel
theorem dJ6_bitCount_0f7a4_33 : decode cJ6_bitCount_0f7a4 33 = .ok (.istore_n 0, 1) := by decide +kernel
theorem dJ6_bitCount_0f7a4_34 : decode cJ6_bitCount_0f7a4 34 = .ok (.iload_n 0, 1) := by decide +kernel
theorem dJ6_bitCount_0f7a4_35 : decode cJ6_bitCount_0f7a4 35 = .ok (.iload_n 0, 1) := by decide +kernel
theorem dJ6_bitCount_0f7a4_36 : decode cJ6_bitCount_0f7a4 36 = .ok (.bipush 8, 2) := by decide +kernel
theorem dJ6_bitCount_0f7a4_38 : decode cJ6_bitCount_0f7a4 38 = .ok (.iushr, 1) := by decide +kernel
theorem dJ6_bitCount_0f7a4_39 : decode cJ6_bitCount_0f7a4 39 = .ok (.iadd, 1) := by decide +kernel
theorem dJ6_bitCount_0f7a4_40 : decode cJ6_bitCount_0f7a4 40 = .ok (.istore_n 0, 1) := by decide +kernel
theorem dJ6_bitCount_0f7a4_41 : decode cJ6_bitCount_0f7a4 41 = .ok (.iload_n 0, 1) := by decide +kernel
theorem dJ6_bitCount_0f7a4_42 : decode cJ6_bitCount_0f7a4 42 = .ok (.iload_n 0, 1) := by decide +kernel
theorem dJ6_bitCount_0f7a4_43 : decode cJ6_bitCount_0f7a4 43 = .ok (.bipush 16, 2) := by decide +kernel
theorem dJ6_bitCount_0f7a4_45 : decode cJ6_bitCount_0f7a4 45 = .ok (.iushr, 1) := by decide +kernel
theorem dJ6_bitCount_0f7a4_46 : decode cJ6_bitCount_0f7a4 46 = .ok (.iadd, 1) := by decide +kernel
theorem dJ6_bitCount_0f7a4_47 : decode cJ6_bitCount_0f7a4 47 = .ok (.istore_n 0, 1) := by decide +kernel
theorem dJ6_bitCount_0f7a4_48 : decode cJ6_bitCount_0f7a4 48 = .ok (.iload_n 0, 1) := by decide +kernel
theorem dJ6_bitCount_0f7a4_49 : decode cJ6_bitCount_0f7a4 49 = .ok (.bipush 63, 2) := by decide +kernel
theorem dJ6_bitCount_0f7a4_51 : decode cJ6_bitCount_0f7a4 51 = .ok (.iand, 1) := by decide +kernel
theorem dJ6_bitCount_0f7a4_52 : decode cJ6_bitCount_0f7a4 52 = .ok (.ireturn, 1) := by decide +kernel
theorem dJ9_abs_0f7a4_0 : decode cJ9_abs_0f7a4 0 = .ok (.iload_n 0, 1) := by decide +kernel
theorem dJ9_abs_0f7a4_1 : decode cJ9_abs_0f7a4 1 = .ok (.ifCond .ge 8, 3) := by decide +kernel
theorem dJ9_abs_0f7a4_4 : decode cJ9_abs_0f7a4 4 = .ok (.iload_n 0, 1) := by decide +kernel
theorem dJ9_abs_0f7a4_5 : decode cJ9_abs_0f7a4 5 = .ok (.ineg, 1) := by decide +kernel
theorem dJ9_abs_0f7a4_6 : decode cJ9_abs_0f7a4 6 = .ok (.goto 4, 3) := by decide +kernel
theorem dJ9_abs_0f7a4_9 : decode cJ9_abs_0f7a4 9 = .ok (.iload_n 0, 1) := by decide +kernel
theorem dJ9_abs_0f7a4_10 : decode cJ9_abs_0f7a4 10 = .ok (.ireturn, 1) := by decide +kernel
theorem dJ9_max_7cf53_0 : decode cJ9_max_7cf53 0 = .ok (.iload_n 0, 1) := by decide +kernel
theorem dJ9_max_7cf53_1 : decode cJ9_max_7cf53 1 = .ok (.iload_n 1, 1) := by decide +kernel
theorem dJ9_max_7cf53_2 : decode cJ9_max_7cf53 2 = .ok (.if_icmp .lt 7, 3) := by decide +kernel
theorem dJ9_max_7cf53_5 : decode cJ9_max_7cf53 5 = .ok (.iload_n 0, 1) := by decide +kernel
theorem dJ9_max_7cf53_6 : decode cJ9_max_7cf53 6 = .ok (.goto 4, 3) := by decide +kernel
theorem dJ9_max_7cf53_9 : decode cJ9_max_7cf53 9 = .ok (.iload_n 1, 1) := by decide +kernel
theorem dJ9_max_7cf53_10 : decode cJ9_max_7cf53 10 = .ok (.ireturn, 1) := by decide +kernel
theorem dJ9_min_7cf53_0 : decode cJ9_min_7cf53 0 = .ok (.iload_n 0, 1) := by decide +kernel
theorem dJ9_min_7cf53_1 : decode cJ9_min_7cf53 1 = .ok (.iload_n 1, 1) := by decide +kernel
theorem dJ9_min_7cf53_2 : decode cJ9_min_7cf53 2 = .ok (.if_icmp .gt 7, 3) := by decide +kernel
theorem dJ9_min_7cf53_5 : decode cJ9_min_7cf53 5 = .ok (.iload_n 0, 1) := by decide +kernel
theorem dJ9_min_7cf53_6 : decode cJ9_min_7cf53 6 = .ok (.goto 4, 3) := by decide +kernel
theorem dJ9_min_7cf53_9 : decode cJ9_min_7cf53 9 = .ok (.iload_n 1, 1) := by decide +kernel
theorem dJ9_min_7cf53_10 : decode cJ9_min_7cf53 10 = .ok (.ireturn, 1) := by decide +kernel
