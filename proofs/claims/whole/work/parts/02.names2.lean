theorem dX0_setBare_17 : decode cX0_setBare 17 = .ok (.putfield 34, 3) := by decide +kernel
theorem dX0_setBare_20 : decode cX0_setBare 20 = .ok (.aload_n 0, 1) := by decide +kernel
theorem dX0_setBare_21 : decode cX0_setBare 21 = .ok (.iconst 0, 1) := by decide +kernel
theorem dX0_setBare_22 : decode cX0_setBare 22 = .ok (.putfield 37, 3) := by decide +kernel
theorem dX0_setBare_25 : decode cX0_setBare 25 = .ok (.aload_n 0, 1) := by decide +kernel
theorem dX0_setBare_26 : decode cX0_setBare 26 = .ok (.bipush 100, 2) := by decide +kernel
theorem dX0_setBare_28 : decode cX0_setBare 28 = .ok (.putfield 40, 3) := by decide +kernel
theorem dX0_setBare_31 : decode cX0_setBare 31 = .ok (.return_, 1) := by decide +kernel
theorem dX0_hasRoom_0 : decode cX0_hasRoom 0 = .ok (.aload_n 0, 1) := by decide +kernel
theorem dX0_hasRoom_1 : decode cX0_hasRoom 1 = .ok (.getfield 24, 3) := by decide +kernel
theorem dX0_hasRoom_4 : decode cX0_hasRoom 4 = .ok (.bipush 7, 2) := by decide +kernel
theorem dX0_hasRoom_6 : decode cX0_hasRoom 6 = .ok (.if_icmp .ge 7, 3) := by decide +kernel
theorem dX0_hasRoom_9 : decode cX0_hasRoom 9 = .ok (.iconst 1, 1) := by decide +kernel
theorem dX0_hasRoom_10 : decode cX0_hasRoom 10 = .ok (.goto 4, 3) := by decide +kernel
theorem dX0_hasRoom_13 : decode cX0_hasRoom 13 = .ok (.iconst 0, 1) := by decide +kernel
theorem dX0_hasRoom_14 : decode cX0_hasRoom 14 = .ok (.ireturn, 1) := by decide +kernel
set_option maxRecDepth 20000 in
theorem ggX0_add_X0_hasRoom : GoodIn wsX0_add wsX0_hasRoom := goodIn_r _ [10, 2, 11, 12, 13, 14, 15, 16, 17, 18, 19] (by decide +kernel) (by decide +kernel)
set_option maxRecDepth 20000 in
theorem gX0_add_X0_hasRoom : GoodIn wsX0_add (wsV RX0 43 RX0 yX0_hasRoom wsX0_hasRoom) := goodIn_app (goodIn_of _ (by decide +kernel)) ggX0_add_X0_hasRoom
theorem dX0_add_0 : decode cX0_add 0 = .ok (.aload_n 0, 1) := by decide +kernel
theorem dX0_add_1 : decode cX0_add 1 = .ok (.invokevirtual 43, 3) := by decide +kernel
theorem dX0_add_4 : decode cX0_add 4 = .ok (.ifCond .ne 4, 3) := by decide +kernel
theorem dX0_add_7 : decode cX0_add 7 = .ok (.return_, 1) := by decide +kernel
theorem dX0_add_8 : decode cX0_add 8 = .ok (.aload_n 0, 1) := by decide +kernel
theorem dX0_add_9 : decode cX0_add 9 = .ok (.getfield 9, 3) := by decide +kernel
theorem dX0_add_12 : decode cX0_add 12 = .ok (.aload_n 0, 1) := by decide +kernel
theorem dX0_add_13 : decode cX0_add 13 = .ok (.getfield 24, 3) := by decide +kernel
theorem dX0_add_16 : decode cX0_add 16 = .ok (.iload_n 1, 1) := by decide +kernel
theorem dX0_add_17 : decode cX0_add 17 = .ok (.iastore, 1) := by decide +kernel
theorem dX0_add_18 : decode cX0_add 18 = .ok (.aload_n 0, 1) := by decide +kernel
theorem dX0_add_19 : decode cX0_add 19 = .ok (.getfield 15, 3) := by decide +kernel
theorem dX0_add_22 : decode cX0_add 22 = .ok (.aload_n 0, 1) := by decide +kernel
theorem dX0_add_23 : decode cX0_add 23 = .ok (.getfield 24, 3) := by decide +kernel
theorem dX0_add_26 : decode cX0_add 26 = .ok (.iload_n 2, 1) := by decide +kernel
theorem dX0_add_27 : decode cX0_add 27 = .ok (.iastore, 1) := by decide +kernel
theorem dX0_add_28 : decode cX0_add 28 = .ok (.aload_n 0, 1) := by decide +kernel
theorem dX0_add_29 : decode cX0_add 29 = .ok (.getfield 18, 3) := by decide +kernel
theorem dX0_add_32 : decode cX0_add 32 = .ok (.aload_n 0, 1) := by decide +kernel
theorem dX0_add_33 : decode cX0_add 33 = .ok (.getfield 24, 3) := by decide +kernel
theorem dX0_add_36 : decode cX0_add 36 = .ok (.iload_n 3, 1) := by decide +kernel
theorem dX0_add_37 : decode cX0_add 37 = .ok (.iastore, 1) := by decide +kernel
theorem dX0_add_38 : decode cX0_add 38 = .ok (.aload_n 0, 1) := by decide +kernel
theorem dX0_add_39 : decode cX0_add 39 = .ok (.dup, 1) := by decide +kernel
theorem dX0_add_40 : decode cX0_add 40 = .ok (.getfield 28, 3) := by decide +kernel
theorem dX0_add_43 : decode cX0_add 43 = .ok (.iload 4, 2) := by decide +kernel
theorem dX0_add_45 : decode cX0_add 45 = .ok (.aload_n 0, 1) := by decide +kernel
theorem dX0_add_46 : decode cX0_add 46 = .ok (.getfield 24, 3) := by decide +kernel
theorem dX0_add_49 : decode cX0_add 49 = .ok (.ishl, 1) := by decide +kernel
theorem dX0_add_50 : decode cX0_add 50 = .ok (.ior, 1) := by decide +kernel
theorem dX0_add_51 : decode cX0_add 51 = .ok (.putfield 28, 3) := by decide +kernel
theorem dX0_add_54 : decode cX0_add 54 = .ok (.aload_n 0, 1) := by decide +kernel
theorem dX0_add_55 : decode cX0_add 55 = .ok (.dup, 1) := by decide +kernel
theorem dX0_add_56 : decode cX0_add 56 = .ok (.getfield 24, 3) := by decide +kernel
theorem dX0_add_59 : decode cX0_add 59 = .ok (.iconst 1, 1) := by decide +kernel
theorem dX0_add_60 : decode cX0_add 60 = .ok (.iadd, 1) := by decide +kernel
theorem dX0_add_61 : decode cX0_add 61 = .ok (.putfield 24, 3) := by decide +kernel
theorem dX0_add_64 : decode cX0_add 64 = .ok (.return_, 1) := by decide +kernel
theorem dX0_holds_0 : decode cX0_holds 0 = .ok (.iload_n 1, 1) := by decide +kernel
theorem dX0_holds_1 : decode cX0_holds 1 = .ok (.ifCond .lt 15, 3) := by decide +kernel
theorem dX0_holds_4 : decode cX0_holds 4 = .ok (.iload_n 1, 1) := by decide +kernel
theorem dX0_holds_5 : decode cX0_holds 5 = .ok (.aload_n 0, 1) := by decide +kernel
theorem dX0_holds_6 : decode cX0_holds 6 = .ok (.getfield 24, 3) := by decide +kernel
theorem dX0_holds_9 : decode cX0_holds 9 = .ok (.if_icmp .ge 7, 3) := by decide +kernel
theorem dX0_holds_12 : decode cX0_holds 12 = .ok (.iconst 1, 1) := by decide +kernel
theorem dX0_holds_13 : decode cX0_holds 13 = .ok (.goto 4, 3) := by decide +kernel
theorem dX0_holds_16 : decode cX0_holds 16 = .ok (.iconst 0, 1) := by decide +kernel
theorem dX0_holds_17 : decode cX0_holds 17 = .ok (.ireturn, 1) := by decide +kernel
theorem dX0_having_0 : decode cX0_having 0 = .ok (.iconst 0, 1) := by decide +kernel
theorem dX0_having_1 : decode cX0_having 1 = .ok (.istore_n 2, 1) := by decide +kernel
theorem dX0_having_2 : decode cX0_having 2 = .ok (.iconst 0, 1) := by decide +kernel
theorem dX0_having_3 : decode cX0_having 3 = .ok (.istore_n 3, 1) := by decide +kernel
theorem dX0_having_4 : decode cX0_having 4 = .ok (.iload_n 3, 1) := by decide +kernel
theorem dX0_having_5 : decode cX0_having 5 = .ok (.aload_n 0, 1) := by decide +kernel
theorem dX0_having_6 : decode cX0_having 6 = .ok (.getfield 24, 3) := by decide +kernel
theorem dX0_having_9 : decode cX0_having 9 = .ok (.if_icmp .ge 27, 3) := by decide +kernel
theorem dX0_having_12 : decode cX0_having 12 = .ok (.aload_n 0, 1) := by decide +kernel
theorem dX0_having_13 : decode cX0_having 13 = .ok (.getfield 9, 3) := by decide +kernel
theorem dX0_having_16 : decode cX0_having 16 = .ok (.iload_n 3, 1) := by decide +kernel
theorem dX0_having_17 : decode cX0_having 17 = .ok (.iaload, 1) := by decide +kernel
theorem dX0_having_18 : decode cX0_having 18 = .ok (.iload_n 1, 1) := by decide +kernel
theorem dX0_having_19 : decode cX0_having 19 = .ok (.iand, 1) := by decide +kernel
theorem dX0_having_20 : decode cX0_having 20 = .ok (.iload_n 1, 1) := by decide +kernel
theorem dX0_having_21 : decode cX0_having 21 = .ok (.if_icmp .ne 9, 3) := by decide +kernel
theorem dX0_having_24 : decode cX0_having 24 = .ok (.iload_n 2, 1) := by decide +kernel
theorem dX0_having_25 : decode cX0_having 25 = .ok (.iconst 1, 1) := by decide +kernel
theorem dX0_having_26 : decode cX0_having 26 = .ok (.iload_n 3, 1) := by decide +kernel
theorem dX0_having_27 : decode cX0_having 27 = .ok (.ishl, 1) := by decide +kernel
theorem dX0_having_28 : decode cX0_having 28 = .ok (.ior, 1) := by decide +kernel
theorem dX0_having_29 : decode cX0_having 29 = .ok (.istore_n 2, 1) := by decide +kernel
theorem dX0_having_30 : decode cX0_having 30 = .ok (.iinc 3 1, 3) := by decide +kernel
theorem dX0_having_33 : decode cX0_having 33 = .ok (.goto (-29), 3) := by decide +kernel
theorem dX0_having_36 : decode cX0_having 36 = .ok (.iload_n 2, 1) := by decide +kernel
theorem dX0_having_37 : decode cX0_having 37 = .ok (.ireturn, 1) := by decide +kernel
set_option maxRecDepth 20000 in
theorem ggX0_coveredBy_X0_having : GoodIn wsX0_coveredBy wsX0_having := goodIn_r _ [6, 7, 8, 14, 15, 16, 17, 18, 19, 20, 21, 22] (by decide +kernel) (by decide +kernel)
set_option maxRecDepth 20000 in
theorem gX0_coveredBy_X0_having : GoodIn wsX0_coveredBy (wsV RX0 47 RX0 yX0_having wsX0_having) := goodIn_app (goodIn_of _ (by decide +kernel)) ggX0_coveredBy_X0_having
theorem dX0_coveredBy_0 : decode cX0_coveredBy 0 = .ok (.aload_n 0, 1) := by decide +kernel
theorem dX0_coveredBy_1 : decode cX0_coveredBy 1 = .ok (.iload_n 1, 1) := by decide +kernel
theorem dX0_coveredBy_2 : decode cX0_coveredBy 2 = .ok (.invokevirtual 47, 3) := by decide +kernel
theorem dX0_coveredBy_5 : decode cX0_coveredBy 5 = .ok (.aload_n 2, 1) := by decide +kernel
theorem dX0_coveredBy_6 : decode cX0_coveredBy 6 = .ok (.getfield 51, 3) := by decide +kernel
theorem dX0_coveredBy_9 : decode cX0_coveredBy 9 = .ok (.iconst (-1), 1) := by decide +kernel
theorem dX0_coveredBy_10 : decode cX0_coveredBy 10 = .ok (.ixor, 1) := by decide +kernel
theorem dX0_coveredBy_11 : decode cX0_coveredBy 11 = .ok (.iand, 1) := by decide +kernel
theorem dX0_coveredBy_12 : decode cX0_coveredBy 12 = .ok (.ireturn, 1) := by decide +kernel
set_option maxRecDepth 20000 in
theorem ggX0_ableBy_X0_coveredBy : GoodIn wsX0_ableBy wsX0_coveredBy := goodIn_r _ [8, 2, 9, 10, 11, 7, 12, 13, 14, 20, 21, 22, 23, 24, 25, 26, 27, 28, 29, 30, 31, 32, 33] (by decide +kernel) (by decide +kernel)
set_option maxRecDepth 20000 in
theorem gX0_ableBy_X0_coveredBy : GoodIn wsX0_ableBy (wsV RX0 57 RX0 yX0_coveredBy wsX0_coveredBy) := goodIn_app (goodIn_of _ (by decide +kernel)) ggX0_ableBy_X0_coveredBy
set_option maxRecDepth 20000 in
theorem ggX0_ableBy_X0_eagerOnes : GoodIn wsX0_ableBy wsX0_eagerOnes := goodIn_r _ [18, 13, 19, 25, 26, 27, 28, 29, 30, 31, 32, 33] (by decide +kernel) (by decide +kernel)
set_option maxRecDepth 20000 in
theorem gX0_ableBy_X0_eagerOnes : GoodIn wsX0_ableBy (wsV RX0 61 RX0 yX0_eagerOnes wsX0_eagerOnes) := goodIn_app (goodIn_of _ (by decide +kernel)) ggX0_ableBy_X0_eagerOnes
theorem dX0_ableBy_0 : decode cX0_ableBy 0 = .ok (.aload_n 2, 1) := by decide +kernel
theorem dX0_ableBy_1 : decode cX0_ableBy 1 = .ok (.getfield 56, 3) := by decide +kernel
theorem dX0_ableBy_4 : decode cX0_ableBy 4 = .ok (.aload_n 0, 1) := by decide +kernel
theorem dX0_ableBy_5 : decode cX0_ableBy 5 = .ok (.iload_n 1, 1) := by decide +kernel
theorem dX0_ableBy_6 : decode cX0_ableBy 6 = .ok (.aload_n 2, 1) := by decide +kernel
theorem dX0_ableBy_7 : decode cX0_ableBy 7 = .ok (.invokevirtual 57, 3) := by decide +kernel
theorem dX0_ableBy_10 : decode cX0_ableBy 10 = .ok (.iand, 1) := by decide +kernel
theorem dX0_ableBy_11 : decode cX0_ableBy 11 = .ok (.istore_n 3, 1) := by decide +kernel
theorem dX0_ableBy_12 : decode cX0_ableBy 12 = .ok (.aload_n 0, 1) := by decide +kernel
theorem dX0_ableBy_13 : decode cX0_ableBy 13 = .ok (.invokevirtual 61, 3) := by decide +kernel
theorem dX0_ableBy_16 : decode cX0_ableBy 16 = .ok (.aload_n 2, 1) := by decide +kernel
theorem dX0_ableBy_17 : decode cX0_ableBy 17 = .ok (.getfield 51, 3) := by decide +kernel
theorem dX0_ableBy_20 : decode cX0_ableBy 20 = .ok (.iconst (-1), 1) := by decide +kernel
theorem dX0_ableBy_21 : decode cX0_ableBy 21 = .ok (.ixor, 1) := by decide +kernel
theorem dX0_ableBy_22 : decode cX0_ableBy 22 = .ok (.iand, 1) := by decide +kernel
theorem dX0_ableBy_23 : decode cX0_ableBy 23 = .ok (.aload_n 2, 1) := by decide +kernel
theorem dX0_ableBy_24 : decode cX0_ableBy 24 = .ok (.getfield 65, 3) := by decide +kernel
theorem dX0_ableBy_27 : decode cX0_ableBy 27 = .ok (.iconst (-1), 1) := by decide +kernel
theorem dX0_ableBy_28 : decode cX0_ableBy 28 = .ok (.ixor, 1) := by decide +kernel
theorem dX0_ableBy_29 : decode cX0_ableBy 29 = .ok (.iand, 1) := by decide +kernel
theorem dX0_ableBy_30 : decode cX0_ableBy 30 = .ok (.iload_n 3, 1) := by decide +kernel
theorem dX0_ableBy_31 : decode cX0_ableBy 31 = .ok (.iconst (-1), 1) := by decide +kernel
theorem dX0_ableBy_32 : decode cX0_ableBy 32 = .ok (.ixor, 1) := by decide +kernel
theorem dX0_ableBy_33 : decode cX0_ableBy 33 = .ok (.iand, 1) := by decide +kernel
theorem dX0_ableBy_34 : decode cX0_ableBy 34 = .ok (.ireturn, 1) := by decide +kernel
theorem dX0_eagerOnes_0 : decode cX0_eagerOnes 0 = .ok (.iconst 0, 1) := by decide +kernel
theorem dX0_eagerOnes_1 : decode cX0_eagerOnes 1 = .ok (.istore_n 1, 1) := by decide +kernel
theorem dX0_eagerOnes_2 : decode cX0_eagerOnes 2 = .ok (.iconst 0, 1) := by decide +kernel
theorem dX0_eagerOnes_3 : decode cX0_eagerOnes 3 = .ok (.istore_n 2, 1) := by decide +kernel
theorem dX0_eagerOnes_4 : decode cX0_eagerOnes 4 = .ok (.iload_n 2, 1) := by decide +kernel
theorem dX0_eagerOnes_5 : decode cX0_eagerOnes 5 = .ok (.aload_n 0, 1) := by decide +kernel
theorem dX0_eagerOnes_6 : decode cX0_eagerOnes 6 = .ok (.getfield 24, 3) := by decide +kernel
theorem dX0_eagerOnes_9 : decode cX0_eagerOnes 9 = .ok (.if_icmp .ge 24, 3) := by decide +kernel
theorem dX0_eagerOnes_12 : decode cX0_eagerOnes 12 = .ok (.aload_n 0, 1) := by decide +kernel
theorem dX0_eagerOnes_13 : decode cX0_eagerOnes 13 = .ok (.getfield 18, 3) := by decide +kernel
theorem dX0_eagerOnes_16 : decode cX0_eagerOnes 16 = .ok (.iload_n 2, 1) := by decide +kernel
theorem dX0_eagerOnes_17 : decode cX0_eagerOnes 17 = .ok (.iaload, 1) := by decide +kernel
theorem dX0_eagerOnes_18 : decode cX0_eagerOnes 18 = .ok (.ifCond .le 9, 3) := by decide +kernel
theorem dX0_eagerOnes_21 : decode cX0_eagerOnes 21 = .ok (.iload_n 1, 1) := by decide +kernel
theorem dX0_eagerOnes_22 : decode cX0_eagerOnes 22 = .ok (.iconst 1, 1) := by decide +kernel
theorem dX0_eagerOnes_23 : decode cX0_eagerOnes 23 = .ok (.iload_n 2, 1) := by decide +kernel
theorem dX0_eagerOnes_24 : decode cX0_eagerOnes 24 = .ok (.ishl, 1) := by decide +kernel
theorem dX0_eagerOnes_25 : decode cX0_eagerOnes 25 = .ok (.ior, 1) := by decide +kernel
theorem dX0_eagerOnes_26 : decode cX0_eagerOnes 26 = .ok (.istore_n 1, 1) := by decide +kernel
theorem dX0_eagerOnes_27 : decode cX0_eagerOnes 27 = .ok (.iinc 2 1, 3) := by decide +kernel
theorem dX0_eagerOnes_30 : decode cX0_eagerOnes 30 = .ok (.goto (-26), 3) := by decide +kernel
theorem dX0_eagerOnes_33 : decode cX0_eagerOnes 33 = .ok (.iload_n 1, 1) := by decide +kernel
theorem dX0_eagerOnes_34 : decode cX0_eagerOnes 34 = .ok (.ireturn, 1) := by decide +kernel
theorem dX0_dearOnes_0 : decode cX0_dearOnes 0 = .ok (.iconst 0, 1) := by decide +kernel
theorem dX0_dearOnes_1 : decode cX0_dearOnes 1 = .ok (.istore_n 2, 1) := by decide +kernel
theorem dX0_dearOnes_2 : decode cX0_dearOnes 2 = .ok (.iconst 0, 1) := by decide +kernel
theorem dX0_dearOnes_3 : decode cX0_dearOnes 3 = .ok (.istore_n 3, 1) := by decide +kernel
theorem dX0_dearOnes_4 : decode cX0_dearOnes 4 = .ok (.iload_n 3, 1) := by decide +kernel
theorem dX0_dearOnes_5 : decode cX0_dearOnes 5 = .ok (.aload_n 0, 1) := by decide +kernel
theorem dX0_dearOnes_6 : decode cX0_dearOnes 6 = .ok (.getfield 24, 3) := by decide +kernel
theorem dX0_dearOnes_9 : decode cX0_dearOnes 9 = .ok (.if_icmp .ge 26, 3) := by decide +kernel
theorem dX0_dearOnes_12 : decode cX0_dearOnes 12 = .ok (.aload_n 0, 1) := by decide +kernel
theorem dX0_dearOnes_13 : decode cX0_dearOnes 13 = .ok (.getfield 15, 3) := by decide +kernel
theorem dX0_dearOnes_16 : decode cX0_dearOnes 16 = .ok (.iload_n 3, 1) := by decide +kernel
theorem dX0_dearOnes_17 : decode cX0_dearOnes 17 = .ok (.iaload, 1) := by decide +kernel
theorem dX0_dearOnes_18 : decode cX0_dearOnes 18 = .ok (.ifCond .le 11, 3) := by decide +kernel
theorem dX0_dearOnes_21 : decode cX0_dearOnes 21 = .ok (.iload_n 2, 1) := by decide +kernel
theorem dX0_dearOnes_22 : decode cX0_dearOnes 22 = .ok (.iload_n 1, 1) := by decide +kernel
theorem dX0_dearOnes_23 : decode cX0_dearOnes 23 = .ok (.iconst 1, 1) := by decide +kernel
theorem dX0_dearOnes_24 : decode cX0_dearOnes 24 = .ok (.iload_n 3, 1) := by decide +kernel
theorem dX0_dearOnes_25 : decode cX0_dearOnes 25 = .ok (.ishl, 1) := by decide +kernel
theorem dX0_dearOnes_26 : decode cX0_dearOnes 26 = .ok (.iand, 1) := by decide +kernel
theorem dX0_dearOnes_27 : decode cX0_dearOnes 27 = .ok (.ior, 1) := by decide +kernel
theorem dX0_dearOnes_28 : decode cX0_dearOnes 28 = .ok (.istore_n 2, 1) := by decide +kernel
theorem dX0_dearOnes_29 : decode cX0_dearOnes 29 = .ok (.iinc 3 1, 3) := by decide +kernel
theorem dX0_dearOnes_32 : decode cX0_dearOnes 32 = .ok (.goto (-28), 3) := by decide +kernel
theorem dX0_dearOnes_35 : decode cX0_dearOnes 35 = .ok (.iload_n 2, 1) := by decide +kernel
theorem dX0_dearOnes_36 : decode cX0_dearOnes 36 = .ok (.ireturn, 1) := by decide +kernel
set_option maxRecDepth 20000 in
theorem ggX0_eagerTogether_X5_bitOf : GoodIn wsX0_eagerTogether wsX5_bitOf := goodIn_r _ [5] (by decide +kernel) (by decide +kernel)
set_option maxRecDepth 20000 in
theorem gX0_eagerTogether_X5_bitOf_n68 : GoodIn wsX0_eagerTogether (wsX5_bitOf) := ggX0_eagerTogether_X5_bitOf
theorem dX0_eagerTogether_0 : decode cX0_eagerTogether 0 = .ok (.iconst 0, 1) := by decide +kernel
theorem dX0_eagerTogether_1 : decode cX0_eagerTogether 1 = .ok (.istore_n 2, 1) := by decide +kernel
theorem dX0_eagerTogether_2 : decode cX0_eagerTogether 2 = .ok (.iconst 0, 1) := by decide +kernel
theorem dX0_eagerTogether_3 : decode cX0_eagerTogether 3 = .ok (.istore_n 3, 1) := by decide +kernel
theorem dX0_eagerTogether_4 : decode cX0_eagerTogether 4 = .ok (.iload_n 3, 1) := by decide +kernel
theorem dX0_eagerTogether_5 : decode cX0_eagerTogether 5 = .ok (.aload_n 0, 1) := by decide +kernel
theorem dX0_eagerTogether_6 : decode cX0_eagerTogether 6 = .ok (.getfield 24, 3) := by decide +kernel
theorem dX0_eagerTogether_9 : decode cX0_eagerTogether 9 = .ok (.if_icmp .ge 24, 3) := by decide +kernel
theorem dX0_eagerTogether_12 : decode cX0_eagerTogether 12 = .ok (.iload_n 2, 1) := by decide +kernel
theorem dX0_eagerTogether_13 : decode cX0_eagerTogether 13 = .ok (.iload_n 1, 1) := by decide +kernel
theorem dX0_eagerTogether_14 : decode cX0_eagerTogether 14 = .ok (.iload_n 3, 1) := by decide +kernel
theorem dX0_eagerTogether_15 : decode cX0_eagerTogether 15 = .ok (.invokestatic 68, 3) := by decide +kernel
theorem dX0_eagerTogether_18 : decode cX0_eagerTogether 18 = .ok (.aload_n 0, 1) := by decide +kernel
theorem dX0_eagerTogether_19 : decode cX0_eagerTogether 19 = .ok (.getfield 18, 3) := by decide +kernel
theorem dX0_eagerTogether_22 : decode cX0_eagerTogether 22 = .ok (.iload_n 3, 1) := by decide +kernel
theorem dX0_eagerTogether_23 : decode cX0_eagerTogether 23 = .ok (.iaload, 1) := by decide +kernel
theorem dX0_eagerTogether_24 : decode cX0_eagerTogether 24 = .ok (.imul, 1) := by decide +kernel
theorem dX0_eagerTogether_25 : decode cX0_eagerTogether 25 = .ok (.iadd, 1) := by decide +kernel
theorem dX0_eagerTogether_26 : decode cX0_eagerTogether 26 = .ok (.istore_n 2, 1) := by decide +kernel
theorem dX0_eagerTogether_27 : decode cX0_eagerTogether 27 = .ok (.iinc 3 1, 3) := by decide +kernel
theorem dX0_eagerTogether_30 : decode cX0_eagerTogether 30 = .ok (.goto (-26), 3) := by decide +kernel
theorem dX0_eagerTogether_33 : decode cX0_eagerTogether 33 = .ok (.iload_n 2, 1) := by decide +kernel
theorem dX0_eagerTogether_34 : decode cX0_eagerTogether 34 = .ok (.ireturn, 1) := by decide +kernel
set_option maxRecDepth 20000 in
theorem ggX0_dearTogether_X5_bitOf : GoodIn wsX0_dearTogether wsX5_bitOf := goodIn_r _ [5] (by decide +kernel) (by decide +kernel)
set_option maxRecDepth 20000 in
theorem gX0_dearTogether_X5_bitOf_n68 : GoodIn wsX0_dearTogether (wsX5_bitOf) := ggX0_dearTogether_X5_bitOf
theorem dX0_dearTogether_0 : decode cX0_dearTogether 0 = .ok (.iconst 0, 1) := by decide +kernel
theorem dX0_dearTogether_1 : decode cX0_dearTogether 1 = .ok (.istore_n 2, 1) := by decide +kernel
theorem dX0_dearTogether_2 : decode cX0_dearTogether 2 = .ok (.iconst 0, 1) := by decide +kernel
theorem dX0_dearTogether_3 : decode cX0_dearTogether 3 = .ok (.istore_n 3, 1) := by decide +kernel
theorem dX0_dearTogether_4 : decode cX0_dearTogether 4 = .ok (.iload_n 3, 1) := by decide +kernel
theorem dX0_dearTogether_5 : decode cX0_dearTogether 5 = .ok (.aload_n 0, 1) := by decide +kernel
theorem dX0_dearTogether_6 : decode cX0_dearTogether 6 = .ok (.getfield 24, 3) := by decide +kernel
theorem dX0_dearTogether_9 : decode cX0_dearTogether 9 = .ok (.if_icmp .ge 24, 3) := by decide +kernel
theorem dX0_dearTogether_12 : decode cX0_dearTogether 12 = .ok (.iload_n 2, 1) := by decide +kernel
theorem dX0_dearTogether_13 : decode cX0_dearTogether 13 = .ok (.iload_n 1, 1) := by decide +kernel
theorem dX0_dearTogether_14 : decode cX0_dearTogether 14 = .ok (.iload_n 3, 1) := by decide +kernel
theorem dX0_dearTogether_15 : decode cX0_dearTogether 15 = .ok (.invokestatic 68, 3) := by decide +kernel
theorem dX0_dearTogether_18 : decode cX0_dearTogether 18 = .ok (.aload_n 0, 1) := by decide +kernel
theorem dX0_dearTogether_19 : decode cX0_dearTogether 19 = .ok (.getfield 15, 3) := by decide +kernel
theorem dX0_dearTogether_22 : decode cX0_dearTogether 22 = .ok (.iload_n 3, 1) := by decide +kernel
theorem dX0_dearTogether_23 : decode cX0_dearTogether 23 = .ok (.iaload, 1) := by decide +kernel
theorem dX0_dearTogether_24 : decode cX0_dearTogether 24 = .ok (.imul, 1) := by decide +kernel
theorem dX0_dearTogether_25 : decode cX0_dearTogether 25 = .ok (.iadd, 1) := by decide +kernel
theorem dX0_dearTogether_26 : decode cX0_dearTogether 26 = .ok (.istore_n 2, 1) := by decide +kernel
theorem dX0_dearTogether_27 : decode cX0_dearTogether 27 = .ok (.iinc 3 1, 3) := by decide +kernel
theorem dX0_dearTogether_30 : decode cX0_dearTogether 30 = .ok (.goto (-26), 3) := by decide +kernel
theorem dX0_dearTogether_33 : decode cX0_dearTogether 33 = .ok (.iload_n 2, 1) := by decide +kernel
theorem dX0_dearTogether_34 : decode cX0_dearTogether 34 = .ok (.ireturn, 1) := by decide +kernel
set_option maxRecDepth 20000 in
theorem ggX0_harmUpper_X5_bitOf : GoodIn wsX0_harmUpper wsX5_bitOf := goodIn_r _ [6] (by decide +kernel) (by decide +kernel)
set_option maxRecDepth 20000 in
theorem gX0_harmUpper_X5_bitOf_n68 : GoodIn wsX0_harmUpper (wsX5_bitOf) := ggX0_harmUpper_X5_bitOf
theorem dX0_harmUpper_0 : decode cX0_harmUpper 0 = .ok (.iconst 0, 1) := by decide +kernel
theorem dX0_harmUpper_1 : decode cX0_harmUpper 1 = .ok (.istore_n 3, 1) := by decide +kernel
theorem dX0_harmUpper_2 : decode cX0_harmUpper 2 = .ok (.iconst 0, 1) := by decide +kernel
theorem dX0_harmUpper_3 : decode cX0_harmUpper 3 = .ok (.istore 4, 2) := by decide +kernel
theorem dX0_harmUpper_5 : decode cX0_harmUpper 5 = .ok (.iload 4, 2) := by decide +kernel
theorem dX0_harmUpper_7 : decode cX0_harmUpper 7 = .ok (.aload_n 0, 1) := by decide +kernel
theorem dX0_harmUpper_8 : decode cX0_harmUpper 8 = .ok (.getfield 24, 3) := by decide +kernel
theorem dX0_harmUpper_11 : decode cX0_harmUpper 11 = .ok (.if_icmp .ge 36, 3) := by decide +kernel
theorem dX0_harmUpper_14 : decode cX0_harmUpper 14 = .ok (.iload_n 3, 1) := by decide +kernel
theorem dX0_harmUpper_15 : decode cX0_harmUpper 15 = .ok (.iload_n 1, 1) := by decide +kernel
theorem dX0_harmUpper_16 : decode cX0_harmUpper 16 = .ok (.iload_n 2, 1) := by decide +kernel
theorem dX0_harmUpper_17 : decode cX0_harmUpper 17 = .ok (.iand, 1) := by decide +kernel
theorem dX0_harmUpper_18 : decode cX0_harmUpper 18 = .ok (.iload 4, 2) := by decide +kernel
theorem dX0_harmUpper_20 : decode cX0_harmUpper 20 = .ok (.invokestatic 68, 3) := by decide +kernel
theorem dX0_harmUpper_23 : decode cX0_harmUpper 23 = .ok (.aload_n 0, 1) := by decide +kernel
theorem dX0_harmUpper_24 : decode cX0_harmUpper 24 = .ok (.getfield 15, 3) := by decide +kernel
theorem dX0_harmUpper_27 : decode cX0_harmUpper 27 = .ok (.iload 4, 2) := by decide +kernel
theorem dX0_harmUpper_29 : decode cX0_harmUpper 29 = .ok (.iaload, 1) := by decide +kernel
theorem dX0_harmUpper_30 : decode cX0_harmUpper 30 = .ok (.imul, 1) := by decide +kernel
theorem dX0_harmUpper_31 : decode cX0_harmUpper 31 = .ok (.aload_n 0, 1) := by decide +kernel
theorem dX0_harmUpper_32 : decode cX0_harmUpper 32 = .ok (.getfield 18, 3) := by decide +kernel
theorem dX0_harmUpper_35 : decode cX0_harmUpper 35 = .ok (.iload 4, 2) := by decide +kernel
theorem dX0_harmUpper_37 : decode cX0_harmUpper 37 = .ok (.iaload, 1) := by decide +kernel
theorem dX0_harmUpper_38 : decode cX0_harmUpper 38 = .ok (.imul, 1) := by decide +kernel
theorem dX0_harmUpper_39 : decode cX0_harmUpper 39 = .ok (.iadd, 1) := by decide +kernel
theorem dX0_harmUpper_40 : decode cX0_harmUpper 40 = .ok (.istore_n 3, 1) := by decide +kernel
theorem dX0_harmUpper_41 : decode cX0_harmUpper 41 = .ok (.iinc 4 1, 3) := by decide +kernel
theorem dX0_harmUpper_44 : decode cX0_harmUpper 44 = .ok (.goto (-39), 3) := by decide +kernel
theorem dX0_harmUpper_47 : decode cX0_harmUpper 47 = .ok (.iload_n 3, 1) := by decide +kernel
theorem dX0_harmUpper_48 : decode cX0_harmUpper 48 = .ok (.ireturn, 1) := by decide +kernel
set_option maxRecDepth 20000 in
theorem ggX0_shares_X0_eagerTogether : GoodIn wsX0_shares wsX0_eagerTogether := goodIn_r _ [9, 10, 11, 12, 13, 14, 15, 16, 17, 18, 19, 20, 21, 22, 23] (by decide +kernel) (by decide +kernel)
set_option maxRecDepth 20000 in
theorem gX0_shares_X0_eagerTogether : GoodIn wsX0_shares (wsV RX0 72 RX0 yX0_eagerTogether wsX0_eagerTogether) := goodIn_app (goodIn_of _ (by decide +kernel)) ggX0_shares_X0_eagerTogether
theorem dX0_shares_0 : decode cX0_shares 0 = .ok (.iconst 1, 1) := by decide +kernel
theorem dX0_shares_1 : decode cX0_shares 1 = .ok (.aload_n 0, 1) := by decide +kernel
theorem dX0_shares_2 : decode cX0_shares 2 = .ok (.iload_n 1, 1) := by decide +kernel
theorem dX0_shares_3 : decode cX0_shares 3 = .ok (.invokevirtual 72, 3) := by decide +kernel
theorem dX0_shares_6 : decode cX0_shares 6 = .ok (.invokestatic 75, 3) := by decide +kernel
theorem dX0_shares_9 : decode cX0_shares 9 = .ok (.ireturn, 1) := by decide +kernel
set_option maxRecDepth 20000 in
theorem ggX0_countedOff_X5_bitOf : GoodIn wsX0_countedOff wsX5_bitOf := goodIn_r _ [5] (by decide +kernel) (by decide +kernel)
set_option maxRecDepth 20000 in
theorem gX0_countedOff_X5_bitOf_n68 : GoodIn wsX0_countedOff (wsX5_bitOf) := ggX0_countedOff_X5_bitOf
theorem dX0_countedOff_0 : decode cX0_countedOff 0 = .ok (.iload_n 2, 1) := by decide +kernel
theorem dX0_countedOff_1 : decode cX0_countedOff 1 = .ok (.istore_n 3, 1) := by decide +kernel
theorem dX0_countedOff_2 : decode cX0_countedOff 2 = .ok (.iconst 0, 1) := by decide +kernel
theorem dX0_countedOff_3 : decode cX0_countedOff 3 = .ok (.istore 4, 2) := by decide +kernel
theorem dX0_countedOff_5 : decode cX0_countedOff 5 = .ok (.iload 4, 2) := by decide +kernel
theorem dX0_countedOff_7 : decode cX0_countedOff 7 = .ok (.aload_n 0, 1) := by decide +kernel
theorem dX0_countedOff_8 : decode cX0_countedOff 8 = .ok (.getfield 24, 3) := by decide +kernel
theorem dX0_countedOff_11 : decode cX0_countedOff 11 = .ok (.if_icmp .ge 39, 3) := by decide +kernel
theorem dX0_countedOff_14 : decode cX0_countedOff 14 = .ok (.iload_n 1, 1) := by decide +kernel
theorem dX0_countedOff_15 : decode cX0_countedOff 15 = .ok (.iload 4, 2) := by decide +kernel
theorem dX0_countedOff_17 : decode cX0_countedOff 17 = .ok (.invokestatic 68, 3) := by decide +kernel
theorem dX0_countedOff_20 : decode cX0_countedOff 20 = .ok (.aload_n 0, 1) := by decide +kernel
theorem dX0_countedOff_21 : decode cX0_countedOff 21 = .ok (.getfield 18, 3) := by decide +kernel
theorem dX0_countedOff_24 : decode cX0_countedOff 24 = .ok (.iload 4, 2) := by decide +kernel
theorem dX0_countedOff_26 : decode cX0_countedOff 26 = .ok (.iaload, 1) := by decide +kernel
theorem dX0_countedOff_27 : decode cX0_countedOff 27 = .ok (.imul, 1) := by decide +kernel
theorem dX0_countedOff_28 : decode cX0_countedOff 28 = .ok (.istore 5, 2) := by decide +kernel
theorem dX0_countedOff_30 : decode cX0_countedOff 30 = .ok (.iload_n 3, 1) := by decide +kernel
theorem dX0_countedOff_31 : decode cX0_countedOff 31 = .ok (.iload 5, 2) := by decide +kernel
theorem dX0_countedOff_33 : decode cX0_countedOff 33 = .ok (.if_icmp .ge 6, 3) := by decide +kernel
theorem dX0_countedOff_36 : decode cX0_countedOff 36 = .ok (.iload 4, 2) := by decide +kernel
theorem dX0_countedOff_38 : decode cX0_countedOff 38 = .ok (.ireturn, 1) := by decide +kernel
theorem dX0_countedOff_39 : decode cX0_countedOff 39 = .ok (.iload_n 3, 1) := by decide +kernel
theorem dX0_countedOff_40 : decode cX0_countedOff 40 = .ok (.iload 5, 2) := by decide +kernel
theorem dX0_countedOff_42 : decode cX0_countedOff 42 = .ok (.isub, 1) := by decide +kernel
theorem dX0_countedOff_43 : decode cX0_countedOff 43 = .ok (.istore_n 3, 1) := by decide +kernel
theorem dX0_countedOff_44 : decode cX0_countedOff 44 = .ok (.iinc 4 1, 3) := by decide +kernel
theorem dX0_countedOff_47 : decode cX0_countedOff 47 = .ok (.goto (-42), 3) := by decide +kernel
theorem dX0_countedOff_50 : decode cX0_countedOff 50 = .ok (.bipush (-9), 2) := by decide +kernel
theorem dX0_countedOff_52 : decode cX0_countedOff 52 = .ok (.ireturn, 1) := by decide +kernel
set_option maxRecDepth 20000 in
theorem ggX1_init_X3_init : GoodIn wsX1_init wsX3_init := goodIn_r _ [9, 10, 2, 3] (by decide +kernel) (by decide +kernel)
set_option maxRecDepth 20000 in
theorem gX1_init_X3_init_n17 : GoodIn wsX1_init (wsX3_init) := ggX1_init_X3_init
theorem dX1_init_0 : decode cX1_init 0 = .ok (.aload_n 0, 1) := by decide +kernel
theorem dX1_init_1 : decode cX1_init 1 = .ok (.invokespecial 3, 3) := by decide +kernel
theorem dX1_init_4 : decode cX1_init 4 = .ok (.aload_n 0, 1) := by decide +kernel
theorem dX1_init_5 : decode cX1_init 5 = .ok (.bipush 10, 2) := by decide +kernel
theorem dX1_init_7 : decode cX1_init 7 = .ok (.anewarray 9, 3) := by decide +kernel
theorem dX1_init_10 : decode cX1_init 10 = .ok (.putfield 11, 3) := by decide +kernel
theorem dX1_init_13 : decode cX1_init 13 = .ok (.iconst 0, 1) := by decide +kernel
theorem dX1_init_14 : decode cX1_init 14 = .ok (.istore_n 1, 1) := by decide +kernel
theorem dX1_init_15 : decode cX1_init 15 = .ok (.iload_n 1, 1) := by decide +kernel
theorem dX1_init_16 : decode cX1_init 16 = .ok (.bipush 10, 2) := by decide +kernel
theorem dX1_init_18 : decode cX1_init 18 = .ok (.if_icmp .ge 22, 3) := by decide +kernel
theorem dX1_init_21 : decode cX1_init 21 = .ok (.aload_n 0, 1) := by decide +kernel
theorem dX1_init_22 : decode cX1_init 22 = .ok (.getfield 11, 3) := by decide +kernel
theorem dX1_init_25 : decode cX1_init 25 = .ok (.iload_n 1, 1) := by decide +kernel
theorem dX1_init_26 : decode cX1_init 26 = .ok (.new 9, 3) := by decide +kernel
theorem dX1_init_29 : decode cX1_init 29 = .ok (.dup, 1) := by decide +kernel
theorem dX1_init_30 : decode cX1_init 30 = .ok (.invokespecial 17, 3) := by decide +kernel
theorem dX1_init_33 : decode cX1_init 33 = .ok (.aastore, 1) := by decide +kernel
theorem dX1_init_34 : decode cX1_init 34 = .ok (.iinc 1 1, 3) := by decide +kernel
theorem dX1_init_37 : decode cX1_init 37 = .ok (.goto (-22), 3) := by decide +kernel
theorem dX1_init_40 : decode cX1_init 40 = .ok (.return_, 1) := by decide +kernel
set_option maxRecDepth 20000 in
theorem ggX1_push_X3_become : GoodIn wsX1_push wsX3_become := goodIn_r _ [12, 13, 14, 15, 16, 17, 21, 22, 23, 24, 25] (by decide +kernel) (by decide +kernel)
set_option maxRecDepth 20000 in
theorem gX1_push_X3_become : GoodIn wsX1_push (wsV RX1 22 RX3 yX3_become wsX3_become) := goodIn_app (goodIn_of _ (by decide +kernel)) ggX1_push_X3_become
theorem dX1_push_0 : decode cX1_push 0 = .ok (.aload_n 0, 1) := by decide +kernel
theorem dX1_push_1 : decode cX1_push 1 = .ok (.getfield 11, 3) := by decide +kernel
theorem dX1_push_4 : decode cX1_push 4 = .ok (.aload_n 0, 1) := by decide +kernel
theorem dX1_push_5 : decode cX1_push 5 = .ok (.getfield 18, 3) := by decide +kernel
theorem dX1_push_8 : decode cX1_push 8 = .ok (.aaload, 1) := by decide +kernel
theorem dX1_push_9 : decode cX1_push 9 = .ok (.aload_n 1, 1) := by decide +kernel
theorem dX1_push_10 : decode cX1_push 10 = .ok (.invokevirtual 22, 3) := by decide +kernel
theorem dX1_push_13 : decode cX1_push 13 = .ok (.aload_n 0, 1) := by decide +kernel
theorem dX1_push_14 : decode cX1_push 14 = .ok (.aload_n 0, 1) := by decide +kernel
theorem dX1_push_15 : decode cX1_push 15 = .ok (.getfield 18, 3) := by decide +kernel
theorem dX1_push_18 : decode cX1_push 18 = .ok (.iconst 1, 1) := by decide +kernel
theorem dX1_push_19 : decode cX1_push 19 = .ok (.iadd, 1) := by decide +kernel
theorem dX1_push_20 : decode cX1_push 20 = .ok (.bipush 10, 2) := by decide +kernel
theorem dX1_push_22 : decode cX1_push 22 = .ok (.irem, 1) := by decide +kernel
theorem dX1_push_23 : decode cX1_push 23 = .ok (.putfield 18, 3) := by decide +kernel
theorem dX1_push_26 : decode cX1_push 26 = .ok (.aload_n 0, 1) := by decide +kernel
theorem dX1_push_27 : decode cX1_push 27 = .ok (.aload_n 0, 1) := by decide +kernel
theorem dX1_push_28 : decode cX1_push 28 = .ok (.getfield 26, 3) := by decide +kernel
theorem dX1_push_31 : decode cX1_push 31 = .ok (.iconst 1, 1) := by decide +kernel
theorem dX1_push_32 : decode cX1_push 32 = .ok (.iadd, 1) := by decide +kernel
theorem dX1_push_33 : decode cX1_push 33 = .ok (.bipush 10, 2) := by decide +kernel
theorem dX1_push_35 : decode cX1_push 35 = .ok (.invokestatic 29, 3) := by decide +kernel
theorem dX1_push_38 : decode cX1_push 38 = .ok (.putfield 26, 3) := by decide +kernel
theorem dX1_push_41 : decode cX1_push 41 = .ok (.return_, 1) := by decide +kernel
set_option maxRecDepth 20000 in
theorem ggX1_pop_X3_become : GoodIn wsX1_pop wsX3_become := goodIn_r _ [8, 9, 10, 11, 12, 13, 17, 18, 19, 20, 21] (by decide +kernel) (by decide +kernel)
set_option maxRecDepth 20000 in
theorem gX1_pop_X3_become : GoodIn wsX1_pop (wsV RX1 22 RX3 yX3_become wsX3_become) := goodIn_app (goodIn_of _ (by decide +kernel)) ggX1_pop_X3_become
theorem dX1_pop_0 : decode cX1_pop 0 = .ok (.aload_n 0, 1) := by decide +kernel
theorem dX1_pop_1 : decode cX1_pop 1 = .ok (.aload_n 0, 1) := by decide +kernel
theorem dX1_pop_2 : decode cX1_pop 2 = .ok (.getfield 18, 3) := by decide +kernel
theorem dX1_pop_5 : decode cX1_pop 5 = .ok (.bipush 10, 2) := by decide +kernel
theorem dX1_pop_7 : decode cX1_pop 7 = .ok (.iadd, 1) := by decide +kernel
theorem dX1_pop_8 : decode cX1_pop 8 = .ok (.iconst 1, 1) := by decide +kernel
theorem dX1_pop_9 : decode cX1_pop 9 = .ok (.isub, 1) := by decide +kernel
theorem dX1_pop_10 : decode cX1_pop 10 = .ok (.bipush 10, 2) := by decide +kernel
theorem dX1_pop_12 : decode cX1_pop 12 = .ok (.irem, 1) := by decide +kernel
theorem dX1_pop_13 : decode cX1_pop 13 = .ok (.putfield 18, 3) := by decide +kernel
theorem dX1_pop_16 : decode cX1_pop 16 = .ok (.aload_n 0, 1) := by decide +kernel
theorem dX1_pop_17 : decode cX1_pop 17 = .ok (.dup, 1) := by decide +kernel
theorem dX1_pop_18 : decode cX1_pop 18 = .ok (.getfield 26, 3) := by decide +kernel
theorem dX1_pop_21 : decode cX1_pop 21 = .ok (.iconst 1, 1) := by decide +kernel
theorem dX1_pop_22 : decode cX1_pop 22 = .ok (.isub, 1) := by decide +kernel
theorem dX1_pop_23 : decode cX1_pop 23 = .ok (.putfield 26, 3) := by decide +kernel
theorem dX1_pop_26 : decode cX1_pop 26 = .ok (.aload_n 1, 1) := by decide +kernel
theorem dX1_pop_27 : decode cX1_pop 27 = .ok (.aload_n 0, 1) := by decide +kernel
theorem dX1_pop_28 : decode cX1_pop 28 = .ok (.getfield 11, 3) := by decide +kernel
theorem dX1_pop_31 : decode cX1_pop 31 = .ok (.aload_n 0, 1) := by decide +kernel
theorem dX1_pop_32 : decode cX1_pop 32 = .ok (.getfield 18, 3) := by decide +kernel
theorem dX1_pop_35 : decode cX1_pop 35 = .ok (.aaload, 1) := by decide +kernel
theorem dX1_pop_36 : decode cX1_pop 36 = .ok (.invokevirtual 22, 3) := by decide +kernel
theorem dX1_pop_39 : decode cX1_pop 39 = .ok (.return_, 1) := by decide +kernel
theorem dX2_init_0 : decode cX2_init 0 = .ok (.aload_n 0, 1) := by decide +kernel
theorem dX2_init_1 : decode cX2_init 1 = .ok (.invokespecial 3, 3) := by decide +kernel
theorem dX2_init_4 : decode cX2_init 4 = .ok (.aload_n 0, 1) := by decide +kernel
theorem dX2_init_5 : decode cX2_init 5 = .ok (.bipush 6, 2) := by decide +kernel
theorem dX2_init_7 : decode cX2_init 7 = .ok (.newarray .int, 2) := by decide +kernel
theorem dX2_init_9 : decode cX2_init 9 = .ok (.putfield 9, 3) := by decide +kernel
theorem dX2_init_12 : decode cX2_init 12 = .ok (.aload_n 0, 1) := by decide +kernel
theorem dX2_init_13 : decode cX2_init 13 = .ok (.bipush 6, 2) := by decide +kernel
theorem dX2_init_15 : decode cX2_init 15 = .ok (.newarray .int, 2) := by decide +kernel
theorem dX2_init_17 : decode cX2_init 17 = .ok (.putfield 15, 3) := by decide +kernel
theorem dX2_init_20 : decode cX2_init 20 = .ok (.return_, 1) := by decide +kernel
theorem dX2_add_0 : decode cX2_add 0 = .ok (.aload_n 0, 1) := by decide +kernel
theorem dX2_add_1 : decode cX2_add 1 = .ok (.getfield 18, 3) := by decide +kernel
theorem dX2_add_4 : decode cX2_add 4 = .ok (.bipush 6, 2) := by decide +kernel
theorem dX2_add_6 : decode cX2_add 6 = .ok (.if_icmp .lt 5, 3) := by decide +kernel
theorem dX2_add_9 : decode cX2_add 9 = .ok (.iconst 0, 1) := by decide +kernel
theorem dX2_add_10 : decode cX2_add 10 = .ok (.ireturn, 1) := by decide +kernel
theorem dX2_add_11 : decode cX2_add 11 = .ok (.aload_n 0, 1) := by decide +kernel
theorem dX2_add_12 : decode cX2_add 12 = .ok (.getfield 9, 3) := by decide +kernel
theorem dX2_add_15 : decode cX2_add 15 = .ok (.aload_n 0, 1) := by decide +kernel
theorem dX2_add_16 : decode cX2_add 16 = .ok (.getfield 18, 3) := by decide +kernel
theorem dX2_add_19 : decode cX2_add 19 = .ok (.iload_n 1, 1) := by decide +kernel
theorem dX2_add_20 : decode cX2_add 20 = .ok (.iastore, 1) := by decide +kernel
theorem dX2_add_21 : decode cX2_add 21 = .ok (.aload_n 0, 1) := by decide +kernel
theorem dX2_add_22 : decode cX2_add 22 = .ok (.getfield 15, 3) := by decide +kernel
theorem dX2_add_25 : decode cX2_add 25 = .ok (.aload_n 0, 1) := by decide +kernel
theorem dX2_add_26 : decode cX2_add 26 = .ok (.getfield 18, 3) := by decide +kernel
theorem dX2_add_29 : decode cX2_add 29 = .ok (.iload_n 2, 1) := by decide +kernel
theorem dX2_add_30 : decode cX2_add 30 = .ok (.iastore, 1) := by decide +kernel
theorem dX2_add_31 : decode cX2_add 31 = .ok (.aload_n 0, 1) := by decide +kernel
theorem dX2_add_32 : decode cX2_add 32 = .ok (.dup, 1) := by decide +kernel
theorem dX2_add_33 : decode cX2_add 33 = .ok (.getfield 18, 3) := by decide +kernel
theorem dX2_add_36 : decode cX2_add 36 = .ok (.iconst 1, 1) := by decide +kernel
theorem dX2_add_37 : decode cX2_add 37 = .ok (.iadd, 1) := by decide +kernel
theorem dX2_add_38 : decode cX2_add 38 = .ok (.putfield 18, 3) := by decide +kernel
theorem dX2_add_41 : decode cX2_add 41 = .ok (.iconst 1, 1) := by decide +kernel
theorem dX2_add_42 : decode cX2_add 42 = .ok (.ireturn, 1) := by decide +kernel
set_option maxRecDepth 20000 in
theorem ggX2_isSoBy_X5_bitOf : GoodIn wsX2_isSoBy wsX5_bitOf := goodIn_r _ [6] (by decide +kernel) (by decide +kernel)
set_option maxRecDepth 20000 in
theorem gX2_isSoBy_X5_bitOf_n22 : GoodIn wsX2_isSoBy (wsX5_bitOf) := ggX2_isSoBy_X5_bitOf
theorem dX2_isSoBy_0 : decode cX2_isSoBy 0 = .ok (.iconst 0, 1) := by decide +kernel
theorem dX2_isSoBy_1 : decode cX2_isSoBy 1 = .ok (.istore_n 2, 1) := by decide +kernel
theorem dX2_isSoBy_2 : decode cX2_isSoBy 2 = .ok (.iload_n 2, 1) := by decide +kernel
theorem dX2_isSoBy_3 : decode cX2_isSoBy 3 = .ok (.aload_n 0, 1) := by decide +kernel
theorem dX2_isSoBy_4 : decode cX2_isSoBy 4 = .ok (.getfield 18, 3) := by decide +kernel
theorem dX2_isSoBy_7 : decode cX2_isSoBy 7 = .ok (.if_icmp .ge 30, 3) := by decide +kernel
theorem dX2_isSoBy_10 : decode cX2_isSoBy 10 = .ok (.iload_n 1, 1) := by decide +kernel
theorem dX2_isSoBy_11 : decode cX2_isSoBy 11 = .ok (.aload_n 0, 1) := by decide +kernel
theorem dX2_isSoBy_12 : decode cX2_isSoBy 12 = .ok (.getfield 9, 3) := by decide +kernel
theorem dX2_isSoBy_15 : decode cX2_isSoBy 15 = .ok (.iload_n 2, 1) := by decide +kernel
theorem dX2_isSoBy_16 : decode cX2_isSoBy 16 = .ok (.iaload, 1) := by decide +kernel
theorem dX2_isSoBy_17 : decode cX2_isSoBy 17 = .ok (.invokestatic 22, 3) := by decide +kernel
theorem dX2_isSoBy_20 : decode cX2_isSoBy 20 = .ok (.aload_n 0, 1) := by decide +kernel
theorem dX2_isSoBy_21 : decode cX2_isSoBy 21 = .ok (.getfield 15, 3) := by decide +kernel
theorem dX2_isSoBy_24 : decode cX2_isSoBy 24 = .ok (.iload_n 2, 1) := by decide +kernel
theorem dX2_isSoBy_25 : decode cX2_isSoBy 25 = .ok (.iaload, 1) := by decide +kernel
theorem dX2_isSoBy_26 : decode cX2_isSoBy 26 = .ok (.if_icmp .eq 5, 3) := by decide +kernel
theorem dX2_isSoBy_29 : decode cX2_isSoBy 29 = .ok (.iconst 0, 1) := by decide +kernel
theorem dX2_isSoBy_30 : decode cX2_isSoBy 30 = .ok (.ireturn, 1) := by decide +kernel
theorem dX2_isSoBy_31 : decode cX2_isSoBy 31 = .ok (.iinc 2 1, 3) := by decide +kernel
theorem dX2_isSoBy_34 : decode cX2_isSoBy 34 = .ok (.goto (-32), 3) := by decide +kernel
theorem dX2_isSoBy_37 : decode cX2_isSoBy 37 = .ok (.iconst 1, 1) := by decide +kernel
theorem dX2_isSoBy_38 : decode cX2_isSoBy 38 = .ok (.ireturn, 1) := by decide +kernel
theorem dX3_init_0 : decode cX3_init 0 = .ok (.aload_n 0, 1) := by decide +kernel
theorem dX3_init_1 : decode cX3_init 1 = .ok (.invokespecial 1, 3) := by decide +kernel
theorem dX3_init_4 : decode cX3_init 4 = .ok (.return_, 1) := by decide +kernel
theorem dX3_become_0 : decode cX3_become 0 = .ok (.aload_n 0, 1) := by decide +kernel
theorem dX3_become_1 : decode cX3_become 1 = .ok (.aload_n 1, 1) := by decide +kernel
theorem dX3_become_2 : decode cX3_become 2 = .ok (.getfield 7, 3) := by decide +kernel
theorem dX3_become_5 : decode cX3_become 5 = .ok (.putfield 7, 3) := by decide +kernel
theorem dX3_become_8 : decode cX3_become 8 = .ok (.aload_n 0, 1) := by decide +kernel
theorem dX3_become_9 : decode cX3_become 9 = .ok (.aload_n 1, 1) := by decide +kernel
theorem dX3_become_10 : decode cX3_become 10 = .ok (.getfield 13, 3) := by decide +kernel
theorem dX3_become_13 : decode cX3_become 13 = .ok (.putfield 13, 3) := by decide +kernel
theorem dX3_become_16 : decode cX3_become 16 = .ok (.aload_n 0, 1) := by decide +kernel
theorem dX3_become_17 : decode cX3_become 17 = .ok (.aload_n 1, 1) := by decide +kernel
theorem dX3_become_18 : decode cX3_become 18 = .ok (.getfield 16, 3) := by decide +kernel
theorem dX3_become_21 : decode cX3_become 21 = .ok (.putfield 16, 3) := by decide +kernel
theorem dX3_become_24 : decode cX3_become 24 = .ok (.aload_n 0, 1) := by decide +kernel
theorem dX3_become_25 : decode cX3_become 25 = .ok (.aload_n 1, 1) := by decide +kernel
theorem dX3_become_26 : decode cX3_become 26 = .ok (.getfield 19, 3) := by decide +kernel
theorem dX3_become_29 : decode cX3_become 29 = .ok (.putfield 19, 3) := by decide +kernel
theorem dX3_become_32 : decode cX3_become 32 = .ok (.aload_n 0, 1) := by decide +kernel
theorem dX3_become_33 : decode cX3_become 33 = .ok (.aload_n 1, 1) := by decide +kernel
theorem dX3_become_34 : decode cX3_become 34 = .ok (.getfield 22, 3) := by decide +kernel
theorem dX3_become_37 : decode cX3_become 37 = .ok (.putfield 22, 3) := by decide +kernel
theorem dX3_become_40 : decode cX3_become 40 = .ok (.return_, 1) := by decide +kernel
theorem dX4_init_0 : decode cX4_init 0 = .ok (.aload_n 0, 1) := by decide +kernel
theorem dX4_init_1 : decode cX4_init 1 = .ok (.invokespecial 3, 3) := by decide +kernel
theorem dX4_init_4 : decode cX4_init 4 = .ok (.aload_n 0, 1) := by decide +kernel
theorem dX4_init_5 : decode cX4_init 5 = .ok (.sipush 200, 3) := by decide +kernel
theorem dX4_init_8 : decode cX4_init 8 = .ok (.newarray .char, 2) := by decide +kernel
theorem dX4_init_10 : decode cX4_init 10 = .ok (.putfield 9, 3) := by decide +kernel
theorem dX4_init_13 : decode cX4_init 13 = .ok (.return_, 1) := by decide +kernel
theorem dX4_add_0 : decode cX4_add 0 = .ok (.aload_n 0, 1) := by decide +kernel
theorem dX4_add_1 : decode cX4_add 1 = .ok (.getfield 15, 3) := by decide +kernel
theorem dX4_add_4 : decode cX4_add 4 = .ok (.sipush 200, 3) := by decide +kernel
theorem dX4_add_7 : decode cX4_add 7 = .ok (.if_icmp .lt 5, 3) := by decide +kernel
theorem dX4_add_10 : decode cX4_add 10 = .ok (.iconst 0, 1) := by decide +kernel
theorem dX4_add_11 : decode cX4_add 11 = .ok (.ireturn, 1) := by decide +kernel
theorem dX4_add_12 : decode cX4_add 12 = .ok (.aload_n 0, 1) := by decide +kernel
theorem dX4_add_13 : decode cX4_add 13 = .ok (.getfield 9, 3) := by decide +kernel
theorem dX4_add_16 : decode cX4_add 16 = .ok (.aload_n 0, 1) := by decide +kernel
theorem dX4_add_17 : decode cX4_add 17 = .ok (.getfield 15, 3) := by decide +kernel
theorem dX4_add_20 : decode cX4_add 20 = .ok (.iload_n 1, 1) := by decide +kernel
theorem dX4_add_21 : decode cX4_add 21 = .ok (.i2c, 1) := by decide +kernel
theorem dX4_add_22 : decode cX4_add 22 = .ok (.castore, 1) := by decide +kernel
theorem dX4_add_23 : decode cX4_add 23 = .ok (.aload_n 0, 1) := by decide +kernel
theorem dX4_add_24 : decode cX4_add 24 = .ok (.dup, 1) := by decide +kernel
theorem dX4_add_25 : decode cX4_add 25 = .ok (.getfield 15, 3) := by decide +kernel
theorem dX4_add_28 : decode cX4_add 28 = .ok (.iconst 1, 1) := by decide +kernel
theorem dX4_add_29 : decode cX4_add 29 = .ok (.iadd, 1) := by decide +kernel
theorem dX4_add_30 : decode cX4_add 30 = .ok (.putfield 15, 3) := by decide +kernel
theorem dX4_add_33 : decode cX4_add 33 = .ok (.iconst 1, 1) := by decide +kernel
theorem dX4_add_34 : decode cX4_add 34 = .ok (.ireturn, 1) := by decide +kernel
set_option maxRecDepth 20000 in
theorem ggX4_readInto_X0_setBare : GoodIn wsX4_readInto wsX0_setBare := goodIn_r _ [9, 10, 11, 12, 13, 14, 15, 71, 72, 73, 74, 75, 76, 77, 78, 79] (by decide +kernel) (by decide +kernel)
set_option maxRecDepth 20000 in
theorem gX4_readInto_X0_setBare : GoodIn wsX4_readInto (wsV RX4 19 RX0 yX0_setBare wsX0_setBare) := goodIn_app (goodIn_of _ (by decide +kernel)) ggX4_readInto_X0_setBare
set_option maxRecDepth 20000 in
theorem ggX4_readInto_X4_skipBlanks : GoodIn wsX4_readInto wsX4_skipBlanks := goodIn_r _ [20, 1, 4, 21, 66, 67, 68, 69, 70] (by decide +kernel) (by decide +kernel)
set_option maxRecDepth 20000 in
theorem gX4_readInto_X4_skipBlanks : GoodIn wsX4_readInto (wsV RX4 34 RX4 yX4_skipBlanks wsX4_skipBlanks) := goodIn_app (goodIn_of _ (by decide +kernel)) ggX4_readInto_X4_skipBlanks
set_option maxRecDepth 20000 in
theorem ggX4_readInto_X4_readItem : GoodIn wsX4_readInto wsX4_readItem := goodIn_r _ [25, 21, 1, 2, 3, 26, 27, 28, 8, 29, 10, 30, 31, 32, 19, 33, 34, 35, 36, 37, 4, 38, 39, 40, 41, 16, 17, 18, 20, 42, 43, 44, 45, 46, 47, 48, 49, 50, 51, 52, 11, 53, 54, 55, 56, 57, 58, 59, 60, 61, 62, 63, 64, 65, 66, 67, 68, 69, 70, 71, 72, 73, 74, 75, 76, 77, 78, 79] (by decide +kernel) (by decide +kernel)
set_option maxRecDepth 20000 in
theorem gX4_readInto_X4_readItem : GoodIn wsX4_readInto (wsV RX4 37 RX4 yX4_readItem wsX4_readItem) := goodIn_app (goodIn_of _ (by decide +kernel)) ggX4_readInto_X4_readItem
theorem dX4_readInto_0 : decode cX4_readInto 0 = .ok (.aload_n 1, 1) := by decide +kernel
theorem dX4_readInto_1 : decode cX4_readInto 1 = .ok (.invokevirtual 19, 3) := by decide +kernel
theorem dX4_readInto_4 : decode cX4_readInto 4 = .ok (.aload_n 0, 1) := by decide +kernel
theorem dX4_readInto_5 : decode cX4_readInto 5 = .ok (.iconst 0, 1) := by decide +kernel
theorem dX4_readInto_6 : decode cX4_readInto 6 = .ok (.putfield 24, 3) := by decide +kernel
theorem dX4_readInto_9 : decode cX4_readInto 9 = .ok (.aload_n 0, 1) := by decide +kernel
theorem dX4_readInto_10 : decode cX4_readInto 10 = .ok (.iconst 0, 1) := by decide +kernel
theorem dX4_readInto_11 : decode cX4_readInto 11 = .ok (.putfield 27, 3) := by decide +kernel
theorem dX4_readInto_14 : decode cX4_readInto 14 = .ok (.aload_n 0, 1) := by decide +kernel
theorem dX4_readInto_15 : decode cX4_readInto 15 = .ok (.iconst 0, 1) := by decide +kernel
theorem dX4_readInto_16 : decode cX4_readInto 16 = .ok (.putfield 31, 3) := by decide +kernel
theorem dX4_readInto_19 : decode cX4_readInto 19 = .ok (.iconst 0, 1) := by decide +kernel
theorem dX4_readInto_20 : decode cX4_readInto 20 = .ok (.istore_n 2, 1) := by decide +kernel
theorem dX4_readInto_21 : decode cX4_readInto 21 = .ok (.iload_n 2, 1) := by decide +kernel
theorem dX4_readInto_22 : decode cX4_readInto 22 = .ok (.sipush 200, 3) := by decide +kernel
theorem dX4_readInto_25 : decode cX4_readInto 25 = .ok (.if_icmp .ge 37, 3) := by decide +kernel
theorem dX4_readInto_28 : decode cX4_readInto 28 = .ok (.aload_n 0, 1) := by decide +kernel
theorem dX4_readInto_29 : decode cX4_readInto 29 = .ok (.invokevirtual 34, 3) := by decide +kernel
theorem dX4_readInto_32 : decode cX4_readInto 32 = .ok (.aload_n 0, 1) := by decide +kernel
theorem dX4_readInto_33 : decode cX4_readInto 33 = .ok (.getfield 24, 3) := by decide +kernel
theorem dX4_readInto_36 : decode cX4_readInto 36 = .ok (.aload_n 0, 1) := by decide +kernel
theorem dX4_readInto_37 : decode cX4_readInto 37 = .ok (.getfield 15, 3) := by decide +kernel
theorem dX4_readInto_40 : decode cX4_readInto 40 = .ok (.if_icmp .lt 5, 3) := by decide +kernel
theorem dX4_readInto_43 : decode cX4_readInto 43 = .ok (.iload_n 2, 1) := by decide +kernel
theorem dX4_readInto_44 : decode cX4_readInto 44 = .ok (.ireturn, 1) := by decide +kernel
theorem dX4_readInto_45 : decode cX4_readInto 45 = .ok (.aload_n 0, 1) := by decide +kernel
theorem dX4_readInto_46 : decode cX4_readInto 46 = .ok (.aload_n 1, 1) := by decide +kernel
theorem dX4_readInto_47 : decode cX4_readInto 47 = .ok (.invokevirtual 37, 3) := by decide +kernel
theorem dX4_readInto_50 : decode cX4_readInto 50 = .ok (.ifCond .ne 6, 3) := by decide +kernel
theorem dX4_readInto_53 : decode cX4_readInto 53 = .ok (.goto 9, 3) := by decide +kernel
theorem dX4_readInto_56 : decode cX4_readInto 56 = .ok (.iinc 2 1, 3) := by decide +kernel
theorem dX4_readInto_59 : decode cX4_readInto 59 = .ok (.goto (-38), 3) := by decide +kernel
theorem dX4_readInto_62 : decode cX4_readInto 62 = .ok (.bipush (-10), 2) := by decide +kernel
theorem dX4_readInto_64 : decode cX4_readInto 64 = .ok (.aload_n 0, 1) := by decide +kernel
theorem dX4_readInto_65 : decode cX4_readInto 65 = .ok (.getfield 24, 3) := by decide +kernel
theorem dX4_readInto_68 : decode cX4_readInto 68 = .ok (.isub, 1) := by decide +kernel
theorem dX4_readInto_69 : decode cX4_readInto 69 = .ok (.ireturn, 1) := by decide +kernel
set_option maxRecDepth 20000 in
theorem ggX4_readItem_X0_hasRoom : GoodIn wsX4_readItem wsX0_hasRoom := goodIn_r _ [9, 10, 59, 60, 61, 62, 63, 64, 65, 66, 67] (by decide +kernel) (by decide +kernel)
set_option maxRecDepth 20000 in
theorem gX4_readItem_X0_hasRoom : GoodIn wsX4_readItem (wsV RX4 41 RX0 yX0_hasRoom wsX0_hasRoom) := goodIn_app (goodIn_of _ (by decide +kernel)) ggX4_readItem_X0_hasRoom
set_option maxRecDepth 20000 in
theorem ggX4_readItem_X4_readThing : GoodIn wsX4_readItem wsX4_readThing := goodIn_r _ [15, 2, 16, 17, 18, 14, 19, 20, 1, 21, 22, 23, 24, 25, 26, 27, 28, 29, 30, 31, 32, 33, 34, 35, 8, 36, 37, 10, 38, 39, 40, 41, 6, 7, 9, 54, 55, 56, 57, 58, 59, 60, 61, 62, 63, 64, 65, 66, 67] (by decide +kernel) (by decide +kernel)
set_option maxRecDepth 20000 in
theorem gX4_readItem_X4_readThing : GoodIn wsX4_readItem (wsV RX4 45 RX4 yX4_readThing wsX4_readThing) := goodIn_app (goodIn_of _ (by decide +kernel)) ggX4_readItem_X4_readThing
set_option maxRecDepth 20000 in
theorem ggX4_readItem_X4_readVow : GoodIn wsX4_readItem wsX4_readVow := goodIn_r _ [45, 2, 3, 46, 16, 17, 18, 14, 19, 20, 1, 21, 22, 23, 24, 25, 26, 27, 28, 29, 30, 31, 32, 54, 55, 56, 57, 58, 59, 60, 61, 62, 63, 64, 65, 66, 67] (by decide +kernel) (by decide +kernel)
set_option maxRecDepth 20000 in
theorem gX4_readItem_X4_readVow : GoodIn wsX4_readItem (wsV RX4 48 RX4 yX4_readVow wsX4_readVow) := goodIn_app (goodIn_of _ (by decide +kernel)) ggX4_readItem_X4_readVow
set_option maxRecDepth 20000 in
theorem ggX4_readItem_X4_readWar : GoodIn wsX4_readItem wsX4_readWar := goodIn_r _ [50, 2, 4, 51, 52, 53, 16, 17, 18, 14, 19, 20, 1, 21, 22, 23, 24, 25, 26, 27, 28, 29, 30, 31, 32, 54, 55, 56, 57, 58, 59, 60, 61, 62, 63, 64, 65, 66, 67] (by decide +kernel) (by decide +kernel)
set_option maxRecDepth 20000 in
theorem gX4_readItem_X4_readWar : GoodIn wsX4_readItem (wsV RX4 51 RX4 yX4_readWar wsX4_readWar) := goodIn_app (goodIn_of _ (by decide +kernel)) ggX4_readItem_X4_readWar
theorem dX4_readItem_0 : decode cX4_readItem 0 = .ok (.aload_n 0, 1) := by decide +kernel
theorem dX4_readItem_1 : decode cX4_readItem 1 = .ok (.getfield 9, 3) := by decide +kernel
theorem dX4_readItem_4 : decode cX4_readItem 4 = .ok (.aload_n 0, 1) := by decide +kernel
theorem dX4_readItem_5 : decode cX4_readItem 5 = .ok (.getfield 24, 3) := by decide +kernel
theorem dX4_readItem_8 : decode cX4_readItem 8 = .ok (.caload, 1) := by decide +kernel
theorem dX4_readItem_9 : decode cX4_readItem 9 = .ok (.tableswitch 94 116 119 #[31, 94, 52, 73], 31) := by decide +kernel
theorem dX4_readItem_40 : decode cX4_readItem 40 = .ok (.aload_n 1, 1) := by decide +kernel
theorem dX4_readItem_41 : decode cX4_readItem 41 = .ok (.invokevirtual 41, 3) := by decide +kernel
theorem dX4_readItem_44 : decode cX4_readItem 44 = .ok (.ifCond .eq 15, 3) := by decide +kernel
theorem dX4_readItem_47 : decode cX4_readItem 47 = .ok (.aload_n 0, 1) := by decide +kernel
theorem dX4_readItem_48 : decode cX4_readItem 48 = .ok (.aload_n 1, 1) := by decide +kernel
theorem dX4_readItem_49 : decode cX4_readItem 49 = .ok (.invokevirtual 45, 3) := by decide +kernel
theorem dX4_readItem_52 : decode cX4_readItem 52 = .ok (.ifCond .eq 7, 3) := by decide +kernel
theorem dX4_readItem_55 : decode cX4_readItem 55 = .ok (.iconst 1, 1) := by decide +kernel
theorem dX4_readItem_56 : decode cX4_readItem 56 = .ok (.goto 4, 3) := by decide +kernel
theorem dX4_readItem_59 : decode cX4_readItem 59 = .ok (.iconst 0, 1) := by decide +kernel
theorem dX4_readItem_60 : decode cX4_readItem 60 = .ok (.ireturn, 1) := by decide +kernel
theorem dX4_readItem_61 : decode cX4_readItem 61 = .ok (.aload_n 0, 1) := by decide +kernel
theorem dX4_readItem_62 : decode cX4_readItem 62 = .ok (.getfield 27, 3) := by decide +kernel
theorem dX4_readItem_65 : decode cX4_readItem 65 = .ok (.ifCond .ne 15, 3) := by decide +kernel
theorem dX4_readItem_68 : decode cX4_readItem 68 = .ok (.aload_n 0, 1) := by decide +kernel
theorem dX4_readItem_69 : decode cX4_readItem 69 = .ok (.aload_n 1, 1) := by decide +kernel
theorem dX4_readItem_70 : decode cX4_readItem 70 = .ok (.invokevirtual 48, 3) := by decide +kernel
theorem dX4_readItem_73 : decode cX4_readItem 73 = .ok (.ifCond .eq 7, 3) := by decide +kernel
theorem dX4_readItem_76 : decode cX4_readItem 76 = .ok (.iconst 1, 1) := by decide +kernel
theorem dX4_readItem_77 : decode cX4_readItem 77 = .ok (.goto 4, 3) := by decide +kernel
theorem dX4_readItem_80 : decode cX4_readItem 80 = .ok (.iconst 0, 1) := by decide +kernel
theorem dX4_readItem_81 : decode cX4_readItem 81 = .ok (.ireturn, 1) := by decide +kernel
theorem dX4_readItem_82 : decode cX4_readItem 82 = .ok (.aload_n 0, 1) := by decide +kernel
theorem dX4_readItem_83 : decode cX4_readItem 83 = .ok (.getfield 31, 3) := by decide +kernel
theorem dX4_readItem_86 : decode cX4_readItem 86 = .ok (.ifCond .ne 15, 3) := by decide +kernel
theorem dX4_readItem_89 : decode cX4_readItem 89 = .ok (.aload_n 0, 1) := by decide +kernel
theorem dX4_readItem_90 : decode cX4_readItem 90 = .ok (.aload_n 1, 1) := by decide +kernel
theorem dX4_readItem_91 : decode cX4_readItem 91 = .ok (.invokevirtual 51, 3) := by decide +kernel
theorem dX4_readItem_94 : decode cX4_readItem 94 = .ok (.ifCond .eq 7, 3) := by decide +kernel
theorem dX4_readItem_97 : decode cX4_readItem 97 = .ok (.iconst 1, 1) := by decide +kernel
theorem dX4_readItem_98 : decode cX4_readItem 98 = .ok (.goto 4, 3) := by decide +kernel
theorem dX4_readItem_101 : decode cX4_readItem 101 = .ok (.iconst 0, 1) := by decide +kernel
theorem dX4_readItem_102 : decode cX4_readItem 102 = .ok (.ireturn, 1) := by decide +kernel
theorem dX4_readItem_103 : decode cX4_readItem 103 = .ok (.iconst 0, 1) := by decide +kernel
theorem dX4_readItem_104 : decode cX4_readItem 104 = .ok (.ireturn, 1) := by decide +kernel
set_option maxRecDepth 20000 in
theorem ggX4_readThing_X4_readNumber : GoodIn wsX4_readThing wsX4_readNumber := goodIn_r _ [6, 1, 7, 8, 9, 10, 11, 12, 13, 14, 15, 5, 16, 35, 36, 37, 38, 39] (by decide +kernel) (by decide +kernel)
set_option maxRecDepth 20000 in
theorem gX4_readThing_X4_readNumber : GoodIn wsX4_readThing (wsV RX4 54 RX4 yX4_readNumber wsX4_readNumber) := goodIn_app (goodIn_of _ (by decide +kernel)) ggX4_readThing_X4_readNumber
set_option maxRecDepth 20000 in
theorem ggX4_readThing_X4_readEnd : GoodIn wsX4_readThing wsX4_readEnd := goodIn_r _ [20, 1, 7, 8, 13, 14, 15, 5, 16, 35, 36, 37, 38, 39] (by decide +kernel) (by decide +kernel)
set_option maxRecDepth 20000 in
theorem gX4_readThing_X4_readEnd : GoodIn wsX4_readThing (wsV RX4 58 RX4 yX4_readEnd wsX4_readEnd) := goodIn_app (goodIn_of _ (by decide +kernel)) ggX4_readThing_X4_readEnd
set_option maxRecDepth 20000 in
theorem ggX4_readThing_X0_add : GoodIn wsX4_readThing wsX0_add := goodIn_r _ [25, 26, 27, 28, 29, 30, 31, 32, 33, 24, 34, 40, 41, 42, 43, 44, 45, 46, 47, 48] (by decide +kernel) (by decide +kernel)
set_option maxRecDepth 20000 in
theorem gX4_readThing_X0_add : GoodIn wsX4_readThing (wsV RX4 61 RX0 yX0_add wsX0_add) := goodIn_app (goodIn_of _ (by decide +kernel)) ggX4_readThing_X0_add
theorem dX4_readThing_0 : decode cX4_readThing 0 = .ok (.aload_n 0, 1) := by decide +kernel
theorem dX4_readThing_1 : decode cX4_readThing 1 = .ok (.dup, 1) := by decide +kernel
theorem dX4_readThing_2 : decode cX4_readThing 2 = .ok (.getfield 24, 3) := by decide +kernel
theorem dX4_readThing_5 : decode cX4_readThing 5 = .ok (.iconst 1, 1) := by decide +kernel
theorem dX4_readThing_6 : decode cX4_readThing 6 = .ok (.iadd, 1) := by decide +kernel
theorem dX4_readThing_7 : decode cX4_readThing 7 = .ok (.putfield 24, 3) := by decide +kernel
theorem dX4_readThing_10 : decode cX4_readThing 10 = .ok (.aload_n 0, 1) := by decide +kernel
theorem dX4_readThing_11 : decode cX4_readThing 11 = .ok (.bipush 31, 2) := by decide +kernel
theorem dX4_readThing_13 : decode cX4_readThing 13 = .ok (.invokevirtual 54, 3) := by decide +kernel
theorem dX4_readThing_16 : decode cX4_readThing 16 = .ok (.istore_n 2, 1) := by decide +kernel
theorem dX4_readThing_17 : decode cX4_readThing 17 = .ok (.iload_n 2, 1) := by decide +kernel
theorem dX4_readThing_18 : decode cX4_readThing 18 = .ok (.ifCond .ge 7, 3) := by decide +kernel
theorem dX4_readThing_21 : decode cX4_readThing 21 = .ok (.iconst (-1), 1) := by decide +kernel
theorem dX4_readThing_22 : decode cX4_readThing 22 = .ok (.goto 9, 3) := by decide +kernel
theorem dX4_readThing_25 : decode cX4_readThing 25 = .ok (.aload_n 0, 1) := by decide +kernel
theorem dX4_readThing_26 : decode cX4_readThing 26 = .ok (.bipush 99, 2) := by decide +kernel
theorem dX4_readThing_28 : decode cX4_readThing 28 = .ok (.invokevirtual 54, 3) := by decide +kernel
theorem dX4_readThing_31 : decode cX4_readThing 31 = .ok (.istore_n 3, 1) := by decide +kernel
theorem dX4_readThing_32 : decode cX4_readThing 32 = .ok (.iload_n 3, 1) := by decide +kernel
theorem dX4_readThing_33 : decode cX4_readThing 33 = .ok (.ifCond .ge 7, 3) := by decide +kernel
theorem dX4_readThing_36 : decode cX4_readThing 36 = .ok (.iconst (-1), 1) := by decide +kernel
theorem dX4_readThing_37 : decode cX4_readThing 37 = .ok (.goto 9, 3) := by decide +kernel
theorem dX4_readThing_40 : decode cX4_readThing 40 = .ok (.aload_n 0, 1) := by decide +kernel
theorem dX4_readThing_41 : decode cX4_readThing 41 = .ok (.bipush 9, 2) := by decide +kernel
theorem dX4_readThing_43 : decode cX4_readThing 43 = .ok (.invokevirtual 54, 3) := by decide +kernel
theorem dX4_readThing_46 : decode cX4_readThing 46 = .ok (.istore 4, 2) := by decide +kernel
theorem dX4_readThing_48 : decode cX4_readThing 48 = .ok (.iload 4, 2) := by decide +kernel
theorem dX4_readThing_50 : decode cX4_readThing 50 = .ok (.ifCond .ge 7, 3) := by decide +kernel
theorem dX4_readThing_53 : decode cX4_readThing 53 = .ok (.iconst (-1), 1) := by decide +kernel
theorem dX4_readThing_54 : decode cX4_readThing 54 = .ok (.goto 8, 3) := by decide +kernel
theorem dX4_readThing_57 : decode cX4_readThing 57 = .ok (.aload_n 0, 1) := by decide +kernel
theorem dX4_readThing_58 : decode cX4_readThing 58 = .ok (.iconst 1, 1) := by decide +kernel
theorem dX4_readThing_59 : decode cX4_readThing 59 = .ok (.invokevirtual 54, 3) := by decide +kernel
theorem dX4_readThing_62 : decode cX4_readThing 62 = .ok (.istore 5, 2) := by decide +kernel
theorem dX4_readThing_64 : decode cX4_readThing 64 = .ok (.iload 5, 2) := by decide +kernel
theorem dX4_readThing_66 : decode cX4_readThing 66 = .ok (.ifCond .lt 10, 3) := by decide +kernel
theorem dX4_readThing_69 : decode cX4_readThing 69 = .ok (.aload_n 0, 1) := by decide +kernel
theorem dX4_readThing_70 : decode cX4_readThing 70 = .ok (.invokevirtual 58, 3) := by decide +kernel
theorem dX4_readThing_73 : decode cX4_readThing 73 = .ok (.ifCond .ne 5, 3) := by decide +kernel
theorem dX4_readThing_76 : decode cX4_readThing 76 = .ok (.iconst 0, 1) := by decide +kernel
theorem dX4_readThing_77 : decode cX4_readThing 77 = .ok (.ireturn, 1) := by decide +kernel
theorem dX4_readThing_78 : decode cX4_readThing 78 = .ok (.aload_n 1, 1) := by decide +kernel
theorem dX4_readThing_79 : decode cX4_readThing 79 = .ok (.iload_n 2, 1) := by decide +kernel
theorem dX4_readThing_80 : decode cX4_readThing 80 = .ok (.iload_n 3, 1) := by decide +kernel
theorem dX4_readThing_81 : decode cX4_readThing 81 = .ok (.iload 4, 2) := by decide +kernel
theorem dX4_readThing_83 : decode cX4_readThing 83 = .ok (.iload 5, 2) := by decide +kernel
theorem dX4_readThing_85 : decode cX4_readThing 85 = .ok (.invokevirtual 61, 3) := by decide +kernel
theorem dX4_readThing_88 : decode cX4_readThing 88 = .ok (.iconst 1, 1) := by decide +kernel
theorem dX4_readThing_89 : decode cX4_readThing 89 = .ok (.ireturn, 1) := by decide +kernel
set_option maxRecDepth 20000 in
theorem ggX4_readVow_X4_readNumber : GoodIn wsX4_readVow wsX4_readNumber := goodIn_r _ [8, 1, 9, 10, 11, 12, 13, 14, 15, 16, 17, 7, 18, 23, 24, 25, 26, 27] (by decide +kernel) (by decide +kernel)
set_option maxRecDepth 20000 in
theorem gX4_readVow_X4_readNumber : GoodIn wsX4_readVow (wsV RX4 54 RX4 yX4_readNumber wsX4_readNumber) := goodIn_app (goodIn_of _ (by decide +kernel)) ggX4_readVow_X4_readNumber
set_option maxRecDepth 20000 in
theorem ggX4_readVow_X4_readEnd : GoodIn wsX4_readVow wsX4_readEnd := goodIn_r _ [22, 1, 9, 10, 15, 16, 17, 7, 18, 23, 24, 25, 26, 27] (by decide +kernel) (by decide +kernel)
set_option maxRecDepth 20000 in
theorem gX4_readVow_X4_readEnd : GoodIn wsX4_readVow (wsV RX4 58 RX4 yX4_readEnd wsX4_readEnd) := goodIn_app (goodIn_of _ (by decide +kernel)) ggX4_readVow_X4_readEnd
theorem dX4_readVow_0 : decode cX4_readVow 0 = .ok (.aload_n 0, 1) := by decide +kernel
theorem dX4_readVow_1 : decode cX4_readVow 1 = .ok (.dup, 1) := by decide +kernel
theorem dX4_readVow_2 : decode cX4_readVow 2 = .ok (.getfield 24, 3) := by decide +kernel
theorem dX4_readVow_5 : decode cX4_readVow 5 = .ok (.iconst 1, 1) := by decide +kernel
theorem dX4_readVow_6 : decode cX4_readVow 6 = .ok (.iadd, 1) := by decide +kernel
theorem dX4_readVow_7 : decode cX4_readVow 7 = .ok (.putfield 24, 3) := by decide +kernel
theorem dX4_readVow_10 : decode cX4_readVow 10 = .ok (.aload_n 0, 1) := by decide +kernel
theorem dX4_readVow_11 : decode cX4_readVow 11 = .ok (.iconst 1, 1) := by decide +kernel
theorem dX4_readVow_12 : decode cX4_readVow 12 = .ok (.putfield 27, 3) := by decide +kernel
theorem dX4_readVow_15 : decode cX4_readVow 15 = .ok (.aload_n 0, 1) := by decide +kernel
theorem dX4_readVow_16 : decode cX4_readVow 16 = .ok (.bipush 31, 2) := by decide +kernel
theorem dX4_readVow_18 : decode cX4_readVow 18 = .ok (.invokevirtual 54, 3) := by decide +kernel
theorem dX4_readVow_21 : decode cX4_readVow 21 = .ok (.istore_n 2, 1) := by decide +kernel
theorem dX4_readVow_22 : decode cX4_readVow 22 = .ok (.iload_n 2, 1) := by decide +kernel
theorem dX4_readVow_23 : decode cX4_readVow 23 = .ok (.ifCond .lt 10, 3) := by decide +kernel
theorem dX4_readVow_26 : decode cX4_readVow 26 = .ok (.aload_n 0, 1) := by decide +kernel
theorem dX4_readVow_27 : decode cX4_readVow 27 = .ok (.invokevirtual 58, 3) := by decide +kernel
theorem dX4_readVow_30 : decode cX4_readVow 30 = .ok (.ifCond .ne 5, 3) := by decide +kernel
theorem dX4_readVow_33 : decode cX4_readVow 33 = .ok (.iconst 0, 1) := by decide +kernel
theorem dX4_readVow_34 : decode cX4_readVow 34 = .ok (.ireturn, 1) := by decide +kernel
theorem dX4_readVow_35 : decode cX4_readVow 35 = .ok (.aload_n 1, 1) := by decide +kernel
theorem dX4_readVow_36 : decode cX4_readVow 36 = .ok (.iload_n 2, 1) := by decide +kernel
theorem dX4_readVow_37 : decode cX4_readVow 37 = .ok (.putfield 65, 3) := by decide +kernel
theorem dX4_readVow_40 : decode cX4_readVow 40 = .ok (.iconst 1, 1) := by decide +kernel
theorem dX4_readVow_41 : decode cX4_readVow 41 = .ok (.ireturn, 1) := by decide +kernel
set_option maxRecDepth 20000 in
theorem ggX4_readWar_X4_readNumber : GoodIn wsX4_readWar wsX4_readNumber := goodIn_r _ [10, 1, 11, 12, 13, 14, 15, 16, 17, 18, 19, 9, 20, 25, 26, 27, 28, 29] (by decide +kernel) (by decide +kernel)
set_option maxRecDepth 20000 in
theorem gX4_readWar_X4_readNumber : GoodIn wsX4_readWar (wsV RX4 54 RX4 yX4_readNumber wsX4_readNumber) := goodIn_app (goodIn_of _ (by decide +kernel)) ggX4_readWar_X4_readNumber
set_option maxRecDepth 20000 in
theorem ggX4_readWar_X4_readEnd : GoodIn wsX4_readWar wsX4_readEnd := goodIn_r _ [24, 1, 11, 12, 17, 18, 19, 9, 20, 25, 26, 27, 28, 29] (by decide +kernel) (by decide +kernel)
set_option maxRecDepth 20000 in
theorem gX4_readWar_X4_readEnd : GoodIn wsX4_readWar (wsV RX4 58 RX4 yX4_readEnd wsX4_readEnd) := goodIn_app (goodIn_of _ (by decide +kernel)) ggX4_readWar_X4_readEnd
theorem dX4_readWar_0 : decode cX4_readWar 0 = .ok (.aload_n 0, 1) := by decide +kernel
theorem dX4_readWar_1 : decode cX4_readWar 1 = .ok (.dup, 1) := by decide +kernel
theorem dX4_readWar_2 : decode cX4_readWar 2 = .ok (.getfield 24, 3) := by decide +kernel
theorem dX4_readWar_5 : decode cX4_readWar 5 = .ok (.iconst 1, 1) := by decide +kernel
theorem dX4_readWar_6 : decode cX4_readWar 6 = .ok (.iadd, 1) := by decide +kernel
theorem dX4_readWar_7 : decode cX4_readWar 7 = .ok (.putfield 24, 3) := by decide +kernel
theorem dX4_readWar_10 : decode cX4_readWar 10 = .ok (.aload_n 0, 1) := by decide +kernel
theorem dX4_readWar_11 : decode cX4_readWar 11 = .ok (.iconst 1, 1) := by decide +kernel
theorem dX4_readWar_12 : decode cX4_readWar 12 = .ok (.putfield 31, 3) := by decide +kernel
theorem dX4_readWar_15 : decode cX4_readWar 15 = .ok (.aload_n 0, 1) := by decide +kernel
theorem dX4_readWar_16 : decode cX4_readWar 16 = .ok (.bipush 10, 2) := by decide +kernel
theorem dX4_readWar_18 : decode cX4_readWar 18 = .ok (.invokevirtual 54, 3) := by decide +kernel
theorem dX4_readWar_21 : decode cX4_readWar 21 = .ok (.istore_n 2, 1) := by decide +kernel
theorem dX4_readWar_22 : decode cX4_readWar 22 = .ok (.iload_n 2, 1) := by decide +kernel
theorem dX4_readWar_23 : decode cX4_readWar 23 = .ok (.ifCond .ge 7, 3) := by decide +kernel
theorem dX4_readWar_26 : decode cX4_readWar 26 = .ok (.iconst (-1), 1) := by decide +kernel
theorem dX4_readWar_27 : decode cX4_readWar 27 = .ok (.goto 11, 3) := by decide +kernel
theorem dX4_readWar_30 : decode cX4_readWar 30 = .ok (.aload_n 0, 1) := by decide +kernel
theorem dX4_readWar_31 : decode cX4_readWar 31 = .ok (.bipush 10, 2) := by decide +kernel
theorem dX4_readWar_33 : decode cX4_readWar 33 = .ok (.iload_n 2, 1) := by decide +kernel
theorem dX4_readWar_34 : decode cX4_readWar 34 = .ok (.isub, 1) := by decide +kernel
theorem dX4_readWar_35 : decode cX4_readWar 35 = .ok (.invokevirtual 54, 3) := by decide +kernel
theorem dX4_readWar_38 : decode cX4_readWar 38 = .ok (.istore_n 3, 1) := by decide +kernel
theorem dX4_readWar_39 : decode cX4_readWar 39 = .ok (.iload_n 3, 1) := by decide +kernel
theorem dX4_readWar_40 : decode cX4_readWar 40 = .ok (.ifCond .ge 7, 3) := by decide +kernel
theorem dX4_readWar_43 : decode cX4_readWar 43 = .ok (.iconst (-1), 1) := by decide +kernel
theorem dX4_readWar_44 : decode cX4_readWar 44 = .ok (.goto 10, 3) := by decide +kernel
theorem dX4_readWar_47 : decode cX4_readWar 47 = .ok (.aload_n 0, 1) := by decide +kernel
theorem dX4_readWar_48 : decode cX4_readWar 48 = .ok (.sipush 999, 3) := by decide +kernel
theorem dX4_readWar_51 : decode cX4_readWar 51 = .ok (.invokevirtual 54, 3) := by decide +kernel
theorem dX4_readWar_54 : decode cX4_readWar 54 = .ok (.istore 4, 2) := by decide +kernel
theorem dX4_readWar_56 : decode cX4_readWar 56 = .ok (.iload 4, 2) := by decide +kernel
theorem dX4_readWar_58 : decode cX4_readWar 58 = .ok (.ifCond .lt 10, 3) := by decide +kernel
theorem dX4_readWar_61 : decode cX4_readWar 61 = .ok (.aload_n 0, 1) := by decide +kernel
theorem dX4_readWar_62 : decode cX4_readWar 62 = .ok (.invokevirtual 58, 3) := by decide +kernel
theorem dX4_readWar_65 : decode cX4_readWar 65 = .ok (.ifCond .ne 5, 3) := by decide +kernel
theorem dX4_readWar_68 : decode cX4_readWar 68 = .ok (.iconst 0, 1) := by decide +kernel
theorem dX4_readWar_69 : decode cX4_readWar 69 = .ok (.ireturn, 1) := by decide +kernel
theorem dX4_readWar_70 : decode cX4_readWar 70 = .ok (.aload_n 1, 1) := by decide +kernel
theorem dX4_readWar_71 : decode cX4_readWar 71 = .ok (.iload_n 2, 1) := by decide +kernel
theorem dX4_readWar_72 : decode cX4_readWar 72 = .ok (.putfield 68, 3) := by decide +kernel
theorem dX4_readWar_75 : decode cX4_readWar 75 = .ok (.aload_n 1, 1) := by decide +kernel
theorem dX4_readWar_76 : decode cX4_readWar 76 = .ok (.iload_n 3, 1) := by decide +kernel
theorem dX4_readWar_77 : decode cX4_readWar 77 = .ok (.putfield 71, 3) := by decide +kernel
theorem dX4_readWar_80 : decode cX4_readWar 80 = .ok (.aload_n 1, 1) := by decide +kernel
theorem dX4_readWar_81 : decode cX4_readWar 81 = .ok (.iload 4, 2) := by decide +kernel
theorem dX4_readWar_83 : decode cX4_readWar 83 = .ok (.putfield 74, 3) := by decide +kernel
theorem dX4_readWar_86 : decode cX4_readWar 86 = .ok (.iconst 1, 1) := by decide +kernel
theorem dX4_readWar_87 : decode cX4_readWar 87 = .ok (.ireturn, 1) := by decide +kernel
set_option maxRecDepth 20000 in
theorem ggX4_readNumber_X4_skipBlanks : GoodIn wsX4_readNumber wsX4_skipBlanks := goodIn_r _ [12, 1, 2, 3, 13, 14, 15, 16, 17] (by decide +kernel) (by decide +kernel)
set_option maxRecDepth 20000 in
theorem gX4_readNumber_X4_skipBlanks : GoodIn wsX4_readNumber (wsV RX4 34 RX4 yX4_skipBlanks wsX4_skipBlanks) := goodIn_app (goodIn_of _ (by decide +kernel)) ggX4_readNumber_X4_skipBlanks
theorem dX4_readNumber_0 : decode cX4_readNumber 0 = .ok (.aload_n 0, 1) := by decide +kernel
theorem dX4_readNumber_1 : decode cX4_readNumber 1 = .ok (.invokevirtual 34, 3) := by decide +kernel
theorem dX4_readNumber_4 : decode cX4_readNumber 4 = .ok (.iconst 0, 1) := by decide +kernel
theorem dX4_readNumber_5 : decode cX4_readNumber 5 = .ok (.istore_n 2, 1) := by decide +kernel
theorem dX4_readNumber_6 : decode cX4_readNumber 6 = .ok (.aload_n 0, 1) := by decide +kernel
theorem dX4_readNumber_7 : decode cX4_readNumber 7 = .ok (.getfield 24, 3) := by decide +kernel
theorem dX4_readNumber_10 : decode cX4_readNumber 10 = .ok (.istore_n 3, 1) := by decide +kernel
theorem dX4_readNumber_11 : decode cX4_readNumber 11 = .ok (.iload_n 3, 1) := by decide +kernel
theorem dX4_readNumber_12 : decode cX4_readNumber 12 = .ok (.aload_n 0, 1) := by decide +kernel
theorem dX4_readNumber_13 : decode cX4_readNumber 13 = .ok (.getfield 15, 3) := by decide +kernel
theorem dX4_readNumber_16 : decode cX4_readNumber 16 = .ok (.if_icmp .ge 52, 3) := by decide +kernel
theorem dX4_readNumber_19 : decode cX4_readNumber 19 = .ok (.aload_n 0, 1) := by decide +kernel
theorem dX4_readNumber_20 : decode cX4_readNumber 20 = .ok (.getfield 9, 3) := by decide +kernel
theorem dX4_readNumber_23 : decode cX4_readNumber 23 = .ok (.iload_n 3, 1) := by decide +kernel
theorem dX4_readNumber_24 : decode cX4_readNumber 24 = .ok (.caload, 1) := by decide +kernel
theorem dX4_readNumber_25 : decode cX4_readNumber 25 = .ok (.bipush 48, 2) := by decide +kernel
theorem dX4_readNumber_27 : decode cX4_readNumber 27 = .ok (.if_icmp .lt 41, 3) := by decide +kernel
theorem dX4_readNumber_30 : decode cX4_readNumber 30 = .ok (.aload_n 0, 1) := by decide +kernel
theorem dX4_readNumber_31 : decode cX4_readNumber 31 = .ok (.getfield 9, 3) := by decide +kernel
theorem dX4_readNumber_34 : decode cX4_readNumber 34 = .ok (.iload_n 3, 1) := by decide +kernel
theorem dX4_readNumber_35 : decode cX4_readNumber 35 = .ok (.caload, 1) := by decide +kernel
theorem dX4_readNumber_36 : decode cX4_readNumber 36 = .ok (.bipush 57, 2) := by decide +kernel
theorem dX4_readNumber_38 : decode cX4_readNumber 38 = .ok (.if_icmp .gt 30, 3) := by decide +kernel
theorem dX4_readNumber_41 : decode cX4_readNumber 41 = .ok (.iload_n 2, 1) := by decide +kernel
theorem dX4_readNumber_42 : decode cX4_readNumber 42 = .ok (.bipush 10, 2) := by decide +kernel
theorem dX4_readNumber_44 : decode cX4_readNumber 44 = .ok (.imul, 1) := by decide +kernel
theorem dX4_readNumber_45 : decode cX4_readNumber 45 = .ok (.aload_n 0, 1) := by decide +kernel
theorem dX4_readNumber_46 : decode cX4_readNumber 46 = .ok (.getfield 9, 3) := by decide +kernel
theorem dX4_readNumber_49 : decode cX4_readNumber 49 = .ok (.iload_n 3, 1) := by decide +kernel
theorem dX4_readNumber_50 : decode cX4_readNumber 50 = .ok (.caload, 1) := by decide +kernel
theorem dX4_readNumber_51 : decode cX4_readNumber 51 = .ok (.iadd, 1) := by decide +kernel
theorem dX4_readNumber_52 : decode cX4_readNumber 52 = .ok (.bipush 48, 2) := by decide +kernel
theorem dX4_readNumber_54 : decode cX4_readNumber 54 = .ok (.isub, 1) := by decide +kernel
theorem dX4_readNumber_55 : decode cX4_readNumber 55 = .ok (.sipush 1000, 3) := by decide +kernel
theorem dX4_readNumber_58 : decode cX4_readNumber 58 = .ok (.invokestatic 77, 3) := by decide +kernel
theorem dX4_readNumber_61 : decode cX4_readNumber 61 = .ok (.istore_n 2, 1) := by decide +kernel
theorem dX4_readNumber_62 : decode cX4_readNumber 62 = .ok (.iinc 3 1, 3) := by decide +kernel
theorem dX4_readNumber_65 : decode cX4_readNumber 65 = .ok (.goto (-54), 3) := by decide +kernel
theorem dX4_readNumber_68 : decode cX4_readNumber 68 = .ok (.iload_n 3, 1) := by decide +kernel
theorem dX4_readNumber_69 : decode cX4_readNumber 69 = .ok (.aload_n 0, 1) := by decide +kernel
theorem dX4_readNumber_70 : decode cX4_readNumber 70 = .ok (.getfield 24, 3) := by decide +kernel
theorem dX4_readNumber_73 : decode cX4_readNumber 73 = .ok (.isub, 1) := by decide +kernel
theorem dX4_readNumber_74 : decode cX4_readNumber 74 = .ok (.iconst 1, 1) := by decide +kernel
theorem dX4_readNumber_75 : decode cX4_readNumber 75 = .ok (.if_icmp .le 21, 3) := by decide +kernel
theorem dX4_readNumber_78 : decode cX4_readNumber 78 = .ok (.aload_n 0, 1) := by decide +kernel
theorem dX4_readNumber_79 : decode cX4_readNumber 79 = .ok (.getfield 9, 3) := by decide +kernel
theorem dX4_readNumber_82 : decode cX4_readNumber 82 = .ok (.aload_n 0, 1) := by decide +kernel
theorem dX4_readNumber_83 : decode cX4_readNumber 83 = .ok (.getfield 24, 3) := by decide +kernel
theorem dX4_readNumber_86 : decode cX4_readNumber 86 = .ok (.caload, 1) := by decide +kernel
theorem dX4_readNumber_87 : decode cX4_readNumber 87 = .ok (.bipush 48, 2) := by decide +kernel
theorem dX4_readNumber_89 : decode cX4_readNumber 89 = .ok (.if_icmp .ne 7, 3) := by decide +kernel
theorem dX4_readNumber_92 : decode cX4_readNumber 92 = .ok (.iconst 1, 1) := by decide +kernel
theorem dX4_readNumber_93 : decode cX4_readNumber 93 = .ok (.goto 4, 3) := by decide +kernel
theorem dX4_readNumber_96 : decode cX4_readNumber 96 = .ok (.iconst 0, 1) := by decide +kernel
theorem dX4_readNumber_97 : decode cX4_readNumber 97 = .ok (.istore 4, 2) := by decide +kernel
theorem dX4_readNumber_99 : decode cX4_readNumber 99 = .ok (.iload_n 3, 1) := by decide +kernel
theorem dX4_readNumber_100 : decode cX4_readNumber 100 = .ok (.aload_n 0, 1) := by decide +kernel
theorem dX4_readNumber_101 : decode cX4_readNumber 101 = .ok (.getfield 24, 3) := by decide +kernel
theorem dX4_readNumber_104 : decode cX4_readNumber 104 = .ok (.if_icmp .eq 13, 3) := by decide +kernel
theorem dX4_readNumber_107 : decode cX4_readNumber 107 = .ok (.iload 4, 2) := by decide +kernel
theorem dX4_readNumber_109 : decode cX4_readNumber 109 = .ok (.ifCond .ne 8, 3) := by decide +kernel
theorem dX4_readNumber_112 : decode cX4_readNumber 112 = .ok (.iload_n 2, 1) := by decide +kernel
theorem dX4_readNumber_113 : decode cX4_readNumber 113 = .ok (.iload_n 1, 1) := by decide +kernel
theorem dX4_readNumber_114 : decode cX4_readNumber 114 = .ok (.if_icmp .le 5, 3) := by decide +kernel
theorem dX4_readNumber_117 : decode cX4_readNumber 117 = .ok (.iconst (-1), 1) := by decide +kernel
theorem dX4_readNumber_118 : decode cX4_readNumber 118 = .ok (.ireturn, 1) := by decide +kernel
theorem dX4_readNumber_119 : decode cX4_readNumber 119 = .ok (.aload_n 0, 1) := by decide +kernel
theorem dX4_readNumber_120 : decode cX4_readNumber 120 = .ok (.iload_n 3, 1) := by decide +kernel
theorem dX4_readNumber_121 : decode cX4_readNumber 121 = .ok (.putfield 24, 3) := by decide +kernel
theorem dX4_readNumber_124 : decode cX4_readNumber 124 = .ok (.iload_n 2, 1) := by decide +kernel
theorem dX4_readNumber_125 : decode cX4_readNumber 125 = .ok (.ireturn, 1) := by decide +kernel
set_option maxRecDepth 20000 in
theorem ggX4_readEnd_X4_skipBlanks : GoodIn wsX4_readEnd wsX4_skipBlanks := goodIn_r _ [8, 1, 2, 3, 9, 10, 11, 12, 13] (by decide +kernel) (by decide +kernel)
set_option maxRecDepth 20000 in
theorem gX4_readEnd_X4_skipBlanks : GoodIn wsX4_readEnd (wsV RX4 34 RX4 yX4_skipBlanks wsX4_skipBlanks) := goodIn_app (goodIn_of _ (by decide +kernel)) ggX4_readEnd_X4_skipBlanks
theorem dX4_readEnd_0 : decode cX4_readEnd 0 = .ok (.aload_n 0, 1) := by decide +kernel
theorem dX4_readEnd_1 : decode cX4_readEnd 1 = .ok (.invokevirtual 34, 3) := by decide +kernel
theorem dX4_readEnd_4 : decode cX4_readEnd 4 = .ok (.aload_n 0, 1) := by decide +kernel
theorem dX4_readEnd_5 : decode cX4_readEnd 5 = .ok (.getfield 24, 3) := by decide +kernel
theorem dX4_readEnd_8 : decode cX4_readEnd 8 = .ok (.aload_n 0, 1) := by decide +kernel
theorem dX4_readEnd_9 : decode cX4_readEnd 9 = .ok (.getfield 15, 3) := by decide +kernel
theorem dX4_readEnd_12 : decode cX4_readEnd 12 = .ok (.if_icmp .ge 17, 3) := by decide +kernel
theorem dX4_readEnd_15 : decode cX4_readEnd 15 = .ok (.aload_n 0, 1) := by decide +kernel
theorem dX4_readEnd_16 : decode cX4_readEnd 16 = .ok (.getfield 9, 3) := by decide +kernel
theorem dX4_readEnd_19 : decode cX4_readEnd 19 = .ok (.aload_n 0, 1) := by decide +kernel
theorem dX4_readEnd_20 : decode cX4_readEnd 20 = .ok (.getfield 24, 3) := by decide +kernel
theorem dX4_readEnd_23 : decode cX4_readEnd 23 = .ok (.caload, 1) := by decide +kernel
theorem dX4_readEnd_24 : decode cX4_readEnd 24 = .ok (.bipush 59, 2) := by decide +kernel
theorem dX4_readEnd_26 : decode cX4_readEnd 26 = .ok (.if_icmp .eq 5, 3) := by decide +kernel
theorem dX4_readEnd_29 : decode cX4_readEnd 29 = .ok (.iconst 0, 1) := by decide +kernel
theorem dX4_readEnd_30 : decode cX4_readEnd 30 = .ok (.ireturn, 1) := by decide +kernel
theorem dX4_readEnd_31 : decode cX4_readEnd 31 = .ok (.aload_n 0, 1) := by decide +kernel
theorem dX4_readEnd_32 : decode cX4_readEnd 32 = .ok (.dup, 1) := by decide +kernel
theorem dX4_readEnd_33 : decode cX4_readEnd 33 = .ok (.getfield 24, 3) := by decide +kernel
theorem dX4_readEnd_36 : decode cX4_readEnd 36 = .ok (.iconst 1, 1) := by decide +kernel
theorem dX4_readEnd_37 : decode cX4_readEnd 37 = .ok (.iadd, 1) := by decide +kernel
theorem dX4_readEnd_38 : decode cX4_readEnd 38 = .ok (.putfield 24, 3) := by decide +kernel
theorem dX4_readEnd_41 : decode cX4_readEnd 41 = .ok (.iconst 1, 1) := by decide +kernel
theorem dX4_readEnd_42 : decode cX4_readEnd 42 = .ok (.ireturn, 1) := by decide +kernel
theorem dX4_skipBlanks_0 : decode cX4_skipBlanks 0 = .ok (.aload_n 0, 1) := by decide +kernel
theorem dX4_skipBlanks_1 : decode cX4_skipBlanks 1 = .ok (.getfield 24, 3) := by decide +kernel
theorem dX4_skipBlanks_4 : decode cX4_skipBlanks 4 = .ok (.aload_n 0, 1) := by decide +kernel
theorem dX4_skipBlanks_5 : decode cX4_skipBlanks 5 = .ok (.getfield 15, 3) := by decide +kernel
theorem dX4_skipBlanks_8 : decode cX4_skipBlanks 8 = .ok (.if_icmp .ge 30, 3) := by decide +kernel
theorem dX4_skipBlanks_11 : decode cX4_skipBlanks 11 = .ok (.aload_n 0, 1) := by decide +kernel
theorem dX4_skipBlanks_12 : decode cX4_skipBlanks 12 = .ok (.getfield 9, 3) := by decide +kernel
theorem dX4_skipBlanks_15 : decode cX4_skipBlanks 15 = .ok (.aload_n 0, 1) := by decide +kernel
theorem dX4_skipBlanks_16 : decode cX4_skipBlanks 16 = .ok (.getfield 24, 3) := by decide +kernel
theorem dX4_skipBlanks_19 : decode cX4_skipBlanks 19 = .ok (.caload, 1) := by decide +kernel
theorem dX4_skipBlanks_20 : decode cX4_skipBlanks 20 = .ok (.bipush 32, 2) := by decide +kernel
theorem dX4_skipBlanks_22 : decode cX4_skipBlanks 22 = .ok (.if_icmp .ne 16, 3) := by decide +kernel
theorem dX4_skipBlanks_25 : decode cX4_skipBlanks 25 = .ok (.aload_n 0, 1) := by decide +kernel
theorem dX4_skipBlanks_26 : decode cX4_skipBlanks 26 = .ok (.dup, 1) := by decide +kernel
theorem dX4_skipBlanks_27 : decode cX4_skipBlanks 27 = .ok (.getfield 24, 3) := by decide +kernel
theorem dX4_skipBlanks_30 : decode cX4_skipBlanks 30 = .ok (.iconst 1, 1) := by decide +kernel
theorem dX4_skipBlanks_31 : decode cX4_skipBlanks 31 = .ok (.iadd, 1) := by decide +kernel
theorem dX4_skipBlanks_32 : decode cX4_skipBlanks 32 = .ok (.putfield 24, 3) := by decide +kernel
theorem dX4_skipBlanks_35 : decode cX4_skipBlanks 35 = .ok (.goto (-35), 3) := by decide +kernel
theorem dX4_skipBlanks_38 : decode cX4_skipBlanks 38 = .ok (.return_, 1) := by decide +kernel
set_option maxRecDepth 20000 in
theorem ggX5_init_X0_init : GoodIn wsX5_init wsX0_init := goodIn_r _ [32, 33, 2, 3, 34, 35, 36, 37, 38, 39, 40, 6, 41, 42, 43, 44, 45, 46, 47, 67, 68, 69, 70, 71, 72, 73, 74, 75] (by decide +kernel) (by decide +kernel)
set_option maxRecDepth 20000 in
theorem gX5_init_X0_init : GoodIn wsX5_init (wsX0_init) := ggX5_init_X0_init
set_option maxRecDepth 20000 in
theorem ggX5_init_X4_init : GoodIn wsX5_init wsX4_init := goodIn_r _ [49, 50, 2, 3, 51, 52, 86, 87, 88, 89, 90] (by decide +kernel) (by decide +kernel)
set_option maxRecDepth 20000 in
theorem gX5_init_X4_init_n21 : GoodIn wsX5_init (wsX4_init) := ggX5_init_X4_init
set_option maxRecDepth 20000 in
theorem ggX5_init_X3_init : GoodIn wsX5_init wsX3_init := goodIn_r _ [54, 55, 2, 3] (by decide +kernel) (by decide +kernel)
set_option maxRecDepth 20000 in
theorem gX5_init_X3_init_n28 : GoodIn wsX5_init (wsX3_init) := ggX5_init_X3_init
set_option maxRecDepth 20000 in
theorem ggX5_init_X1_init : GoodIn wsX5_init wsX1_init := goodIn_r _ [58, 59, 2, 3, 60, 61, 14, 15, 53, 54, 55, 96, 97, 98, 91, 92, 93, 94, 95] (by decide +kernel) (by decide +kernel)
set_option maxRecDepth 20000 in
theorem gX5_init_X1_init : GoodIn wsX5_init (wsX1_init) := ggX5_init_X1_init
set_option maxRecDepth 20000 in
theorem ggX5_init_X2_init : GoodIn wsX5_init wsX2_init := goodIn_r _ [63, 64, 2, 3, 34, 65, 66, 99, 100, 101] (by decide +kernel) (by decide +kernel)
set_option maxRecDepth 20000 in
theorem gX5_init_X2_init_n53 : GoodIn wsX5_init (wsX2_init) := ggX5_init_X2_init
theorem dX5_init_0 : decode cX5_init 0 = .ok (.aload_n 0, 1) := by decide +kernel
theorem dX5_init_1 : decode cX5_init 1 = .ok (.invokespecial 1, 3) := by decide +kernel
theorem dX5_init_4 : decode cX5_init 4 = .ok (.aload_n 0, 1) := by decide +kernel
theorem dX5_init_5 : decode cX5_init 5 = .ok (.new 7, 3) := by decide +kernel
theorem dX5_init_8 : decode cX5_init 8 = .ok (.dup, 1) := by decide +kernel
theorem dX5_init_9 : decode cX5_init 9 = .ok (.invokespecial 9, 3) := by decide +kernel
theorem dX5_init_12 : decode cX5_init 12 = .ok (.putfield 10, 3) := by decide +kernel
theorem dX5_init_15 : decode cX5_init 15 = .ok (.aload_n 0, 1) := by decide +kernel
theorem dX5_init_16 : decode cX5_init 16 = .ok (.new 7, 3) := by decide +kernel
theorem dX5_init_19 : decode cX5_init 19 = .ok (.dup, 1) := by decide +kernel
theorem dX5_init_20 : decode cX5_init 20 = .ok (.invokespecial 9, 3) := by decide +kernel
theorem dX5_init_23 : decode cX5_init 23 = .ok (.putfield 16, 3) := by decide +kernel
theorem dX5_init_26 : decode cX5_init 26 = .ok (.aload_n 0, 1) := by decide +kernel
theorem dX5_init_27 : decode cX5_init 27 = .ok (.new 19, 3) := by decide +kernel
theorem dX5_init_30 : decode cX5_init 30 = .ok (.dup, 1) := by decide +kernel
theorem dX5_init_31 : decode cX5_init 31 = .ok (.invokespecial 21, 3) := by decide +kernel
theorem dX5_init_34 : decode cX5_init 34 = .ok (.putfield 22, 3) := by decide +kernel
theorem dX5_init_37 : decode cX5_init 37 = .ok (.aload_n 0, 1) := by decide +kernel
theorem dX5_init_38 : decode cX5_init 38 = .ok (.new 26, 3) := by decide +kernel
theorem dX5_init_41 : decode cX5_init 41 = .ok (.dup, 1) := by decide +kernel
theorem dX5_init_42 : decode cX5_init 42 = .ok (.invokespecial 28, 3) := by decide +kernel
theorem dX5_init_45 : decode cX5_init 45 = .ok (.putfield 29, 3) := by decide +kernel
theorem dX5_init_48 : decode cX5_init 48 = .ok (.aload_n 0, 1) := by decide +kernel
theorem dX5_init_49 : decode cX5_init 49 = .ok (.new 26, 3) := by decide +kernel
theorem dX5_init_52 : decode cX5_init 52 = .ok (.dup, 1) := by decide +kernel
theorem dX5_init_53 : decode cX5_init 53 = .ok (.invokespecial 28, 3) := by decide +kernel
theorem dX5_init_56 : decode cX5_init 56 = .ok (.putfield 33, 3) := by decide +kernel
theorem dX5_init_59 : decode cX5_init 59 = .ok (.aload_n 0, 1) := by decide +kernel
theorem dX5_init_60 : decode cX5_init 60 = .ok (.new 36, 3) := by decide +kernel
theorem dX5_init_63 : decode cX5_init 63 = .ok (.dup, 1) := by decide +kernel
theorem dX5_init_64 : decode cX5_init 64 = .ok (.invokespecial 38, 3) := by decide +kernel
theorem dX5_init_67 : decode cX5_init 67 = .ok (.putfield 39, 3) := by decide +kernel
theorem dX5_init_70 : decode cX5_init 70 = .ok (.aload_n 0, 1) := by decide +kernel
theorem dX5_init_71 : decode cX5_init 71 = .ok (.iconst 2, 1) := by decide +kernel
theorem dX5_init_72 : decode cX5_init 72 = .ok (.anewarray 26, 3) := by decide +kernel
theorem dX5_init_75 : decode cX5_init 75 = .ok (.putfield 43, 3) := by decide +kernel
theorem dX5_init_78 : decode cX5_init 78 = .ok (.iconst 0, 1) := by decide +kernel
theorem dX5_init_79 : decode cX5_init 79 = .ok (.istore_n 1, 1) := by decide +kernel
theorem dX5_init_80 : decode cX5_init 80 = .ok (.iload_n 1, 1) := by decide +kernel
theorem dX5_init_81 : decode cX5_init 81 = .ok (.iconst 2, 1) := by decide +kernel
theorem dX5_init_82 : decode cX5_init 82 = .ok (.if_icmp .ge 22, 3) := by decide +kernel
theorem dX5_init_85 : decode cX5_init 85 = .ok (.aload_n 0, 1) := by decide +kernel
theorem dX5_init_86 : decode cX5_init 86 = .ok (.getfield 43, 3) := by decide +kernel
theorem dX5_init_89 : decode cX5_init 89 = .ok (.iload_n 1, 1) := by decide +kernel
theorem dX5_init_90 : decode cX5_init 90 = .ok (.new 26, 3) := by decide +kernel
theorem dX5_init_93 : decode cX5_init 93 = .ok (.dup, 1) := by decide +kernel
theorem dX5_init_94 : decode cX5_init 94 = .ok (.invokespecial 28, 3) := by decide +kernel
theorem dX5_init_97 : decode cX5_init 97 = .ok (.aastore, 1) := by decide +kernel
theorem dX5_init_98 : decode cX5_init 98 = .ok (.iinc 1 1, 3) := by decide +kernel
theorem dX5_init_101 : decode cX5_init 101 = .ok (.goto (-21), 3) := by decide +kernel
theorem dX5_init_104 : decode cX5_init 104 = .ok (.aload_n 0, 1) := by decide +kernel
theorem dX5_init_105 : decode cX5_init 105 = .ok (.iconst 2, 1) := by decide +kernel
theorem dX5_init_106 : decode cX5_init 106 = .ok (.newarray .boolean, 2) := by decide +kernel
theorem dX5_init_108 : decode cX5_init 108 = .ok (.putfield 47, 3) := by decide +kernel
theorem dX5_init_111 : decode cX5_init 111 = .ok (.aload_n 0, 1) := by decide +kernel
theorem dX5_init_112 : decode cX5_init 112 = .ok (.new 51, 3) := by decide +kernel
theorem dX5_init_115 : decode cX5_init 115 = .ok (.dup, 1) := by decide +kernel
theorem dX5_init_116 : decode cX5_init 116 = .ok (.invokespecial 53, 3) := by decide +kernel
theorem dX5_init_119 : decode cX5_init 119 = .ok (.putfield 54, 3) := by decide +kernel
theorem dX5_init_122 : decode cX5_init 122 = .ok (.aload_n 0, 1) := by decide +kernel
theorem dX5_init_123 : decode cX5_init 123 = .ok (.lconst 0, 1) := by decide +kernel
theorem dX5_init_124 : decode cX5_init 124 = .ok (.putfield 58, 3) := by decide +kernel
theorem dX5_init_127 : decode cX5_init 127 = .ok (.return_, 1) := by decide +kernel
set_option maxRecDepth 20000 in
theorem ggX5_type_X4_add : GoodIn wsX5_type wsX4_add := goodIn_r _ [7, 8, 9, 20, 21, 22, 23, 24] (by decide +kernel) (by decide +kernel)
set_option maxRecDepth 20000 in
theorem gX5_type_X4_add : GoodIn wsX5_type (wsV RX5 62 RX4 yX4_add wsX4_add) := goodIn_app (goodIn_of _ (by decide +kernel)) ggX5_type_X4_add
theorem dX5_type_0 : decode cX5_type 0 = .ok (.iload_n 1, 1) := by decide +kernel
theorem dX5_type_1 : decode cX5_type 1 = .ok (.ifCond .lt 10, 3) := by decide +kernel
theorem dX5_type_4 : decode cX5_type 4 = .ok (.iload_n 1, 1) := by decide +kernel
theorem dX5_type_5 : decode cX5_type 5 = .ok (.sipush 255, 3) := by decide +kernel
theorem dX5_type_8 : decode cX5_type 8 = .ok (.if_icmp .le 5, 3) := by decide +kernel
theorem dX5_type_11 : decode cX5_type 11 = .ok (.iconst (-1), 1) := by decide +kernel
theorem dX5_type_12 : decode cX5_type 12 = .ok (.ireturn, 1) := by decide +kernel
theorem dX5_type_13 : decode cX5_type 13 = .ok (.aload_n 0, 1) := by decide +kernel
theorem dX5_type_14 : decode cX5_type 14 = .ok (.getfield 22, 3) := by decide +kernel
theorem dX5_type_17 : decode cX5_type 17 = .ok (.iload_n 1, 1) := by decide +kernel
theorem dX5_type_18 : decode cX5_type 18 = .ok (.invokevirtual 62, 3) := by decide +kernel
theorem dX5_type_21 : decode cX5_type 21 = .ok (.ifCond .eq 13, 3) := by decide +kernel
theorem dX5_type_24 : decode cX5_type 24 = .ok (.aload_n 0, 1) := by decide +kernel
theorem dX5_type_25 : decode cX5_type 25 = .ok (.getfield 22, 3) := by decide +kernel
theorem dX5_type_28 : decode cX5_type 28 = .ok (.getfield 66, 3) := by decide +kernel
theorem dX5_type_31 : decode cX5_type 31 = .ok (.goto 5, 3) := by decide +kernel
theorem dX5_type_34 : decode cX5_type 34 = .ok (.bipush (-3), 2) := by decide +kernel
theorem dX5_type_36 : decode cX5_type 36 = .ok (.ireturn, 1) := by decide +kernel
theorem dX5_clear_0 : decode cX5_clear 0 = .ok (.aload_n 0, 1) := by decide +kernel
theorem dX5_clear_1 : decode cX5_clear 1 = .ok (.getfield 22, 3) := by decide +kernel
theorem dX5_clear_4 : decode cX5_clear 4 = .ok (.getfield 66, 3) := by decide +kernel
theorem dX5_clear_7 : decode cX5_clear 7 = .ok (.istore_n 1, 1) := by decide +kernel
theorem dX5_clear_8 : decode cX5_clear 8 = .ok (.aload_n 0, 1) := by decide +kernel
theorem dX5_clear_9 : decode cX5_clear 9 = .ok (.getfield 22, 3) := by decide +kernel
theorem dX5_clear_12 : decode cX5_clear 12 = .ok (.iconst 0, 1) := by decide +kernel
theorem dX5_clear_13 : decode cX5_clear 13 = .ok (.putfield 66, 3) := by decide +kernel
theorem dX5_clear_16 : decode cX5_clear 16 = .ok (.iload_n 1, 1) := by decide +kernel
theorem dX5_clear_17 : decode cX5_clear 17 = .ok (.ireturn, 1) := by decide +kernel
set_option maxRecDepth 20000 in
theorem ggX5_house_X4_readInto : GoodIn wsX5_house wsX4_readInto := goodIn_r _ [9, 10, 11, 12, 13, 14, 15, 16, 17, 18, 19, 20, 21, 22, 23, 24, 25, 26, 27, 8, 28, 29, 30, 31, 32, 33, 34, 35, 36, 37, 38, 39, 40, 41, 42, 43, 44, 45, 46, 47, 48, 49, 50, 51, 52, 53, 54, 55, 56, 57, 58, 59, 60, 61, 62, 63, 64, 65, 66, 67, 68, 69, 70, 71, 72, 73, 102, 103, 104, 105, 106, 107, 108, 109, 110, 111, 112, 113, 114, 115] (by decide +kernel) (by decide +kernel)
set_option maxRecDepth 20000 in
theorem gX5_house_X4_readInto : GoodIn wsX5_house (wsV RX5 70 RX4 yX4_readInto wsX4_readInto) := goodIn_app (goodIn_of _ (by decide +kernel)) ggX5_house_X4_readInto
set_option maxRecDepth 20000 in
theorem ggX5_house_X5_beginAnew : GoodIn wsX5_house wsX5_beginAnew := goodIn_r _ [78, 79, 3, 80, 81, 82, 83, 84, 85, 86, 87, 88, 89, 90, 91, 92, 93, 94, 95, 96, 97, 98, 99, 100, 101, 107, 108, 109, 110, 111, 112, 113, 114, 115, 116, 117, 118, 119, 120, 121, 122, 123, 124, 125, 126] (by decide +kernel) (by decide +kernel)
set_option maxRecDepth 20000 in
theorem gX5_house_X5_beginAnew : GoodIn wsX5_house (wsV RX5 74 RX5 yX5_beginAnew wsX5_beginAnew) := goodIn_app (goodIn_of _ (by decide +kernel)) ggX5_house_X5_beginAnew
theorem dX5_house_0 : decode cX5_house 0 = .ok (.aload_n 0, 1) := by decide +kernel
theorem dX5_house_1 : decode cX5_house 1 = .ok (.getfield 22, 3) := by decide +kernel
theorem dX5_house_4 : decode cX5_house 4 = .ok (.aload_n 0, 1) := by decide +kernel
theorem dX5_house_5 : decode cX5_house 5 = .ok (.getfield 16, 3) := by decide +kernel
theorem dX5_house_8 : decode cX5_house 8 = .ok (.invokevirtual 70, 3) := by decide +kernel
theorem dX5_house_11 : decode cX5_house 11 = .ok (.istore_n 1, 1) := by decide +kernel
theorem dX5_house_12 : decode cX5_house 12 = .ok (.iload_n 1, 1) := by decide +kernel
theorem dX5_house_13 : decode cX5_house 13 = .ok (.ifCond .ge 5, 3) := by decide +kernel
theorem dX5_house_16 : decode cX5_house 16 = .ok (.iload_n 1, 1) := by decide +kernel
theorem dX5_house_17 : decode cX5_house 17 = .ok (.ireturn, 1) := by decide +kernel
theorem dX5_house_18 : decode cX5_house 18 = .ok (.aload_n 0, 1) := by decide +kernel
theorem dX5_house_19 : decode cX5_house 19 = .ok (.getfield 10, 3) := by decide +kernel
theorem dX5_house_22 : decode cX5_house 22 = .ok (.astore_n 2, 1) := by decide +kernel
theorem dX5_house_23 : decode cX5_house 23 = .ok (.aload_n 0, 1) := by decide +kernel
theorem dX5_house_24 : decode cX5_house 24 = .ok (.aload_n 0, 1) := by decide +kernel
theorem dX5_house_25 : decode cX5_house 25 = .ok (.getfield 16, 3) := by decide +kernel
theorem dX5_house_28 : decode cX5_house 28 = .ok (.putfield 10, 3) := by decide +kernel
theorem dX5_house_31 : decode cX5_house 31 = .ok (.aload_n 0, 1) := by decide +kernel
theorem dX5_house_32 : decode cX5_house 32 = .ok (.aload_n 2, 1) := by decide +kernel
theorem dX5_house_33 : decode cX5_house 33 = .ok (.putfield 16, 3) := by decide +kernel
theorem dX5_house_36 : decode cX5_house 36 = .ok (.aload_n 0, 1) := by decide +kernel
theorem dX5_house_37 : decode cX5_house 37 = .ok (.getfield 22, 3) := by decide +kernel
theorem dX5_house_40 : decode cX5_house 40 = .ok (.iconst 0, 1) := by decide +kernel
theorem dX5_house_41 : decode cX5_house 41 = .ok (.putfield 66, 3) := by decide +kernel
theorem dX5_house_44 : decode cX5_house 44 = .ok (.aload_n 0, 1) := by decide +kernel
theorem dX5_house_45 : decode cX5_house 45 = .ok (.invokevirtual 74, 3) := by decide +kernel
theorem dX5_house_48 : decode cX5_house 48 = .ok (.iload_n 1, 1) := by decide +kernel
theorem dX5_house_49 : decode cX5_house 49 = .ok (.ireturn, 1) := by decide +kernel
set_option maxRecDepth 20000 in
theorem ggX5_thing_X0_holds : GoodIn wsX5_thing wsX0_holds := goodIn_r _ [13, 14, 60, 61, 62, 63, 64, 65, 66, 67, 68] (by decide +kernel) (by decide +kernel)
set_option maxRecDepth 20000 in
theorem gX5_thing_X0_holds : GoodIn wsX5_thing (wsV RX5 77 RX0 yX0_holds wsX0_holds) := goodIn_app (goodIn_of _ (by decide +kernel)) ggX5_thing_X0_holds
set_option maxRecDepth 20000 in
theorem ggX5_thing_X5_bitOf : GoodIn wsX5_thing wsX5_bitOf := goodIn_r _ [18] (by decide +kernel) (by decide +kernel)
set_option maxRecDepth 20000 in
theorem gX5_thing_X5_bitOf : GoodIn wsX5_thing (va_wsS RX5 93 yX5_bitOf wsX5_bitOf) := goodIn_app (goodIn_of _ (by decide +kernel)) ggX5_thing_X5_bitOf
set_option maxRecDepth 20000 in
theorem ggX5_thing_X5_coveredNow : GoodIn wsX5_thing wsX5_coveredNow := goodIn_r _ [22, 1, 5, 23, 24, 25, 26, 12, 27, 28, 29, 30, 31, 32, 14, 33, 50, 51, 52, 53, 54, 55, 56, 57, 58, 59, 69, 70, 71, 72, 73, 60, 61, 62, 63, 64, 65, 66, 67, 68] (by decide +kernel) (by decide +kernel)
set_option maxRecDepth 20000 in
theorem gX5_thing_X5_coveredNow : GoodIn wsX5_thing (wsV RX5 103 RX5 yX5_coveredNow wsX5_coveredNow) := goodIn_app (goodIn_of _ (by decide +kernel)) ggX5_thing_X5_coveredNow
set_option maxRecDepth 20000 in
theorem ggX5_thing_X5_ableNow : GoodIn wsX5_thing wsX5_ableNow := goodIn_r _ [37, 1, 5, 23, 38, 39, 40, 12, 41, 42, 28, 43, 44, 25, 26, 27, 29, 30, 31, 32, 14, 33, 45, 46, 47, 48, 49, 50, 51, 52, 53, 54, 55, 56, 57, 58, 59, 69, 70, 71, 72, 73, 60, 61, 62, 63, 64, 65, 66, 67, 68] (by decide +kernel) (by decide +kernel)
set_option maxRecDepth 20000 in
theorem gX5_thing_X5_ableNow : GoodIn wsX5_thing (wsV RX5 107 RX5 yX5_ableNow wsX5_ableNow) := goodIn_app (goodIn_of _ (by decide +kernel)) ggX5_thing_X5_ableNow
theorem dX5_thing_0 : decode cX5_thing 0 = .ok (.aload_n 0, 1) := by decide +kernel
theorem dX5_thing_1 : decode cX5_thing 1 = .ok (.getfield 10, 3) := by decide +kernel
theorem dX5_thing_4 : decode cX5_thing 4 = .ok (.iload_n 1, 1) := by decide +kernel
theorem dX5_thing_5 : decode cX5_thing 5 = .ok (.invokevirtual 77, 3) := by decide +kernel
theorem dX5_thing_8 : decode cX5_thing 8 = .ok (.ifCond .ne 5, 3) := by decide +kernel
theorem dX5_thing_11 : decode cX5_thing 11 = .ok (.iconst (-1), 1) := by decide +kernel
theorem dX5_thing_12 : decode cX5_thing 12 = .ok (.ireturn, 1) := by decide +kernel
theorem dX5_thing_13 : decode cX5_thing 13 = .ok (.iload_n 2, 1) := by decide +kernel
theorem dX5_thing_14 : decode cX5_thing 14 = .ok (.tableswitch 130 0 7 #[46, 56, 66, 76, 88, 100, 112, 121], 46) := by decide +kernel
theorem dX5_thing_60 : decode cX5_thing 60 = .ok (.aload_n 0, 1) := by decide +kernel
theorem dX5_thing_61 : decode cX5_thing 61 = .ok (.getfield 10, 3) := by decide +kernel
theorem dX5_thing_64 : decode cX5_thing 64 = .ok (.getfield 80, 3) := by decide +kernel
theorem dX5_thing_67 : decode cX5_thing 67 = .ok (.iload_n 1, 1) := by decide +kernel
theorem dX5_thing_68 : decode cX5_thing 68 = .ok (.iaload, 1) := by decide +kernel
theorem dX5_thing_69 : decode cX5_thing 69 = .ok (.ireturn, 1) := by decide +kernel
theorem dX5_thing_70 : decode cX5_thing 70 = .ok (.aload_n 0, 1) := by decide +kernel
theorem dX5_thing_71 : decode cX5_thing 71 = .ok (.getfield 10, 3) := by decide +kernel
theorem dX5_thing_74 : decode cX5_thing 74 = .ok (.getfield 84, 3) := by decide +kernel
theorem dX5_thing_77 : decode cX5_thing 77 = .ok (.iload_n 1, 1) := by decide +kernel
theorem dX5_thing_78 : decode cX5_thing 78 = .ok (.iaload, 1) := by decide +kernel
theorem dX5_thing_79 : decode cX5_thing 79 = .ok (.ireturn, 1) := by decide +kernel
theorem dX5_thing_80 : decode cX5_thing 80 = .ok (.aload_n 0, 1) := by decide +kernel
theorem dX5_thing_81 : decode cX5_thing 81 = .ok (.getfield 10, 3) := by decide +kernel
theorem dX5_thing_84 : decode cX5_thing 84 = .ok (.getfield 87, 3) := by decide +kernel
theorem dX5_thing_87 : decode cX5_thing 87 = .ok (.iload_n 1, 1) := by decide +kernel
theorem dX5_thing_88 : decode cX5_thing 88 = .ok (.iaload, 1) := by decide +kernel
theorem dX5_thing_89 : decode cX5_thing 89 = .ok (.ireturn, 1) := by decide +kernel
theorem dX5_thing_90 : decode cX5_thing 90 = .ok (.aload_n 0, 1) := by decide +kernel
theorem dX5_thing_91 : decode cX5_thing 91 = .ok (.getfield 29, 3) := by decide +kernel
theorem dX5_thing_94 : decode cX5_thing 94 = .ok (.getfield 90, 3) := by decide +kernel
theorem dX5_thing_97 : decode cX5_thing 97 = .ok (.iload_n 1, 1) := by decide +kernel
theorem dX5_thing_98 : decode cX5_thing 98 = .ok (.invokestatic 93, 3) := by decide +kernel
theorem dX5_thing_101 : decode cX5_thing 101 = .ok (.ireturn, 1) := by decide +kernel
theorem dX5_thing_102 : decode cX5_thing 102 = .ok (.aload_n 0, 1) := by decide +kernel
theorem dX5_thing_103 : decode cX5_thing 103 = .ok (.getfield 29, 3) := by decide +kernel
theorem dX5_thing_106 : decode cX5_thing 106 = .ok (.getfield 97, 3) := by decide +kernel
theorem dX5_thing_109 : decode cX5_thing 109 = .ok (.iload_n 1, 1) := by decide +kernel
theorem dX5_thing_110 : decode cX5_thing 110 = .ok (.invokestatic 93, 3) := by decide +kernel
theorem dX5_thing_113 : decode cX5_thing 113 = .ok (.ireturn, 1) := by decide +kernel
theorem dX5_thing_114 : decode cX5_thing 114 = .ok (.aload_n 0, 1) := by decide +kernel
theorem dX5_thing_115 : decode cX5_thing 115 = .ok (.getfield 29, 3) := by decide +kernel
theorem dX5_thing_118 : decode cX5_thing 118 = .ok (.getfield 100, 3) := by decide +kernel
theorem dX5_thing_121 : decode cX5_thing 121 = .ok (.iload_n 1, 1) := by decide +kernel
theorem dX5_thing_122 : decode cX5_thing 122 = .ok (.invokestatic 93, 3) := by decide +kernel
theorem dX5_thing_125 : decode cX5_thing 125 = .ok (.ireturn, 1) := by decide +kernel
theorem dX5_thing_126 : decode cX5_thing 126 = .ok (.aload_n 0, 1) := by decide +kernel
theorem dX5_thing_127 : decode cX5_thing 127 = .ok (.invokevirtual 103, 3) := by decide +kernel
theorem dX5_thing_130 : decode cX5_thing 130 = .ok (.iload_n 1, 1) := by decide +kernel
theorem dX5_thing_131 : decode cX5_thing 131 = .ok (.invokestatic 93, 3) := by decide +kernel
theorem dX5_thing_134 : decode cX5_thing 134 = .ok (.ireturn, 1) := by decide +kernel
theorem dX5_thing_135 : decode cX5_thing 135 = .ok (.aload_n 0, 1) := by decide +kernel
theorem dX5_thing_136 : decode cX5_thing 136 = .ok (.invokevirtual 107, 3) := by decide +kernel
theorem dX5_thing_139 : decode cX5_thing 139 = .ok (.iload_n 1, 1) := by decide +kernel
theorem dX5_thing_140 : decode cX5_thing 140 = .ok (.invokestatic 93, 3) := by decide +kernel
theorem dX5_thing_143 : decode cX5_thing 143 = .ok (.ireturn, 1) := by decide +kernel
theorem dX5_thing_144 : decode cX5_thing 144 = .ok (.iconst (-1), 1) := by decide +kernel
theorem dX5_thing_145 : decode cX5_thing 145 = .ok (.ireturn, 1) := by decide +kernel
set_option maxRecDepth 20000 in
theorem ggX5_now_X5_coveredNow : GoodIn wsX5_now wsX5_coveredNow := goodIn_r _ [12, 5, 1, 3, 13, 14, 15, 16, 17, 18, 19, 20, 21, 22, 23, 24, 48, 49, 50, 51, 52, 53, 54, 55, 56, 57, 58, 59, 60, 61, 62, 66, 67, 68, 69, 70, 71, 72, 73, 74] (by decide +kernel) (by decide +kernel)
set_option maxRecDepth 20000 in
theorem gX5_now_X5_coveredNow : GoodIn wsX5_now (wsV RX5 103 RX5 yX5_coveredNow wsX5_coveredNow) := goodIn_app (goodIn_of _ (by decide +kernel)) ggX5_now_X5_coveredNow
set_option maxRecDepth 20000 in
theorem ggX5_now_X5_ableNow : GoodIn wsX5_now wsX5_ableNow := goodIn_r _ [28, 5, 1, 3, 29, 30, 31, 16, 32, 33, 18, 34, 35, 14, 15, 17, 19, 20, 21, 22, 23, 24, 36, 37, 38, 39, 40, 48, 49, 50, 51, 52, 53, 54, 55, 56, 57, 58, 59, 60, 61, 62, 66, 67, 68, 69, 70, 71, 72, 73, 74] (by decide +kernel) (by decide +kernel)
set_option maxRecDepth 20000 in
theorem gX5_now_X5_ableNow : GoodIn wsX5_now (wsV RX5 107 RX5 yX5_ableNow wsX5_ableNow) := goodIn_app (goodIn_of _ (by decide +kernel)) ggX5_now_X5_ableNow
set_option maxRecDepth 20000 in
theorem ggX5_now_X0_dearTogether : GoodIn wsX5_now wsX0_dearTogether := goodIn_r _ [44, 23, 45, 46, 11, 47, 66, 67, 68, 69, 70, 71, 72, 73, 74] (by decide +kernel) (by decide +kernel)
set_option maxRecDepth 20000 in
theorem gX5_now_X0_dearTogether : GoodIn wsX5_now (wsV RX5 116 RX0 yX0_dearTogether wsX0_dearTogether) := goodIn_app (goodIn_of _ (by decide +kernel)) ggX5_now_X0_dearTogether
theorem dX5_now_0 : decode cX5_now 0 = .ok (.iload_n 1, 1) := by decide +kernel
theorem dX5_now_1 : decode cX5_now 1 = .ok (.tableswitch 100 0 6 #[43, 51, 59, 64, 69, 77, 92], 43) := by decide +kernel
theorem dX5_now_44 : decode cX5_now 44 = .ok (.aload_n 0, 1) := by decide +kernel
theorem dX5_now_45 : decode cX5_now 45 = .ok (.getfield 29, 3) := by decide +kernel
theorem dX5_now_48 : decode cX5_now 48 = .ok (.getfield 110, 3) := by decide +kernel
theorem dX5_now_51 : decode cX5_now 51 = .ok (.ireturn, 1) := by decide +kernel
theorem dX5_now_52 : decode cX5_now 52 = .ok (.aload_n 0, 1) := by decide +kernel
theorem dX5_now_53 : decode cX5_now 53 = .ok (.getfield 29, 3) := by decide +kernel
theorem dX5_now_56 : decode cX5_now 56 = .ok (.getfield 113, 3) := by decide +kernel
theorem dX5_now_59 : decode cX5_now 59 = .ok (.ireturn, 1) := by decide +kernel
theorem dX5_now_60 : decode cX5_now 60 = .ok (.aload_n 0, 1) := by decide +kernel
theorem dX5_now_61 : decode cX5_now 61 = .ok (.invokevirtual 103, 3) := by decide +kernel
theorem dX5_now_64 : decode cX5_now 64 = .ok (.ireturn, 1) := by decide +kernel
theorem dX5_now_65 : decode cX5_now 65 = .ok (.aload_n 0, 1) := by decide +kernel
theorem dX5_now_66 : decode cX5_now 66 = .ok (.invokevirtual 107, 3) := by decide +kernel
theorem dX5_now_69 : decode cX5_now 69 = .ok (.ireturn, 1) := by decide +kernel
theorem dX5_now_70 : decode cX5_now 70 = .ok (.aload_n 0, 1) := by decide +kernel
theorem dX5_now_71 : decode cX5_now 71 = .ok (.getfield 29, 3) := by decide +kernel
theorem dX5_now_74 : decode cX5_now 74 = .ok (.getfield 100, 3) := by decide +kernel
theorem dX5_now_77 : decode cX5_now 77 = .ok (.ireturn, 1) := by decide +kernel
theorem dX5_now_78 : decode cX5_now 78 = .ok (.aload_n 0, 1) := by decide +kernel
theorem dX5_now_79 : decode cX5_now 79 = .ok (.getfield 10, 3) := by decide +kernel
theorem dX5_now_82 : decode cX5_now 82 = .ok (.aload_n 0, 1) := by decide +kernel
theorem dX5_now_83 : decode cX5_now 83 = .ok (.getfield 29, 3) := by decide +kernel
theorem dX5_now_86 : decode cX5_now 86 = .ok (.getfield 100, 3) := by decide +kernel
theorem dX5_now_89 : decode cX5_now 89 = .ok (.invokevirtual 116, 3) := by decide +kernel
theorem dX5_now_92 : decode cX5_now 92 = .ok (.ireturn, 1) := by decide +kernel
theorem dX5_now_93 : decode cX5_now 93 = .ok (.aload_n 0, 1) := by decide +kernel
theorem dX5_now_94 : decode cX5_now 94 = .ok (.getfield 39, 3) := by decide +kernel
theorem dX5_now_97 : decode cX5_now 97 = .ok (.getfield 120, 3) := by decide +kernel
theorem dX5_now_100 : decode cX5_now 100 = .ok (.ireturn, 1) := by decide +kernel
theorem dX5_now_101 : decode cX5_now 101 = .ok (.iconst (-1), 1) := by decide +kernel
theorem dX5_now_102 : decode cX5_now 102 = .ok (.ireturn, 1) := by decide +kernel
set_option maxRecDepth 20000 in
theorem ggX5_swears_X5_areWords : GoodIn wsX5_swears wsX5_areWords := goodIn_r _ [7] (by decide +kernel) (by decide +kernel)
set_option maxRecDepth 20000 in
theorem gX5_swears_X5_areWords : GoodIn wsX5_swears (va_wsS RX5 123 yX5_areWords wsX5_areWords) := goodIn_app (goodIn_of _ (by decide +kernel)) ggX5_swears_X5_areWords
set_option maxRecDepth 20000 in
theorem ggX5_swears_X1_push : GoodIn wsX5_swears wsX1_push := goodIn_r _ [12, 13, 14, 15, 16, 17, 18, 19, 20, 21, 22, 23, 24, 25, 26, 27, 28, 29, 69, 70, 71, 64, 65, 66, 67, 68] (by decide +kernel) (by decide +kernel)
set_option maxRecDepth 20000 in
theorem gX5_swears_X1_push : GoodIn wsX5_swears (wsV RX5 126 RX1 yX1_push wsX1_push) := goodIn_app (goodIn_of _ (by decide +kernel)) ggX5_swears_X1_push
set_option maxRecDepth 20000 in
theorem ggX5_swears_X5_coveredNow : GoodIn wsX5_swears wsX5_coveredNow := goodIn_r _ [33, 34, 2, 3, 35, 36, 37, 38, 39, 40, 41, 42, 43, 44, 45, 46, 54, 55, 56, 57, 58, 59, 60, 61, 62, 63, 64, 65, 66, 67, 68, 72, 73, 74, 75, 76, 77, 78, 79, 80] (by decide +kernel) (by decide +kernel)
set_option maxRecDepth 20000 in
theorem gX5_swears_X5_coveredNow : GoodIn wsX5_swears (wsV RX5 103 RX5 yX5_coveredNow wsX5_coveredNow) := goodIn_app (goodIn_of _ (by decide +kernel)) ggX5_swears_X5_coveredNow
set_option maxRecDepth 20000 in
theorem ggX5_swears_J6_bitCount_0f7a4 : GoodIn wsX5_swears wsJ6_bitCount_0f7a4 := goodIn_r _ [50, 51, 52, 53] (by decide +kernel) (by decide +kernel)
set_option maxRecDepth 20000 in
theorem gX5_swears_J6_bitCount_0f7a4 : GoodIn wsX5_swears (va_wsS RX5 130 yJ6_bitCount_0f7a4 wsJ6_bitCount_0f7a4) := goodIn_app (goodIn_of _ (by decide +kernel)) ggX5_swears_J6_bitCount_0f7a4
theorem dX5_swears_0 : decode cX5_swears 0 = .ok (.iload_n 1, 1) := by decide +kernel
theorem dX5_swears_1 : decode cX5_swears 1 = .ok (.invokestatic 123, 3) := by decide +kernel
theorem dX5_swears_4 : decode cX5_swears 4 = .ok (.ifCond .ne 5, 3) := by decide +kernel
theorem dX5_swears_7 : decode cX5_swears 7 = .ok (.iconst (-1), 1) := by decide +kernel
theorem dX5_swears_8 : decode cX5_swears 8 = .ok (.ireturn, 1) := by decide +kernel
theorem dX5_swears_9 : decode cX5_swears 9 = .ok (.aload_n 0, 1) := by decide +kernel
theorem dX5_swears_10 : decode cX5_swears 10 = .ok (.getfield 39, 3) := by decide +kernel
theorem dX5_swears_13 : decode cX5_swears 13 = .ok (.aload_n 0, 1) := by decide +kernel
theorem dX5_swears_14 : decode cX5_swears 14 = .ok (.getfield 29, 3) := by decide +kernel
theorem dX5_swears_17 : decode cX5_swears 17 = .ok (.invokevirtual 126, 3) := by decide +kernel
theorem dX5_swears_20 : decode cX5_swears 20 = .ok (.aload_n 0, 1) := by decide +kernel
theorem dX5_swears_21 : decode cX5_swears 21 = .ok (.getfield 29, 3) := by decide +kernel
theorem dX5_swears_24 : decode cX5_swears 24 = .ok (.iload_n 1, 1) := by decide +kernel
theorem dX5_swears_25 : decode cX5_swears 25 = .ok (.putfield 113, 3) := by decide +kernel
theorem dX5_swears_28 : decode cX5_swears 28 = .ok (.aload_n 0, 1) := by decide +kernel
theorem dX5_swears_29 : decode cX5_swears 29 = .ok (.invokevirtual 103, 3) := by decide +kernel
theorem dX5_swears_32 : decode cX5_swears 32 = .ok (.invokestatic 130, 3) := by decide +kernel
theorem dX5_swears_35 : decode cX5_swears 35 = .ok (.ireturn, 1) := by decide +kernel
set_option maxRecDepth 20000 in
theorem ggX5_keepsIn_X0_holds : GoodIn wsX5_keepsIn wsX0_holds := goodIn_r _ [9, 10, 58, 59, 60, 61, 62, 63, 64, 65, 66] (by decide +kernel) (by decide +kernel)
set_option maxRecDepth 20000 in
theorem gX5_keepsIn_X0_holds : GoodIn wsX5_keepsIn (wsV RX5 77 RX0 yX0_holds wsX0_holds) := goodIn_app (goodIn_of _ (by decide +kernel)) ggX5_keepsIn_X0_holds
set_option maxRecDepth 20000 in
theorem ggX5_keepsIn_X5_isYesOrNo : GoodIn wsX5_keepsIn wsX5_isYesOrNo := goodIn_r _ [14] (by decide +kernel) (by decide +kernel)
set_option maxRecDepth 20000 in
theorem gX5_keepsIn_X5_isYesOrNo : GoodIn wsX5_keepsIn (va_wsS RX5 135 yX5_isYesOrNo wsX5_isYesOrNo) := goodIn_app (goodIn_of _ (by decide +kernel)) ggX5_keepsIn_X5_isYesOrNo
set_option maxRecDepth 20000 in
theorem ggX5_keepsIn_X1_push : GoodIn wsX5_keepsIn wsX1_push := goodIn_r _ [19, 20, 21, 22, 23, 24, 25, 26, 27, 28, 29, 30, 31, 32, 33, 34, 35, 36, 67, 68, 69, 53, 54, 55, 56, 57] (by decide +kernel) (by decide +kernel)
set_option maxRecDepth 20000 in
theorem gX5_keepsIn_X1_push : GoodIn wsX5_keepsIn (wsV RX5 126 RX1 yX1_push wsX1_push) := goodIn_app (goodIn_of _ (by decide +kernel)) ggX5_keepsIn_X1_push
set_option maxRecDepth 20000 in
theorem ggX5_keepsIn_X5_bitOf : GoodIn wsX5_keepsIn wsX5_bitOf := goodIn_r _ [39] (by decide +kernel) (by decide +kernel)
set_option maxRecDepth 20000 in
theorem gX5_keepsIn_X5_bitOf : GoodIn wsX5_keepsIn (va_wsS RX5 93 yX5_bitOf wsX5_bitOf) := goodIn_app (goodIn_of _ (by decide +kernel)) ggX5_keepsIn_X5_bitOf
set_option maxRecDepth 20000 in
theorem ggX5_keepsIn_X5_withBit : GoodIn wsX5_keepsIn wsX5_withBit := goodIn_r _ [42] (by decide +kernel) (by decide +kernel)
set_option maxRecDepth 20000 in
theorem gX5_keepsIn_X5_withBit : GoodIn wsX5_keepsIn (va_wsS RX5 138 yX5_withBit wsX5_withBit) := goodIn_app (goodIn_of _ (by decide +kernel)) ggX5_keepsIn_X5_withBit
theorem dX5_keepsIn_0 : decode cX5_keepsIn 0 = .ok (.aload_n 0, 1) := by decide +kernel
theorem dX5_keepsIn_1 : decode cX5_keepsIn 1 = .ok (.getfield 10, 3) := by decide +kernel
theorem dX5_keepsIn_4 : decode cX5_keepsIn 4 = .ok (.iload_n 1, 1) := by decide +kernel
theorem dX5_keepsIn_5 : decode cX5_keepsIn 5 = .ok (.invokevirtual 77, 3) := by decide +kernel
theorem dX5_keepsIn_8 : decode cX5_keepsIn 8 = .ok (.ifCond .eq 10, 3) := by decide +kernel
theorem dX5_keepsIn_11 : decode cX5_keepsIn 11 = .ok (.iload_n 2, 1) := by decide +kernel
theorem dX5_keepsIn_12 : decode cX5_keepsIn 12 = .ok (.invokestatic 135, 3) := by decide +kernel
theorem dX5_keepsIn_15 : decode cX5_keepsIn 15 = .ok (.ifCond .ne 5, 3) := by decide +kernel
theorem dX5_keepsIn_18 : decode cX5_keepsIn 18 = .ok (.iconst (-1), 1) := by decide +kernel
theorem dX5_keepsIn_19 : decode cX5_keepsIn 19 = .ok (.ireturn, 1) := by decide +kernel
theorem dX5_keepsIn_20 : decode cX5_keepsIn 20 = .ok (.aload_n 0, 1) := by decide +kernel
theorem dX5_keepsIn_21 : decode cX5_keepsIn 21 = .ok (.getfield 39, 3) := by decide +kernel
theorem dX5_keepsIn_24 : decode cX5_keepsIn 24 = .ok (.aload_n 0, 1) := by decide +kernel
theorem dX5_keepsIn_25 : decode cX5_keepsIn 25 = .ok (.getfield 29, 3) := by decide +kernel
theorem dX5_keepsIn_28 : decode cX5_keepsIn 28 = .ok (.invokevirtual 126, 3) := by decide +kernel
theorem dX5_keepsIn_31 : decode cX5_keepsIn 31 = .ok (.aload_n 0, 1) := by decide +kernel
theorem dX5_keepsIn_32 : decode cX5_keepsIn 32 = .ok (.getfield 29, 3) := by decide +kernel
theorem dX5_keepsIn_35 : decode cX5_keepsIn 35 = .ok (.getfield 97, 3) := by decide +kernel
theorem dX5_keepsIn_38 : decode cX5_keepsIn 38 = .ok (.iload_n 1, 1) := by decide +kernel
theorem dX5_keepsIn_39 : decode cX5_keepsIn 39 = .ok (.invokestatic 93, 3) := by decide +kernel
theorem dX5_keepsIn_42 : decode cX5_keepsIn 42 = .ok (.istore_n 3, 1) := by decide +kernel
theorem dX5_keepsIn_43 : decode cX5_keepsIn 43 = .ok (.aload_n 0, 1) := by decide +kernel
theorem dX5_keepsIn_44 : decode cX5_keepsIn 44 = .ok (.getfield 29, 3) := by decide +kernel
theorem dX5_keepsIn_47 : decode cX5_keepsIn 47 = .ok (.aload_n 0, 1) := by decide +kernel
theorem dX5_keepsIn_48 : decode cX5_keepsIn 48 = .ok (.getfield 29, 3) := by decide +kernel
theorem dX5_keepsIn_51 : decode cX5_keepsIn 51 = .ok (.getfield 97, 3) := by decide +kernel
theorem dX5_keepsIn_54 : decode cX5_keepsIn 54 = .ok (.iload_n 1, 1) := by decide +kernel
theorem dX5_keepsIn_55 : decode cX5_keepsIn 55 = .ok (.iload_n 2, 1) := by decide +kernel
theorem dX5_keepsIn_56 : decode cX5_keepsIn 56 = .ok (.invokestatic 138, 3) := by decide +kernel
theorem dX5_keepsIn_59 : decode cX5_keepsIn 59 = .ok (.putfield 97, 3) := by decide +kernel
theorem dX5_keepsIn_62 : decode cX5_keepsIn 62 = .ok (.iload_n 3, 1) := by decide +kernel
theorem dX5_keepsIn_63 : decode cX5_keepsIn 63 = .ok (.ireturn, 1) := by decide +kernel
set_option maxRecDepth 20000 in
theorem ggX5_tells_X0_holds : GoodIn wsX5_tells wsX0_holds := goodIn_r _ [9, 10, 58, 59, 60, 61, 62, 63, 64, 65, 66] (by decide +kernel) (by decide +kernel)
set_option maxRecDepth 20000 in
theorem gX5_tells_X0_holds : GoodIn wsX5_tells (wsV RX5 77 RX0 yX0_holds wsX0_holds) := goodIn_app (goodIn_of _ (by decide +kernel)) ggX5_tells_X0_holds
set_option maxRecDepth 20000 in
theorem ggX5_tells_X5_isYesOrNo : GoodIn wsX5_tells wsX5_isYesOrNo := goodIn_r _ [14] (by decide +kernel) (by decide +kernel)
set_option maxRecDepth 20000 in
theorem gX5_tells_X5_isYesOrNo : GoodIn wsX5_tells (va_wsS RX5 135 yX5_isYesOrNo wsX5_isYesOrNo) := goodIn_app (goodIn_of _ (by decide +kernel)) ggX5_tells_X5_isYesOrNo
set_option maxRecDepth 20000 in
theorem ggX5_tells_X1_push : GoodIn wsX5_tells wsX1_push := goodIn_r _ [19, 20, 21, 22, 23, 24, 25, 26, 27, 28, 29, 30, 31, 32, 33, 34, 35, 36, 67, 68, 69, 53, 54, 55, 56, 57] (by decide +kernel) (by decide +kernel)
set_option maxRecDepth 20000 in
theorem gX5_tells_X1_push : GoodIn wsX5_tells (wsV RX5 126 RX1 yX1_push wsX1_push) := goodIn_app (goodIn_of _ (by decide +kernel)) ggX5_tells_X1_push
set_option maxRecDepth 20000 in
theorem ggX5_tells_X5_bitOf : GoodIn wsX5_tells wsX5_bitOf := goodIn_r _ [39] (by decide +kernel) (by decide +kernel)
set_option maxRecDepth 20000 in
theorem gX5_tells_X5_bitOf : GoodIn wsX5_tells (va_wsS RX5 93 yX5_bitOf wsX5_bitOf) := goodIn_app (goodIn_of _ (by decide +kernel)) ggX5_tells_X5_bitOf
set_option maxRecDepth 20000 in
theorem ggX5_tells_X5_withBit : GoodIn wsX5_tells wsX5_withBit := goodIn_r _ [42] (by decide +kernel) (by decide +kernel)
set_option maxRecDepth 20000 in
theorem gX5_tells_X5_withBit : GoodIn wsX5_tells (va_wsS RX5 138 yX5_withBit wsX5_withBit) := goodIn_app (goodIn_of _ (by decide +kernel)) ggX5_tells_X5_withBit
theorem dX5_tells_0 : decode cX5_tells 0 = .ok (.aload_n 0, 1) := by decide +kernel
theorem dX5_tells_1 : decode cX5_tells 1 = .ok (.getfield 10, 3) := by decide +kernel
theorem dX5_tells_4 : decode cX5_tells 4 = .ok (.iload_n 1, 1) := by decide +kernel
theorem dX5_tells_5 : decode cX5_tells 5 = .ok (.invokevirtual 77, 3) := by decide +kernel
theorem dX5_tells_8 : decode cX5_tells 8 = .ok (.ifCond .eq 10, 3) := by decide +kernel
theorem dX5_tells_11 : decode cX5_tells 11 = .ok (.iload_n 2, 1) := by decide +kernel
theorem dX5_tells_12 : decode cX5_tells 12 = .ok (.invokestatic 135, 3) := by decide +kernel
theorem dX5_tells_15 : decode cX5_tells 15 = .ok (.ifCond .ne 5, 3) := by decide +kernel
theorem dX5_tells_18 : decode cX5_tells 18 = .ok (.iconst (-1), 1) := by decide +kernel
theorem dX5_tells_19 : decode cX5_tells 19 = .ok (.ireturn, 1) := by decide +kernel
theorem dX5_tells_20 : decode cX5_tells 20 = .ok (.aload_n 0, 1) := by decide +kernel
theorem dX5_tells_21 : decode cX5_tells 21 = .ok (.getfield 39, 3) := by decide +kernel
theorem dX5_tells_24 : decode cX5_tells 24 = .ok (.aload_n 0, 1) := by decide +kernel
theorem dX5_tells_25 : decode cX5_tells 25 = .ok (.getfield 29, 3) := by decide +kernel
theorem dX5_tells_28 : decode cX5_tells 28 = .ok (.invokevirtual 126, 3) := by decide +kernel
theorem dX5_tells_31 : decode cX5_tells 31 = .ok (.aload_n 0, 1) := by decide +kernel
theorem dX5_tells_32 : decode cX5_tells 32 = .ok (.getfield 29, 3) := by decide +kernel
theorem dX5_tells_35 : decode cX5_tells 35 = .ok (.getfield 90, 3) := by decide +kernel
theorem dX5_tells_38 : decode cX5_tells 38 = .ok (.iload_n 1, 1) := by decide +kernel
theorem dX5_tells_39 : decode cX5_tells 39 = .ok (.invokestatic 93, 3) := by decide +kernel
theorem dX5_tells_42 : decode cX5_tells 42 = .ok (.istore_n 3, 1) := by decide +kernel
theorem dX5_tells_43 : decode cX5_tells 43 = .ok (.aload_n 0, 1) := by decide +kernel
theorem dX5_tells_44 : decode cX5_tells 44 = .ok (.getfield 29, 3) := by decide +kernel
theorem dX5_tells_47 : decode cX5_tells 47 = .ok (.aload_n 0, 1) := by decide +kernel
theorem dX5_tells_48 : decode cX5_tells 48 = .ok (.getfield 29, 3) := by decide +kernel
theorem dX5_tells_51 : decode cX5_tells 51 = .ok (.getfield 90, 3) := by decide +kernel
theorem dX5_tells_54 : decode cX5_tells 54 = .ok (.iload_n 1, 1) := by decide +kernel
theorem dX5_tells_55 : decode cX5_tells 55 = .ok (.iload_n 2, 1) := by decide +kernel
theorem dX5_tells_56 : decode cX5_tells 56 = .ok (.invokestatic 138, 3) := by decide +kernel
theorem dX5_tells_59 : decode cX5_tells 59 = .ok (.putfield 90, 3) := by decide +kernel
theorem dX5_tells_62 : decode cX5_tells 62 = .ok (.iload_n 3, 1) := by decide +kernel
theorem dX5_tells_63 : decode cX5_tells 63 = .ok (.ireturn, 1) := by decide +kernel
set_option maxRecDepth 20000 in
theorem ggX5_day_X5_isZ : GoodIn wsX5_day wsX5_isZ := goodIn_r _ [7] (by decide +kernel) (by decide +kernel)
set_option maxRecDepth 20000 in
theorem gX5_day_X5_isZ : GoodIn wsX5_day (va_wsS RX5 142 yX5_isZ wsX5_isZ) := goodIn_app (goodIn_of _ (by decide +kernel)) ggX5_day_X5_isZ
set_option maxRecDepth 20000 in
theorem ggX5_day_X1_push : GoodIn wsX5_day wsX1_push := goodIn_r _ [12, 13, 14, 15, 16, 17, 18, 19, 20, 21, 22, 23, 24, 25, 26, 27, 28, 29, 93, 94, 95, 88, 89, 90, 91, 92] (by decide +kernel) (by decide +kernel)
set_option maxRecDepth 20000 in
theorem gX5_day_X1_push : GoodIn wsX5_day (wsV RX5 126 RX1 yX1_push wsX1_push) := goodIn_app (goodIn_of _ (by decide +kernel)) ggX5_day_X1_push
set_option maxRecDepth 20000 in
theorem ggX5_day_X5_passDay : GoodIn wsX5_day wsX5_passDay := goodIn_r _ [33, 34, 35, 2, 36, 37, 38, 39, 40, 41, 42, 43, 44, 45, 46, 47, 48, 49, 50, 51, 52, 53, 54, 55, 56, 57, 58, 59, 60, 61, 62, 63, 64, 6, 65, 66, 67, 68, 69, 70, 71, 72, 73, 74, 75, 76, 77, 78, 79, 80, 81, 82, 83, 84, 85, 86, 87, 88, 89, 90, 91, 92, 96, 97, 98, 99, 100, 101, 102, 103, 104] (by decide +kernel) (by decide +kernel)
set_option maxRecDepth 20000 in
theorem gX5_day_X5_passDay : GoodIn wsX5_day (wsV RX5 145 RX5 yX5_passDay wsX5_passDay) := goodIn_app (goodIn_of _ (by decide +kernel)) ggX5_day_X5_passDay
theorem dX5_day_0 : decode cX5_day 0 = .ok (.iload_n 1, 1) := by decide +kernel
theorem dX5_day_1 : decode cX5_day 1 = .ok (.invokestatic 142, 3) := by decide +kernel
theorem dX5_day_4 : decode cX5_day 4 = .ok (.ifCond .ne 5, 3) := by decide +kernel
theorem dX5_day_7 : decode cX5_day 7 = .ok (.iconst (-1), 1) := by decide +kernel
theorem dX5_day_8 : decode cX5_day 8 = .ok (.ireturn, 1) := by decide +kernel
theorem dX5_day_9 : decode cX5_day 9 = .ok (.aload_n 0, 1) := by decide +kernel
theorem dX5_day_10 : decode cX5_day 10 = .ok (.getfield 29, 3) := by decide +kernel
theorem dX5_day_13 : decode cX5_day 13 = .ok (.getfield 110, 3) := by decide +kernel
theorem dX5_day_16 : decode cX5_day 16 = .ok (.sipush 999, 3) := by decide +kernel
theorem dX5_day_19 : decode cX5_day 19 = .ok (.if_icmp .lt 6, 3) := by decide +kernel
theorem dX5_day_22 : decode cX5_day 22 = .ok (.bipush (-2), 2) := by decide +kernel
theorem dX5_day_24 : decode cX5_day 24 = .ok (.ireturn, 1) := by decide +kernel
theorem dX5_day_25 : decode cX5_day 25 = .ok (.aload_n 0, 1) := by decide +kernel
theorem dX5_day_26 : decode cX5_day 26 = .ok (.getfield 39, 3) := by decide +kernel
theorem dX5_day_29 : decode cX5_day 29 = .ok (.aload_n 0, 1) := by decide +kernel
theorem dX5_day_30 : decode cX5_day 30 = .ok (.getfield 29, 3) := by decide +kernel
theorem dX5_day_33 : decode cX5_day 33 = .ok (.invokevirtual 126, 3) := by decide +kernel
theorem dX5_day_36 : decode cX5_day 36 = .ok (.aload_n 0, 1) := by decide +kernel
theorem dX5_day_37 : decode cX5_day 37 = .ok (.aload_n 0, 1) := by decide +kernel
theorem dX5_day_38 : decode cX5_day 38 = .ok (.getfield 29, 3) := by decide +kernel
theorem dX5_day_41 : decode cX5_day 41 = .ok (.iload_n 1, 1) := by decide +kernel
theorem dX5_day_42 : decode cX5_day 42 = .ok (.invokevirtual 145, 3) := by decide +kernel
theorem dX5_day_45 : decode cX5_day 45 = .ok (.ireturn, 1) := by decide +kernel
set_option maxRecDepth 20000 in
theorem ggX5_undo_X1_pop : GoodIn wsX5_undo wsX1_pop := goodIn_r _ [8, 9, 10, 11, 12, 13, 14, 15, 16, 17, 18, 19, 20, 21, 32, 33, 34, 35, 36, 37, 38, 39] (by decide +kernel) (by decide +kernel)
set_option maxRecDepth 20000 in
theorem gX5_undo_X1_pop : GoodIn wsX5_undo (wsV RX5 149 RX1 yX1_pop wsX1_pop) := goodIn_app (goodIn_of _ (by decide +kernel)) ggX5_undo_X1_pop
theorem dX5_undo_0 : decode cX5_undo 0 = .ok (.aload_n 0, 1) := by decide +kernel
theorem dX5_undo_1 : decode cX5_undo 1 = .ok (.getfield 39, 3) := by decide +kernel
theorem dX5_undo_4 : decode cX5_undo 4 = .ok (.getfield 120, 3) := by decide +kernel
theorem dX5_undo_7 : decode cX5_undo 7 = .ok (.ifCond .ne 6, 3) := by decide +kernel
theorem dX5_undo_10 : decode cX5_undo 10 = .ok (.bipush (-2), 2) := by decide +kernel
theorem dX5_undo_12 : decode cX5_undo 12 = .ok (.ireturn, 1) := by decide +kernel
theorem dX5_undo_13 : decode cX5_undo 13 = .ok (.aload_n 0, 1) := by decide +kernel
theorem dX5_undo_14 : decode cX5_undo 14 = .ok (.getfield 39, 3) := by decide +kernel
theorem dX5_undo_17 : decode cX5_undo 17 = .ok (.aload_n 0, 1) := by decide +kernel
theorem dX5_undo_18 : decode cX5_undo 18 = .ok (.getfield 29, 3) := by decide +kernel
theorem dX5_undo_21 : decode cX5_undo 21 = .ok (.invokevirtual 149, 3) := by decide +kernel
theorem dX5_undo_24 : decode cX5_undo 24 = .ok (.aload_n 0, 1) := by decide +kernel
theorem dX5_undo_25 : decode cX5_undo 25 = .ok (.getfield 39, 3) := by decide +kernel
theorem dX5_undo_28 : decode cX5_undo 28 = .ok (.getfield 120, 3) := by decide +kernel
theorem dX5_undo_31 : decode cX5_undo 31 = .ok (.ireturn, 1) := by decide +kernel
set_option maxRecDepth 20000 in
theorem ggX5_harm_X5_isYesOrNo : GoodIn wsX5_harm wsX5_isYesOrNo := goodIn_r _ [5] (by decide +kernel) (by decide +kernel)
set_option maxRecDepth 20000 in
theorem gX5_harm_X5_isYesOrNo : GoodIn wsX5_harm (va_wsS RX5 135 yX5_isYesOrNo wsX5_isYesOrNo) := goodIn_app (goodIn_of _ (by decide +kernel)) ggX5_harm_X5_isYesOrNo
set_option maxRecDepth 20000 in
theorem ggX5_harm_X5_ableNow : GoodIn wsX5_harm wsX5_ableNow := goodIn_r _ [9, 1, 10, 11, 12, 13, 14, 15, 16, 17, 18, 19, 20, 21, 22, 23, 24, 25, 26, 27, 28, 29, 30, 31, 32, 33, 34, 68, 69, 70, 71, 72, 73, 74, 75, 76, 77, 78, 79, 80, 81, 82, 83, 84, 85, 86, 87, 88, 89, 90, 91] (by decide +kernel) (by decide +kernel)
set_option maxRecDepth 20000 in
theorem gX5_harm_X5_ableNow : GoodIn wsX5_harm (wsV RX5 107 RX5 yX5_ableNow wsX5_ableNow) := goodIn_app (goodIn_of _ (by decide +kernel)) ggX5_harm_X5_ableNow
set_option maxRecDepth 20000 in
theorem ggX5_harm_X5_coveredNow : GoodIn wsX5_harm wsX5_coveredNow := goodIn_r _ [38, 1, 10, 11, 39, 21, 22, 15, 23, 18, 24, 25, 26, 27, 28, 29, 68, 69, 70, 71, 72, 73, 74, 75, 76, 77, 78, 79, 80, 81, 82, 83, 84, 85, 86, 87, 88, 89, 90, 91] (by decide +kernel) (by decide +kernel)
set_option maxRecDepth 20000 in
theorem gX5_harm_X5_coveredNow : GoodIn wsX5_harm (wsV RX5 103 RX5 yX5_coveredNow wsX5_coveredNow) := goodIn_app (goodIn_of _ (by decide +kernel)) ggX5_harm_X5_coveredNow
set_option maxRecDepth 20000 in
theorem ggX5_harm_X0_harmUpper : GoodIn wsX5_harm wsX0_harmUpper := goodIn_r _ [43, 28, 44, 34, 45, 4, 46, 83, 84, 85, 86, 87, 88, 89, 90, 91] (by decide +kernel) (by decide +kernel)
set_option maxRecDepth 20000 in
theorem gX5_harm_X0_harmUpper : GoodIn wsX5_harm (wsV RX5 152 RX0 yX0_harmUpper wsX0_harmUpper) := goodIn_app (goodIn_of _ (by decide +kernel)) ggX5_harm_X0_harmUpper
set_option maxRecDepth 20000 in
theorem ggX5_harm_X0_shares : GoodIn wsX5_harm wsX0_shares := goodIn_r _ [50, 51, 52, 53, 54, 55, 56, 57, 15, 58, 28, 34, 45, 4, 46, 83, 84, 85, 86, 87, 88, 89, 90, 91] (by decide +kernel) (by decide +kernel)
set_option maxRecDepth 20000 in
theorem gX5_harm_X0_shares : GoodIn wsX5_harm (wsV RX5 155 RX0 yX0_shares wsX0_shares) := goodIn_app (goodIn_of _ (by decide +kernel)) ggX5_harm_X0_shares
set_option maxRecDepth 20000 in
theorem ggX5_harm_X5_partOf : GoodIn wsX5_harm wsX5_partOf := goodIn_r _ [61, 62, 63, 53, 64, 65, 66, 4, 67] (by decide +kernel) (by decide +kernel)
set_option maxRecDepth 20000 in
theorem gX5_harm_X5_partOf : GoodIn wsX5_harm (va_wsS RX5 158 yX5_partOf wsX5_partOf) := goodIn_app (goodIn_of _ (by decide +kernel)) ggX5_harm_X5_partOf
theorem dX5_harm_0 : decode cX5_harm 0 = .ok (.iload_n 1, 1) := by decide +kernel
theorem dX5_harm_1 : decode cX5_harm 1 = .ok (.invokestatic 135, 3) := by decide +kernel
theorem dX5_harm_4 : decode cX5_harm 4 = .ok (.ifCond .ne 5, 3) := by decide +kernel
theorem dX5_harm_7 : decode cX5_harm 7 = .ok (.iconst (-1), 1) := by decide +kernel
theorem dX5_harm_8 : decode cX5_harm 8 = .ok (.ireturn, 1) := by decide +kernel
theorem dX5_harm_9 : decode cX5_harm 9 = .ok (.aload_n 0, 1) := by decide +kernel
theorem dX5_harm_10 : decode cX5_harm 10 = .ok (.invokevirtual 107, 3) := by decide +kernel
theorem dX5_harm_13 : decode cX5_harm 13 = .ok (.istore_n 2, 1) := by decide +kernel
theorem dX5_harm_14 : decode cX5_harm 14 = .ok (.aload_n 0, 1) := by decide +kernel
theorem dX5_harm_15 : decode cX5_harm 15 = .ok (.getfield 10, 3) := by decide +kernel
theorem dX5_harm_18 : decode cX5_harm 18 = .ok (.iload_n 2, 1) := by decide +kernel
theorem dX5_harm_19 : decode cX5_harm 19 = .ok (.aload_n 0, 1) := by decide +kernel
theorem dX5_harm_20 : decode cX5_harm 20 = .ok (.invokevirtual 103, 3) := by decide +kernel
theorem dX5_harm_23 : decode cX5_harm 23 = .ok (.invokevirtual 152, 3) := by decide +kernel
theorem dX5_harm_26 : decode cX5_harm 26 = .ok (.aload_n 0, 1) := by decide +kernel
theorem dX5_harm_27 : decode cX5_harm 27 = .ok (.getfield 10, 3) := by decide +kernel
theorem dX5_harm_30 : decode cX5_harm 30 = .ok (.iload_n 2, 1) := by decide +kernel
theorem dX5_harm_31 : decode cX5_harm 31 = .ok (.invokevirtual 155, 3) := by decide +kernel
theorem dX5_harm_34 : decode cX5_harm 34 = .ok (.iload_n 1, 1) := by decide +kernel
theorem dX5_harm_35 : decode cX5_harm 35 = .ok (.invokestatic 158, 3) := by decide +kernel
theorem dX5_harm_38 : decode cX5_harm 38 = .ok (.ireturn, 1) := by decide +kernel
set_option maxRecDepth 20000 in
theorem ggX5_odds_X0_holds : GoodIn wsX5_odds wsX0_holds := goodIn_r _ [7, 8, 74, 75, 76, 77, 78, 79, 80, 81, 82] (by decide +kernel) (by decide +kernel)
set_option maxRecDepth 20000 in
theorem gX5_odds_X0_holds : GoodIn wsX5_odds (wsV RX5 77 RX0 yX0_holds wsX0_holds) := goodIn_app (goodIn_of _ (by decide +kernel)) ggX5_odds_X0_holds
set_option maxRecDepth 20000 in
theorem ggX5_odds_X5_isYesOrNo : GoodIn wsX5_odds wsX5_isYesOrNo := goodIn_r _ [12] (by decide +kernel) (by decide +kernel)
set_option maxRecDepth 20000 in
theorem gX5_odds_X5_isYesOrNo : GoodIn wsX5_odds (va_wsS RX5 135 yX5_isYesOrNo wsX5_isYesOrNo) := goodIn_app (goodIn_of _ (by decide +kernel)) ggX5_odds_X5_isYesOrNo
set_option maxRecDepth 20000 in
theorem ggX5_odds_X5_ableNow : GoodIn wsX5_odds wsX5_ableNow := goodIn_r _ [16, 1, 17, 18, 19, 20, 21, 6, 22, 23, 24, 25, 26, 27, 28, 29, 30, 31, 32, 33, 8, 34, 35, 36, 37, 38, 39, 64, 65, 66, 67, 68, 69, 70, 71, 72, 73, 83, 84, 85, 86, 87, 74, 75, 76, 77, 78, 79, 80, 81, 82] (by decide +kernel) (by decide +kernel)
set_option maxRecDepth 20000 in
theorem gX5_odds_X5_ableNow : GoodIn wsX5_odds (wsV RX5 107 RX5 yX5_ableNow wsX5_ableNow) := goodIn_app (goodIn_of _ (by decide +kernel)) ggX5_odds_X5_ableNow
set_option maxRecDepth 20000 in
theorem ggX5_odds_X5_bitOf : GoodIn wsX5_odds wsX5_bitOf := goodIn_r _ [42] (by decide +kernel) (by decide +kernel)
set_option maxRecDepth 20000 in
theorem gX5_odds_X5_bitOf : GoodIn wsX5_odds (va_wsS RX5 93 yX5_bitOf wsX5_bitOf) := goodIn_app (goodIn_of _ (by decide +kernel)) ggX5_odds_X5_bitOf
set_option maxRecDepth 20000 in
theorem ggX5_odds_X0_shares : GoodIn wsX5_odds wsX0_shares := goodIn_r _ [46, 47, 48, 49, 50, 51, 52, 53, 6, 54, 8, 39, 41, 11, 42, 74, 75, 76, 77, 78, 79, 80, 81, 82] (by decide +kernel) (by decide +kernel)
set_option maxRecDepth 20000 in
theorem gX5_odds_X0_shares : GoodIn wsX5_odds (wsV RX5 155 RX0 yX0_shares wsX0_shares) := goodIn_app (goodIn_of _ (by decide +kernel)) ggX5_odds_X0_shares
set_option maxRecDepth 20000 in
theorem ggX5_odds_X5_partOf : GoodIn wsX5_odds wsX5_partOf := goodIn_r _ [57, 58, 59, 49, 60, 61, 62, 11, 63] (by decide +kernel) (by decide +kernel)
set_option maxRecDepth 20000 in
theorem gX5_odds_X5_partOf : GoodIn wsX5_odds (va_wsS RX5 158 yX5_partOf wsX5_partOf) := goodIn_app (goodIn_of _ (by decide +kernel)) ggX5_odds_X5_partOf
theorem dX5_odds_0 : decode cX5_odds 0 = .ok (.aload_n 0, 1) := by decide +kernel
theorem dX5_odds_1 : decode cX5_odds 1 = .ok (.getfield 10, 3) := by decide +kernel
theorem dX5_odds_4 : decode cX5_odds 4 = .ok (.iload_n 1, 1) := by decide +kernel
theorem dX5_odds_5 : decode cX5_odds 5 = .ok (.invokevirtual 77, 3) := by decide +kernel
theorem dX5_odds_8 : decode cX5_odds 8 = .ok (.ifCond .eq 10, 3) := by decide +kernel
theorem dX5_odds_11 : decode cX5_odds 11 = .ok (.iload_n 2, 1) := by decide +kernel
theorem dX5_odds_12 : decode cX5_odds 12 = .ok (.invokestatic 135, 3) := by decide +kernel
theorem dX5_odds_15 : decode cX5_odds 15 = .ok (.ifCond .ne 5, 3) := by decide +kernel
theorem dX5_odds_18 : decode cX5_odds 18 = .ok (.iconst (-1), 1) := by decide +kernel
theorem dX5_odds_19 : decode cX5_odds 19 = .ok (.ireturn, 1) := by decide +kernel
theorem dX5_odds_20 : decode cX5_odds 20 = .ok (.aload_n 0, 1) := by decide +kernel
theorem dX5_odds_21 : decode cX5_odds 21 = .ok (.invokevirtual 107, 3) := by decide +kernel
theorem dX5_odds_24 : decode cX5_odds 24 = .ok (.istore_n 3, 1) := by decide +kernel
theorem dX5_odds_25 : decode cX5_odds 25 = .ok (.iload_n 3, 1) := by decide +kernel
theorem dX5_odds_26 : decode cX5_odds 26 = .ok (.iload_n 1, 1) := by decide +kernel
theorem dX5_odds_27 : decode cX5_odds 27 = .ok (.invokestatic 93, 3) := by decide +kernel
theorem dX5_odds_30 : decode cX5_odds 30 = .ok (.iconst 1, 1) := by decide +kernel
theorem dX5_odds_31 : decode cX5_odds 31 = .ok (.if_icmp .ne 15, 3) := by decide +kernel
theorem dX5_odds_34 : decode cX5_odds 34 = .ok (.aload_n 0, 1) := by decide +kernel
theorem dX5_odds_35 : decode cX5_odds 35 = .ok (.getfield 10, 3) := by decide +kernel
theorem dX5_odds_38 : decode cX5_odds 38 = .ok (.getfield 87, 3) := by decide +kernel
theorem dX5_odds_41 : decode cX5_odds 41 = .ok (.iload_n 1, 1) := by decide +kernel
theorem dX5_odds_42 : decode cX5_odds 42 = .ok (.iaload, 1) := by decide +kernel
theorem dX5_odds_43 : decode cX5_odds 43 = .ok (.goto 4, 3) := by decide +kernel
theorem dX5_odds_46 : decode cX5_odds 46 = .ok (.iconst 0, 1) := by decide +kernel
theorem dX5_odds_47 : decode cX5_odds 47 = .ok (.istore 4, 2) := by decide +kernel
theorem dX5_odds_49 : decode cX5_odds 49 = .ok (.iload 4, 2) := by decide +kernel
theorem dX5_odds_51 : decode cX5_odds 51 = .ok (.aload_n 0, 1) := by decide +kernel
theorem dX5_odds_52 : decode cX5_odds 52 = .ok (.getfield 10, 3) := by decide +kernel
theorem dX5_odds_55 : decode cX5_odds 55 = .ok (.iload_n 3, 1) := by decide +kernel
theorem dX5_odds_56 : decode cX5_odds 56 = .ok (.invokevirtual 155, 3) := by decide +kernel
theorem dX5_odds_59 : decode cX5_odds 59 = .ok (.iload_n 2, 1) := by decide +kernel
theorem dX5_odds_60 : decode cX5_odds 60 = .ok (.invokestatic 158, 3) := by decide +kernel
theorem dX5_odds_63 : decode cX5_odds 63 = .ok (.ireturn, 1) := by decide +kernel
set_option maxRecDepth 20000 in
theorem ggX5_swear_X5_isYesOrNo : GoodIn wsX5_swear wsX5_isYesOrNo := goodIn_r _ [9] (by decide +kernel) (by decide +kernel)
set_option maxRecDepth 20000 in
theorem gX5_swear_X5_isYesOrNo : GoodIn wsX5_swear (va_wsS RX5 135 yX5_isYesOrNo wsX5_isYesOrNo) := goodIn_app (goodIn_of _ (by decide +kernel)) ggX5_swear_X5_isYesOrNo
set_option maxRecDepth 20000 in
theorem ggX5_swear_X5_ableNow : GoodIn wsX5_swear wsX5_ableNow := goodIn_r _ [13, 2, 14, 15, 16, 17, 18, 19, 20, 21, 22, 23, 24, 25, 26, 27, 28, 29, 30, 31, 32, 33, 34, 35, 36, 37, 38, 72, 73, 74, 75, 76, 77, 78, 79, 80, 81, 91, 92, 93, 94, 95, 82, 83, 84, 85, 86, 87, 88, 89, 90] (by decide +kernel) (by decide +kernel)
set_option maxRecDepth 20000 in
theorem gX5_swear_X5_ableNow : GoodIn wsX5_swear (wsV RX5 107 RX5 yX5_ableNow wsX5_ableNow) := goodIn_app (goodIn_of _ (by decide +kernel)) ggX5_swear_X5_ableNow
set_option maxRecDepth 20000 in
theorem ggX5_swear_X5_coveredNow : GoodIn wsX5_swear wsX5_coveredNow := goodIn_r _ [42, 2, 14, 15, 43, 25, 26, 19, 27, 22, 28, 29, 30, 31, 32, 33, 72, 73, 74, 75, 76, 77, 78, 79, 80, 81, 91, 92, 93, 94, 95, 82, 83, 84, 85, 86, 87, 88, 89, 90] (by decide +kernel) (by decide +kernel)
set_option maxRecDepth 20000 in
theorem gX5_swear_X5_coveredNow : GoodIn wsX5_swear (wsV RX5 103 RX5 yX5_coveredNow wsX5_coveredNow) := goodIn_app (goodIn_of _ (by decide +kernel)) ggX5_swear_X5_coveredNow
set_option maxRecDepth 20000 in
theorem ggX5_swear_X0_harmUpper : GoodIn wsX5_swear wsX0_harmUpper := goodIn_r _ [47, 32, 48, 38, 49, 8, 50, 82, 83, 84, 85, 86, 87, 88, 89, 90] (by decide +kernel) (by decide +kernel)
set_option maxRecDepth 20000 in
theorem gX5_swear_X0_harmUpper : GoodIn wsX5_swear (wsV RX5 152 RX0 yX0_harmUpper wsX0_harmUpper) := goodIn_app (goodIn_of _ (by decide +kernel)) ggX5_swear_X0_harmUpper
set_option maxRecDepth 20000 in
theorem ggX5_swear_X0_shares : GoodIn wsX5_swear wsX0_shares := goodIn_r _ [54, 55, 56, 57, 58, 59, 60, 61, 19, 62, 32, 38, 49, 8, 50, 82, 83, 84, 85, 86, 87, 88, 89, 90] (by decide +kernel) (by decide +kernel)
set_option maxRecDepth 20000 in
theorem gX5_swear_X0_shares : GoodIn wsX5_swear (wsV RX5 155 RX0 yX0_shares wsX0_shares) := goodIn_app (goodIn_of _ (by decide +kernel)) ggX5_swear_X0_shares
set_option maxRecDepth 20000 in
theorem ggX5_swear_X5_partOf : GoodIn wsX5_swear wsX5_partOf := goodIn_r _ [65, 66, 67, 57, 68, 69, 70, 8, 71] (by decide +kernel) (by decide +kernel)
set_option maxRecDepth 20000 in
theorem gX5_swear_X5_partOf : GoodIn wsX5_swear (va_wsS RX5 158 yX5_partOf wsX5_partOf) := goodIn_app (goodIn_of _ (by decide +kernel)) ggX5_swear_X5_partOf
theorem dX5_swear_0 : decode cX5_swear 0 = .ok (.iload_n 1, 1) := by decide +kernel
theorem dX5_swear_1 : decode cX5_swear 1 = .ok (.invokestatic 135, 3) := by decide +kernel
theorem dX5_swear_4 : decode cX5_swear 4 = .ok (.ifCond .ne 6, 3) := by decide +kernel
theorem dX5_swear_7 : decode cX5_swear 7 = .ok (.ldc 161, 2) := by decide +kernel
theorem dX5_swear_9 : decode cX5_swear 9 = .ok (.ireturn, 1) := by decide +kernel
theorem dX5_swear_10 : decode cX5_swear 10 = .ok (.aload_n 0, 1) := by decide +kernel
theorem dX5_swear_11 : decode cX5_swear 11 = .ok (.invokevirtual 107, 3) := by decide +kernel
theorem dX5_swear_14 : decode cX5_swear 14 = .ok (.istore_n 2, 1) := by decide +kernel
theorem dX5_swear_15 : decode cX5_swear 15 = .ok (.aload_n 0, 1) := by decide +kernel
theorem dX5_swear_16 : decode cX5_swear 16 = .ok (.getfield 10, 3) := by decide +kernel
theorem dX5_swear_19 : decode cX5_swear 19 = .ok (.iload_n 2, 1) := by decide +kernel
theorem dX5_swear_20 : decode cX5_swear 20 = .ok (.aload_n 0, 1) := by decide +kernel
theorem dX5_swear_21 : decode cX5_swear 21 = .ok (.invokevirtual 103, 3) := by decide +kernel
theorem dX5_swear_24 : decode cX5_swear 24 = .ok (.invokevirtual 152, 3) := by decide +kernel
theorem dX5_swear_27 : decode cX5_swear 27 = .ok (.istore_n 3, 1) := by decide +kernel
theorem dX5_swear_28 : decode cX5_swear 28 = .ok (.aload_n 0, 1) := by decide +kernel
theorem dX5_swear_29 : decode cX5_swear 29 = .ok (.getfield 10, 3) := by decide +kernel
theorem dX5_swear_32 : decode cX5_swear 32 = .ok (.iload_n 2, 1) := by decide +kernel
theorem dX5_swear_33 : decode cX5_swear 33 = .ok (.invokevirtual 155, 3) := by decide +kernel
theorem dX5_swear_36 : decode cX5_swear 36 = .ok (.istore 4, 2) := by decide +kernel
theorem dX5_swear_38 : decode cX5_swear 38 = .ok (.aload_n 0, 1) := by decide +kernel
theorem dX5_swear_39 : decode cX5_swear 39 = .ok (.getfield 10, 3) := by decide +kernel
theorem dX5_swear_42 : decode cX5_swear 42 = .ok (.getfield 162, 3) := by decide +kernel
theorem dX5_swear_45 : decode cX5_swear 45 = .ok (.aload_n 0, 1) := by decide +kernel
theorem dX5_swear_46 : decode cX5_swear 46 = .ok (.getfield 10, 3) := by decide +kernel
theorem dX5_swear_49 : decode cX5_swear 49 = .ok (.getfield 165, 3) := by decide +kernel
theorem dX5_swear_52 : decode cX5_swear 52 = .ok (.imul, 1) := by decide +kernel
theorem dX5_swear_53 : decode cX5_swear 53 = .ok (.iload 4, 2) := by decide +kernel
theorem dX5_swear_55 : decode cX5_swear 55 = .ok (.imul, 1) := by decide +kernel
theorem dX5_swear_56 : decode cX5_swear 56 = .ok (.istore 5, 2) := by decide +kernel
theorem dX5_swear_58 : decode cX5_swear 58 = .ok (.aload_n 0, 1) := by decide +kernel
theorem dX5_swear_59 : decode cX5_swear 59 = .ok (.getfield 10, 3) := by decide +kernel
theorem dX5_swear_62 : decode cX5_swear 62 = .ok (.getfield 168, 3) := by decide +kernel
theorem dX5_swear_65 : decode cX5_swear 65 = .ok (.aload_n 0, 1) := by decide +kernel
theorem dX5_swear_66 : decode cX5_swear 66 = .ok (.getfield 10, 3) := by decide +kernel
theorem dX5_swear_69 : decode cX5_swear 69 = .ok (.getfield 162, 3) := by decide +kernel
theorem dX5_swear_72 : decode cX5_swear 72 = .ok (.iadd, 1) := by decide +kernel
theorem dX5_swear_73 : decode cX5_swear 73 = .ok (.iload_n 3, 1) := by decide +kernel
theorem dX5_swear_74 : decode cX5_swear 74 = .ok (.imul, 1) := by decide +kernel
theorem dX5_swear_75 : decode cX5_swear 75 = .ok (.istore 6, 2) := by decide +kernel
theorem dX5_swear_77 : decode cX5_swear 77 = .ok (.iload 5, 2) := by decide +kernel
theorem dX5_swear_79 : decode cX5_swear 79 = .ok (.iload 6, 2) := by decide +kernel
theorem dX5_swear_81 : decode cX5_swear 81 = .ok (.isub, 1) := by decide +kernel
theorem dX5_swear_82 : decode cX5_swear 82 = .ok (.bipush 10, 2) := by decide +kernel
theorem dX5_swear_84 : decode cX5_swear 84 = .ok (.iload 4, 2) := by decide +kernel
theorem dX5_swear_86 : decode cX5_swear 86 = .ok (.imul, 1) := by decide +kernel
theorem dX5_swear_87 : decode cX5_swear 87 = .ok (.iload_n 1, 1) := by decide +kernel
theorem dX5_swear_88 : decode cX5_swear 88 = .ok (.invokestatic 158, 3) := by decide +kernel
theorem dX5_swear_91 : decode cX5_swear 91 = .ok (.ireturn, 1) := by decide +kernel
set_option maxRecDepth 20000 in
theorem ggX5_sense_J6_bitCount_0f7a4 : GoodIn wsX5_sense wsJ6_bitCount_0f7a4 := goodIn_r _ [10, 11, 12, 13] (by decide +kernel) (by decide +kernel)
set_option maxRecDepth 20000 in
theorem gX5_sense_J6_bitCount_0f7a4 : GoodIn wsX5_sense (va_wsS RX5 130 yJ6_bitCount_0f7a4 wsJ6_bitCount_0f7a4) := goodIn_app (goodIn_of _ (by decide +kernel)) ggX5_sense_J6_bitCount_0f7a4
theorem dX5_sense_0 : decode cX5_sense 0 = .ok (.iload_n 1, 1) := by decide +kernel
theorem dX5_sense_1 : decode cX5_sense 1 = .ok (.ifCond .lt 8, 3) := by decide +kernel
theorem dX5_sense_4 : decode cX5_sense 4 = .ok (.iload_n 1, 1) := by decide +kernel
theorem dX5_sense_5 : decode cX5_sense 5 = .ok (.iconst 5, 1) := by decide +kernel
theorem dX5_sense_6 : decode cX5_sense 6 = .ok (.if_icmp .le 5, 3) := by decide +kernel
theorem dX5_sense_9 : decode cX5_sense 9 = .ok (.iconst (-1), 1) := by decide +kernel
theorem dX5_sense_10 : decode cX5_sense 10 = .ok (.ireturn, 1) := by decide +kernel
theorem dX5_sense_11 : decode cX5_sense 11 = .ok (.iconst 0, 1) := by decide +kernel
theorem dX5_sense_12 : decode cX5_sense 12 = .ok (.istore_n 2, 1) := by decide +kernel
theorem dX5_sense_13 : decode cX5_sense 13 = .ok (.iconst 0, 1) := by decide +kernel
theorem dX5_sense_14 : decode cX5_sense 14 = .ok (.istore_n 3, 1) := by decide +kernel
theorem dX5_sense_15 : decode cX5_sense 15 = .ok (.iload_n 3, 1) := by decide +kernel
theorem dX5_sense_16 : decode cX5_sense 16 = .ok (.aload_n 0, 1) := by decide +kernel
theorem dX5_sense_17 : decode cX5_sense 17 = .ok (.getfield 10, 3) := by decide +kernel
theorem dX5_sense_20 : decode cX5_sense 20 = .ok (.getfield 171, 3) := by decide +kernel
theorem dX5_sense_23 : decode cX5_sense 23 = .ok (.if_icmp .ge 39, 3) := by decide +kernel
theorem dX5_sense_26 : decode cX5_sense 26 = .ok (.aload_n 0, 1) := by decide +kernel
theorem dX5_sense_27 : decode cX5_sense 27 = .ok (.getfield 10, 3) := by decide +kernel
theorem dX5_sense_30 : decode cX5_sense 30 = .ok (.getfield 80, 3) := by decide +kernel
theorem dX5_sense_33 : decode cX5_sense 33 = .ok (.iload_n 3, 1) := by decide +kernel
theorem dX5_sense_34 : decode cX5_sense 34 = .ok (.iaload, 1) := by decide +kernel
theorem dX5_sense_35 : decode cX5_sense 35 = .ok (.aload_n 0, 1) := by decide +kernel
theorem dX5_sense_36 : decode cX5_sense 36 = .ok (.getfield 29, 3) := by decide +kernel
theorem dX5_sense_39 : decode cX5_sense 39 = .ok (.getfield 113, 3) := by decide +kernel
theorem dX5_sense_42 : decode cX5_sense 42 = .ok (.iand, 1) := by decide +kernel
theorem dX5_sense_43 : decode cX5_sense 43 = .ok (.invokestatic 130, 3) := by decide +kernel
theorem dX5_sense_46 : decode cX5_sense 46 = .ok (.iload_n 1, 1) := by decide +kernel
theorem dX5_sense_47 : decode cX5_sense 47 = .ok (.if_icmp .lt 9, 3) := by decide +kernel
theorem dX5_sense_50 : decode cX5_sense 50 = .ok (.iload_n 2, 1) := by decide +kernel
theorem dX5_sense_51 : decode cX5_sense 51 = .ok (.iconst 1, 1) := by decide +kernel
theorem dX5_sense_52 : decode cX5_sense 52 = .ok (.iload_n 3, 1) := by decide +kernel
theorem dX5_sense_53 : decode cX5_sense 53 = .ok (.ishl, 1) := by decide +kernel
theorem dX5_sense_54 : decode cX5_sense 54 = .ok (.ior, 1) := by decide +kernel
theorem dX5_sense_55 : decode cX5_sense 55 = .ok (.istore_n 2, 1) := by decide +kernel
theorem dX5_sense_56 : decode cX5_sense 56 = .ok (.iinc 3 1, 3) := by decide +kernel
theorem dX5_sense_59 : decode cX5_sense 59 = .ok (.goto (-44), 3) := by decide +kernel
theorem dX5_sense_62 : decode cX5_sense 62 = .ok (.iload_n 2, 1) := by decide +kernel
theorem dX5_sense_63 : decode cX5_sense 63 = .ok (.aload_n 0, 1) := by decide +kernel
theorem dX5_sense_64 : decode cX5_sense 64 = .ok (.getfield 29, 3) := by decide +kernel
theorem dX5_sense_67 : decode cX5_sense 67 = .ok (.getfield 100, 3) := by decide +kernel
theorem dX5_sense_70 : decode cX5_sense 70 = .ok (.iconst (-1), 1) := by decide +kernel
theorem dX5_sense_71 : decode cX5_sense 71 = .ok (.ixor, 1) := by decide +kernel
theorem dX5_sense_72 : decode cX5_sense 72 = .ok (.iand, 1) := by decide +kernel
theorem dX5_sense_73 : decode cX5_sense 73 = .ok (.ireturn, 1) := by decide +kernel
set_option maxRecDepth 20000 in
theorem ggX5_both_X5_areWords : GoodIn wsX5_both wsX5_areWords := goodIn_r _ [6] (by decide +kernel) (by decide +kernel)
set_option maxRecDepth 20000 in
theorem gX5_both_X5_areWords : GoodIn wsX5_both (va_wsS RX5 123 yX5_areWords wsX5_areWords) := goodIn_app (goodIn_of _ (by decide +kernel)) ggX5_both_X5_areWords
set_option maxRecDepth 20000 in
theorem ggX5_both_X5_coveredNow : GoodIn wsX5_both wsX5_coveredNow := goodIn_r _ [10, 1, 2, 11, 12, 13, 14, 15, 16, 17, 18, 19, 20, 21, 22, 23, 24, 25, 26, 27, 28, 29, 30, 31, 32, 33, 34, 35, 36, 37, 38, 39, 40, 41, 42, 43, 44, 45, 46, 47] (by decide +kernel) (by decide +kernel)
set_option maxRecDepth 20000 in
theorem gX5_both_X5_coveredNow : GoodIn wsX5_both (wsV RX5 103 RX5 yX5_coveredNow wsX5_coveredNow) := goodIn_app (goodIn_of _ (by decide +kernel)) ggX5_both_X5_coveredNow
set_option maxRecDepth 20000 in
theorem ggX5_both_X0_coveredBy : GoodIn wsX5_both wsX0_coveredBy := goodIn_r _ [16, 17, 18, 19, 20, 15, 21, 22, 23, 34, 35, 36, 37, 38, 39, 40, 41, 42, 43, 44, 45, 46, 47] (by decide +kernel) (by decide +kernel)
set_option maxRecDepth 20000 in
theorem gX5_both_X0_coveredBy : GoodIn wsX5_both (wsV RX5 174 RX0 yX0_coveredBy wsX0_coveredBy) := goodIn_app (goodIn_of _ (by decide +kernel)) ggX5_both_X0_coveredBy
theorem dX5_both_0 : decode cX5_both 0 = .ok (.iload_n 1, 1) := by decide +kernel
theorem dX5_both_1 : decode cX5_both 1 = .ok (.invokestatic 123, 3) := by decide +kernel
theorem dX5_both_4 : decode cX5_both 4 = .ok (.ifCond .ne 5, 3) := by decide +kernel
theorem dX5_both_7 : decode cX5_both 7 = .ok (.iconst (-1), 1) := by decide +kernel
theorem dX5_both_8 : decode cX5_both 8 = .ok (.ireturn, 1) := by decide +kernel
theorem dX5_both_9 : decode cX5_both 9 = .ok (.aload_n 0, 1) := by decide +kernel
theorem dX5_both_10 : decode cX5_both 10 = .ok (.invokevirtual 103, 3) := by decide +kernel
theorem dX5_both_13 : decode cX5_both 13 = .ok (.aload_n 0, 1) := by decide +kernel
theorem dX5_both_14 : decode cX5_both 14 = .ok (.getfield 10, 3) := by decide +kernel
theorem dX5_both_17 : decode cX5_both 17 = .ok (.iload_n 1, 1) := by decide +kernel
theorem dX5_both_18 : decode cX5_both 18 = .ok (.aload_n 0, 1) := by decide +kernel
theorem dX5_both_19 : decode cX5_both 19 = .ok (.getfield 29, 3) := by decide +kernel
theorem dX5_both_22 : decode cX5_both 22 = .ok (.invokevirtual 174, 3) := by decide +kernel
theorem dX5_both_25 : decode cX5_both 25 = .ok (.iand, 1) := by decide +kernel
theorem dX5_both_26 : decode cX5_both 26 = .ok (.ireturn, 1) := by decide +kernel
set_option maxRecDepth 20000 in
theorem ggX5_means_X0_ableBy : GoodIn wsX5_means wsX0_ableBy := goodIn_r _ [8, 9, 10, 11, 12, 13, 14, 7, 15, 16, 17, 18, 19, 20, 21, 22, 23, 24, 25, 26, 58, 59, 60, 61, 62, 49, 50, 51, 52, 53, 54, 55, 56, 57] (by decide +kernel) (by decide +kernel)
set_option maxRecDepth 20000 in
theorem gX5_means_X0_ableBy : GoodIn wsX5_means (wsV RX5 178 RX0 yX0_ableBy wsX0_ableBy) := goodIn_app (goodIn_of _ (by decide +kernel)) ggX5_means_X0_ableBy
set_option maxRecDepth 20000 in
theorem ggX5_means_X0_coveredBy : GoodIn wsX5_means wsX0_coveredBy := goodIn_r _ [15, 10, 16, 17, 18, 7, 19, 20, 21, 58, 59, 60, 61, 62, 49, 50, 51, 52, 53, 54, 55, 56, 57] (by decide +kernel) (by decide +kernel)
set_option maxRecDepth 20000 in
theorem gX5_means_X0_coveredBy : GoodIn wsX5_means (wsV RX5 174 RX0 yX0_coveredBy wsX0_coveredBy) := goodIn_app (goodIn_of _ (by decide +kernel)) ggX5_means_X0_coveredBy
set_option maxRecDepth 20000 in
theorem ggX5_means_X5_fewerWords : GoodIn wsX5_means wsX5_fewerWords := goodIn_r _ [31, 32, 33, 34, 35, 36, 37, 38] (by decide +kernel) (by decide +kernel)
set_option maxRecDepth 20000 in
theorem gX5_means_X5_fewerWords : GoodIn wsX5_means (va_wsS RX5 181 yX5_fewerWords wsX5_fewerWords) := goodIn_app (goodIn_of _ (by decide +kernel)) ggX5_means_X5_fewerWords
theorem dX5_means_0 : decode cX5_means 0 = .ok (.iload_n 1, 1) := by decide +kernel
theorem dX5_means_1 : decode cX5_means 1 = .ok (.ifCond .lt 16, 3) := by decide +kernel
theorem dX5_means_4 : decode cX5_means 4 = .ok (.iload_n 1, 1) := by decide +kernel
theorem dX5_means_5 : decode cX5_means 5 = .ok (.iconst 1, 1) := by decide +kernel
theorem dX5_means_6 : decode cX5_means 6 = .ok (.aload_n 0, 1) := by decide +kernel
theorem dX5_means_7 : decode cX5_means 7 = .ok (.getfield 10, 3) := by decide +kernel
theorem dX5_means_10 : decode cX5_means 10 = .ok (.getfield 171, 3) := by decide +kernel
theorem dX5_means_13 : decode cX5_means 13 = .ok (.ishl, 1) := by decide +kernel
theorem dX5_means_14 : decode cX5_means 14 = .ok (.if_icmp .lt 5, 3) := by decide +kernel
theorem dX5_means_17 : decode cX5_means 17 = .ok (.iconst (-1), 1) := by decide +kernel
theorem dX5_means_18 : decode cX5_means 18 = .ok (.ireturn, 1) := by decide +kernel
theorem dX5_means_19 : decode cX5_means 19 = .ok (.bipush (-9), 2) := by decide +kernel
theorem dX5_means_21 : decode cX5_means 21 = .ok (.istore_n 2, 1) := by decide +kernel
theorem dX5_means_22 : decode cX5_means 22 = .ok (.iconst 0, 1) := by decide +kernel
theorem dX5_means_23 : decode cX5_means 23 = .ok (.istore_n 3, 1) := by decide +kernel
theorem dX5_means_24 : decode cX5_means 24 = .ok (.iload_n 3, 1) := by decide +kernel
theorem dX5_means_25 : decode cX5_means 25 = .ok (.bipush 31, 2) := by decide +kernel
theorem dX5_means_27 : decode cX5_means 27 = .ok (.if_icmp .gt 56, 3) := by decide +kernel
theorem dX5_means_30 : decode cX5_means 30 = .ok (.aload_n 0, 1) := by decide +kernel
theorem dX5_means_31 : decode cX5_means 31 = .ok (.getfield 10, 3) := by decide +kernel
theorem dX5_means_34 : decode cX5_means 34 = .ok (.iload_n 3, 1) := by decide +kernel
theorem dX5_means_35 : decode cX5_means 35 = .ok (.aload_n 0, 1) := by decide +kernel
theorem dX5_means_36 : decode cX5_means 36 = .ok (.getfield 29, 3) := by decide +kernel
theorem dX5_means_39 : decode cX5_means 39 = .ok (.invokevirtual 178, 3) := by decide +kernel
theorem dX5_means_42 : decode cX5_means 42 = .ok (.aload_n 0, 1) := by decide +kernel
theorem dX5_means_43 : decode cX5_means 43 = .ok (.getfield 10, 3) := by decide +kernel
theorem dX5_means_46 : decode cX5_means 46 = .ok (.iload_n 3, 1) := by decide +kernel
theorem dX5_means_47 : decode cX5_means 47 = .ok (.aload_n 0, 1) := by decide +kernel
theorem dX5_means_48 : decode cX5_means 48 = .ok (.getfield 29, 3) := by decide +kernel
theorem dX5_means_51 : decode cX5_means 51 = .ok (.invokevirtual 174, 3) := by decide +kernel
theorem dX5_means_54 : decode cX5_means 54 = .ok (.iand, 1) := by decide +kernel
theorem dX5_means_55 : decode cX5_means 55 = .ok (.istore 4, 2) := by decide +kernel
theorem dX5_means_57 : decode cX5_means 57 = .ok (.iload 4, 2) := by decide +kernel
theorem dX5_means_59 : decode cX5_means 59 = .ok (.ifCond .eq 18, 3) := by decide +kernel
theorem dX5_means_62 : decode cX5_means 62 = .ok (.iload 4, 2) := by decide +kernel
theorem dX5_means_64 : decode cX5_means 64 = .ok (.iload_n 1, 1) := by decide +kernel
theorem dX5_means_65 : decode cX5_means 65 = .ok (.iconst (-1), 1) := by decide +kernel
theorem dX5_means_66 : decode cX5_means 66 = .ok (.ixor, 1) := by decide +kernel
theorem dX5_means_67 : decode cX5_means 67 = .ok (.iand, 1) := by decide +kernel
theorem dX5_means_68 : decode cX5_means 68 = .ok (.ifCond .ne 9, 3) := by decide +kernel
theorem dX5_means_71 : decode cX5_means 71 = .ok (.iload_n 2, 1) := by decide +kernel
theorem dX5_means_72 : decode cX5_means 72 = .ok (.iload_n 3, 1) := by decide +kernel
theorem dX5_means_73 : decode cX5_means 73 = .ok (.invokestatic 181, 3) := by decide +kernel
theorem dX5_means_76 : decode cX5_means 76 = .ok (.istore_n 2, 1) := by decide +kernel
theorem dX5_means_77 : decode cX5_means 77 = .ok (.iinc 3 1, 3) := by decide +kernel
theorem dX5_means_80 : decode cX5_means 80 = .ok (.goto (-56), 3) := by decide +kernel
theorem dX5_means_83 : decode cX5_means 83 = .ok (.iload_n 2, 1) := by decide +kernel
theorem dX5_means_84 : decode cX5_means 84 = .ok (.ireturn, 1) := by decide +kernel
set_option maxRecDepth 20000 in
theorem ggX5_span_X0_coveredBy : GoodIn wsX5_span wsX0_coveredBy := goodIn_r _ [7, 8, 9, 10, 11, 6, 12, 13, 14, 36, 37, 38, 39, 40, 41, 42, 43, 44, 45, 46, 47, 48, 49] (by decide +kernel) (by decide +kernel)
set_option maxRecDepth 20000 in
theorem gX5_span_X0_coveredBy : GoodIn wsX5_span (wsV RX5 174 RX0 yX0_coveredBy wsX0_coveredBy) := goodIn_app (goodIn_of _ (by decide +kernel)) ggX5_span_X0_coveredBy
set_option maxRecDepth 20000 in
theorem ggX5_span_J6_bitCount_0f7a4 : GoodIn wsX5_span wsJ6_bitCount_0f7a4 := goodIn_r _ [18, 19, 20, 21] (by decide +kernel) (by decide +kernel)
set_option maxRecDepth 20000 in
theorem gX5_span_J6_bitCount_0f7a4 : GoodIn wsX5_span (va_wsS RX5 130 yJ6_bitCount_0f7a4 wsJ6_bitCount_0f7a4) := goodIn_app (goodIn_of _ (by decide +kernel)) ggX5_span_J6_bitCount_0f7a4
set_option maxRecDepth 20000 in
theorem ggX5_span_X5_fewerWords : GoodIn wsX5_span wsX5_fewerWords := goodIn_r _ [25, 15, 16, 17, 18, 19, 20, 21] (by decide +kernel) (by decide +kernel)
set_option maxRecDepth 20000 in
theorem gX5_span_X5_fewerWords : GoodIn wsX5_span (va_wsS RX5 181 yX5_fewerWords wsX5_fewerWords) := goodIn_app (goodIn_of _ (by decide +kernel)) ggX5_span_X5_fewerWords
theorem dX5_span_0 : decode cX5_span 0 = .ok (.bipush (-9), 2) := by decide +kernel
theorem dX5_span_2 : decode cX5_span 2 = .ok (.istore_n 1, 1) := by decide +kernel
theorem dX5_span_3 : decode cX5_span 3 = .ok (.iconst 0, 1) := by decide +kernel
theorem dX5_span_4 : decode cX5_span 4 = .ok (.istore_n 2, 1) := by decide +kernel
theorem dX5_span_5 : decode cX5_span 5 = .ok (.iload_n 2, 1) := by decide +kernel
theorem dX5_span_6 : decode cX5_span 6 = .ok (.bipush 31, 2) := by decide +kernel
theorem dX5_span_8 : decode cX5_span 8 = .ok (.if_icmp .gt 34, 3) := by decide +kernel
theorem dX5_span_11 : decode cX5_span 11 = .ok (.aload_n 0, 1) := by decide +kernel
theorem dX5_span_12 : decode cX5_span 12 = .ok (.getfield 10, 3) := by decide +kernel
theorem dX5_span_15 : decode cX5_span 15 = .ok (.iload_n 2, 1) := by decide +kernel
theorem dX5_span_16 : decode cX5_span 16 = .ok (.aload_n 0, 1) := by decide +kernel
theorem dX5_span_17 : decode cX5_span 17 = .ok (.getfield 29, 3) := by decide +kernel
theorem dX5_span_20 : decode cX5_span 20 = .ok (.invokevirtual 174, 3) := by decide +kernel
theorem dX5_span_23 : decode cX5_span 23 = .ok (.invokestatic 130, 3) := by decide +kernel
theorem dX5_span_26 : decode cX5_span 26 = .ok (.iconst 1, 1) := by decide +kernel
theorem dX5_span_27 : decode cX5_span 27 = .ok (.if_icmp .ne 9, 3) := by decide +kernel
theorem dX5_span_30 : decode cX5_span 30 = .ok (.iload_n 1, 1) := by decide +kernel
theorem dX5_span_31 : decode cX5_span 31 = .ok (.iload_n 2, 1) := by decide +kernel
theorem dX5_span_32 : decode cX5_span 32 = .ok (.invokestatic 181, 3) := by decide +kernel
theorem dX5_span_35 : decode cX5_span 35 = .ok (.istore_n 1, 1) := by decide +kernel
theorem dX5_span_36 : decode cX5_span 36 = .ok (.iinc 2 1, 3) := by decide +kernel
theorem dX5_span_39 : decode cX5_span 39 = .ok (.goto (-34), 3) := by decide +kernel
theorem dX5_span_42 : decode cX5_span 42 = .ok (.iload_n 1, 1) := by decide +kernel
theorem dX5_span_43 : decode cX5_span 43 = .ok (.ireturn, 1) := by decide +kernel
set_option maxRecDepth 20000 in
theorem ggX5_shut_X5_leastHarmful : GoodIn wsX5_shut wsX5_leastHarmful := goodIn_r _ [6, 1, 7, 8, 9, 10, 5, 11, 12, 13, 14, 15, 16, 17, 18, 19, 20, 21, 22, 23, 24, 25, 26, 27, 28, 29, 30, 31, 32, 33, 34, 35, 36, 37, 38, 39, 40, 41, 42, 43, 44, 45, 46, 47, 48, 49, 50, 51, 52, 53, 54, 55, 56, 57, 58, 59, 60, 61, 62, 63, 64, 65, 66, 67, 68, 69, 70, 80, 81, 82, 83, 84, 85, 86, 87, 88, 89, 90, 91, 92, 93, 94, 95, 96, 97, 98, 99, 100, 101, 102, 103] (by decide +kernel) (by decide +kernel)
set_option maxRecDepth 20000 in
theorem gX5_shut_X5_leastHarmful : GoodIn wsX5_shut (wsV RX5 184 RX5 yX5_leastHarmful wsX5_leastHarmful) := goodIn_app (goodIn_of _ (by decide +kernel)) ggX5_shut_X5_leastHarmful
set_option maxRecDepth 20000 in
theorem ggX5_shut_X5_ableNow : GoodIn wsX5_shut wsX5_ableNow := goodIn_r _ [11, 1, 12, 13, 14, 15, 16, 17, 18, 19, 20, 21, 22, 23, 24, 25, 26, 27, 28, 29, 30, 31, 32, 33, 34, 35, 36, 80, 81, 82, 83, 84, 85, 86, 87, 88, 89, 99, 100, 101, 102, 103, 90, 91, 92, 93, 94, 95, 96, 97, 98] (by decide +kernel) (by decide +kernel)
set_option maxRecDepth 20000 in
theorem gX5_shut_X5_ableNow : GoodIn wsX5_shut (wsV RX5 107 RX5 yX5_ableNow wsX5_ableNow) := goodIn_app (goodIn_of _ (by decide +kernel)) ggX5_shut_X5_ableNow
set_option maxRecDepth 20000 in
theorem ggX5_shut_X5_coveredNow : GoodIn wsX5_shut wsX5_coveredNow := goodIn_r _ [40, 1, 12, 13, 41, 23, 24, 17, 25, 20, 26, 27, 28, 29, 30, 31, 80, 81, 82, 83, 84, 85, 86, 87, 88, 89, 99, 100, 101, 102, 103, 90, 91, 92, 93, 94, 95, 96, 97, 98] (by decide +kernel) (by decide +kernel)
set_option maxRecDepth 20000 in
theorem gX5_shut_X5_coveredNow : GoodIn wsX5_shut (wsV RX5 103 RX5 yX5_coveredNow wsX5_coveredNow) := goodIn_app (goodIn_of _ (by decide +kernel)) ggX5_shut_X5_coveredNow
set_option maxRecDepth 20000 in
theorem ggX5_shut_X0_harmUpper : GoodIn wsX5_shut wsX0_harmUpper := goodIn_r _ [45, 30, 46, 36, 47, 5, 48, 90, 91, 92, 93, 94, 95, 96, 97, 98] (by decide +kernel) (by decide +kernel)
set_option maxRecDepth 20000 in
theorem gX5_shut_X0_harmUpper : GoodIn wsX5_shut (wsV RX5 152 RX0 yX0_harmUpper wsX0_harmUpper) := goodIn_app (goodIn_of _ (by decide +kernel)) ggX5_shut_X0_harmUpper
set_option maxRecDepth 20000 in
theorem ggX5_shut_X0_shares : GoodIn wsX5_shut wsX0_shares := goodIn_r _ [52, 53, 54, 55, 56, 57, 58, 59, 17, 60, 30, 36, 47, 5, 48, 90, 91, 92, 93, 94, 95, 96, 97, 98] (by decide +kernel) (by decide +kernel)
set_option maxRecDepth 20000 in
theorem gX5_shut_X0_shares : GoodIn wsX5_shut (wsV RX5 155 RX0 yX0_shares wsX0_shares) := goodIn_app (goodIn_of _ (by decide +kernel)) ggX5_shut_X0_shares
set_option maxRecDepth 20000 in
theorem ggX5_shut_X5_partOf : GoodIn wsX5_shut wsX5_partOf := goodIn_r _ [73, 74, 75, 55, 76, 77, 78, 5, 79] (by decide +kernel) (by decide +kernel)
set_option maxRecDepth 20000 in
theorem gX5_shut_X5_partOf : GoodIn wsX5_shut (va_wsS RX5 158 yX5_partOf wsX5_partOf) := goodIn_app (goodIn_of _ (by decide +kernel)) ggX5_shut_X5_partOf
theorem dX5_shut_0 : decode cX5_shut 0 = .ok (.iload_n 1, 1) := by decide +kernel
theorem dX5_shut_1 : decode cX5_shut 1 = .ok (.ifCond .lt 18, 3) := by decide +kernel
theorem dX5_shut_4 : decode cX5_shut 4 = .ok (.iload_n 1, 1) := by decide +kernel
theorem dX5_shut_5 : decode cX5_shut 5 = .ok (.bipush 7, 2) := by decide +kernel
theorem dX5_shut_7 : decode cX5_shut 7 = .ok (.if_icmp .gt 12, 3) := by decide +kernel
theorem dX5_shut_10 : decode cX5_shut 10 = .ok (.iload_n 2, 1) := by decide +kernel
theorem dX5_shut_11 : decode cX5_shut 11 = .ok (.ifCond .lt 8, 3) := by decide +kernel
theorem dX5_shut_14 : decode cX5_shut 14 = .ok (.iload_n 2, 1) := by decide +kernel
theorem dX5_shut_15 : decode cX5_shut 15 = .ok (.iconst 2, 1) := by decide +kernel
theorem dX5_shut_16 : decode cX5_shut 16 = .ok (.if_icmp .le 5, 3) := by decide +kernel
theorem dX5_shut_19 : decode cX5_shut 19 = .ok (.iconst (-1), 1) := by decide +kernel
theorem dX5_shut_20 : decode cX5_shut 20 = .ok (.ireturn, 1) := by decide +kernel
theorem dX5_shut_21 : decode cX5_shut 21 = .ok (.aload_n 0, 1) := by decide +kernel
theorem dX5_shut_22 : decode cX5_shut 22 = .ok (.iload_n 1, 1) := by decide +kernel
theorem dX5_shut_23 : decode cX5_shut 23 = .ok (.invokevirtual 184, 3) := by decide +kernel
theorem dX5_shut_26 : decode cX5_shut 26 = .ok (.istore_n 3, 1) := by decide +kernel
theorem dX5_shut_27 : decode cX5_shut 27 = .ok (.iload_n 2, 1) := by decide +kernel
theorem dX5_shut_28 : decode cX5_shut 28 = .ok (.ifCond .ne 5, 3) := by decide +kernel
theorem dX5_shut_31 : decode cX5_shut 31 = .ok (.iload_n 3, 1) := by decide +kernel
theorem dX5_shut_32 : decode cX5_shut 32 = .ok (.ireturn, 1) := by decide +kernel
theorem dX5_shut_33 : decode cX5_shut 33 = .ok (.aload_n 0, 1) := by decide +kernel
theorem dX5_shut_34 : decode cX5_shut 34 = .ok (.invokevirtual 107, 3) := by decide +kernel
theorem dX5_shut_37 : decode cX5_shut 37 = .ok (.iload_n 3, 1) := by decide +kernel
theorem dX5_shut_38 : decode cX5_shut 38 = .ok (.iconst (-1), 1) := by decide +kernel
theorem dX5_shut_39 : decode cX5_shut 39 = .ok (.ixor, 1) := by decide +kernel
theorem dX5_shut_40 : decode cX5_shut 40 = .ok (.iand, 1) := by decide +kernel
theorem dX5_shut_41 : decode cX5_shut 41 = .ok (.istore 4, 2) := by decide +kernel
theorem dX5_shut_43 : decode cX5_shut 43 = .ok (.aload_n 0, 1) := by decide +kernel
theorem dX5_shut_44 : decode cX5_shut 44 = .ok (.getfield 10, 3) := by decide +kernel
theorem dX5_shut_47 : decode cX5_shut 47 = .ok (.iload 4, 2) := by decide +kernel
theorem dX5_shut_49 : decode cX5_shut 49 = .ok (.aload_n 0, 1) := by decide +kernel
theorem dX5_shut_50 : decode cX5_shut 50 = .ok (.invokevirtual 103, 3) := by decide +kernel
theorem dX5_shut_53 : decode cX5_shut 53 = .ok (.invokevirtual 152, 3) := by decide +kernel
theorem dX5_shut_56 : decode cX5_shut 56 = .ok (.aload_n 0, 1) := by decide +kernel
theorem dX5_shut_57 : decode cX5_shut 57 = .ok (.getfield 10, 3) := by decide +kernel
theorem dX5_shut_60 : decode cX5_shut 60 = .ok (.iload 4, 2) := by decide +kernel
theorem dX5_shut_62 : decode cX5_shut 62 = .ok (.invokevirtual 155, 3) := by decide +kernel
theorem dX5_shut_65 : decode cX5_shut 65 = .ok (.iload_n 2, 1) := by decide +kernel
theorem dX5_shut_66 : decode cX5_shut 66 = .ok (.iconst 1, 1) := by decide +kernel
theorem dX5_shut_67 : decode cX5_shut 67 = .ok (.isub, 1) := by decide +kernel
theorem dX5_shut_68 : decode cX5_shut 68 = .ok (.invokestatic 158, 3) := by decide +kernel
theorem dX5_shut_71 : decode cX5_shut 71 = .ok (.ireturn, 1) := by decide +kernel
set_option maxRecDepth 20000 in
theorem ggX5_tell_X5_ableNow : GoodIn wsX5_tell wsX5_ableNow := goodIn_r _ [6, 1, 7, 8, 9, 10, 11, 12, 13, 14, 15, 16, 17, 18, 19, 20, 21, 22, 23, 24, 25, 26, 27, 28, 29, 30, 31, 42, 43, 44, 45, 46, 47, 48, 49, 50, 51, 52, 53, 54, 55, 56, 57, 58, 59, 60, 61, 62, 63, 64, 65] (by decide +kernel) (by decide +kernel)
set_option maxRecDepth 20000 in
theorem gX5_tell_X5_ableNow : GoodIn wsX5_tell (wsV RX5 107 RX5 yX5_ableNow wsX5_ableNow) := goodIn_app (goodIn_of _ (by decide +kernel)) ggX5_tell_X5_ableNow
