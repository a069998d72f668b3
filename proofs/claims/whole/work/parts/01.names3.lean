theorem dX6_over_44 : decode cX6_over 44 = .ok (.aload_n 0, 1) := by decide +kernel
theorem dX6_over_45 : decode cX6_over 45 = .ok (.iconst 3, 1) := by decide +kernel
theorem dX6_over_46 : decode cX6_over 46 = .ok (.invokevirtual 60, 3) := by decide +kernel
theorem dX6_over_49 : decode cX6_over 49 = .ok (.ireturn, 1) := by decide +kernel
set_option maxRecDepth 20000 in
theorem ggX6_first_X6_isThere : GoodIn wsX6_first wsX6_isThere := goodIn_r _ [9, 2, 3, 10, 11, 8, 12, 119, 120, 121, 122, 123, 124, 125, 126, 127, 128, 129, 130, 131, 132, 133, 134, 135, 136, 137, 138] (by decide +kernel) (by decide +kernel)
set_option maxRecDepth 20000 in
theorem gX6_first_X6_isThere : GoodIn wsX6_first (wsV RX6 104 RX6 yX6_isThere wsX6_isThere) := goodIn_app (goodIn_of _ (by decide +kernel)) ggX6_first_X6_isThere
set_option maxRecDepth 20000 in
theorem ggX6_first_X6_isWithin : GoodIn wsX6_first wsX6_isWithin := goodIn_r _ [12] (by decide +kernel) (by decide +kernel)
set_option maxRecDepth 20000 in
theorem gX6_first_X6_isWithin : GoodIn wsX6_first (va_wsS RX6 56 yX6_isWithin wsX6_isWithin) := goodIn_app (goodIn_of _ (by decide +kernel)) ggX6_first_X6_isWithin
set_option maxRecDepth 20000 in
theorem ggX6_first_X6_finding : GoodIn wsX6_first wsX6_finding := goodIn_r _ [16, 17, 18, 119, 120, 121, 122, 123, 124, 125, 126, 127] (by decide +kernel) (by decide +kernel)
set_option maxRecDepth 20000 in
theorem gX6_first_X6_finding : GoodIn wsX6_first (wsV RX6 60 RX6 yX6_finding wsX6_finding) := goodIn_app (goodIn_of _ (by decide +kernel)) ggX6_first_X6_finding
set_option maxRecDepth 20000 in
theorem ggX6_first_X0_begin : GoodIn wsX6_first wsX0_begin := goodIn_r _ [23, 24, 139, 140] (by decide +kernel) (by decide +kernel)
set_option maxRecDepth 20000 in
theorem gX6_first_X0_begin : GoodIn wsX6_first (wsV RX6 182 RX0 yX0_begin wsX0_begin) := goodIn_app (goodIn_of _ (by decide +kernel)) ggX6_first_X0_begin
set_option maxRecDepth 20000 in
theorem ggX6_first_X4_become : GoodIn wsX6_first wsX4_become := goodIn_r _ [29, 30, 31, 32, 33, 34, 35, 36, 37, 38, 39, 40, 41, 42, 43, 128, 129, 130, 131, 132, 133, 134, 135, 136, 137, 138] (by decide +kernel) (by decide +kernel)
set_option maxRecDepth 20000 in
theorem gX6_first_X4_become : GoodIn wsX6_first (wsV RX6 175 RX4 yX4_become wsX4_become) := goodIn_app (goodIn_of _ (by decide +kernel)) ggX6_first_X4_become
set_option maxRecDepth 20000 in
theorem ggX6_first_X4_exchange : GoodIn wsX6_first wsX4_exchange := goodIn_r _ [47, 38, 48, 49, 50, 28, 51, 39, 52, 53, 54, 55, 40, 33, 56, 57, 58, 59, 60, 61, 62, 128, 129, 130, 131, 132, 133, 134, 135, 136, 137, 138] (by decide +kernel) (by decide +kernel)
set_option maxRecDepth 20000 in
theorem gX6_first_X4_exchange : GoodIn wsX6_first (wsV RX6 155 RX4 yX4_exchange wsX4_exchange) := goodIn_app (goodIn_of _ (by decide +kernel)) ggX6_first_X4_exchange
set_option maxRecDepth 20000 in
theorem ggX6_first_X4_goOn : GoodIn wsX6_first wsX4_goOn := goodIn_r _ [66, 43, 67, 68, 69, 28, 70, 32, 30, 71, 72, 73, 74, 33, 38, 75, 76, 61, 77, 78, 79, 80, 81, 82, 40, 83, 84, 20, 21, 22, 23, 24, 85, 86, 87, 88, 42, 89, 90, 91, 92, 41, 93, 94, 95, 96, 97, 98, 99, 100, 101, 102, 103, 104, 39, 31, 105, 106, 107, 108, 45, 46, 47, 48, 49, 50, 51, 52, 53, 54, 55, 56, 57, 58, 59, 60, 62, 128, 129, 130, 131, 132, 133, 134, 135, 136, 137, 138, 139, 140] (by decide +kernel) (by decide +kernel)
set_option maxRecDepth 20000 in
theorem gX6_first_X4_goOn : GoodIn wsX6_first (wsV RX6 171 RX4 yX4_goOn wsX4_goOn) := goodIn_app (goodIn_of _ (by decide +kernel)) ggX6_first_X4_goOn
set_option maxRecDepth 20000 in
theorem ggX6_first_X4_gladOf : GoodIn wsX6_first wsX4_gladOf := goodIn_r _ [112, 38, 85, 86, 87, 28, 88, 33, 42, 89, 90, 91, 92, 41, 93, 94, 61, 95, 128, 129, 130, 131, 132, 133, 134, 135, 136, 137, 138] (by decide +kernel) (by decide +kernel)
set_option maxRecDepth 20000 in
theorem gX6_first_X4_gladOf : GoodIn wsX6_first (wsV RX6 119 RX4 yX4_gladOf wsX4_gladOf) := goodIn_app (goodIn_of _ (by decide +kernel)) ggX6_first_X4_gladOf
set_option maxRecDepth 20000 in
theorem ggX6_first_X0_offer : GoodIn wsX6_first wsX0_offer := goodIn_r _ [99, 24, 100, 139, 140] (by decide +kernel) (by decide +kernel)
set_option maxRecDepth 20000 in
theorem gX6_first_X0_offer : GoodIn wsX6_first (wsV RX6 185 RX0 yX0_offer wsX0_offer) := goodIn_app (goodIn_of _ (by decide +kernel)) ggX6_first_X0_offer
set_option maxRecDepth 20000 in
theorem ggX6_first_X6_bestOrNone : GoodIn wsX6_first wsX6_bestOrNone := goodIn_r _ [117, 1, 118, 13, 14, 15, 8, 16, 17, 18, 119, 120, 121, 122, 123, 124, 125, 126, 127, 139, 140] (by decide +kernel) (by decide +kernel)
set_option maxRecDepth 20000 in
theorem gX6_first_X6_bestOrNone : GoodIn wsX6_first (wsV RX6 188 RX6 yX6_bestOrNone wsX6_bestOrNone) := goodIn_app (goodIn_of _ (by decide +kernel)) ggX6_first_X6_bestOrNone
theorem dX6_first_0 : decode cX6_first 0 = .ok (.aload_n 0, 1) := by decide +kernel
theorem dX6_first_1 : decode cX6_first 1 = .ok (.iload_n 1, 1) := by decide +kernel
theorem dX6_first_2 : decode cX6_first 2 = .ok (.invokevirtual 104, 3) := by decide +kernel
theorem dX6_first_5 : decode cX6_first 5 = .ok (.ifCond .eq 13, 3) := by decide +kernel
theorem dX6_first_8 : decode cX6_first 8 = .ok (.iload_n 2, 1) := by decide +kernel
theorem dX6_first_9 : decode cX6_first 9 = .ok (.iconst 0, 1) := by decide +kernel
theorem dX6_first_10 : decode cX6_first 10 = .ok (.bipush 40, 2) := by decide +kernel
theorem dX6_first_12 : decode cX6_first 12 = .ok (.invokestatic 56, 3) := by decide +kernel
theorem dX6_first_15 : decode cX6_first 15 = .ok (.ifCond .ne 9, 3) := by decide +kernel
theorem dX6_first_18 : decode cX6_first 18 = .ok (.aload_n 0, 1) := by decide +kernel
theorem dX6_first_19 : decode cX6_first 19 = .ok (.iconst 0, 1) := by decide +kernel
theorem dX6_first_20 : decode cX6_first 20 = .ok (.invokevirtual 60, 3) := by decide +kernel
theorem dX6_first_23 : decode cX6_first 23 = .ok (.ireturn, 1) := by decide +kernel
theorem dX6_first_24 : decode cX6_first 24 = .ok (.aload_n 0, 1) := by decide +kernel
theorem dX6_first_25 : decode cX6_first 25 = .ok (.getfield 25, 3) := by decide +kernel
theorem dX6_first_28 : decode cX6_first 28 = .ok (.invokevirtual 182, 3) := by decide +kernel
theorem dX6_first_31 : decode cX6_first 31 = .ok (.iconst 0, 1) := by decide +kernel
theorem dX6_first_32 : decode cX6_first 32 = .ok (.istore_n 3, 1) := by decide +kernel
theorem dX6_first_33 : decode cX6_first 33 = .ok (.iload_n 3, 1) := by decide +kernel
theorem dX6_first_34 : decode cX6_first 34 = .ok (.aload_n 0, 1) := by decide +kernel
theorem dX6_first_35 : decode cX6_first 35 = .ok (.getfield 10, 3) := by decide +kernel
theorem dX6_first_38 : decode cX6_first 38 = .ok (.getfield 158, 3) := by decide +kernel
theorem dX6_first_41 : decode cX6_first 41 = .ok (.if_icmp .ge 58, 3) := by decide +kernel
theorem dX6_first_44 : decode cX6_first 44 = .ok (.iload_n 3, 1) := by decide +kernel
theorem dX6_first_45 : decode cX6_first 45 = .ok (.iload_n 1, 1) := by decide +kernel
theorem dX6_first_46 : decode cX6_first 46 = .ok (.if_icmp .eq 47, 3) := by decide +kernel
theorem dX6_first_49 : decode cX6_first 49 = .ok (.aload_n 0, 1) := by decide +kernel
theorem dX6_first_50 : decode cX6_first 50 = .ok (.getfield 19, 3) := by decide +kernel
theorem dX6_first_53 : decode cX6_first 53 = .ok (.aload_n 0, 1) := by decide +kernel
theorem dX6_first_54 : decode cX6_first 54 = .ok (.getfield 10, 3) := by decide +kernel
theorem dX6_first_57 : decode cX6_first 57 = .ok (.invokevirtual 175, 3) := by decide +kernel
theorem dX6_first_60 : decode cX6_first 60 = .ok (.aload_n 0, 1) := by decide +kernel
theorem dX6_first_61 : decode cX6_first 61 = .ok (.getfield 19, 3) := by decide +kernel
theorem dX6_first_64 : decode cX6_first 64 = .ok (.iload_n 1, 1) := by decide +kernel
theorem dX6_first_65 : decode cX6_first 65 = .ok (.iload_n 3, 1) := by decide +kernel
theorem dX6_first_66 : decode cX6_first 66 = .ok (.invokevirtual 155, 3) := by decide +kernel
theorem dX6_first_69 : decode cX6_first 69 = .ok (.aload_n 0, 1) := by decide +kernel
theorem dX6_first_70 : decode cX6_first 70 = .ok (.getfield 19, 3) := by decide +kernel
theorem dX6_first_73 : decode cX6_first 73 = .ok (.iload_n 2, 1) := by decide +kernel
theorem dX6_first_74 : decode cX6_first 74 = .ok (.invokevirtual 171, 3) := by decide +kernel
theorem dX6_first_77 : decode cX6_first 77 = .ok (.aload_n 0, 1) := by decide +kernel
theorem dX6_first_78 : decode cX6_first 78 = .ok (.getfield 25, 3) := by decide +kernel
theorem dX6_first_81 : decode cX6_first 81 = .ok (.iload_n 3, 1) := by decide +kernel
theorem dX6_first_82 : decode cX6_first 82 = .ok (.aload_n 0, 1) := by decide +kernel
theorem dX6_first_83 : decode cX6_first 83 = .ok (.getfield 19, 3) := by decide +kernel
theorem dX6_first_86 : decode cX6_first 86 = .ok (.iload_n 1, 1) := by decide +kernel
theorem dX6_first_87 : decode cX6_first 87 = .ok (.invokevirtual 119, 3) := by decide +kernel
theorem dX6_first_90 : decode cX6_first 90 = .ok (.invokevirtual 185, 3) := by decide +kernel
theorem dX6_first_93 : decode cX6_first 93 = .ok (.iinc 3 1, 3) := by decide +kernel
theorem dX6_first_96 : decode cX6_first 96 = .ok (.goto (-63), 3) := by decide +kernel
theorem dX6_first_99 : decode cX6_first 99 = .ok (.aload_n 0, 1) := by decide +kernel
theorem dX6_first_100 : decode cX6_first 100 = .ok (.invokevirtual 188, 3) := by decide +kernel
theorem dX6_first_103 : decode cX6_first 103 = .ok (.ireturn, 1) := by decide +kernel
set_option maxRecDepth 20000 in
theorem ggX6_bring_X6_isThere : GoodIn wsX6_bring wsX6_isThere := goodIn_r _ [8, 3, 9, 10, 11, 7, 12, 122, 123, 124, 125, 126, 127, 128, 129, 130, 131, 132, 133, 134, 135, 136, 137, 138, 139, 140, 141] (by decide +kernel) (by decide +kernel)
set_option maxRecDepth 20000 in
theorem gX6_bring_X6_isThere : GoodIn wsX6_bring (wsV RX6 104 RX6 yX6_isThere wsX6_isThere) := goodIn_app (goodIn_of _ (by decide +kernel)) ggX6_bring_X6_isThere
set_option maxRecDepth 20000 in
theorem ggX6_bring_X6_isWithin : GoodIn wsX6_bring wsX6_isWithin := goodIn_r _ [12] (by decide +kernel) (by decide +kernel)
set_option maxRecDepth 20000 in
theorem gX6_bring_X6_isWithin : GoodIn wsX6_bring (va_wsS RX6 56 yX6_isWithin wsX6_isWithin) := goodIn_app (goodIn_of _ (by decide +kernel)) ggX6_bring_X6_isWithin
set_option maxRecDepth 20000 in
theorem ggX6_bring_X6_finding : GoodIn wsX6_bring wsX6_finding := goodIn_r _ [16, 17, 18, 122, 123, 124, 125, 126, 127, 128, 129, 130] (by decide +kernel) (by decide +kernel)
set_option maxRecDepth 20000 in
theorem gX6_bring_X6_finding : GoodIn wsX6_bring (wsV RX6 60 RX6 yX6_finding wsX6_finding) := goodIn_app (goodIn_of _ (by decide +kernel)) ggX6_bring_X6_finding
set_option maxRecDepth 20000 in
theorem ggX6_bring_X0_begin : GoodIn wsX6_bring wsX0_begin := goodIn_r _ [23, 24, 142, 143] (by decide +kernel) (by decide +kernel)
set_option maxRecDepth 20000 in
theorem gX6_bring_X0_begin : GoodIn wsX6_bring (wsV RX6 182 RX0 yX0_begin wsX0_begin) := goodIn_app (goodIn_of _ (by decide +kernel)) ggX6_bring_X0_begin
set_option maxRecDepth 20000 in
theorem ggX6_bring_X4_become : GoodIn wsX6_bring wsX4_become := goodIn_r _ [29, 30, 31, 32, 33, 34, 35, 36, 37, 38, 39, 40, 41, 42, 43, 131, 132, 133, 134, 135, 136, 137, 138, 139, 140, 141] (by decide +kernel) (by decide +kernel)
set_option maxRecDepth 20000 in
theorem gX6_bring_X4_become : GoodIn wsX6_bring (wsV RX6 175 RX4 yX4_become wsX4_become) := goodIn_app (goodIn_of _ (by decide +kernel)) ggX6_bring_X4_become
set_option maxRecDepth 20000 in
theorem ggX6_bring_X4_give : GoodIn wsX6_bring wsX4_give := goodIn_r _ [47, 42, 38, 131, 132, 133, 134, 135, 136, 137, 138, 139, 140, 141] (by decide +kernel) (by decide +kernel)
set_option maxRecDepth 20000 in
theorem gX6_bring_X4_give : GoodIn wsX6_bring (wsV RX6 131 RX4 yX4_give wsX4_give) := goodIn_app (goodIn_of _ (by decide +kernel)) ggX6_bring_X4_give
set_option maxRecDepth 20000 in
theorem ggX6_bring_X4_goOn : GoodIn wsX6_bring wsX4_goOn := goodIn_r _ [51, 43, 52, 53, 54, 28, 55, 32, 30, 56, 57, 58, 59, 33, 38, 60, 61, 62, 63, 64, 65, 66, 67, 68, 40, 69, 70, 20, 21, 22, 23, 24, 71, 72, 73, 74, 42, 75, 76, 77, 78, 41, 79, 80, 81, 82, 83, 84, 85, 86, 87, 88, 89, 90, 39, 31, 91, 92, 93, 94, 95, 96, 97, 98, 99, 100, 101, 102, 103, 104, 105, 106, 107, 108, 109, 110, 111, 131, 132, 133, 134, 135, 136, 137, 138, 139, 140, 141, 142, 143] (by decide +kernel) (by decide +kernel)
set_option maxRecDepth 20000 in
theorem gX6_bring_X4_goOn : GoodIn wsX6_bring (wsV RX6 171 RX4 yX4_goOn wsX4_goOn) := goodIn_app (goodIn_of _ (by decide +kernel)) ggX6_bring_X4_goOn
set_option maxRecDepth 20000 in
theorem ggX6_bring_X4_gladOf : GoodIn wsX6_bring wsX4_gladOf := goodIn_r _ [115, 38, 71, 72, 73, 28, 74, 33, 42, 75, 76, 77, 78, 41, 79, 80, 62, 81, 131, 132, 133, 134, 135, 136, 137, 138, 139, 140, 141] (by decide +kernel) (by decide +kernel)
set_option maxRecDepth 20000 in
theorem gX6_bring_X4_gladOf : GoodIn wsX6_bring (wsV RX6 119 RX4 yX4_gladOf wsX4_gladOf) := goodIn_app (goodIn_of _ (by decide +kernel)) ggX6_bring_X4_gladOf
set_option maxRecDepth 20000 in
theorem ggX6_bring_X0_offer : GoodIn wsX6_bring wsX0_offer := goodIn_r _ [85, 24, 86, 142, 143] (by decide +kernel) (by decide +kernel)
set_option maxRecDepth 20000 in
theorem gX6_bring_X0_offer : GoodIn wsX6_bring (wsV RX6 185 RX0 yX0_offer wsX0_offer) := goodIn_app (goodIn_of _ (by decide +kernel)) ggX6_bring_X0_offer
set_option maxRecDepth 20000 in
theorem ggX6_bring_X6_bestOrNone : GoodIn wsX6_bring wsX6_bestOrNone := goodIn_r _ [120, 1, 121, 13, 14, 15, 7, 16, 17, 18, 122, 123, 124, 125, 126, 127, 128, 129, 130, 142, 143] (by decide +kernel) (by decide +kernel)
set_option maxRecDepth 20000 in
theorem gX6_bring_X6_bestOrNone : GoodIn wsX6_bring (wsV RX6 188 RX6 yX6_bestOrNone wsX6_bestOrNone) := goodIn_app (goodIn_of _ (by decide +kernel)) ggX6_bring_X6_bestOrNone
theorem dX6_bring_0 : decode cX6_bring 0 = .ok (.aload_n 0, 1) := by decide +kernel
theorem dX6_bring_1 : decode cX6_bring 1 = .ok (.iload_n 1, 1) := by decide +kernel
theorem dX6_bring_2 : decode cX6_bring 2 = .ok (.invokevirtual 104, 3) := by decide +kernel
theorem dX6_bring_5 : decode cX6_bring 5 = .ok (.ifCond .eq 13, 3) := by decide +kernel
theorem dX6_bring_8 : decode cX6_bring 8 = .ok (.iload_n 2, 1) := by decide +kernel
theorem dX6_bring_9 : decode cX6_bring 9 = .ok (.iconst 0, 1) := by decide +kernel
theorem dX6_bring_10 : decode cX6_bring 10 = .ok (.bipush 40, 2) := by decide +kernel
theorem dX6_bring_12 : decode cX6_bring 12 = .ok (.invokestatic 56, 3) := by decide +kernel
theorem dX6_bring_15 : decode cX6_bring 15 = .ok (.ifCond .ne 9, 3) := by decide +kernel
theorem dX6_bring_18 : decode cX6_bring 18 = .ok (.aload_n 0, 1) := by decide +kernel
theorem dX6_bring_19 : decode cX6_bring 19 = .ok (.iconst 0, 1) := by decide +kernel
theorem dX6_bring_20 : decode cX6_bring 20 = .ok (.invokevirtual 60, 3) := by decide +kernel
theorem dX6_bring_23 : decode cX6_bring 23 = .ok (.ireturn, 1) := by decide +kernel
theorem dX6_bring_24 : decode cX6_bring 24 = .ok (.aload_n 0, 1) := by decide +kernel
theorem dX6_bring_25 : decode cX6_bring 25 = .ok (.getfield 25, 3) := by decide +kernel
theorem dX6_bring_28 : decode cX6_bring 28 = .ok (.invokevirtual 182, 3) := by decide +kernel
theorem dX6_bring_31 : decode cX6_bring 31 = .ok (.iconst 0, 1) := by decide +kernel
theorem dX6_bring_32 : decode cX6_bring 32 = .ok (.istore_n 3, 1) := by decide +kernel
theorem dX6_bring_33 : decode cX6_bring 33 = .ok (.iload_n 3, 1) := by decide +kernel
theorem dX6_bring_34 : decode cX6_bring 34 = .ok (.bipush 10, 2) := by decide +kernel
theorem dX6_bring_36 : decode cX6_bring 36 = .ok (.if_icmp .ge 53, 3) := by decide +kernel
theorem dX6_bring_39 : decode cX6_bring 39 = .ok (.aload_n 0, 1) := by decide +kernel
theorem dX6_bring_40 : decode cX6_bring 40 = .ok (.getfield 19, 3) := by decide +kernel
theorem dX6_bring_43 : decode cX6_bring 43 = .ok (.aload_n 0, 1) := by decide +kernel
theorem dX6_bring_44 : decode cX6_bring 44 = .ok (.getfield 10, 3) := by decide +kernel
theorem dX6_bring_47 : decode cX6_bring 47 = .ok (.invokevirtual 175, 3) := by decide +kernel
theorem dX6_bring_50 : decode cX6_bring 50 = .ok (.aload_n 0, 1) := by decide +kernel
theorem dX6_bring_51 : decode cX6_bring 51 = .ok (.getfield 19, 3) := by decide +kernel
theorem dX6_bring_54 : decode cX6_bring 54 = .ok (.iload_n 1, 1) := by decide +kernel
theorem dX6_bring_55 : decode cX6_bring 55 = .ok (.iload_n 3, 1) := by decide +kernel
theorem dX6_bring_56 : decode cX6_bring 56 = .ok (.invokevirtual 131, 3) := by decide +kernel
theorem dX6_bring_59 : decode cX6_bring 59 = .ok (.aload_n 0, 1) := by decide +kernel
theorem dX6_bring_60 : decode cX6_bring 60 = .ok (.getfield 19, 3) := by decide +kernel
theorem dX6_bring_63 : decode cX6_bring 63 = .ok (.iload_n 2, 1) := by decide +kernel
theorem dX6_bring_64 : decode cX6_bring 64 = .ok (.invokevirtual 171, 3) := by decide +kernel
theorem dX6_bring_67 : decode cX6_bring 67 = .ok (.aload_n 0, 1) := by decide +kernel
theorem dX6_bring_68 : decode cX6_bring 68 = .ok (.getfield 25, 3) := by decide +kernel
theorem dX6_bring_71 : decode cX6_bring 71 = .ok (.iload_n 3, 1) := by decide +kernel
theorem dX6_bring_72 : decode cX6_bring 72 = .ok (.aload_n 0, 1) := by decide +kernel
theorem dX6_bring_73 : decode cX6_bring 73 = .ok (.getfield 19, 3) := by decide +kernel
theorem dX6_bring_76 : decode cX6_bring 76 = .ok (.iload_n 1, 1) := by decide +kernel
theorem dX6_bring_77 : decode cX6_bring 77 = .ok (.invokevirtual 119, 3) := by decide +kernel
theorem dX6_bring_80 : decode cX6_bring 80 = .ok (.invokevirtual 185, 3) := by decide +kernel
theorem dX6_bring_83 : decode cX6_bring 83 = .ok (.iinc 3 1, 3) := by decide +kernel
theorem dX6_bring_86 : decode cX6_bring 86 = .ok (.goto (-53), 3) := by decide +kernel
theorem dX6_bring_89 : decode cX6_bring 89 = .ok (.aload_n 0, 1) := by decide +kernel
theorem dX6_bring_90 : decode cX6_bring 90 = .ok (.invokevirtual 188, 3) := by decide +kernel
theorem dX6_bring_93 : decode cX6_bring 93 = .ok (.ireturn, 1) := by decide +kernel
set_option maxRecDepth 20000 in
theorem ggX6_kind_X6_isThere : GoodIn wsX6_kind wsX6_isThere := goodIn_r _ [10, 3, 11, 12, 13, 9, 14, 117, 118, 119, 120, 121, 122, 123, 124, 125, 126, 127, 128, 129, 130, 131, 132, 133, 134, 135, 136] (by decide +kernel) (by decide +kernel)
set_option maxRecDepth 20000 in
theorem gX6_kind_X6_isThere : GoodIn wsX6_kind (wsV RX6 104 RX6 yX6_isThere wsX6_isThere) := goodIn_app (goodIn_of _ (by decide +kernel)) ggX6_kind_X6_isThere
set_option maxRecDepth 20000 in
theorem ggX6_kind_X6_isWithin : GoodIn wsX6_kind wsX6_isWithin := goodIn_r _ [14] (by decide +kernel) (by decide +kernel)
set_option maxRecDepth 20000 in
theorem gX6_kind_X6_isWithin : GoodIn wsX6_kind (va_wsS RX6 56 yX6_isWithin wsX6_isWithin) := goodIn_app (goodIn_of _ (by decide +kernel)) ggX6_kind_X6_isWithin
set_option maxRecDepth 20000 in
theorem ggX6_kind_X6_finding : GoodIn wsX6_kind wsX6_finding := goodIn_r _ [18, 19, 20, 117, 118, 119, 120, 121, 122, 123, 124, 125] (by decide +kernel) (by decide +kernel)
set_option maxRecDepth 20000 in
theorem gX6_kind_X6_finding : GoodIn wsX6_kind (wsV RX6 60 RX6 yX6_finding wsX6_finding) := goodIn_app (goodIn_of _ (by decide +kernel)) ggX6_kind_X6_finding
set_option maxRecDepth 20000 in
theorem ggX6_kind_X0_begin : GoodIn wsX6_kind wsX0_begin := goodIn_r _ [25, 26, 137, 138] (by decide +kernel) (by decide +kernel)
set_option maxRecDepth 20000 in
theorem gX6_kind_X0_begin : GoodIn wsX6_kind (wsV RX6 182 RX0 yX0_begin wsX0_begin) := goodIn_app (goodIn_of _ (by decide +kernel)) ggX6_kind_X0_begin
set_option maxRecDepth 20000 in
theorem ggX6_kind_X4_become : GoodIn wsX6_kind wsX4_become := goodIn_r _ [31, 32, 33, 34, 35, 36, 37, 38, 39, 40, 41, 42, 43, 44, 45, 126, 127, 128, 129, 130, 131, 132, 133, 134, 135, 136] (by decide +kernel) (by decide +kernel)
set_option maxRecDepth 20000 in
theorem gX6_kind_X4_become : GoodIn wsX6_kind (wsV RX6 175 RX4 yX4_become wsX4_become) := goodIn_app (goodIn_of _ (by decide +kernel)) ggX6_kind_X4_become
set_option maxRecDepth 20000 in
theorem ggX6_kind_X4_goOn : GoodIn wsX6_kind wsX4_goOn := goodIn_r _ [49, 45, 50, 51, 52, 30, 53, 34, 32, 54, 55, 56, 57, 35, 40, 58, 59, 60, 61, 62, 63, 64, 65, 66, 42, 67, 68, 22, 23, 24, 25, 26, 69, 70, 71, 72, 44, 73, 74, 75, 76, 43, 77, 78, 79, 80, 81, 82, 83, 84, 85, 86, 87, 88, 41, 33, 89, 90, 91, 92, 93, 94, 95, 96, 97, 98, 99, 100, 101, 102, 103, 104, 105, 106, 107, 108, 109, 126, 127, 128, 129, 130, 131, 132, 133, 134, 135, 136, 137, 138] (by decide +kernel) (by decide +kernel)
set_option maxRecDepth 20000 in
theorem gX6_kind_X4_goOn : GoodIn wsX6_kind (wsV RX6 171 RX4 yX4_goOn wsX4_goOn) := goodIn_app (goodIn_of _ (by decide +kernel)) ggX6_kind_X4_goOn
set_option maxRecDepth 20000 in
theorem ggX6_kind_X4_likedBy : GoodIn wsX6_kind wsX4_likedBy := goodIn_r _ [76, 43, 126, 127, 128, 129, 130, 131, 132, 133, 134, 135, 136] (by decide +kernel) (by decide +kernel)
set_option maxRecDepth 20000 in
theorem gX6_kind_X4_likedBy : GoodIn wsX6_kind (wsV RX6 135 RX4 yX4_likedBy wsX4_likedBy) := goodIn_app (goodIn_of _ (by decide +kernel)) ggX6_kind_X4_likedBy
set_option maxRecDepth 20000 in
theorem ggX6_kind_X0_offer : GoodIn wsX6_kind wsX0_offer := goodIn_r _ [83, 26, 84, 137, 138] (by decide +kernel) (by decide +kernel)
set_option maxRecDepth 20000 in
theorem gX6_kind_X0_offer : GoodIn wsX6_kind (wsV RX6 185 RX0 yX0_offer wsX0_offer) := goodIn_app (goodIn_of _ (by decide +kernel)) ggX6_kind_X0_offer
set_option maxRecDepth 20000 in
theorem ggX6_kind_X6_bestOrNone : GoodIn wsX6_kind wsX6_bestOrNone := goodIn_r _ [115, 1, 116, 15, 16, 17, 9, 18, 19, 20, 117, 118, 119, 120, 121, 122, 123, 124, 125, 137, 138] (by decide +kernel) (by decide +kernel)
set_option maxRecDepth 20000 in
theorem gX6_kind_X6_bestOrNone : GoodIn wsX6_kind (wsV RX6 188 RX6 yX6_bestOrNone wsX6_bestOrNone) := goodIn_app (goodIn_of _ (by decide +kernel)) ggX6_kind_X6_bestOrNone
theorem dX6_kind_0 : decode cX6_kind 0 = .ok (.aload_n 0, 1) := by decide +kernel
theorem dX6_kind_1 : decode cX6_kind 1 = .ok (.iload_n 1, 1) := by decide +kernel
theorem dX6_kind_2 : decode cX6_kind 2 = .ok (.invokevirtual 104, 3) := by decide +kernel
theorem dX6_kind_5 : decode cX6_kind 5 = .ok (.ifCond .eq 13, 3) := by decide +kernel
theorem dX6_kind_8 : decode cX6_kind 8 = .ok (.iload_n 2, 1) := by decide +kernel
theorem dX6_kind_9 : decode cX6_kind 9 = .ok (.iconst 0, 1) := by decide +kernel
theorem dX6_kind_10 : decode cX6_kind 10 = .ok (.bipush 40, 2) := by decide +kernel
theorem dX6_kind_12 : decode cX6_kind 12 = .ok (.invokestatic 56, 3) := by decide +kernel
theorem dX6_kind_15 : decode cX6_kind 15 = .ok (.ifCond .ne 9, 3) := by decide +kernel
theorem dX6_kind_18 : decode cX6_kind 18 = .ok (.aload_n 0, 1) := by decide +kernel
theorem dX6_kind_19 : decode cX6_kind 19 = .ok (.iconst 0, 1) := by decide +kernel
theorem dX6_kind_20 : decode cX6_kind 20 = .ok (.invokevirtual 60, 3) := by decide +kernel
theorem dX6_kind_23 : decode cX6_kind 23 = .ok (.ireturn, 1) := by decide +kernel
theorem dX6_kind_24 : decode cX6_kind 24 = .ok (.aload_n 0, 1) := by decide +kernel
theorem dX6_kind_25 : decode cX6_kind 25 = .ok (.getfield 25, 3) := by decide +kernel
theorem dX6_kind_28 : decode cX6_kind 28 = .ok (.invokevirtual 182, 3) := by decide +kernel
theorem dX6_kind_31 : decode cX6_kind 31 = .ok (.iconst 0, 1) := by decide +kernel
theorem dX6_kind_32 : decode cX6_kind 32 = .ok (.istore_n 3, 1) := by decide +kernel
theorem dX6_kind_33 : decode cX6_kind 33 = .ok (.iload_n 3, 1) := by decide +kernel
theorem dX6_kind_34 : decode cX6_kind 34 = .ok (.bipush 6, 2) := by decide +kernel
theorem dX6_kind_36 : decode cX6_kind 36 = .ok (.if_icmp .ge 63, 3) := by decide +kernel
theorem dX6_kind_39 : decode cX6_kind 39 = .ok (.aload_n 0, 1) := by decide +kernel
theorem dX6_kind_40 : decode cX6_kind 40 = .ok (.getfield 19, 3) := by decide +kernel
theorem dX6_kind_43 : decode cX6_kind 43 = .ok (.aload_n 0, 1) := by decide +kernel
theorem dX6_kind_44 : decode cX6_kind 44 = .ok (.getfield 10, 3) := by decide +kernel
theorem dX6_kind_47 : decode cX6_kind 47 = .ok (.invokevirtual 175, 3) := by decide +kernel
theorem dX6_kind_50 : decode cX6_kind 50 = .ok (.aload_n 0, 1) := by decide +kernel
theorem dX6_kind_51 : decode cX6_kind 51 = .ok (.getfield 19, 3) := by decide +kernel
theorem dX6_kind_54 : decode cX6_kind 54 = .ok (.getfield 107, 3) := by decide +kernel
theorem dX6_kind_57 : decode cX6_kind 57 = .ok (.iload_n 1, 1) := by decide +kernel
theorem dX6_kind_58 : decode cX6_kind 58 = .ok (.iload_n 3, 1) := by decide +kernel
theorem dX6_kind_59 : decode cX6_kind 59 = .ok (.iastore, 1) := by decide +kernel
theorem dX6_kind_60 : decode cX6_kind 60 = .ok (.aload_n 0, 1) := by decide +kernel
theorem dX6_kind_61 : decode cX6_kind 61 = .ok (.getfield 19, 3) := by decide +kernel
theorem dX6_kind_64 : decode cX6_kind 64 = .ok (.iload_n 2, 1) := by decide +kernel
theorem dX6_kind_65 : decode cX6_kind 65 = .ok (.invokevirtual 171, 3) := by decide +kernel
theorem dX6_kind_68 : decode cX6_kind 68 = .ok (.aload_n 0, 1) := by decide +kernel
theorem dX6_kind_69 : decode cX6_kind 69 = .ok (.getfield 25, 3) := by decide +kernel
theorem dX6_kind_72 : decode cX6_kind 72 = .ok (.iload_n 3, 1) := by decide +kernel
theorem dX6_kind_73 : decode cX6_kind 73 = .ok (.aload_n 0, 1) := by decide +kernel
theorem dX6_kind_74 : decode cX6_kind 74 = .ok (.getfield 19, 3) := by decide +kernel
theorem dX6_kind_77 : decode cX6_kind 77 = .ok (.iload_n 1, 1) := by decide +kernel
theorem dX6_kind_78 : decode cX6_kind 78 = .ok (.aload_n 0, 1) := by decide +kernel
theorem dX6_kind_79 : decode cX6_kind 79 = .ok (.getfield 19, 3) := by decide +kernel
theorem dX6_kind_82 : decode cX6_kind 82 = .ok (.getfield 110, 3) := by decide +kernel
theorem dX6_kind_85 : decode cX6_kind 85 = .ok (.iload_n 1, 1) := by decide +kernel
theorem dX6_kind_86 : decode cX6_kind 86 = .ok (.iaload, 1) := by decide +kernel
theorem dX6_kind_87 : decode cX6_kind 87 = .ok (.invokevirtual 135, 3) := by decide +kernel
theorem dX6_kind_90 : decode cX6_kind 90 = .ok (.invokevirtual 185, 3) := by decide +kernel
theorem dX6_kind_93 : decode cX6_kind 93 = .ok (.iinc 3 1, 3) := by decide +kernel
theorem dX6_kind_96 : decode cX6_kind 96 = .ok (.goto (-63), 3) := by decide +kernel
theorem dX6_kind_99 : decode cX6_kind 99 = .ok (.aload_n 0, 1) := by decide +kernel
theorem dX6_kind_100 : decode cX6_kind 100 = .ok (.invokevirtual 188, 3) := by decide +kernel
theorem dX6_kind_103 : decode cX6_kind 103 = .ok (.ireturn, 1) := by decide +kernel
set_option maxRecDepth 20000 in
theorem ggX6_trust_X6_isThere : GoodIn wsX6_trust wsX6_isThere := goodIn_r _ [8, 2, 9, 10, 11, 7, 12, 111, 112, 113, 114, 115, 116, 117, 118, 119, 120, 121, 122, 123, 124, 125, 126, 127, 128, 129, 130] (by decide +kernel) (by decide +kernel)
set_option maxRecDepth 20000 in
theorem gX6_trust_X6_isThere : GoodIn wsX6_trust (wsV RX6 104 RX6 yX6_isThere wsX6_isThere) := goodIn_app (goodIn_of _ (by decide +kernel)) ggX6_trust_X6_isThere
set_option maxRecDepth 20000 in
theorem ggX6_trust_X6_isWithin : GoodIn wsX6_trust wsX6_isWithin := goodIn_r _ [12] (by decide +kernel) (by decide +kernel)
set_option maxRecDepth 20000 in
theorem gX6_trust_X6_isWithin : GoodIn wsX6_trust (va_wsS RX6 56 yX6_isWithin wsX6_isWithin) := goodIn_app (goodIn_of _ (by decide +kernel)) ggX6_trust_X6_isWithin
set_option maxRecDepth 20000 in
theorem ggX6_trust_X6_finding : GoodIn wsX6_trust wsX6_finding := goodIn_r _ [16, 17, 18, 111, 112, 113, 114, 115, 116, 117, 118, 119] (by decide +kernel) (by decide +kernel)
set_option maxRecDepth 20000 in
theorem gX6_trust_X6_finding : GoodIn wsX6_trust (wsV RX6 60 RX6 yX6_finding wsX6_finding) := goodIn_app (goodIn_of _ (by decide +kernel)) ggX6_trust_X6_finding
set_option maxRecDepth 20000 in
theorem ggX6_trust_X4_become : GoodIn wsX6_trust wsX4_become := goodIn_r _ [23, 24, 25, 26, 27, 28, 29, 30, 31, 32, 33, 34, 35, 36, 37, 120, 121, 122, 123, 124, 125, 126, 127, 128, 129, 130] (by decide +kernel) (by decide +kernel)
set_option maxRecDepth 20000 in
theorem gX6_trust_X4_become : GoodIn wsX6_trust (wsV RX6 175 RX4 yX4_become wsX4_become) := goodIn_app (goodIn_of _ (by decide +kernel)) ggX6_trust_X4_become
set_option maxRecDepth 20000 in
theorem ggX6_trust_X4_goOn : GoodIn wsX6_trust wsX4_goOn := goodIn_r _ [41, 37, 42, 43, 44, 22, 45, 26, 24, 46, 47, 48, 49, 27, 32, 50, 51, 52, 53, 54, 55, 56, 57, 58, 34, 59, 60, 61, 62, 63, 64, 65, 66, 67, 68, 69, 36, 70, 71, 72, 73, 35, 74, 75, 76, 77, 78, 79, 80, 81, 82, 83, 84, 85, 33, 25, 86, 87, 88, 89, 90, 91, 92, 93, 94, 95, 96, 97, 98, 99, 100, 101, 102, 103, 104, 105, 106, 120, 121, 122, 123, 124, 125, 126, 127, 128, 129, 130, 131, 132] (by decide +kernel) (by decide +kernel)
set_option maxRecDepth 20000 in
theorem gX6_trust_X4_goOn : GoodIn wsX6_trust (wsV RX6 171 RX4 yX4_goOn wsX4_goOn) := goodIn_app (goodIn_of _ (by decide +kernel)) ggX6_trust_X4_goOn
set_option maxRecDepth 20000 in
theorem ggX6_trust_X4_gladOf : GoodIn wsX6_trust wsX4_gladOf := goodIn_r _ [110, 32, 66, 67, 68, 22, 69, 27, 36, 70, 71, 72, 73, 35, 74, 75, 52, 76, 120, 121, 122, 123, 124, 125, 126, 127, 128, 129, 130] (by decide +kernel) (by decide +kernel)
set_option maxRecDepth 20000 in
theorem gX6_trust_X4_gladOf : GoodIn wsX6_trust (wsV RX6 119 RX4 yX4_gladOf wsX4_gladOf) := goodIn_app (goodIn_of _ (by decide +kernel)) ggX6_trust_X4_gladOf
theorem dX6_trust_0 : decode cX6_trust 0 = .ok (.aload_n 0, 1) := by decide +kernel
theorem dX6_trust_1 : decode cX6_trust 1 = .ok (.iload_n 1, 1) := by decide +kernel
theorem dX6_trust_2 : decode cX6_trust 2 = .ok (.invokevirtual 104, 3) := by decide +kernel
theorem dX6_trust_5 : decode cX6_trust 5 = .ok (.ifCond .eq 24, 3) := by decide +kernel
theorem dX6_trust_8 : decode cX6_trust 8 = .ok (.iload_n 2, 1) := by decide +kernel
theorem dX6_trust_9 : decode cX6_trust 9 = .ok (.iconst 0, 1) := by decide +kernel
theorem dX6_trust_10 : decode cX6_trust 10 = .ok (.bipush 40, 2) := by decide +kernel
theorem dX6_trust_12 : decode cX6_trust 12 = .ok (.invokestatic 56, 3) := by decide +kernel
theorem dX6_trust_15 : decode cX6_trust 15 = .ok (.ifCond .eq 14, 3) := by decide +kernel
theorem dX6_trust_18 : decode cX6_trust 18 = .ok (.iload_n 3, 1) := by decide +kernel
theorem dX6_trust_19 : decode cX6_trust 19 = .ok (.bipush (-20), 2) := by decide +kernel
theorem dX6_trust_21 : decode cX6_trust 21 = .ok (.bipush 40, 2) := by decide +kernel
theorem dX6_trust_23 : decode cX6_trust 23 = .ok (.invokestatic 56, 3) := by decide +kernel
theorem dX6_trust_26 : decode cX6_trust 26 = .ok (.ifCond .ne 9, 3) := by decide +kernel
theorem dX6_trust_29 : decode cX6_trust 29 = .ok (.aload_n 0, 1) := by decide +kernel
theorem dX6_trust_30 : decode cX6_trust 30 = .ok (.iconst 0, 1) := by decide +kernel
theorem dX6_trust_31 : decode cX6_trust 31 = .ok (.invokevirtual 60, 3) := by decide +kernel
theorem dX6_trust_34 : decode cX6_trust 34 = .ok (.ireturn, 1) := by decide +kernel
theorem dX6_trust_35 : decode cX6_trust 35 = .ok (.iconst 0, 1) := by decide +kernel
theorem dX6_trust_36 : decode cX6_trust 36 = .ok (.istore 4, 2) := by decide +kernel
theorem dX6_trust_38 : decode cX6_trust 38 = .ok (.iload 4, 2) := by decide +kernel
theorem dX6_trust_40 : decode cX6_trust 40 = .ok (.bipush 99, 2) := by decide +kernel
theorem dX6_trust_42 : decode cX6_trust 42 = .ok (.if_icmp .gt 54, 3) := by decide +kernel
theorem dX6_trust_45 : decode cX6_trust 45 = .ok (.aload_n 0, 1) := by decide +kernel
theorem dX6_trust_46 : decode cX6_trust 46 = .ok (.getfield 19, 3) := by decide +kernel
theorem dX6_trust_49 : decode cX6_trust 49 = .ok (.aload_n 0, 1) := by decide +kernel
theorem dX6_trust_50 : decode cX6_trust 50 = .ok (.getfield 10, 3) := by decide +kernel
theorem dX6_trust_53 : decode cX6_trust 53 = .ok (.invokevirtual 175, 3) := by decide +kernel
theorem dX6_trust_56 : decode cX6_trust 56 = .ok (.aload_n 0, 1) := by decide +kernel
theorem dX6_trust_57 : decode cX6_trust 57 = .ok (.getfield 19, 3) := by decide +kernel
theorem dX6_trust_60 : decode cX6_trust 60 = .ok (.getfield 116, 3) := by decide +kernel
theorem dX6_trust_63 : decode cX6_trust 63 = .ok (.iload_n 1, 1) := by decide +kernel
theorem dX6_trust_64 : decode cX6_trust 64 = .ok (.iload 4, 2) := by decide +kernel
theorem dX6_trust_66 : decode cX6_trust 66 = .ok (.iastore, 1) := by decide +kernel
theorem dX6_trust_67 : decode cX6_trust 67 = .ok (.aload_n 0, 1) := by decide +kernel
theorem dX6_trust_68 : decode cX6_trust 68 = .ok (.getfield 19, 3) := by decide +kernel
theorem dX6_trust_71 : decode cX6_trust 71 = .ok (.iload_n 2, 1) := by decide +kernel
theorem dX6_trust_72 : decode cX6_trust 72 = .ok (.invokevirtual 171, 3) := by decide +kernel
theorem dX6_trust_75 : decode cX6_trust 75 = .ok (.aload_n 0, 1) := by decide +kernel
theorem dX6_trust_76 : decode cX6_trust 76 = .ok (.getfield 19, 3) := by decide +kernel
theorem dX6_trust_79 : decode cX6_trust 79 = .ok (.iload_n 1, 1) := by decide +kernel
theorem dX6_trust_80 : decode cX6_trust 80 = .ok (.invokevirtual 119, 3) := by decide +kernel
theorem dX6_trust_83 : decode cX6_trust 83 = .ok (.iload_n 3, 1) := by decide +kernel
theorem dX6_trust_84 : decode cX6_trust 84 = .ok (.if_icmp .lt 6, 3) := by decide +kernel
theorem dX6_trust_87 : decode cX6_trust 87 = .ok (.iload 4, 2) := by decide +kernel
theorem dX6_trust_89 : decode cX6_trust 89 = .ok (.ireturn, 1) := by decide +kernel
theorem dX6_trust_90 : decode cX6_trust 90 = .ok (.iinc 4 1, 3) := by decide +kernel
theorem dX6_trust_93 : decode cX6_trust 93 = .ok (.goto (-55), 3) := by decide +kernel
theorem dX6_trust_96 : decode cX6_trust 96 = .ok (.aload_n 0, 1) := by decide +kernel
theorem dX6_trust_97 : decode cX6_trust 97 = .ok (.iconst 3, 1) := by decide +kernel
theorem dX6_trust_98 : decode cX6_trust 98 = .ok (.invokevirtual 60, 3) := by decide +kernel
theorem dX6_trust_101 : decode cX6_trust 101 = .ok (.ireturn, 1) := by decide +kernel
set_option maxRecDepth 20000 in
theorem ggX6_away_X6_isWithin : GoodIn wsX6_away wsX6_isWithin := goodIn_r _ [9] (by decide +kernel) (by decide +kernel)
set_option maxRecDepth 20000 in
theorem gX6_away_X6_isWithin : GoodIn wsX6_away (va_wsS RX6 56 yX6_isWithin wsX6_isWithin) := goodIn_app (goodIn_of _ (by decide +kernel)) ggX6_away_X6_isWithin
set_option maxRecDepth 20000 in
theorem ggX6_away_X6_finding : GoodIn wsX6_away wsX6_finding := goodIn_r _ [13, 14, 15, 119, 120, 121, 122, 123, 124, 125, 126, 127] (by decide +kernel) (by decide +kernel)
set_option maxRecDepth 20000 in
theorem gX6_away_X6_finding : GoodIn wsX6_away (wsV RX6 60 RX6 yX6_finding wsX6_finding) := goodIn_app (goodIn_of _ (by decide +kernel)) ggX6_away_X6_finding
set_option maxRecDepth 20000 in
theorem ggX6_away_X0_begin : GoodIn wsX6_away wsX0_begin := goodIn_r _ [20, 21, 139, 140] (by decide +kernel) (by decide +kernel)
set_option maxRecDepth 20000 in
theorem gX6_away_X0_begin : GoodIn wsX6_away (wsV RX6 182 RX0 yX0_begin wsX0_begin) := goodIn_app (goodIn_of _ (by decide +kernel)) ggX6_away_X0_begin
set_option maxRecDepth 20000 in
theorem ggX6_away_X4_become : GoodIn wsX6_away wsX4_become := goodIn_r _ [26, 27, 28, 29, 30, 31, 32, 33, 34, 35, 36, 37, 38, 39, 40, 128, 129, 130, 131, 132, 133, 134, 135, 136, 137, 138] (by decide +kernel) (by decide +kernel)
set_option maxRecDepth 20000 in
theorem gX6_away_X4_become : GoodIn wsX6_away (wsV RX6 175 RX4 yX4_become wsX4_become) := goodIn_app (goodIn_of _ (by decide +kernel)) ggX6_away_X4_become
set_option maxRecDepth 20000 in
theorem ggX6_away_X4_goOn : GoodIn wsX6_away wsX4_goOn := goodIn_r _ [44, 40, 45, 46, 47, 25, 48, 29, 27, 49, 50, 51, 52, 30, 35, 53, 54, 55, 56, 57, 58, 59, 60, 61, 37, 62, 63, 17, 18, 19, 20, 21, 64, 65, 66, 67, 39, 68, 69, 70, 71, 38, 72, 73, 74, 75, 76, 77, 78, 79, 80, 81, 82, 83, 36, 28, 84, 85, 86, 87, 88, 89, 90, 91, 92, 93, 94, 95, 96, 97, 98, 99, 100, 101, 102, 103, 104, 128, 129, 130, 131, 132, 133, 134, 135, 136, 137, 138, 139, 140] (by decide +kernel) (by decide +kernel)
set_option maxRecDepth 20000 in
theorem gX6_away_X4_goOn : GoodIn wsX6_away (wsV RX6 171 RX4 yX4_goOn wsX4_goOn) := goodIn_app (goodIn_of _ (by decide +kernel)) ggX6_away_X4_goOn
set_option maxRecDepth 20000 in
theorem ggX6_away_X4_gladOfAll : GoodIn wsX6_away wsX4_gladOfAll := goodIn_r _ [108, 29, 109, 110, 111, 25, 112, 35, 64, 65, 66, 67, 30, 39, 68, 69, 70, 71, 38, 72, 73, 55, 74, 128, 129, 130, 131, 132, 133, 134, 135, 136, 137, 138] (by decide +kernel) (by decide +kernel)
set_option maxRecDepth 20000 in
theorem gX6_away_X4_gladOfAll : GoodIn wsX6_away (wsV RX6 75 RX4 yX4_gladOfAll wsX4_gladOfAll) := goodIn_app (goodIn_of _ (by decide +kernel)) ggX6_away_X4_gladOfAll
set_option maxRecDepth 20000 in
theorem ggX6_away_X0_offer : GoodIn wsX6_away wsX0_offer := goodIn_r _ [78, 21, 79, 139, 140] (by decide +kernel) (by decide +kernel)
set_option maxRecDepth 20000 in
theorem gX6_away_X0_offer : GoodIn wsX6_away (wsV RX6 185 RX0 yX0_offer wsX0_offer) := goodIn_app (goodIn_of _ (by decide +kernel)) ggX6_away_X0_offer
set_option maxRecDepth 20000 in
theorem ggX6_away_X6_bestOrNone : GoodIn wsX6_away wsX6_bestOrNone := goodIn_r _ [117, 1, 118, 10, 11, 12, 8, 13, 14, 15, 119, 120, 121, 122, 123, 124, 125, 126, 127, 139, 140] (by decide +kernel) (by decide +kernel)
set_option maxRecDepth 20000 in
theorem gX6_away_X6_bestOrNone : GoodIn wsX6_away (wsV RX6 188 RX6 yX6_bestOrNone wsX6_bestOrNone) := goodIn_app (goodIn_of _ (by decide +kernel)) ggX6_away_X6_bestOrNone
theorem dX6_away_0 : decode cX6_away 0 = .ok (.iload_n 1, 1) := by decide +kernel
theorem dX6_away_1 : decode cX6_away 1 = .ok (.iconst 0, 1) := by decide +kernel
theorem dX6_away_2 : decode cX6_away 2 = .ok (.bipush 40, 2) := by decide +kernel
theorem dX6_away_4 : decode cX6_away 4 = .ok (.invokestatic 56, 3) := by decide +kernel
theorem dX6_away_7 : decode cX6_away 7 = .ok (.ifCond .ne 9, 3) := by decide +kernel
theorem dX6_away_10 : decode cX6_away 10 = .ok (.aload_n 0, 1) := by decide +kernel
theorem dX6_away_11 : decode cX6_away 11 = .ok (.iconst 0, 1) := by decide +kernel
theorem dX6_away_12 : decode cX6_away 12 = .ok (.invokevirtual 60, 3) := by decide +kernel
theorem dX6_away_15 : decode cX6_away 15 = .ok (.ireturn, 1) := by decide +kernel
theorem dX6_away_16 : decode cX6_away 16 = .ok (.aload_n 0, 1) := by decide +kernel
theorem dX6_away_17 : decode cX6_away 17 = .ok (.getfield 25, 3) := by decide +kernel
theorem dX6_away_20 : decode cX6_away 20 = .ok (.invokevirtual 182, 3) := by decide +kernel
theorem dX6_away_23 : decode cX6_away 23 = .ok (.iconst 0, 1) := by decide +kernel
theorem dX6_away_24 : decode cX6_away 24 = .ok (.istore_n 2, 1) := by decide +kernel
theorem dX6_away_25 : decode cX6_away 25 = .ok (.iload_n 2, 1) := by decide +kernel
theorem dX6_away_26 : decode cX6_away 26 = .ok (.aload_n 0, 1) := by decide +kernel
theorem dX6_away_27 : decode cX6_away 27 = .ok (.getfield 10, 3) := by decide +kernel
theorem dX6_away_30 : decode cX6_away 30 = .ok (.getfield 158, 3) := by decide +kernel
theorem dX6_away_33 : decode cX6_away 33 = .ok (.if_icmp .ge 53, 3) := by decide +kernel
theorem dX6_away_36 : decode cX6_away 36 = .ok (.aload_n 0, 1) := by decide +kernel
theorem dX6_away_37 : decode cX6_away 37 = .ok (.getfield 19, 3) := by decide +kernel
theorem dX6_away_40 : decode cX6_away 40 = .ok (.aload_n 0, 1) := by decide +kernel
theorem dX6_away_41 : decode cX6_away 41 = .ok (.getfield 10, 3) := by decide +kernel
theorem dX6_away_44 : decode cX6_away 44 = .ok (.invokevirtual 175, 3) := by decide +kernel
theorem dX6_away_47 : decode cX6_away 47 = .ok (.aload_n 0, 1) := by decide +kernel
theorem dX6_away_48 : decode cX6_away 48 = .ok (.getfield 19, 3) := by decide +kernel
theorem dX6_away_51 : decode cX6_away 51 = .ok (.getfield 116, 3) := by decide +kernel
theorem dX6_away_54 : decode cX6_away 54 = .ok (.iload_n 2, 1) := by decide +kernel
theorem dX6_away_55 : decode cX6_away 55 = .ok (.iconst 0, 1) := by decide +kernel
theorem dX6_away_56 : decode cX6_away 56 = .ok (.iastore, 1) := by decide +kernel
theorem dX6_away_57 : decode cX6_away 57 = .ok (.aload_n 0, 1) := by decide +kernel
theorem dX6_away_58 : decode cX6_away 58 = .ok (.getfield 19, 3) := by decide +kernel
theorem dX6_away_61 : decode cX6_away 61 = .ok (.iload_n 1, 1) := by decide +kernel
theorem dX6_away_62 : decode cX6_away 62 = .ok (.invokevirtual 171, 3) := by decide +kernel
theorem dX6_away_65 : decode cX6_away 65 = .ok (.aload_n 0, 1) := by decide +kernel
theorem dX6_away_66 : decode cX6_away 66 = .ok (.getfield 25, 3) := by decide +kernel
theorem dX6_away_69 : decode cX6_away 69 = .ok (.iload_n 2, 1) := by decide +kernel
theorem dX6_away_70 : decode cX6_away 70 = .ok (.aload_n 0, 1) := by decide +kernel
theorem dX6_away_71 : decode cX6_away 71 = .ok (.getfield 19, 3) := by decide +kernel
theorem dX6_away_74 : decode cX6_away 74 = .ok (.invokevirtual 75, 3) := by decide +kernel
theorem dX6_away_77 : decode cX6_away 77 = .ok (.invokevirtual 185, 3) := by decide +kernel
theorem dX6_away_80 : decode cX6_away 80 = .ok (.iinc 2 1, 3) := by decide +kernel
theorem dX6_away_83 : decode cX6_away 83 = .ok (.goto (-58), 3) := by decide +kernel
theorem dX6_away_86 : decode cX6_away 86 = .ok (.aload_n 0, 1) := by decide +kernel
theorem dX6_away_87 : decode cX6_away 87 = .ok (.invokevirtual 188, 3) := by decide +kernel
theorem dX6_away_90 : decode cX6_away 90 = .ok (.ireturn, 1) := by decide +kernel
set_option maxRecDepth 20000 in
theorem ggX6_winner_X6_isWithin : GoodIn wsX6_winner wsX6_isWithin := goodIn_r _ [8] (by decide +kernel) (by decide +kernel)
set_option maxRecDepth 20000 in
theorem gX6_winner_X6_isWithin : GoodIn wsX6_winner (va_wsS RX6 56 yX6_isWithin wsX6_isWithin) := goodIn_app (goodIn_of _ (by decide +kernel)) ggX6_winner_X6_isWithin
set_option maxRecDepth 20000 in
theorem ggX6_winner_X6_finding : GoodIn wsX6_winner wsX6_finding := goodIn_r _ [12, 13, 14, 114, 115, 116, 117, 118, 119, 120, 121, 122] (by decide +kernel) (by decide +kernel)
set_option maxRecDepth 20000 in
theorem gX6_winner_X6_finding : GoodIn wsX6_winner (wsV RX6 60 RX6 yX6_finding wsX6_finding) := goodIn_app (goodIn_of _ (by decide +kernel)) ggX6_winner_X6_finding
set_option maxRecDepth 20000 in
theorem ggX6_winner_X4_become : GoodIn wsX6_winner wsX4_become := goodIn_r _ [19, 20, 21, 22, 23, 24, 25, 26, 27, 28, 29, 30, 31, 32, 33, 123, 124, 125, 126, 127, 128, 129, 130, 131, 132, 133] (by decide +kernel) (by decide +kernel)
set_option maxRecDepth 20000 in
theorem gX6_winner_X4_become : GoodIn wsX6_winner (wsV RX6 175 RX4 yX4_become wsX4_become) := goodIn_app (goodIn_of _ (by decide +kernel)) ggX6_winner_X4_become
set_option maxRecDepth 20000 in
theorem ggX6_winner_X4_goOn : GoodIn wsX6_winner wsX4_goOn := goodIn_r _ [37, 33, 38, 39, 40, 18, 41, 22, 20, 42, 43, 44, 45, 23, 28, 46, 47, 48, 49, 50, 51, 52, 53, 54, 30, 55, 56, 57, 58, 59, 60, 61, 62, 63, 64, 65, 32, 66, 67, 68, 69, 31, 70, 71, 72, 73, 74, 75, 76, 77, 78, 79, 80, 81, 29, 21, 82, 83, 84, 85, 86, 87, 88, 89, 90, 91, 92, 93, 94, 95, 96, 97, 98, 99, 100, 101, 102, 123, 124, 125, 126, 127, 128, 129, 130, 131, 132, 133, 134, 135] (by decide +kernel) (by decide +kernel)
set_option maxRecDepth 20000 in
theorem gX6_winner_X4_goOn : GoodIn wsX6_winner (wsV RX6 171 RX4 yX4_goOn wsX4_goOn) := goodIn_app (goodIn_of _ (by decide +kernel)) ggX6_winner_X4_goOn
set_option maxRecDepth 20000 in
theorem ggX6_winner_X0_begin : GoodIn wsX6_winner wsX0_begin := goodIn_r _ [60, 61, 134, 135] (by decide +kernel) (by decide +kernel)
set_option maxRecDepth 20000 in
theorem gX6_winner_X0_begin : GoodIn wsX6_winner (wsV RX6 182 RX0 yX0_begin wsX0_begin) := goodIn_app (goodIn_of _ (by decide +kernel)) ggX6_winner_X0_begin
set_option maxRecDepth 20000 in
theorem ggX6_winner_X4_gladOf : GoodIn wsX6_winner wsX4_gladOf := goodIn_r _ [107, 28, 62, 63, 64, 18, 65, 23, 32, 66, 67, 68, 69, 31, 70, 71, 48, 72, 123, 124, 125, 126, 127, 128, 129, 130, 131, 132, 133] (by decide +kernel) (by decide +kernel)
set_option maxRecDepth 20000 in
theorem gX6_winner_X4_gladOf : GoodIn wsX6_winner (wsV RX6 119 RX4 yX4_gladOf wsX4_gladOf) := goodIn_app (goodIn_of _ (by decide +kernel)) ggX6_winner_X4_gladOf
set_option maxRecDepth 20000 in
theorem ggX6_winner_X0_offer : GoodIn wsX6_winner wsX0_offer := goodIn_r _ [76, 61, 77, 134, 135] (by decide +kernel) (by decide +kernel)
set_option maxRecDepth 20000 in
theorem gX6_winner_X0_offer : GoodIn wsX6_winner (wsV RX6 185 RX0 yX0_offer wsX0_offer) := goodIn_app (goodIn_of _ (by decide +kernel)) ggX6_winner_X0_offer
set_option maxRecDepth 20000 in
theorem ggX6_winner_X6_bestOrNone : GoodIn wsX6_winner wsX6_bestOrNone := goodIn_r _ [112, 3, 113, 9, 10, 11, 7, 12, 13, 14, 114, 115, 116, 117, 118, 119, 120, 121, 122, 134, 135] (by decide +kernel) (by decide +kernel)
set_option maxRecDepth 20000 in
theorem gX6_winner_X6_bestOrNone : GoodIn wsX6_winner (wsV RX6 188 RX6 yX6_bestOrNone wsX6_bestOrNone) := goodIn_app (goodIn_of _ (by decide +kernel)) ggX6_winner_X6_bestOrNone
theorem dX6_winner_0 : decode cX6_winner 0 = .ok (.iload_n 1, 1) := by decide +kernel
theorem dX6_winner_1 : decode cX6_winner 1 = .ok (.iconst 0, 1) := by decide +kernel
theorem dX6_winner_2 : decode cX6_winner 2 = .ok (.bipush 100, 2) := by decide +kernel
theorem dX6_winner_4 : decode cX6_winner 4 = .ok (.invokestatic 56, 3) := by decide +kernel
theorem dX6_winner_7 : decode cX6_winner 7 = .ok (.ifCond .ne 9, 3) := by decide +kernel
theorem dX6_winner_10 : decode cX6_winner 10 = .ok (.aload_n 0, 1) := by decide +kernel
theorem dX6_winner_11 : decode cX6_winner 11 = .ok (.iconst 0, 1) := by decide +kernel
theorem dX6_winner_12 : decode cX6_winner 12 = .ok (.invokevirtual 60, 3) := by decide +kernel
theorem dX6_winner_15 : decode cX6_winner 15 = .ok (.ireturn, 1) := by decide +kernel
theorem dX6_winner_16 : decode cX6_winner 16 = .ok (.aload_n 0, 1) := by decide +kernel
theorem dX6_winner_17 : decode cX6_winner 17 = .ok (.getfield 19, 3) := by decide +kernel
theorem dX6_winner_20 : decode cX6_winner 20 = .ok (.aload_n 0, 1) := by decide +kernel
theorem dX6_winner_21 : decode cX6_winner 21 = .ok (.getfield 10, 3) := by decide +kernel
theorem dX6_winner_24 : decode cX6_winner 24 = .ok (.invokevirtual 175, 3) := by decide +kernel
theorem dX6_winner_27 : decode cX6_winner 27 = .ok (.aload_n 0, 1) := by decide +kernel
theorem dX6_winner_28 : decode cX6_winner 28 = .ok (.getfield 19, 3) := by decide +kernel
theorem dX6_winner_31 : decode cX6_winner 31 = .ok (.iload_n 1, 1) := by decide +kernel
theorem dX6_winner_32 : decode cX6_winner 32 = .ok (.invokevirtual 171, 3) := by decide +kernel
theorem dX6_winner_35 : decode cX6_winner 35 = .ok (.aload_n 0, 1) := by decide +kernel
theorem dX6_winner_36 : decode cX6_winner 36 = .ok (.getfield 25, 3) := by decide +kernel
theorem dX6_winner_39 : decode cX6_winner 39 = .ok (.invokevirtual 182, 3) := by decide +kernel
theorem dX6_winner_42 : decode cX6_winner 42 = .ok (.iconst 0, 1) := by decide +kernel
theorem dX6_winner_43 : decode cX6_winner 43 = .ok (.istore_n 2, 1) := by decide +kernel
theorem dX6_winner_44 : decode cX6_winner 44 = .ok (.iload_n 2, 1) := by decide +kernel
theorem dX6_winner_45 : decode cX6_winner 45 = .ok (.aload_n 0, 1) := by decide +kernel
theorem dX6_winner_46 : decode cX6_winner 46 = .ok (.getfield 10, 3) := by decide +kernel
theorem dX6_winner_49 : decode cX6_winner 49 = .ok (.getfield 158, 3) := by decide +kernel
theorem dX6_winner_52 : decode cX6_winner 52 = .ok (.if_icmp .ge 34, 3) := by decide +kernel
theorem dX6_winner_55 : decode cX6_winner 55 = .ok (.aload_n 0, 1) := by decide +kernel
theorem dX6_winner_56 : decode cX6_winner 56 = .ok (.getfield 25, 3) := by decide +kernel
theorem dX6_winner_59 : decode cX6_winner 59 = .ok (.iload_n 2, 1) := by decide +kernel
theorem dX6_winner_60 : decode cX6_winner 60 = .ok (.aload_n 0, 1) := by decide +kernel
theorem dX6_winner_61 : decode cX6_winner 61 = .ok (.getfield 19, 3) := by decide +kernel
theorem dX6_winner_64 : decode cX6_winner 64 = .ok (.iload_n 2, 1) := by decide +kernel
theorem dX6_winner_65 : decode cX6_winner 65 = .ok (.invokevirtual 119, 3) := by decide +kernel
theorem dX6_winner_68 : decode cX6_winner 68 = .ok (.aload_n 0, 1) := by decide +kernel
theorem dX6_winner_69 : decode cX6_winner 69 = .ok (.getfield 10, 3) := by decide +kernel
theorem dX6_winner_72 : decode cX6_winner 72 = .ok (.iload_n 2, 1) := by decide +kernel
theorem dX6_winner_73 : decode cX6_winner 73 = .ok (.invokevirtual 119, 3) := by decide +kernel
theorem dX6_winner_76 : decode cX6_winner 76 = .ok (.isub, 1) := by decide +kernel
theorem dX6_winner_77 : decode cX6_winner 77 = .ok (.invokevirtual 185, 3) := by decide +kernel
theorem dX6_winner_80 : decode cX6_winner 80 = .ok (.iinc 2 1, 3) := by decide +kernel
theorem dX6_winner_83 : decode cX6_winner 83 = .ok (.goto (-39), 3) := by decide +kernel
theorem dX6_winner_86 : decode cX6_winner 86 = .ok (.aload_n 0, 1) := by decide +kernel
theorem dX6_winner_87 : decode cX6_winner 87 = .ok (.invokevirtual 188, 3) := by decide +kernel
theorem dX6_winner_90 : decode cX6_winner 90 = .ok (.ireturn, 1) := by decide +kernel
set_option maxRecDepth 20000 in
theorem ggX6_feed_X6_isWithin : GoodIn wsX6_feed wsX6_isWithin := goodIn_r _ [6] (by decide +kernel) (by decide +kernel)
set_option maxRecDepth 20000 in
theorem gX6_feed_X6_isWithin : GoodIn wsX6_feed (va_wsS RX6 56 yX6_isWithin wsX6_isWithin) := goodIn_app (goodIn_of _ (by decide +kernel)) ggX6_feed_X6_isWithin
set_option maxRecDepth 20000 in
theorem ggX6_feed_X6_finding : GoodIn wsX6_feed wsX6_finding := goodIn_r _ [10, 11, 12, 20, 21, 22, 23, 24, 25, 26, 27, 28] (by decide +kernel) (by decide +kernel)
set_option maxRecDepth 20000 in
theorem gX6_feed_X6_finding : GoodIn wsX6_feed (wsV RX6 60 RX6 yX6_finding wsX6_finding) := goodIn_app (goodIn_of _ (by decide +kernel)) ggX6_feed_X6_finding
set_option maxRecDepth 20000 in
theorem ggX6_feed_X3_append : GoodIn wsX6_feed wsX3_append := goodIn_r _ [17, 18, 19, 29, 30, 31, 32, 33, 34] (by decide +kernel) (by decide +kernel)
set_option maxRecDepth 20000 in
theorem gX6_feed_X3_append : GoodIn wsX6_feed (wsV RX6 196 RX3 yX3_append wsX3_append) := goodIn_app (goodIn_of _ (by decide +kernel)) ggX6_feed_X3_append
theorem dX6_feed_0 : decode cX6_feed 0 = .ok (.iload_n 2, 1) := by decide +kernel
theorem dX6_feed_1 : decode cX6_feed 1 = .ok (.iconst 1, 1) := by decide +kernel
theorem dX6_feed_2 : decode cX6_feed 2 = .ok (.iconst 4, 1) := by decide +kernel
theorem dX6_feed_3 : decode cX6_feed 3 = .ok (.invokestatic 56, 3) := by decide +kernel
theorem dX6_feed_6 : decode cX6_feed 6 = .ok (.ifCond .ne 9, 3) := by decide +kernel
theorem dX6_feed_9 : decode cX6_feed 9 = .ok (.aload_n 0, 1) := by decide +kernel
theorem dX6_feed_10 : decode cX6_feed 10 = .ok (.iconst 0, 1) := by decide +kernel
theorem dX6_feed_11 : decode cX6_feed 11 = .ok (.invokevirtual 60, 3) := by decide +kernel
theorem dX6_feed_14 : decode cX6_feed 14 = .ok (.ireturn, 1) := by decide +kernel
theorem dX6_feed_15 : decode cX6_feed 15 = .ok (.aload_n 0, 1) := by decide +kernel
theorem dX6_feed_16 : decode cX6_feed 16 = .ok (.getfield 40, 3) := by decide +kernel
theorem dX6_feed_19 : decode cX6_feed 19 = .ok (.getfield 191, 3) := by decide +kernel
theorem dX6_feed_22 : decode cX6_feed 22 = .ok (.iload_n 2, 1) := by decide +kernel
theorem dX6_feed_23 : decode cX6_feed 23 = .ok (.iadd, 1) := by decide +kernel
theorem dX6_feed_24 : decode cX6_feed 24 = .ok (.bipush 120, 2) := by decide +kernel
theorem dX6_feed_26 : decode cX6_feed 26 = .ok (.if_icmp .le 9, 3) := by decide +kernel
theorem dX6_feed_29 : decode cX6_feed 29 = .ok (.aload_n 0, 1) := by decide +kernel
theorem dX6_feed_30 : decode cX6_feed 30 = .ok (.iconst 1, 1) := by decide +kernel
theorem dX6_feed_31 : decode cX6_feed 31 = .ok (.invokevirtual 60, 3) := by decide +kernel
theorem dX6_feed_34 : decode cX6_feed 34 = .ok (.ireturn, 1) := by decide +kernel
theorem dX6_feed_35 : decode cX6_feed 35 = .ok (.iload_n 2, 1) := by decide +kernel
theorem dX6_feed_36 : decode cX6_feed 36 = .ok (.iconst 1, 1) := by decide +kernel
theorem dX6_feed_37 : decode cX6_feed 37 = .ok (.isub, 1) := by decide +kernel
theorem dX6_feed_38 : decode cX6_feed 38 = .ok (.istore_n 3, 1) := by decide +kernel
theorem dX6_feed_39 : decode cX6_feed 39 = .ok (.iload_n 3, 1) := by decide +kernel
theorem dX6_feed_40 : decode cX6_feed 40 = .ok (.ifCond .lt 26, 3) := by decide +kernel
theorem dX6_feed_43 : decode cX6_feed 43 = .ok (.aload_n 0, 1) := by decide +kernel
theorem dX6_feed_44 : decode cX6_feed 44 = .ok (.getfield 40, 3) := by decide +kernel
theorem dX6_feed_47 : decode cX6_feed 47 = .ok (.iload_n 1, 1) := by decide +kernel
theorem dX6_feed_48 : decode cX6_feed 48 = .ok (.bipush 8, 2) := by decide +kernel
theorem dX6_feed_50 : decode cX6_feed 50 = .ok (.iload_n 3, 1) := by decide +kernel
theorem dX6_feed_51 : decode cX6_feed 51 = .ok (.imul, 1) := by decide +kernel
theorem dX6_feed_52 : decode cX6_feed 52 = .ok (.ishr, 1) := by decide +kernel
theorem dX6_feed_53 : decode cX6_feed 53 = .ok (.sipush 255, 3) := by decide +kernel
theorem dX6_feed_56 : decode cX6_feed 56 = .ok (.iand, 1) := by decide +kernel
theorem dX6_feed_57 : decode cX6_feed 57 = .ok (.invokevirtual 196, 3) := by decide +kernel
theorem dX6_feed_60 : decode cX6_feed 60 = .ok (.iinc 3 (-1), 3) := by decide +kernel
theorem dX6_feed_63 : decode cX6_feed 63 = .ok (.goto (-24), 3) := by decide +kernel
theorem dX6_feed_66 : decode cX6_feed 66 = .ok (.aload_n 0, 1) := by decide +kernel
theorem dX6_feed_67 : decode cX6_feed 67 = .ok (.getfield 40, 3) := by decide +kernel
theorem dX6_feed_70 : decode cX6_feed 70 = .ok (.getfield 191, 3) := by decide +kernel
theorem dX6_feed_73 : decode cX6_feed 73 = .ok (.ireturn, 1) := by decide +kernel
theorem dX6_wipe_0 : decode cX6_wipe 0 = .ok (.aload_n 0, 1) := by decide +kernel
theorem dX6_wipe_1 : decode cX6_wipe 1 = .ok (.getfield 40, 3) := by decide +kernel
theorem dX6_wipe_4 : decode cX6_wipe 4 = .ok (.getfield 191, 3) := by decide +kernel
theorem dX6_wipe_7 : decode cX6_wipe 7 = .ok (.istore_n 1, 1) := by decide +kernel
theorem dX6_wipe_8 : decode cX6_wipe 8 = .ok (.aload_n 0, 1) := by decide +kernel
theorem dX6_wipe_9 : decode cX6_wipe 9 = .ok (.getfield 40, 3) := by decide +kernel
theorem dX6_wipe_12 : decode cX6_wipe 12 = .ok (.iconst 0, 1) := by decide +kernel
theorem dX6_wipe_13 : decode cX6_wipe 13 = .ok (.putfield 191, 3) := by decide +kernel
theorem dX6_wipe_16 : decode cX6_wipe 16 = .ok (.iload_n 1, 1) := by decide +kernel
theorem dX6_wipe_17 : decode cX6_wipe 17 = .ok (.ireturn, 1) := by decide +kernel
set_option maxRecDepth 20000 in
theorem ggX6_yard_X4_become : GoodIn wsX6_yard wsX4_become := goodIn_r _ [10, 11, 12, 13, 14, 15, 16, 17, 18, 19, 20, 21, 22, 23, 24, 198, 199, 200, 201, 202, 203, 204, 205, 206, 207, 208] (by decide +kernel) (by decide +kernel)
set_option maxRecDepth 20000 in
theorem gX6_yard_X4_become : GoodIn wsX6_yard (wsV RX6 175 RX4 yX4_become wsX4_become) := goodIn_app (goodIn_of _ (by decide +kernel)) ggX6_yard_X4_become
set_option maxRecDepth 20000 in
theorem ggX6_yard_X5_readInto : GoodIn wsX6_yard wsX5_readInto := goodIn_r _ [29, 30, 31, 32, 33, 34, 35, 36, 37, 38, 39, 40, 41, 42, 43, 44, 45, 46, 47, 48, 49, 50, 51, 52, 53, 54, 55, 56, 57, 58, 59, 60, 61, 62, 63, 64, 28, 65, 66, 67, 68, 69, 70, 71, 72, 73, 74, 75, 76, 77, 78, 79, 80, 81, 82, 83, 84, 85, 86, 87, 88, 89, 90, 91, 92, 93, 94, 95, 96, 97, 98, 99, 100, 101, 102, 103, 104, 105, 106, 107, 108, 109, 110, 111, 112, 113, 114, 115, 116, 117, 118, 119, 120, 121, 122, 123, 124, 125, 126, 127, 128, 129, 130, 131, 132, 133, 9, 134, 19, 135, 136, 137, 138, 20, 139, 140, 141, 142, 21, 14, 143, 144, 145, 146, 147, 148, 149, 150, 151, 152, 153, 154, 155, 156, 157, 158, 159, 160, 13, 161, 162, 163, 164, 165, 166, 167, 168, 23, 169, 170, 171, 172, 22, 173, 174, 175, 176, 177, 178, 179, 180, 181, 182, 209, 192, 193, 194, 195, 196, 197, 198, 199, 200, 201, 202, 203, 204, 205, 206, 207, 208] (by decide +kernel) (by decide +kernel)
set_option maxRecDepth 20000 in
theorem gX6_yard_X5_readInto : GoodIn wsX6_yard (wsV RX6 199 RX5 yX5_readInto wsX5_readInto) := goodIn_app (goodIn_of _ (by decide +kernel)) ggX6_yard_X5_readInto
theorem dX6_yard_0 : decode cX6_yard 0 = .ok (.aload_n 0, 1) := by decide +kernel
theorem dX6_yard_1 : decode cX6_yard 1 = .ok (.getfield 19, 3) := by decide +kernel
theorem dX6_yard_4 : decode cX6_yard 4 = .ok (.aload_n 0, 1) := by decide +kernel
theorem dX6_yard_5 : decode cX6_yard 5 = .ok (.getfield 10, 3) := by decide +kernel
theorem dX6_yard_8 : decode cX6_yard 8 = .ok (.invokevirtual 175, 3) := by decide +kernel
theorem dX6_yard_11 : decode cX6_yard 11 = .ok (.aload_n 0, 1) := by decide +kernel
theorem dX6_yard_12 : decode cX6_yard 12 = .ok (.getfield 32, 3) := by decide +kernel
theorem dX6_yard_15 : decode cX6_yard 15 = .ok (.aload_n 0, 1) := by decide +kernel
theorem dX6_yard_16 : decode cX6_yard 16 = .ok (.getfield 19, 3) := by decide +kernel
theorem dX6_yard_19 : decode cX6_yard 19 = .ok (.invokevirtual 199, 3) := by decide +kernel
theorem dX6_yard_22 : decode cX6_yard 22 = .ok (.istore_n 1, 1) := by decide +kernel
theorem dX6_yard_23 : decode cX6_yard 23 = .ok (.iload_n 1, 1) := by decide +kernel
theorem dX6_yard_24 : decode cX6_yard 24 = .ok (.ifCond .lt 14, 3) := by decide +kernel
theorem dX6_yard_27 : decode cX6_yard 27 = .ok (.aload_n 0, 1) := by decide +kernel
theorem dX6_yard_28 : decode cX6_yard 28 = .ok (.getfield 10, 3) := by decide +kernel
theorem dX6_yard_31 : decode cX6_yard 31 = .ok (.aload_n 0, 1) := by decide +kernel
theorem dX6_yard_32 : decode cX6_yard 32 = .ok (.getfield 19, 3) := by decide +kernel
theorem dX6_yard_35 : decode cX6_yard 35 = .ok (.invokevirtual 175, 3) := by decide +kernel
theorem dX6_yard_38 : decode cX6_yard 38 = .ok (.aload_n 0, 1) := by decide +kernel
theorem dX6_yard_39 : decode cX6_yard 39 = .ok (.getfield 40, 3) := by decide +kernel
theorem dX6_yard_42 : decode cX6_yard 42 = .ok (.iconst 0, 1) := by decide +kernel
theorem dX6_yard_43 : decode cX6_yard 43 = .ok (.putfield 191, 3) := by decide +kernel
theorem dX6_yard_46 : decode cX6_yard 46 = .ok (.iload_n 1, 1) := by decide +kernel
theorem dX6_yard_47 : decode cX6_yard 47 = .ok (.ireturn, 1) := by decide +kernel
set_option maxRecDepth 20000 in
theorem ggX6_sheet_X6_isSheet : GoodIn wsX6_sheet wsX6_isSheet := goodIn_r _ [6, 7, 8, 5, 9] (by decide +kernel) (by decide +kernel)
set_option maxRecDepth 20000 in
theorem gX6_sheet_X6_isSheet : GoodIn wsX6_sheet (va_wsS RX6 203 yX6_isSheet wsX6_isSheet) := goodIn_app (goodIn_of _ (by decide +kernel)) ggX6_sheet_X6_isSheet
set_option maxRecDepth 20000 in
theorem ggX6_sheet_X2_isWidth : GoodIn wsX6_sheet wsX2_isWidth := goodIn_r _ [13] (by decide +kernel) (by decide +kernel)
set_option maxRecDepth 20000 in
theorem gX6_sheet_X2_isWidth : GoodIn wsX6_sheet (va_wsS RX6 206 yX2_isWidth wsX2_isWidth) := goodIn_app (goodIn_of _ (by decide +kernel)) ggX6_sheet_X2_isWidth
set_option maxRecDepth 20000 in
theorem ggX6_sheet_X6_finding : GoodIn wsX6_sheet wsX6_finding := goodIn_r _ [17, 18, 19, 27, 28, 29, 30, 31, 32, 33, 34, 35] (by decide +kernel) (by decide +kernel)
set_option maxRecDepth 20000 in
theorem gX6_sheet_X6_finding : GoodIn wsX6_sheet (wsV RX6 60 RX6 yX6_finding wsX6_finding) := goodIn_app (goodIn_of _ (by decide +kernel)) ggX6_sheet_X6_finding
set_option maxRecDepth 20000 in
theorem ggX6_sheet_X2_layOut : GoodIn wsX6_sheet wsX2_layOut := goodIn_r _ [23, 24, 25, 26, 36, 37, 38] (by decide +kernel) (by decide +kernel)
set_option maxRecDepth 20000 in
theorem gX6_sheet_X2_layOut : GoodIn wsX6_sheet (wsV RX6 209 RX2 yX2_layOut wsX2_layOut) := goodIn_app (goodIn_of _ (by decide +kernel)) ggX6_sheet_X2_layOut
theorem dX6_sheet_0 : decode cX6_sheet 0 = .ok (.iload_n 1, 1) := by decide +kernel
theorem dX6_sheet_1 : decode cX6_sheet 1 = .ok (.invokestatic 203, 3) := by decide +kernel
theorem dX6_sheet_4 : decode cX6_sheet 4 = .ok (.ifCond .eq 10, 3) := by decide +kernel
theorem dX6_sheet_7 : decode cX6_sheet 7 = .ok (.iload_n 2, 1) := by decide +kernel
theorem dX6_sheet_8 : decode cX6_sheet 8 = .ok (.invokestatic 206, 3) := by decide +kernel
theorem dX6_sheet_11 : decode cX6_sheet 11 = .ok (.ifCond .ne 9, 3) := by decide +kernel
theorem dX6_sheet_14 : decode cX6_sheet 14 = .ok (.aload_n 0, 1) := by decide +kernel
theorem dX6_sheet_15 : decode cX6_sheet 15 = .ok (.iconst 0, 1) := by decide +kernel
theorem dX6_sheet_16 : decode cX6_sheet 16 = .ok (.invokevirtual 60, 3) := by decide +kernel
theorem dX6_sheet_19 : decode cX6_sheet 19 = .ok (.ireturn, 1) := by decide +kernel
theorem dX6_sheet_20 : decode cX6_sheet 20 = .ok (.iload_n 3, 1) := by decide +kernel
theorem dX6_sheet_21 : decode cX6_sheet 21 = .ok (.ifCond .ge 10, 3) := by decide +kernel
theorem dX6_sheet_24 : decode cX6_sheet 24 = .ok (.aload_n 0, 1) := by decide +kernel
theorem dX6_sheet_25 : decode cX6_sheet 25 = .ok (.bipush 6, 2) := by decide +kernel
theorem dX6_sheet_27 : decode cX6_sheet 27 = .ok (.invokevirtual 60, 3) := by decide +kernel
theorem dX6_sheet_30 : decode cX6_sheet 30 = .ok (.ireturn, 1) := by decide +kernel
theorem dX6_sheet_31 : decode cX6_sheet 31 = .ok (.iload_n 3, 1) := by decide +kernel
theorem dX6_sheet_32 : decode cX6_sheet 32 = .ok (.bipush 40, 2) := by decide +kernel
theorem dX6_sheet_34 : decode cX6_sheet 34 = .ok (.if_icmp .le 9, 3) := by decide +kernel
theorem dX6_sheet_37 : decode cX6_sheet 37 = .ok (.aload_n 0, 1) := by decide +kernel
theorem dX6_sheet_38 : decode cX6_sheet 38 = .ok (.iconst 0, 1) := by decide +kernel
theorem dX6_sheet_39 : decode cX6_sheet 39 = .ok (.invokevirtual 60, 3) := by decide +kernel
theorem dX6_sheet_42 : decode cX6_sheet 42 = .ok (.ireturn, 1) := by decide +kernel
theorem dX6_sheet_43 : decode cX6_sheet 43 = .ok (.aload_n 0, 1) := by decide +kernel
theorem dX6_sheet_44 : decode cX6_sheet 44 = .ok (.getfield 43, 3) := by decide +kernel
theorem dX6_sheet_47 : decode cX6_sheet 47 = .ok (.iload_n 1, 1) := by decide +kernel
theorem dX6_sheet_48 : decode cX6_sheet 48 = .ok (.aaload, 1) := by decide +kernel
theorem dX6_sheet_49 : decode cX6_sheet 49 = .ok (.iload_n 2, 1) := by decide +kernel
theorem dX6_sheet_50 : decode cX6_sheet 50 = .ok (.iload_n 3, 1) := by decide +kernel
theorem dX6_sheet_51 : decode cX6_sheet 51 = .ok (.invokevirtual 209, 3) := by decide +kernel
theorem dX6_sheet_54 : decode cX6_sheet 54 = .ok (.aload_n 0, 1) := by decide +kernel
theorem dX6_sheet_55 : decode cX6_sheet 55 = .ok (.getfield 43, 3) := by decide +kernel
theorem dX6_sheet_58 : decode cX6_sheet 58 = .ok (.iload_n 1, 1) := by decide +kernel
theorem dX6_sheet_59 : decode cX6_sheet 59 = .ok (.aaload, 1) := by decide +kernel
theorem dX6_sheet_60 : decode cX6_sheet 60 = .ok (.getfield 212, 3) := by decide +kernel
theorem dX6_sheet_63 : decode cX6_sheet 63 = .ok (.ireturn, 1) := by decide +kernel
set_option maxRecDepth 20000 in
theorem ggX6_write_X6_isSheet : GoodIn wsX6_write wsX6_isSheet := goodIn_r _ [7, 8, 9, 6, 10] (by decide +kernel) (by decide +kernel)
set_option maxRecDepth 20000 in
theorem gX6_write_X6_isSheet : GoodIn wsX6_write (va_wsS RX6 203 yX6_isSheet wsX6_isSheet) := goodIn_app (goodIn_of _ (by decide +kernel)) ggX6_write_X6_isSheet
set_option maxRecDepth 20000 in
theorem ggX6_write_X6_finding : GoodIn wsX6_write wsX6_finding := goodIn_r _ [14, 15, 16, 28, 29, 30, 31, 32, 33, 34, 35, 36] (by decide +kernel) (by decide +kernel)
set_option maxRecDepth 20000 in
theorem gX6_write_X6_finding : GoodIn wsX6_write (wsV RX6 60 RX6 yX6_finding wsX6_finding) := goodIn_app (goodIn_of _ (by decide +kernel)) ggX6_write_X6_finding
set_option maxRecDepth 20000 in
theorem ggX6_write_X2_isMissing : GoodIn wsX6_write wsX2_isMissing := goodIn_r _ [21, 22, 37, 38, 39] (by decide +kernel) (by decide +kernel)
set_option maxRecDepth 20000 in
theorem gX6_write_X2_isMissing : GoodIn wsX6_write (wsV RX6 213 RX2 yX2_isMissing wsX2_isMissing) := goodIn_app (goodIn_of _ (by decide +kernel)) ggX6_write_X2_isMissing
set_option maxRecDepth 20000 in
theorem ggX6_write_X6_isWithin : GoodIn wsX6_write wsX6_isWithin := goodIn_r _ [10] (by decide +kernel) (by decide +kernel)
set_option maxRecDepth 20000 in
theorem gX6_write_X6_isWithin : GoodIn wsX6_write (va_wsS RX6 56 yX6_isWithin wsX6_isWithin) := goodIn_app (goodIn_of _ (by decide +kernel)) ggX6_write_X6_isWithin
set_option maxRecDepth 20000 in
theorem ggX6_write_X2_put : GoodIn wsX6_write wsX2_put := goodIn_r _ [26, 27, 22, 37, 38, 39] (by decide +kernel) (by decide +kernel)
set_option maxRecDepth 20000 in
theorem gX6_write_X2_put : GoodIn wsX6_write (wsV RX6 220 RX2 yX2_put wsX2_put) := goodIn_app (goodIn_of _ (by decide +kernel)) ggX6_write_X2_put
theorem dX6_write_0 : decode cX6_write 0 = .ok (.iload_n 1, 1) := by decide +kernel
theorem dX6_write_1 : decode cX6_write 1 = .ok (.invokestatic 203, 3) := by decide +kernel
theorem dX6_write_4 : decode cX6_write 4 = .ok (.ifCond .ne 10, 3) := by decide +kernel
theorem dX6_write_7 : decode cX6_write 7 = .ok (.aload_n 0, 1) := by decide +kernel
theorem dX6_write_8 : decode cX6_write 8 = .ok (.iconst 0, 1) := by decide +kernel
theorem dX6_write_9 : decode cX6_write 9 = .ok (.invokevirtual 60, 3) := by decide +kernel
theorem dX6_write_12 : decode cX6_write 12 = .ok (.i2l, 1) := by decide +kernel
theorem dX6_write_13 : decode cX6_write 13 = .ok (.lreturn, 1) := by decide +kernel
theorem dX6_write_14 : decode cX6_write 14 = .ok (.aload_n 0, 1) := by decide +kernel
theorem dX6_write_15 : decode cX6_write 15 = .ok (.getfield 43, 3) := by decide +kernel
theorem dX6_write_18 : decode cX6_write 18 = .ok (.iload_n 1, 1) := by decide +kernel
theorem dX6_write_19 : decode cX6_write 19 = .ok (.aaload, 1) := by decide +kernel
theorem dX6_write_20 : decode cX6_write 20 = .ok (.astore 5, 2) := by decide +kernel
theorem dX6_write_22 : decode cX6_write 22 = .ok (.aload 5, 2) := by decide +kernel
theorem dX6_write_24 : decode cX6_write 24 = .ok (.invokevirtual 213, 3) := by decide +kernel
theorem dX6_write_27 : decode cX6_write 27 = .ok (.ifCond .eq 10, 3) := by decide +kernel
theorem dX6_write_30 : decode cX6_write 30 = .ok (.aload_n 0, 1) := by decide +kernel
theorem dX6_write_31 : decode cX6_write 31 = .ok (.iconst 5, 1) := by decide +kernel
theorem dX6_write_32 : decode cX6_write 32 = .ok (.invokevirtual 60, 3) := by decide +kernel
theorem dX6_write_35 : decode cX6_write 35 = .ok (.i2l, 1) := by decide +kernel
theorem dX6_write_36 : decode cX6_write 36 = .ok (.lreturn, 1) := by decide +kernel
theorem dX6_write_37 : decode cX6_write 37 = .ok (.iload_n 2, 1) := by decide +kernel
theorem dX6_write_38 : decode cX6_write 38 = .ok (.iconst 0, 1) := by decide +kernel
theorem dX6_write_39 : decode cX6_write 39 = .ok (.aload 5, 2) := by decide +kernel
theorem dX6_write_41 : decode cX6_write 41 = .ok (.getfield 212, 3) := by decide +kernel
theorem dX6_write_44 : decode cX6_write 44 = .ok (.iconst 1, 1) := by decide +kernel
theorem dX6_write_45 : decode cX6_write 45 = .ok (.isub, 1) := by decide +kernel
theorem dX6_write_46 : decode cX6_write 46 = .ok (.invokestatic 56, 3) := by decide +kernel
theorem dX6_write_49 : decode cX6_write 49 = .ok (.ifCond .ne 10, 3) := by decide +kernel
theorem dX6_write_52 : decode cX6_write 52 = .ok (.aload_n 0, 1) := by decide +kernel
theorem dX6_write_53 : decode cX6_write 53 = .ok (.iconst 0, 1) := by decide +kernel
theorem dX6_write_54 : decode cX6_write 54 = .ok (.invokevirtual 60, 3) := by decide +kernel
theorem dX6_write_57 : decode cX6_write 57 = .ok (.i2l, 1) := by decide +kernel
theorem dX6_write_58 : decode cX6_write 58 = .ok (.lreturn, 1) := by decide +kernel
theorem dX6_write_59 : decode cX6_write 59 = .ok (.aload 5, 2) := by decide +kernel
theorem dX6_write_61 : decode cX6_write 61 = .ok (.getfield 216, 3) := by decide +kernel
theorem dX6_write_64 : decode cX6_write 64 = .ok (.iload_n 2, 1) := by decide +kernel
theorem dX6_write_65 : decode cX6_write 65 = .ok (.laload, 1) := by decide +kernel
theorem dX6_write_66 : decode cX6_write 66 = .ok (.lstore 6, 2) := by decide +kernel
theorem dX6_write_68 : decode cX6_write 68 = .ok (.aload 5, 2) := by decide +kernel
theorem dX6_write_70 : decode cX6_write 70 = .ok (.iload_n 2, 1) := by decide +kernel
theorem dX6_write_71 : decode cX6_write 71 = .ok (.lload_n 3, 1) := by decide +kernel
theorem dX6_write_72 : decode cX6_write 72 = .ok (.invokevirtual 220, 3) := by decide +kernel
theorem dX6_write_75 : decode cX6_write 75 = .ok (.lload 6, 2) := by decide +kernel
theorem dX6_write_77 : decode cX6_write 77 = .ok (.lreturn, 1) := by decide +kernel
set_option maxRecDepth 20000 in
theorem ggX6_copy_X6_isSheet : GoodIn wsX6_copy wsX6_isSheet := goodIn_r _ [11, 12, 13, 10, 14] (by decide +kernel) (by decide +kernel)
set_option maxRecDepth 20000 in
theorem gX6_copy_X6_isSheet : GoodIn wsX6_copy (va_wsS RX6 203 yX6_isSheet wsX6_isSheet) := goodIn_app (goodIn_of _ (by decide +kernel)) ggX6_copy_X6_isSheet
set_option maxRecDepth 20000 in
theorem ggX6_copy_X6_finding : GoodIn wsX6_copy wsX6_finding := goodIn_r _ [18, 19, 20, 32, 33, 34, 35, 36, 37, 38, 39, 40] (by decide +kernel) (by decide +kernel)
set_option maxRecDepth 20000 in
theorem gX6_copy_X6_finding : GoodIn wsX6_copy (wsV RX6 60 RX6 yX6_finding wsX6_finding) := goodIn_app (goodIn_of _ (by decide +kernel)) ggX6_copy_X6_finding
set_option maxRecDepth 20000 in
theorem ggX6_copy_X2_isMissing : GoodIn wsX6_copy wsX2_isMissing := goodIn_r _ [25, 26, 41, 42, 43] (by decide +kernel) (by decide +kernel)
set_option maxRecDepth 20000 in
theorem gX6_copy_X2_isMissing : GoodIn wsX6_copy (wsV RX6 213 RX2 yX2_isMissing wsX2_isMissing) := goodIn_app (goodIn_of _ (by decide +kernel)) ggX6_copy_X2_isMissing
set_option maxRecDepth 20000 in
theorem ggX6_copy_X2_hasSpan : GoodIn wsX6_copy wsX2_hasSpan := goodIn_r _ [30, 31, 41, 42, 43] (by decide +kernel) (by decide +kernel)
set_option maxRecDepth 20000 in
theorem gX6_copy_X2_hasSpan : GoodIn wsX6_copy (wsV RX6 227 RX2 yX2_hasSpan wsX2_hasSpan) := goodIn_app (goodIn_of _ (by decide +kernel)) ggX6_copy_X2_hasSpan
theorem dX6_copy_0 : decode cX6_copy 0 = .ok (.iload_n 1, 1) := by decide +kernel
theorem dX6_copy_1 : decode cX6_copy 1 = .ok (.invokestatic 203, 3) := by decide +kernel
theorem dX6_copy_4 : decode cX6_copy 4 = .ok (.ifCond .eq 10, 3) := by decide +kernel
theorem dX6_copy_7 : decode cX6_copy 7 = .ok (.iload_n 3, 1) := by decide +kernel
theorem dX6_copy_8 : decode cX6_copy 8 = .ok (.invokestatic 203, 3) := by decide +kernel
theorem dX6_copy_11 : decode cX6_copy 11 = .ok (.ifCond .ne 9, 3) := by decide +kernel
theorem dX6_copy_14 : decode cX6_copy 14 = .ok (.aload_n 0, 1) := by decide +kernel
theorem dX6_copy_15 : decode cX6_copy 15 = .ok (.iconst 0, 1) := by decide +kernel
theorem dX6_copy_16 : decode cX6_copy 16 = .ok (.invokevirtual 60, 3) := by decide +kernel
theorem dX6_copy_19 : decode cX6_copy 19 = .ok (.ireturn, 1) := by decide +kernel
theorem dX6_copy_20 : decode cX6_copy 20 = .ok (.aload_n 0, 1) := by decide +kernel
theorem dX6_copy_21 : decode cX6_copy 21 = .ok (.getfield 43, 3) := by decide +kernel
theorem dX6_copy_24 : decode cX6_copy 24 = .ok (.iload_n 1, 1) := by decide +kernel
theorem dX6_copy_25 : decode cX6_copy 25 = .ok (.aaload, 1) := by decide +kernel
theorem dX6_copy_26 : decode cX6_copy 26 = .ok (.astore 6, 2) := by decide +kernel
theorem dX6_copy_28 : decode cX6_copy 28 = .ok (.aload_n 0, 1) := by decide +kernel
theorem dX6_copy_29 : decode cX6_copy 29 = .ok (.getfield 43, 3) := by decide +kernel
theorem dX6_copy_32 : decode cX6_copy 32 = .ok (.iload_n 3, 1) := by decide +kernel
theorem dX6_copy_33 : decode cX6_copy 33 = .ok (.aaload, 1) := by decide +kernel
theorem dX6_copy_34 : decode cX6_copy 34 = .ok (.astore 7, 2) := by decide +kernel
theorem dX6_copy_36 : decode cX6_copy 36 = .ok (.aload 6, 2) := by decide +kernel
theorem dX6_copy_38 : decode cX6_copy 38 = .ok (.invokevirtual 213, 3) := by decide +kernel
theorem dX6_copy_41 : decode cX6_copy 41 = .ok (.ifCond .ne 11, 3) := by decide +kernel
theorem dX6_copy_44 : decode cX6_copy 44 = .ok (.aload 7, 2) := by decide +kernel
theorem dX6_copy_46 : decode cX6_copy 46 = .ok (.invokevirtual 213, 3) := by decide +kernel
theorem dX6_copy_49 : decode cX6_copy 49 = .ok (.ifCond .eq 9, 3) := by decide +kernel
theorem dX6_copy_52 : decode cX6_copy 52 = .ok (.aload_n 0, 1) := by decide +kernel
theorem dX6_copy_53 : decode cX6_copy 53 = .ok (.iconst 5, 1) := by decide +kernel
theorem dX6_copy_54 : decode cX6_copy 54 = .ok (.invokevirtual 60, 3) := by decide +kernel
theorem dX6_copy_57 : decode cX6_copy 57 = .ok (.ireturn, 1) := by decide +kernel
theorem dX6_copy_58 : decode cX6_copy 58 = .ok (.aload 6, 2) := by decide +kernel
theorem dX6_copy_60 : decode cX6_copy 60 = .ok (.getfield 224, 3) := by decide +kernel
theorem dX6_copy_63 : decode cX6_copy 63 = .ok (.aload 7, 2) := by decide +kernel
theorem dX6_copy_65 : decode cX6_copy 65 = .ok (.getfield 224, 3) := by decide +kernel
theorem dX6_copy_68 : decode cX6_copy 68 = .ok (.if_icmp .eq 9, 3) := by decide +kernel
theorem dX6_copy_71 : decode cX6_copy 71 = .ok (.aload_n 0, 1) := by decide +kernel
theorem dX6_copy_72 : decode cX6_copy 72 = .ok (.iconst 2, 1) := by decide +kernel
theorem dX6_copy_73 : decode cX6_copy 73 = .ok (.invokevirtual 60, 3) := by decide +kernel
theorem dX6_copy_76 : decode cX6_copy 76 = .ok (.ireturn, 1) := by decide +kernel
theorem dX6_copy_77 : decode cX6_copy 77 = .ok (.aload 6, 2) := by decide +kernel
theorem dX6_copy_79 : decode cX6_copy 79 = .ok (.iload_n 2, 1) := by decide +kernel
theorem dX6_copy_80 : decode cX6_copy 80 = .ok (.iload 5, 2) := by decide +kernel
theorem dX6_copy_82 : decode cX6_copy 82 = .ok (.invokevirtual 227, 3) := by decide +kernel
theorem dX6_copy_85 : decode cX6_copy 85 = .ok (.ifCond .eq 15, 3) := by decide +kernel
theorem dX6_copy_88 : decode cX6_copy 88 = .ok (.aload 7, 2) := by decide +kernel
theorem dX6_copy_90 : decode cX6_copy 90 = .ok (.iload 4, 2) := by decide +kernel
theorem dX6_copy_92 : decode cX6_copy 92 = .ok (.iload 5, 2) := by decide +kernel
theorem dX6_copy_94 : decode cX6_copy 94 = .ok (.invokevirtual 227, 3) := by decide +kernel
theorem dX6_copy_97 : decode cX6_copy 97 = .ok (.ifCond .ne 9, 3) := by decide +kernel
theorem dX6_copy_100 : decode cX6_copy 100 = .ok (.aload_n 0, 1) := by decide +kernel
theorem dX6_copy_101 : decode cX6_copy 101 = .ok (.iconst 0, 1) := by decide +kernel
theorem dX6_copy_102 : decode cX6_copy 102 = .ok (.invokevirtual 60, 3) := by decide +kernel
theorem dX6_copy_105 : decode cX6_copy 105 = .ok (.ireturn, 1) := by decide +kernel
theorem dX6_copy_106 : decode cX6_copy 106 = .ok (.aload 6, 2) := by decide +kernel
theorem dX6_copy_108 : decode cX6_copy 108 = .ok (.getfield 216, 3) := by decide +kernel
theorem dX6_copy_111 : decode cX6_copy 111 = .ok (.iload_n 2, 1) := by decide +kernel
theorem dX6_copy_112 : decode cX6_copy 112 = .ok (.aload 7, 2) := by decide +kernel
theorem dX6_copy_114 : decode cX6_copy 114 = .ok (.getfield 216, 3) := by decide +kernel
theorem dX6_copy_117 : decode cX6_copy 117 = .ok (.iload 4, 2) := by decide +kernel
theorem dX6_copy_119 : decode cX6_copy 119 = .ok (.iload 5, 2) := by decide +kernel
theorem dX6_copy_121 : decode cX6_copy 121 = .ok (.invokestatic 230, 3) := by decide +kernel
theorem dX6_copy_124 : decode cX6_copy 124 = .ok (.iload 5, 2) := by decide +kernel
theorem dX6_copy_126 : decode cX6_copy 126 = .ok (.ireturn, 1) := by decide +kernel
set_option maxRecDepth 20000 in
theorem ggX6_lays_X6_sheetFinding : GoodIn wsX6_lays wsX6_sheetFinding := goodIn_r _ [10, 1, 11, 12, 9, 13, 14, 15, 16, 17, 18, 19, 20, 21, 22, 23, 24, 25, 26, 5, 27, 40, 41, 42, 43, 44, 45, 46, 47, 48, 49, 50, 51, 52, 53, 54, 55, 56, 57, 58, 59, 60, 61, 62] (by decide +kernel) (by decide +kernel)
set_option maxRecDepth 20000 in
theorem gX6_lays_X6_sheetFinding : GoodIn wsX6_lays (wsV RX6 236 RX6 yX6_sheetFinding wsX6_sheetFinding) := goodIn_app (goodIn_of _ (by decide +kernel)) ggX6_lays_X6_sheetFinding
set_option maxRecDepth 20000 in
theorem ggX6_lays_X6_finding : GoodIn wsX6_lays wsX6_finding := goodIn_r _ [31, 32, 33, 40, 41, 42, 43, 44, 45, 46, 47, 48] (by decide +kernel) (by decide +kernel)
set_option maxRecDepth 20000 in
theorem gX6_lays_X6_finding : GoodIn wsX6_lays (wsV RX6 60 RX6 yX6_finding wsX6_finding) := goodIn_app (goodIn_of _ (by decide +kernel)) ggX6_lays_X6_finding
set_option maxRecDepth 20000 in
theorem ggX6_lays_X4_makeLike : GoodIn wsX6_lays wsX4_makeLike := goodIn_r _ [38, 39, 52, 53, 54, 55, 56, 57, 58, 59, 60, 61, 62] (by decide +kernel) (by decide +kernel)
set_option maxRecDepth 20000 in
theorem gX6_lays_X4_makeLike : GoodIn wsX6_lays (wsV RX6 138 RX4 yX4_makeLike wsX4_makeLike) := goodIn_app (goodIn_of _ (by decide +kernel)) ggX6_lays_X4_makeLike
theorem dX6_lays_0 : decode cX6_lays 0 = .ok (.aload_n 0, 1) := by decide +kernel
theorem dX6_lays_1 : decode cX6_lays 1 = .ok (.iload_n 1, 1) := by decide +kernel
theorem dX6_lays_2 : decode cX6_lays 2 = .ok (.iload_n 2, 1) := by decide +kernel
theorem dX6_lays_3 : decode cX6_lays 3 = .ok (.invokevirtual 236, 3) := by decide +kernel
theorem dX6_lays_6 : decode cX6_lays 6 = .ok (.istore_n 3, 1) := by decide +kernel
theorem dX6_lays_7 : decode cX6_lays 7 = .ok (.iload_n 3, 1) := by decide +kernel
theorem dX6_lays_8 : decode cX6_lays 8 = .ok (.ifCond .lt 9, 3) := by decide +kernel
theorem dX6_lays_11 : decode cX6_lays 11 = .ok (.aload_n 0, 1) := by decide +kernel
theorem dX6_lays_12 : decode cX6_lays 12 = .ok (.iload_n 3, 1) := by decide +kernel
theorem dX6_lays_13 : decode cX6_lays 13 = .ok (.invokevirtual 60, 3) := by decide +kernel
theorem dX6_lays_16 : decode cX6_lays 16 = .ok (.ireturn, 1) := by decide +kernel
theorem dX6_lays_17 : decode cX6_lays 17 = .ok (.aload_n 0, 1) := by decide +kernel
theorem dX6_lays_18 : decode cX6_lays 18 = .ok (.getfield 43, 3) := by decide +kernel
theorem dX6_lays_21 : decode cX6_lays 21 = .ok (.iload_n 1, 1) := by decide +kernel
theorem dX6_lays_22 : decode cX6_lays 22 = .ok (.aaload, 1) := by decide +kernel
theorem dX6_lays_23 : decode cX6_lays 23 = .ok (.astore 4, 2) := by decide +kernel
theorem dX6_lays_25 : decode cX6_lays 25 = .ok (.iconst 0, 1) := by decide +kernel
theorem dX6_lays_26 : decode cX6_lays 26 = .ok (.istore 5, 2) := by decide +kernel
theorem dX6_lays_28 : decode cX6_lays 28 = .ok (.iconst 0, 1) := by decide +kernel
theorem dX6_lays_29 : decode cX6_lays 29 = .ok (.istore 6, 2) := by decide +kernel
theorem dX6_lays_31 : decode cX6_lays 31 = .ok (.iload 6, 2) := by decide +kernel
theorem dX6_lays_33 : decode cX6_lays 33 = .ok (.bipush 10, 2) := by decide +kernel
theorem dX6_lays_35 : decode cX6_lays 35 = .ok (.if_icmp .ge 61, 3) := by decide +kernel
theorem dX6_lays_38 : decode cX6_lays 38 = .ok (.iload 6, 2) := by decide +kernel
theorem dX6_lays_40 : decode cX6_lays 40 = .ok (.aload 4, 2) := by decide +kernel
theorem dX6_lays_42 : decode cX6_lays 42 = .ok (.getfield 212, 3) := by decide +kernel
theorem dX6_lays_45 : decode cX6_lays 45 = .ok (.if_icmp .ge 51, 3) := by decide +kernel
theorem dX6_lays_48 : decode cX6_lays 48 = .ok (.aload 4, 2) := by decide +kernel
theorem dX6_lays_50 : decode cX6_lays 50 = .ok (.getfield 216, 3) := by decide +kernel
theorem dX6_lays_53 : decode cX6_lays 53 = .ok (.iload 6, 2) := by decide +kernel
theorem dX6_lays_55 : decode cX6_lays 55 = .ok (.laload, 1) := by decide +kernel
theorem dX6_lays_56 : decode cX6_lays 56 = .ok (.lstore 7, 2) := by decide +kernel
theorem dX6_lays_58 : decode cX6_lays 58 = .ok (.lload 7, 2) := by decide +kernel
theorem dX6_lays_60 : decode cX6_lays 60 = .ok (.lconst 0, 1) := by decide +kernel
theorem dX6_lays_61 : decode cX6_lays 61 = .ok (.lcmp, 1) := by decide +kernel
theorem dX6_lays_62 : decode cX6_lays 62 = .ok (.ifCond .lt 28, 3) := by decide +kernel
theorem dX6_lays_65 : decode cX6_lays 65 = .ok (.lload 7, 2) := by decide +kernel
theorem dX6_lays_67 : decode cX6_lays 67 = .ok (.ldc2_w 239, 3) := by decide +kernel
theorem dX6_lays_70 : decode cX6_lays 70 = .ok (.lcmp, 1) := by decide +kernel
theorem dX6_lays_71 : decode cX6_lays 71 = .ok (.ifCond .gt 19, 3) := by decide +kernel
theorem dX6_lays_74 : decode cX6_lays 74 = .ok (.aload_n 0, 1) := by decide +kernel
theorem dX6_lays_75 : decode cX6_lays 75 = .ok (.getfield 10, 3) := by decide +kernel
theorem dX6_lays_78 : decode cX6_lays 78 = .ok (.iload_n 2, 1) := by decide +kernel
theorem dX6_lays_79 : decode cX6_lays 79 = .ok (.iload 6, 2) := by decide +kernel
theorem dX6_lays_81 : decode cX6_lays 81 = .ok (.lload 7, 2) := by decide +kernel
theorem dX6_lays_83 : decode cX6_lays 83 = .ok (.l2i, 1) := by decide +kernel
theorem dX6_lays_84 : decode cX6_lays 84 = .ok (.invokevirtual 138, 3) := by decide +kernel
theorem dX6_lays_87 : decode cX6_lays 87 = .ok (.iinc 5 1, 3) := by decide +kernel
theorem dX6_lays_90 : decode cX6_lays 90 = .ok (.iinc 6 1, 3) := by decide +kernel
theorem dX6_lays_93 : decode cX6_lays 93 = .ok (.goto (-62), 3) := by decide +kernel
theorem dX6_lays_96 : decode cX6_lays 96 = .ok (.iload 5, 2) := by decide +kernel
theorem dX6_lays_98 : decode cX6_lays 98 = .ok (.ireturn, 1) := by decide +kernel
set_option maxRecDepth 20000 in
theorem ggX6_book_X6_sheetFinding : GoodIn wsX6_book wsX6_sheetFinding := goodIn_r _ [10, 1, 11, 12, 9, 13, 14, 15, 16, 17, 18, 19, 20, 21, 22, 23, 24, 25, 26, 3, 27, 123, 124, 125, 126, 127, 128, 129, 130, 131, 132, 133, 134, 135, 136, 137, 138, 139, 140, 141, 142, 143, 144, 145] (by decide +kernel) (by decide +kernel)
set_option maxRecDepth 20000 in
theorem gX6_book_X6_sheetFinding : GoodIn wsX6_book (wsV RX6 236 RX6 yX6_sheetFinding wsX6_sheetFinding) := goodIn_app (goodIn_of _ (by decide +kernel)) ggX6_book_X6_sheetFinding
set_option maxRecDepth 20000 in
theorem ggX6_book_X6_finding : GoodIn wsX6_book wsX6_finding := goodIn_r _ [31, 32, 33, 123, 124, 125, 126, 127, 128, 129, 130, 131] (by decide +kernel) (by decide +kernel)
set_option maxRecDepth 20000 in
theorem gX6_book_X6_finding : GoodIn wsX6_book (wsV RX6 60 RX6 yX6_finding wsX6_finding) := goodIn_app (goodIn_of _ (by decide +kernel)) ggX6_book_X6_finding
set_option maxRecDepth 20000 in
theorem ggX6_book_X4_become : GoodIn wsX6_book wsX4_become := goodIn_r _ [38, 39, 40, 41, 42, 43, 44, 45, 46, 47, 48, 49, 50, 51, 52, 135, 136, 137, 138, 139, 140, 141, 142, 143, 144, 145] (by decide +kernel) (by decide +kernel)
set_option maxRecDepth 20000 in
theorem gX6_book_X4_become : GoodIn wsX6_book (wsV RX6 175 RX4 yX4_become wsX4_become) := goodIn_app (goodIn_of _ (by decide +kernel)) ggX6_book_X4_become
set_option maxRecDepth 20000 in
theorem ggX6_book_X2_put : GoodIn wsX6_book wsX2_put := goodIn_r _ [56, 57, 22, 132, 133, 134] (by decide +kernel) (by decide +kernel)
set_option maxRecDepth 20000 in
theorem gX6_book_X2_put : GoodIn wsX6_book (wsV RX6 220 RX2 yX2_put wsX2_put) := goodIn_app (goodIn_of _ (by decide +kernel)) ggX6_book_X2_put
set_option maxRecDepth 20000 in
theorem ggX6_book_X4_playRound : GoodIn wsX6_book wsX4_playRound := goodIn_r _ [61, 52, 41, 39, 62, 63, 64, 37, 65, 42, 47, 66, 67, 68, 69, 70, 71, 72, 73, 74, 49, 75, 76, 77, 78, 79, 80, 81, 82, 83, 84, 85, 51, 86, 87, 88, 89, 50, 90, 91, 92, 93, 94, 95, 96, 97, 98, 99, 100, 101, 48, 40, 102, 103, 104, 105, 106, 107, 108, 109, 110, 111, 112, 113, 114, 115, 116, 117, 118, 119, 120, 121, 122, 135, 136, 137, 138, 139, 140, 141, 142, 143, 144, 145, 146, 147] (by decide +kernel) (by decide +kernel)
set_option maxRecDepth 20000 in
theorem gX6_book_X4_playRound : GoodIn wsX6_book (wsV RX6 179 RX4 yX4_playRound wsX4_playRound) := goodIn_app (goodIn_of _ (by decide +kernel)) ggX6_book_X4_playRound
theorem dX6_book_0 : decode cX6_book 0 = .ok (.aload_n 0, 1) := by decide +kernel
theorem dX6_book_1 : decode cX6_book 1 = .ok (.iload_n 1, 1) := by decide +kernel
theorem dX6_book_2 : decode cX6_book 2 = .ok (.iload_n 2, 1) := by decide +kernel
theorem dX6_book_3 : decode cX6_book 3 = .ok (.invokevirtual 236, 3) := by decide +kernel
theorem dX6_book_6 : decode cX6_book 6 = .ok (.istore_n 3, 1) := by decide +kernel
theorem dX6_book_7 : decode cX6_book 7 = .ok (.iload_n 3, 1) := by decide +kernel
theorem dX6_book_8 : decode cX6_book 8 = .ok (.ifCond .lt 9, 3) := by decide +kernel
theorem dX6_book_11 : decode cX6_book 11 = .ok (.aload_n 0, 1) := by decide +kernel
theorem dX6_book_12 : decode cX6_book 12 = .ok (.iload_n 3, 1) := by decide +kernel
theorem dX6_book_13 : decode cX6_book 13 = .ok (.invokevirtual 60, 3) := by decide +kernel
theorem dX6_book_16 : decode cX6_book 16 = .ok (.ireturn, 1) := by decide +kernel
theorem dX6_book_17 : decode cX6_book 17 = .ok (.aload_n 0, 1) := by decide +kernel
theorem dX6_book_18 : decode cX6_book 18 = .ok (.getfield 43, 3) := by decide +kernel
theorem dX6_book_21 : decode cX6_book 21 = .ok (.iload_n 1, 1) := by decide +kernel
theorem dX6_book_22 : decode cX6_book 22 = .ok (.aaload, 1) := by decide +kernel
theorem dX6_book_23 : decode cX6_book 23 = .ok (.astore 4, 2) := by decide +kernel
theorem dX6_book_25 : decode cX6_book 25 = .ok (.aload_n 0, 1) := by decide +kernel
theorem dX6_book_26 : decode cX6_book 26 = .ok (.getfield 19, 3) := by decide +kernel
theorem dX6_book_29 : decode cX6_book 29 = .ok (.aload_n 0, 1) := by decide +kernel
theorem dX6_book_30 : decode cX6_book 30 = .ok (.getfield 10, 3) := by decide +kernel
theorem dX6_book_33 : decode cX6_book 33 = .ok (.invokevirtual 175, 3) := by decide +kernel
theorem dX6_book_36 : decode cX6_book 36 = .ok (.iconst 0, 1) := by decide +kernel
theorem dX6_book_37 : decode cX6_book 37 = .ok (.istore 5, 2) := by decide +kernel
theorem dX6_book_39 : decode cX6_book 39 = .ok (.iload 5, 2) := by decide +kernel
theorem dX6_book_41 : decode cX6_book 41 = .ok (.aload 4, 2) := by decide +kernel
theorem dX6_book_43 : decode cX6_book 43 = .ok (.getfield 212, 3) := by decide +kernel
theorem dX6_book_46 : decode cX6_book 46 = .ok (.if_icmp .ge 33, 3) := by decide +kernel
theorem dX6_book_49 : decode cX6_book 49 = .ok (.aload 4, 2) := by decide +kernel
theorem dX6_book_51 : decode cX6_book 51 = .ok (.iload 5, 2) := by decide +kernel
theorem dX6_book_53 : decode cX6_book 53 = .ok (.aload_n 0, 1) := by decide +kernel
theorem dX6_book_54 : decode cX6_book 54 = .ok (.getfield 19, 3) := by decide +kernel
theorem dX6_book_57 : decode cX6_book 57 = .ok (.getfield 110, 3) := by decide +kernel
theorem dX6_book_60 : decode cX6_book 60 = .ok (.iload_n 2, 1) := by decide +kernel
theorem dX6_book_61 : decode cX6_book 61 = .ok (.iaload, 1) := by decide +kernel
theorem dX6_book_62 : decode cX6_book 62 = .ok (.i2l, 1) := by decide +kernel
theorem dX6_book_63 : decode cX6_book 63 = .ok (.invokevirtual 220, 3) := by decide +kernel
theorem dX6_book_66 : decode cX6_book 66 = .ok (.aload_n 0, 1) := by decide +kernel
theorem dX6_book_67 : decode cX6_book 67 = .ok (.getfield 19, 3) := by decide +kernel
theorem dX6_book_70 : decode cX6_book 70 = .ok (.invokevirtual 179, 3) := by decide +kernel
theorem dX6_book_73 : decode cX6_book 73 = .ok (.iinc 5 1, 3) := by decide +kernel
theorem dX6_book_76 : decode cX6_book 76 = .ok (.goto (-37), 3) := by decide +kernel
theorem dX6_book_79 : decode cX6_book 79 = .ok (.aload 4, 2) := by decide +kernel
theorem dX6_book_81 : decode cX6_book 81 = .ok (.getfield 212, 3) := by decide +kernel
theorem dX6_book_84 : decode cX6_book 84 = .ok (.ireturn, 1) := by decide +kernel
set_option maxRecDepth 20000 in
theorem ggX6_read_X6_sheetFinding : GoodIn wsX6_read wsX6_sheetFinding := goodIn_r _ [9, 4, 10, 11, 8, 12, 13, 14, 15, 16, 17, 18, 19, 20, 21, 22, 23, 24, 25, 2, 26, 127, 128, 129, 130, 131, 132, 133, 134, 135, 147, 148, 149, 136, 137, 138, 139, 140, 141, 142, 143, 144, 145, 146] (by decide +kernel) (by decide +kernel)
set_option maxRecDepth 20000 in
theorem gX6_read_X6_sheetFinding : GoodIn wsX6_read (wsV RX6 236 RX6 yX6_sheetFinding wsX6_sheetFinding) := goodIn_app (goodIn_of _ (by decide +kernel)) ggX6_read_X6_sheetFinding
set_option maxRecDepth 20000 in
theorem ggX6_read_X6_finding : GoodIn wsX6_read wsX6_finding := goodIn_r _ [30, 31, 32, 127, 128, 129, 130, 131, 132, 133, 134, 135] (by decide +kernel) (by decide +kernel)
set_option maxRecDepth 20000 in
theorem gX6_read_X6_finding : GoodIn wsX6_read (wsV RX6 60 RX6 yX6_finding wsX6_finding) := goodIn_app (goodIn_of _ (by decide +kernel)) ggX6_read_X6_finding
set_option maxRecDepth 20000 in
theorem ggX6_read_X6_areTwo : GoodIn wsX6_read wsX6_areTwo := goodIn_r _ [36, 22, 23, 24, 8, 25, 2, 26, 13, 14, 15, 127, 128, 129, 130, 131, 132, 133, 134, 135, 136, 137, 138, 139, 140, 141, 142, 143, 144, 145, 146] (by decide +kernel) (by decide +kernel)
set_option maxRecDepth 20000 in
theorem gX6_read_X6_areTwo : GoodIn wsX6_read (wsV RX6 152 RX6 yX6_areTwo wsX6_areTwo) := goodIn_app (goodIn_of _ (by decide +kernel)) ggX6_read_X6_areTwo
set_option maxRecDepth 20000 in
theorem ggX6_read_X4_become : GoodIn wsX6_read wsX4_become := goodIn_r _ [41, 42, 43, 44, 45, 46, 47, 48, 49, 50, 51, 52, 53, 54, 55, 136, 137, 138, 139, 140, 141, 142, 143, 144, 145, 146] (by decide +kernel) (by decide +kernel)
set_option maxRecDepth 20000 in
theorem gX6_read_X4_become : GoodIn wsX6_read (wsV RX6 175 RX4 yX4_become wsX4_become) := goodIn_app (goodIn_of _ (by decide +kernel)) ggX6_read_X4_become
set_option maxRecDepth 20000 in
theorem ggX6_read_X4_goesAsBooked : GoodIn wsX6_read wsX4_goesAsBooked := goodIn_r _ [59, 60, 61, 50, 62, 63, 64, 40, 65, 55, 44, 42, 66, 67, 68, 69, 45, 70, 71, 72, 73, 74, 75, 76, 77, 78, 52, 79, 80, 81, 82, 83, 84, 85, 86, 87, 88, 89, 54, 90, 91, 92, 93, 53, 94, 95, 96, 97, 98, 99, 100, 101, 102, 103, 104, 105, 51, 43, 106, 107, 108, 109, 110, 111, 112, 113, 114, 115, 116, 117, 118, 119, 120, 121, 122, 123, 124, 125, 126, 147, 148, 149, 136, 137, 138, 139, 140, 141, 142, 143, 144, 145, 146, 150, 151] (by decide +kernel) (by decide +kernel)
set_option maxRecDepth 20000 in
theorem gX6_read_X4_goesAsBooked : GoodIn wsX6_read (wsV RX6 241 RX4 yX4_goesAsBooked wsX4_goesAsBooked) := goodIn_app (goodIn_of _ (by decide +kernel)) ggX6_read_X4_goesAsBooked
theorem dX6_read_0 : decode cX6_read 0 = .ok (.aload_n 0, 1) := by decide +kernel
theorem dX6_read_1 : decode cX6_read 1 = .ok (.iload_n 1, 1) := by decide +kernel
theorem dX6_read_2 : decode cX6_read 2 = .ok (.iload_n 2, 1) := by decide +kernel
theorem dX6_read_3 : decode cX6_read 3 = .ok (.invokevirtual 236, 3) := by decide +kernel
theorem dX6_read_6 : decode cX6_read 6 = .ok (.istore 4, 2) := by decide +kernel
theorem dX6_read_8 : decode cX6_read 8 = .ok (.iload 4, 2) := by decide +kernel
theorem dX6_read_10 : decode cX6_read 10 = .ok (.ifCond .lt 10, 3) := by decide +kernel
theorem dX6_read_13 : decode cX6_read 13 = .ok (.aload_n 0, 1) := by decide +kernel
theorem dX6_read_14 : decode cX6_read 14 = .ok (.iload 4, 2) := by decide +kernel
theorem dX6_read_16 : decode cX6_read 16 = .ok (.invokevirtual 60, 3) := by decide +kernel
theorem dX6_read_19 : decode cX6_read 19 = .ok (.ireturn, 1) := by decide +kernel
theorem dX6_read_20 : decode cX6_read 20 = .ok (.aload_n 0, 1) := by decide +kernel
theorem dX6_read_21 : decode cX6_read 21 = .ok (.iload_n 2, 1) := by decide +kernel
theorem dX6_read_22 : decode cX6_read 22 = .ok (.iload_n 3, 1) := by decide +kernel
theorem dX6_read_23 : decode cX6_read 23 = .ok (.invokevirtual 152, 3) := by decide +kernel
theorem dX6_read_26 : decode cX6_read 26 = .ok (.ifCond .ne 9, 3) := by decide +kernel
theorem dX6_read_29 : decode cX6_read 29 = .ok (.aload_n 0, 1) := by decide +kernel
theorem dX6_read_30 : decode cX6_read 30 = .ok (.iconst 0, 1) := by decide +kernel
theorem dX6_read_31 : decode cX6_read 31 = .ok (.invokevirtual 60, 3) := by decide +kernel
theorem dX6_read_34 : decode cX6_read 34 = .ok (.ireturn, 1) := by decide +kernel
theorem dX6_read_35 : decode cX6_read 35 = .ok (.iconst 0, 1) := by decide +kernel
theorem dX6_read_36 : decode cX6_read 36 = .ok (.istore 5, 2) := by decide +kernel
theorem dX6_read_38 : decode cX6_read 38 = .ok (.iconst 0, 1) := by decide +kernel
theorem dX6_read_39 : decode cX6_read 39 = .ok (.istore 6, 2) := by decide +kernel
theorem dX6_read_41 : decode cX6_read 41 = .ok (.iload 6, 2) := by decide +kernel
theorem dX6_read_43 : decode cX6_read 43 = .ok (.bipush 6, 2) := by decide +kernel
theorem dX6_read_45 : decode cX6_read 45 = .ok (.if_icmp .ge 78, 3) := by decide +kernel
theorem dX6_read_48 : decode cX6_read 48 = .ok (.iconst 0, 1) := by decide +kernel
theorem dX6_read_49 : decode cX6_read 49 = .ok (.istore 7, 2) := by decide +kernel
theorem dX6_read_51 : decode cX6_read 51 = .ok (.iload 7, 2) := by decide +kernel
theorem dX6_read_53 : decode cX6_read 53 = .ok (.bipush 6, 2) := by decide +kernel
theorem dX6_read_55 : decode cX6_read 55 = .ok (.if_icmp .ge 62, 3) := by decide +kernel
theorem dX6_read_58 : decode cX6_read 58 = .ok (.aload_n 0, 1) := by decide +kernel
theorem dX6_read_59 : decode cX6_read 59 = .ok (.getfield 19, 3) := by decide +kernel
theorem dX6_read_62 : decode cX6_read 62 = .ok (.aload_n 0, 1) := by decide +kernel
theorem dX6_read_63 : decode cX6_read 63 = .ok (.getfield 10, 3) := by decide +kernel
theorem dX6_read_66 : decode cX6_read 66 = .ok (.invokevirtual 175, 3) := by decide +kernel
theorem dX6_read_69 : decode cX6_read 69 = .ok (.aload_n 0, 1) := by decide +kernel
theorem dX6_read_70 : decode cX6_read 70 = .ok (.getfield 19, 3) := by decide +kernel
theorem dX6_read_73 : decode cX6_read 73 = .ok (.getfield 107, 3) := by decide +kernel
theorem dX6_read_76 : decode cX6_read 76 = .ok (.iload_n 2, 1) := by decide +kernel
theorem dX6_read_77 : decode cX6_read 77 = .ok (.iload 6, 2) := by decide +kernel
theorem dX6_read_79 : decode cX6_read 79 = .ok (.iastore, 1) := by decide +kernel
theorem dX6_read_80 : decode cX6_read 80 = .ok (.aload_n 0, 1) := by decide +kernel
theorem dX6_read_81 : decode cX6_read 81 = .ok (.getfield 19, 3) := by decide +kernel
theorem dX6_read_84 : decode cX6_read 84 = .ok (.getfield 107, 3) := by decide +kernel
theorem dX6_read_87 : decode cX6_read 87 = .ok (.iload_n 3, 1) := by decide +kernel
theorem dX6_read_88 : decode cX6_read 88 = .ok (.iload 7, 2) := by decide +kernel
theorem dX6_read_90 : decode cX6_read 90 = .ok (.iastore, 1) := by decide +kernel
theorem dX6_read_91 : decode cX6_read 91 = .ok (.aload_n 0, 1) := by decide +kernel
theorem dX6_read_92 : decode cX6_read 92 = .ok (.getfield 19, 3) := by decide +kernel
theorem dX6_read_95 : decode cX6_read 95 = .ok (.iload_n 2, 1) := by decide +kernel
theorem dX6_read_96 : decode cX6_read 96 = .ok (.aload_n 0, 1) := by decide +kernel
theorem dX6_read_97 : decode cX6_read 97 = .ok (.getfield 43, 3) := by decide +kernel
theorem dX6_read_100 : decode cX6_read 100 = .ok (.iload_n 1, 1) := by decide +kernel
theorem dX6_read_101 : decode cX6_read 101 = .ok (.aaload, 1) := by decide +kernel
theorem dX6_read_102 : decode cX6_read 102 = .ok (.invokevirtual 241, 3) := by decide +kernel
theorem dX6_read_105 : decode cX6_read 105 = .ok (.ifCond .eq 6, 3) := by decide +kernel
theorem dX6_read_108 : decode cX6_read 108 = .ok (.iinc 5 1, 3) := by decide +kernel
theorem dX6_read_111 : decode cX6_read 111 = .ok (.iinc 7 1, 3) := by decide +kernel
theorem dX6_read_114 : decode cX6_read 114 = .ok (.goto (-63), 3) := by decide +kernel
theorem dX6_read_117 : decode cX6_read 117 = .ok (.iinc 6 1, 3) := by decide +kernel
theorem dX6_read_120 : decode cX6_read 120 = .ok (.goto (-79), 3) := by decide +kernel
theorem dX6_read_123 : decode cX6_read 123 = .ok (.iload 5, 2) := by decide +kernel
theorem dX6_read_125 : decode cX6_read 125 = .ok (.ireturn, 1) := by decide +kernel
set_option maxRecDepth 20000 in
theorem ggX6_image_X4_become : GoodIn wsX6_image wsX4_become := goodIn_r _ [8, 9, 10, 11, 12, 13, 14, 15, 16, 17, 18, 19, 20, 21, 22, 32, 33, 34, 35, 36, 37, 38, 39, 40, 41, 42] (by decide +kernel) (by decide +kernel)
set_option maxRecDepth 20000 in
theorem gX6_image_X4_become : GoodIn wsX6_image (wsV RX6 175 RX4 yX4_become wsX4_become) := goodIn_app (goodIn_of _ (by decide +kernel)) ggX6_image_X4_become
theorem dX6_image_0 : decode cX6_image 0 = .ok (.aload_n 0, 1) := by decide +kernel
theorem dX6_image_1 : decode cX6_image 1 = .ok (.getfield 16, 3) := by decide +kernel
theorem dX6_image_4 : decode cX6_image 4 = .ok (.aload_n 0, 1) := by decide +kernel
theorem dX6_image_5 : decode cX6_image 5 = .ok (.getfield 10, 3) := by decide +kernel
theorem dX6_image_8 : decode cX6_image 8 = .ok (.invokevirtual 175, 3) := by decide +kernel
theorem dX6_image_11 : decode cX6_image 11 = .ok (.aload_n 0, 1) := by decide +kernel
theorem dX6_image_12 : decode cX6_image 12 = .ok (.iconst 1, 1) := by decide +kernel
theorem dX6_image_13 : decode cX6_image 13 = .ok (.putfield 51, 3) := by decide +kernel
theorem dX6_image_16 : decode cX6_image 16 = .ok (.iconst 1, 1) := by decide +kernel
theorem dX6_image_17 : decode cX6_image 17 = .ok (.ireturn, 1) := by decide +kernel
set_option maxRecDepth 20000 in
theorem ggX6_undo_X6_finding : GoodIn wsX6_undo wsX6_finding := goodIn_r _ [9, 10, 11, 31, 32, 33, 34, 35, 36, 37, 38, 39] (by decide +kernel) (by decide +kernel)
set_option maxRecDepth 20000 in
theorem gX6_undo_X6_finding : GoodIn wsX6_undo (wsV RX6 60 RX6 yX6_finding wsX6_finding) := goodIn_app (goodIn_of _ (by decide +kernel)) ggX6_undo_X6_finding
set_option maxRecDepth 20000 in
theorem ggX6_undo_X4_become : GoodIn wsX6_undo wsX4_become := goodIn_r _ [16, 17, 18, 19, 20, 21, 22, 23, 24, 25, 26, 27, 28, 29, 30, 40, 41, 42, 43, 44, 45, 46, 47, 48, 49, 50] (by decide +kernel) (by decide +kernel)
set_option maxRecDepth 20000 in
theorem gX6_undo_X4_become : GoodIn wsX6_undo (wsV RX6 175 RX4 yX4_become wsX4_become) := goodIn_app (goodIn_of _ (by decide +kernel)) ggX6_undo_X4_become
theorem dX6_undo_0 : decode cX6_undo 0 = .ok (.aload_n 0, 1) := by decide +kernel
theorem dX6_undo_1 : decode cX6_undo 1 = .ok (.getfield 51, 3) := by decide +kernel
theorem dX6_undo_4 : decode cX6_undo 4 = .ok (.ifCond .ne 9, 3) := by decide +kernel
theorem dX6_undo_7 : decode cX6_undo 7 = .ok (.aload_n 0, 1) := by decide +kernel
theorem dX6_undo_8 : decode cX6_undo 8 = .ok (.iconst 3, 1) := by decide +kernel
theorem dX6_undo_9 : decode cX6_undo 9 = .ok (.invokevirtual 60, 3) := by decide +kernel
theorem dX6_undo_12 : decode cX6_undo 12 = .ok (.ireturn, 1) := by decide +kernel
theorem dX6_undo_13 : decode cX6_undo 13 = .ok (.aload_n 0, 1) := by decide +kernel
theorem dX6_undo_14 : decode cX6_undo 14 = .ok (.getfield 10, 3) := by decide +kernel
theorem dX6_undo_17 : decode cX6_undo 17 = .ok (.aload_n 0, 1) := by decide +kernel
theorem dX6_undo_18 : decode cX6_undo 18 = .ok (.getfield 16, 3) := by decide +kernel
theorem dX6_undo_21 : decode cX6_undo 21 = .ok (.invokevirtual 175, 3) := by decide +kernel
theorem dX6_undo_24 : decode cX6_undo 24 = .ok (.aload_n 0, 1) := by decide +kernel
theorem dX6_undo_25 : decode cX6_undo 25 = .ok (.getfield 10, 3) := by decide +kernel
theorem dX6_undo_28 : decode cX6_undo 28 = .ok (.getfield 158, 3) := by decide +kernel
theorem dX6_undo_31 : decode cX6_undo 31 = .ok (.ireturn, 1) := by decide +kernel
theorem dX6_tear_0 : decode cX6_tear 0 = .ok (.aload_n 0, 1) := by decide +kernel
theorem dX6_tear_1 : decode cX6_tear 1 = .ok (.getfield 51, 3) := by decide +kernel
theorem dX6_tear_4 : decode cX6_tear 4 = .ok (.ifCond .eq 7, 3) := by decide +kernel
theorem dX6_tear_7 : decode cX6_tear 7 = .ok (.iconst 1, 1) := by decide +kernel
theorem dX6_tear_8 : decode cX6_tear 8 = .ok (.goto 4, 3) := by decide +kernel
theorem dX6_tear_11 : decode cX6_tear 11 = .ok (.iconst 0, 1) := by decide +kernel
theorem dX6_tear_12 : decode cX6_tear 12 = .ok (.istore_n 1, 1) := by decide +kernel
theorem dX6_tear_13 : decode cX6_tear 13 = .ok (.aload_n 0, 1) := by decide +kernel
theorem dX6_tear_14 : decode cX6_tear 14 = .ok (.iconst 0, 1) := by decide +kernel
theorem dX6_tear_15 : decode cX6_tear 15 = .ok (.putfield 51, 3) := by decide +kernel
theorem dX6_tear_18 : decode cX6_tear 18 = .ok (.iload_n 1, 1) := by decide +kernel
theorem dX6_tear_19 : decode cX6_tear 19 = .ok (.ireturn, 1) := by decide +kernel
set_option maxRecDepth 20000 in
theorem ggX6_count_X4_trustOfAll : GoodIn wsX6_count wsX4_trustOfAll := goodIn_r _ [9, 10, 11, 40, 41, 42, 43, 44, 45, 46, 47, 48, 49, 50] (by decide +kernel) (by decide +kernel)
set_option maxRecDepth 20000 in
theorem gX6_count_X4_trustOfAll : GoodIn wsX6_count (wsV RX6 245 RX4 yX4_trustOfAll wsX4_trustOfAll) := goodIn_app (goodIn_of _ (by decide +kernel)) ggX6_count_X4_trustOfAll
set_option maxRecDepth 20000 in
theorem ggX6_count_X4_thingsHeld : GoodIn wsX6_count wsX4_thingsHeld := goodIn_r _ [15, 10, 16, 40, 41, 42, 43, 44, 45, 46, 47, 48, 49, 50] (by decide +kernel) (by decide +kernel)
set_option maxRecDepth 20000 in
theorem gX6_count_X4_thingsHeld : GoodIn wsX6_count (wsV RX6 71 RX4 yX4_thingsHeld wsX4_thingsHeld) := goodIn_app (goodIn_of _ (by decide +kernel)) ggX6_count_X4_thingsHeld
set_option maxRecDepth 20000 in
theorem ggX6_count_J6_bitCount_0f7a4 : GoodIn wsX6_count wsJ6_bitCount_0f7a4 := goodIn_r _ [20, 21, 22, 23] (by decide +kernel) (by decide +kernel)
set_option maxRecDepth 20000 in
theorem gX6_count_J6_bitCount_0f7a4 : GoodIn wsX6_count (va_wsS RX6 248 yJ6_bitCount_0f7a4 wsJ6_bitCount_0f7a4) := goodIn_app (goodIn_of _ (by decide +kernel)) ggX6_count_J6_bitCount_0f7a4
set_option maxRecDepth 20000 in
theorem ggX6_count_X6_finding : GoodIn wsX6_count wsX6_finding := goodIn_r _ [28, 29, 30, 31, 32, 33, 34, 35, 36, 37, 38, 39] (by decide +kernel) (by decide +kernel)
set_option maxRecDepth 20000 in
theorem gX6_count_X6_finding : GoodIn wsX6_count (wsV RX6 60 RX6 yX6_finding wsX6_finding) := goodIn_app (goodIn_of _ (by decide +kernel)) ggX6_count_X6_finding
theorem dX6_count_0 : decode cX6_count 0 = .ok (.iload_n 1, 1) := by decide +kernel
theorem dX6_count_1 : decode cX6_count 1 = .ok (.tableswitch 69 0 3 #[31, 39, 47, 55], 31) := by decide +kernel
theorem dX6_count_32 : decode cX6_count 32 = .ok (.aload_n 0, 1) := by decide +kernel
theorem dX6_count_33 : decode cX6_count 33 = .ok (.getfield 10, 3) := by decide +kernel
theorem dX6_count_36 : decode cX6_count 36 = .ok (.getfield 158, 3) := by decide +kernel
theorem dX6_count_39 : decode cX6_count 39 = .ok (.ireturn, 1) := by decide +kernel
theorem dX6_count_40 : decode cX6_count 40 = .ok (.aload_n 0, 1) := by decide +kernel
theorem dX6_count_41 : decode cX6_count 41 = .ok (.getfield 40, 3) := by decide +kernel
theorem dX6_count_44 : decode cX6_count 44 = .ok (.getfield 191, 3) := by decide +kernel
theorem dX6_count_47 : decode cX6_count 47 = .ok (.ireturn, 1) := by decide +kernel
theorem dX6_count_48 : decode cX6_count 48 = .ok (.aload_n 0, 1) := by decide +kernel
theorem dX6_count_49 : decode cX6_count 49 = .ok (.getfield 10, 3) := by decide +kernel
theorem dX6_count_52 : decode cX6_count 52 = .ok (.invokevirtual 245, 3) := by decide +kernel
theorem dX6_count_55 : decode cX6_count 55 = .ok (.ireturn, 1) := by decide +kernel
theorem dX6_count_56 : decode cX6_count 56 = .ok (.bipush 10, 2) := by decide +kernel
theorem dX6_count_58 : decode cX6_count 58 = .ok (.aload_n 0, 1) := by decide +kernel
theorem dX6_count_59 : decode cX6_count 59 = .ok (.getfield 10, 3) := by decide +kernel
theorem dX6_count_62 : decode cX6_count 62 = .ok (.invokevirtual 71, 3) := by decide +kernel
theorem dX6_count_65 : decode cX6_count 65 = .ok (.invokestatic 248, 3) := by decide +kernel
theorem dX6_count_68 : decode cX6_count 68 = .ok (.isub, 1) := by decide +kernel
theorem dX6_count_69 : decode cX6_count 69 = .ok (.ireturn, 1) := by decide +kernel
theorem dX6_count_70 : decode cX6_count 70 = .ok (.aload_n 0, 1) := by decide +kernel
theorem dX6_count_71 : decode cX6_count 71 = .ok (.iconst 0, 1) := by decide +kernel
theorem dX6_count_72 : decode cX6_count 72 = .ok (.invokevirtual 60, 3) := by decide +kernel
theorem dX6_count_75 : decode cX6_count 75 = .ok (.ireturn, 1) := by decide +kernel
set_option maxRecDepth 20000 in
theorem ggX6_status_X6_isWithin : GoodIn wsX6_status wsX6_isWithin := goodIn_r _ [5] (by decide +kernel) (by decide +kernel)
set_option maxRecDepth 20000 in
theorem gX6_status_X6_isWithin : GoodIn wsX6_status (va_wsS RX6 56 yX6_isWithin wsX6_isWithin) := goodIn_app (goodIn_of _ (by decide +kernel)) ggX6_status_X6_isWithin
set_option maxRecDepth 20000 in
theorem ggX6_status_X6_finding : GoodIn wsX6_status wsX6_finding := goodIn_r _ [9, 1, 10, 11, 12, 13, 14, 15, 16, 17, 18, 19] (by decide +kernel) (by decide +kernel)
set_option maxRecDepth 20000 in
theorem gX6_status_X6_finding : GoodIn wsX6_status (wsV RX6 60 RX6 yX6_finding wsX6_finding) := goodIn_app (goodIn_of _ (by decide +kernel)) ggX6_status_X6_finding
theorem dX6_status_0 : decode cX6_status 0 = .ok (.iload_n 1, 1) := by decide +kernel
theorem dX6_status_1 : decode cX6_status 1 = .ok (.iconst (-1), 1) := by decide +kernel
theorem dX6_status_2 : decode cX6_status 2 = .ok (.if_icmp .ne 30, 3) := by decide +kernel
theorem dX6_status_5 : decode cX6_status 5 = .ok (.iconst 0, 1) := by decide +kernel
theorem dX6_status_6 : decode cX6_status 6 = .ok (.istore_n 2, 1) := by decide +kernel
theorem dX6_status_7 : decode cX6_status 7 = .ok (.iconst 0, 1) := by decide +kernel
theorem dX6_status_8 : decode cX6_status 8 = .ok (.istore_n 3, 1) := by decide +kernel
theorem dX6_status_9 : decode cX6_status 9 = .ok (.iload_n 3, 1) := by decide +kernel
theorem dX6_status_10 : decode cX6_status 10 = .ok (.bipush 7, 2) := by decide +kernel
theorem dX6_status_12 : decode cX6_status 12 = .ok (.if_icmp .ge 18, 3) := by decide +kernel
theorem dX6_status_15 : decode cX6_status 15 = .ok (.iload_n 2, 1) := by decide +kernel
theorem dX6_status_16 : decode cX6_status 16 = .ok (.aload_n 0, 1) := by decide +kernel
theorem dX6_status_17 : decode cX6_status 17 = .ok (.getfield 47, 3) := by decide +kernel
theorem dX6_status_20 : decode cX6_status 20 = .ok (.iload_n 3, 1) := by decide +kernel
theorem dX6_status_21 : decode cX6_status 21 = .ok (.iaload, 1) := by decide +kernel
theorem dX6_status_22 : decode cX6_status 22 = .ok (.iadd, 1) := by decide +kernel
theorem dX6_status_23 : decode cX6_status 23 = .ok (.istore_n 2, 1) := by decide +kernel
theorem dX6_status_24 : decode cX6_status 24 = .ok (.iinc 3 1, 3) := by decide +kernel
theorem dX6_status_27 : decode cX6_status 27 = .ok (.goto (-18), 3) := by decide +kernel
theorem dX6_status_30 : decode cX6_status 30 = .ok (.iload_n 2, 1) := by decide +kernel
theorem dX6_status_31 : decode cX6_status 31 = .ok (.ireturn, 1) := by decide +kernel
theorem dX6_status_32 : decode cX6_status 32 = .ok (.iload_n 1, 1) := by decide +kernel
theorem dX6_status_33 : decode cX6_status 33 = .ok (.iconst 0, 1) := by decide +kernel
theorem dX6_status_34 : decode cX6_status 34 = .ok (.bipush 6, 2) := by decide +kernel
theorem dX6_status_36 : decode cX6_status 36 = .ok (.invokestatic 56, 3) := by decide +kernel
theorem dX6_status_39 : decode cX6_status 39 = .ok (.ifCond .eq 12, 3) := by decide +kernel
theorem dX6_status_42 : decode cX6_status 42 = .ok (.aload_n 0, 1) := by decide +kernel
theorem dX6_status_43 : decode cX6_status 43 = .ok (.getfield 47, 3) := by decide +kernel
theorem dX6_status_46 : decode cX6_status 46 = .ok (.iload_n 1, 1) := by decide +kernel
theorem dX6_status_47 : decode cX6_status 47 = .ok (.iaload, 1) := by decide +kernel
theorem dX6_status_48 : decode cX6_status 48 = .ok (.goto 8, 3) := by decide +kernel
theorem dX6_status_51 : decode cX6_status 51 = .ok (.aload_n 0, 1) := by decide +kernel
theorem dX6_status_52 : decode cX6_status 52 = .ok (.iconst 0, 1) := by decide +kernel
theorem dX6_status_53 : decode cX6_status 53 = .ok (.invokevirtual 60, 3) := by decide +kernel
theorem dX6_status_56 : decode cX6_status 56 = .ok (.ireturn, 1) := by decide +kernel
theorem dX6_finding_0 : decode cX6_finding 0 = .ok (.aload_n 0, 1) := by decide +kernel
theorem dX6_finding_1 : decode cX6_finding 1 = .ok (.getfield 47, 3) := by decide +kernel
theorem dX6_finding_4 : decode cX6_finding 4 = .ok (.iload_n 1, 1) := by decide +kernel
theorem dX6_finding_5 : decode cX6_finding 5 = .ok (.dup2, 1) := by decide +kernel
theorem dX6_finding_6 : decode cX6_finding 6 = .ok (.iaload, 1) := by decide +kernel
theorem dX6_finding_7 : decode cX6_finding 7 = .ok (.iconst 1, 1) := by decide +kernel
theorem dX6_finding_8 : decode cX6_finding 8 = .ok (.iadd, 1) := by decide +kernel
theorem dX6_finding_9 : decode cX6_finding 9 = .ok (.iastore, 1) := by decide +kernel
theorem dX6_finding_10 : decode cX6_finding 10 = .ok (.ldc 253, 2) := by decide +kernel
theorem dX6_finding_12 : decode cX6_finding 12 = .ok (.iload_n 1, 1) := by decide +kernel
theorem dX6_finding_13 : decode cX6_finding 13 = .ok (.isub, 1) := by decide +kernel
theorem dX6_finding_14 : decode cX6_finding 14 = .ok (.ireturn, 1) := by decide +kernel
set_option maxRecDepth 20000 in
theorem ggX6_bestOrNone_X6_finding : GoodIn wsX6_bestOrNone wsX6_finding := goodIn_r _ [7, 8, 9, 10, 11, 12, 13, 14, 15, 16, 17, 18] (by decide +kernel) (by decide +kernel)
set_option maxRecDepth 20000 in
theorem gX6_bestOrNone_X6_finding : GoodIn wsX6_bestOrNone (wsV RX6 60 RX6 yX6_finding wsX6_finding) := goodIn_app (goodIn_of _ (by decide +kernel)) ggX6_bestOrNone_X6_finding
theorem dX6_bestOrNone_0 : decode cX6_bestOrNone 0 = .ok (.aload_n 0, 1) := by decide +kernel
theorem dX6_bestOrNone_1 : decode cX6_bestOrNone 1 = .ok (.getfield 25, 3) := by decide +kernel
theorem dX6_bestOrNone_4 : decode cX6_bestOrNone 4 = .ok (.getfield 254, 3) := by decide +kernel
theorem dX6_bestOrNone_7 : decode cX6_bestOrNone 7 = .ok (.ifCond .ge 11, 3) := by decide +kernel
theorem dX6_bestOrNone_10 : decode cX6_bestOrNone 10 = .ok (.aload_n 0, 1) := by decide +kernel
theorem dX6_bestOrNone_11 : decode cX6_bestOrNone 11 = .ok (.iconst 3, 1) := by decide +kernel
theorem dX6_bestOrNone_12 : decode cX6_bestOrNone 12 = .ok (.invokevirtual 60, 3) := by decide +kernel
theorem dX6_bestOrNone_15 : decode cX6_bestOrNone 15 = .ok (.goto 10, 3) := by decide +kernel
theorem dX6_bestOrNone_18 : decode cX6_bestOrNone 18 = .ok (.aload_n 0, 1) := by decide +kernel
theorem dX6_bestOrNone_19 : decode cX6_bestOrNone 19 = .ok (.getfield 25, 3) := by decide +kernel
theorem dX6_bestOrNone_22 : decode cX6_bestOrNone 22 = .ok (.getfield 254, 3) := by decide +kernel
theorem dX6_bestOrNone_25 : decode cX6_bestOrNone 25 = .ok (.ireturn, 1) := by decide +kernel
theorem dX6_isWithin_0 : decode cX6_isWithin 0 = .ok (.iload_n 0, 1) := by decide +kernel
theorem dX6_isWithin_1 : decode cX6_isWithin 1 = .ok (.iload_n 1, 1) := by decide +kernel
theorem dX6_isWithin_2 : decode cX6_isWithin 2 = .ok (.if_icmp .lt 12, 3) := by decide +kernel
theorem dX6_isWithin_5 : decode cX6_isWithin 5 = .ok (.iload_n 0, 1) := by decide +kernel
theorem dX6_isWithin_6 : decode cX6_isWithin 6 = .ok (.iload_n 2, 1) := by decide +kernel
theorem dX6_isWithin_7 : decode cX6_isWithin 7 = .ok (.if_icmp .gt 7, 3) := by decide +kernel
theorem dX6_isWithin_10 : decode cX6_isWithin 10 = .ok (.iconst 1, 1) := by decide +kernel
theorem dX6_isWithin_11 : decode cX6_isWithin 11 = .ok (.goto 4, 3) := by decide +kernel
theorem dX6_isWithin_14 : decode cX6_isWithin 14 = .ok (.iconst 0, 1) := by decide +kernel
theorem dX6_isWithin_15 : decode cX6_isWithin 15 = .ok (.ireturn, 1) := by decide +kernel
set_option maxRecDepth 20000 in
theorem ggX6_isThing_X6_isWithin : GoodIn wsX6_isThing wsX6_isWithin := goodIn_r _ [4] (by decide +kernel) (by decide +kernel)
set_option maxRecDepth 20000 in
theorem gX6_isThing_X6_isWithin : GoodIn wsX6_isThing (va_wsS RX6 56 yX6_isWithin wsX6_isWithin) := goodIn_app (goodIn_of _ (by decide +kernel)) ggX6_isThing_X6_isWithin
theorem dX6_isThing_0 : decode cX6_isThing 0 = .ok (.iload_n 0, 1) := by decide +kernel
theorem dX6_isThing_1 : decode cX6_isThing 1 = .ok (.iconst 0, 1) := by decide +kernel
theorem dX6_isThing_2 : decode cX6_isThing 2 = .ok (.bipush 9, 2) := by decide +kernel
theorem dX6_isThing_4 : decode cX6_isThing 4 = .ok (.invokestatic 56, 3) := by decide +kernel
theorem dX6_isThing_7 : decode cX6_isThing 7 = .ok (.ireturn, 1) := by decide +kernel
set_option maxRecDepth 20000 in
theorem ggX6_isSheet_X6_isWithin : GoodIn wsX6_isSheet wsX6_isWithin := goodIn_r _ [4] (by decide +kernel) (by decide +kernel)
set_option maxRecDepth 20000 in
theorem gX6_isSheet_X6_isWithin : GoodIn wsX6_isSheet (va_wsS RX6 56 yX6_isWithin wsX6_isWithin) := goodIn_app (goodIn_of _ (by decide +kernel)) ggX6_isSheet_X6_isWithin
theorem dX6_isSheet_0 : decode cX6_isSheet 0 = .ok (.iload_n 0, 1) := by decide +kernel
theorem dX6_isSheet_1 : decode cX6_isSheet 1 = .ok (.iconst 0, 1) := by decide +kernel
theorem dX6_isSheet_2 : decode cX6_isSheet 2 = .ok (.iconst 3, 1) := by decide +kernel
theorem dX6_isSheet_3 : decode cX6_isSheet 3 = .ok (.invokestatic 56, 3) := by decide +kernel
theorem dX6_isSheet_6 : decode cX6_isSheet 6 = .ok (.ireturn, 1) := by decide +kernel
set_option maxRecDepth 20000 in
theorem ggX6_isThere_X6_isWithin : GoodIn wsX6_isThere wsX6_isWithin := goodIn_r _ [6] (by decide +kernel) (by decide +kernel)
set_option maxRecDepth 20000 in
theorem gX6_isThere_X6_isWithin : GoodIn wsX6_isThere (va_wsS RX6 56 yX6_isWithin wsX6_isWithin) := goodIn_app (goodIn_of _ (by decide +kernel)) ggX6_isThere_X6_isWithin
theorem dX6_isThere_0 : decode cX6_isThere 0 = .ok (.iload_n 1, 1) := by decide +kernel
theorem dX6_isThere_1 : decode cX6_isThere 1 = .ok (.iconst 0, 1) := by decide +kernel
theorem dX6_isThere_2 : decode cX6_isThere 2 = .ok (.aload_n 0, 1) := by decide +kernel
theorem dX6_isThere_3 : decode cX6_isThere 3 = .ok (.getfield 10, 3) := by decide +kernel
theorem dX6_isThere_6 : decode cX6_isThere 6 = .ok (.getfield 158, 3) := by decide +kernel
theorem dX6_isThere_9 : decode cX6_isThere 9 = .ok (.iconst 1, 1) := by decide +kernel
theorem dX6_isThere_10 : decode cX6_isThere 10 = .ok (.isub, 1) := by decide +kernel
theorem dX6_isThere_11 : decode cX6_isThere 11 = .ok (.invokestatic 56, 3) := by decide +kernel
theorem dX6_isThere_14 : decode cX6_isThere 14 = .ok (.ireturn, 1) := by decide +kernel
set_option maxRecDepth 20000 in
theorem ggX6_areTwo_X6_isThere : GoodIn wsX6_areTwo wsX6_isThere := goodIn_r _ [5, 6, 7, 8, 9, 4, 10, 11, 12, 13, 14, 15, 16, 17, 18, 19, 20, 21, 22, 23, 24, 25, 26, 27, 28, 29, 30] (by decide +kernel) (by decide +kernel)
set_option maxRecDepth 20000 in
theorem gX6_areTwo_X6_isThere : GoodIn wsX6_areTwo (wsV RX6 104 RX6 yX6_isThere wsX6_isThere) := goodIn_app (goodIn_of _ (by decide +kernel)) ggX6_areTwo_X6_isThere
theorem dX6_areTwo_0 : decode cX6_areTwo 0 = .ok (.aload_n 0, 1) := by decide +kernel
theorem dX6_areTwo_1 : decode cX6_areTwo 1 = .ok (.iload_n 1, 1) := by decide +kernel
theorem dX6_areTwo_2 : decode cX6_areTwo 2 = .ok (.invokevirtual 104, 3) := by decide +kernel
theorem dX6_areTwo_5 : decode cX6_areTwo 5 = .ok (.ifCond .eq 20, 3) := by decide +kernel
theorem dX6_areTwo_8 : decode cX6_areTwo 8 = .ok (.aload_n 0, 1) := by decide +kernel
theorem dX6_areTwo_9 : decode cX6_areTwo 9 = .ok (.iload_n 2, 1) := by decide +kernel
theorem dX6_areTwo_10 : decode cX6_areTwo 10 = .ok (.invokevirtual 104, 3) := by decide +kernel
theorem dX6_areTwo_13 : decode cX6_areTwo 13 = .ok (.ifCond .eq 12, 3) := by decide +kernel
theorem dX6_areTwo_16 : decode cX6_areTwo 16 = .ok (.iload_n 1, 1) := by decide +kernel
theorem dX6_areTwo_17 : decode cX6_areTwo 17 = .ok (.iload_n 2, 1) := by decide +kernel
theorem dX6_areTwo_18 : decode cX6_areTwo 18 = .ok (.if_icmp .eq 7, 3) := by decide +kernel
theorem dX6_areTwo_21 : decode cX6_areTwo 21 = .ok (.iconst 1, 1) := by decide +kernel
theorem dX6_areTwo_22 : decode cX6_areTwo 22 = .ok (.goto 4, 3) := by decide +kernel
theorem dX6_areTwo_25 : decode cX6_areTwo 25 = .ok (.iconst 0, 1) := by decide +kernel
theorem dX6_areTwo_26 : decode cX6_areTwo 26 = .ok (.ireturn, 1) := by decide +kernel
theorem dX6_mostOf_0 : decode cX6_mostOf 0 = .ok (.iload_n 0, 1) := by decide +kernel
theorem dX6_mostOf_1 : decode cX6_mostOf 1 = .ok (.lookupswitch 34 #[(1, 27), (2, 30)], 27) := by decide +kernel
theorem dX6_mostOf_28 : decode cX6_mostOf 28 = .ok (.bipush 9, 2) := by decide +kernel
theorem dX6_mostOf_30 : decode cX6_mostOf 30 = .ok (.ireturn, 1) := by decide +kernel
theorem dX6_mostOf_31 : decode cX6_mostOf 31 = .ok (.sipush 9999, 3) := by decide +kernel
theorem dX6_mostOf_34 : decode cX6_mostOf 34 = .ok (.ireturn, 1) := by decide +kernel
theorem dX6_mostOf_35 : decode cX6_mostOf 35 = .ok (.bipush 99, 2) := by decide +kernel
theorem dX6_mostOf_37 : decode cX6_mostOf 37 = .ok (.ireturn, 1) := by decide +kernel
set_option maxRecDepth 20000 in
theorem ggX6_sheetFinding_X6_isSheet : GoodIn wsX6_sheetFinding wsX6_isSheet := goodIn_r _ [5, 6, 7, 4, 8] (by decide +kernel) (by decide +kernel)
set_option maxRecDepth 20000 in
theorem gX6_sheetFinding_X6_isSheet : GoodIn wsX6_sheetFinding (va_wsS RX6 203 yX6_isSheet wsX6_isSheet) := goodIn_app (goodIn_of _ (by decide +kernel)) ggX6_sheetFinding_X6_isSheet
set_option maxRecDepth 20000 in
theorem ggX6_sheetFinding_X2_isMissing : GoodIn wsX6_sheetFinding wsX2_isMissing := goodIn_r _ [13, 14, 30, 31, 32] (by decide +kernel) (by decide +kernel)
set_option maxRecDepth 20000 in
theorem gX6_sheetFinding_X2_isMissing : GoodIn wsX6_sheetFinding (wsV RX6 213 RX2 yX2_isMissing wsX2_isMissing) := goodIn_app (goodIn_of _ (by decide +kernel)) ggX6_sheetFinding_X2_isMissing
set_option maxRecDepth 20000 in
theorem ggX6_sheetFinding_X6_isThere : GoodIn wsX6_sheetFinding wsX6_isThere := goodIn_r _ [18, 19, 20, 6, 7, 4, 8, 21, 22, 23, 24, 25, 26, 27, 28, 29, 33, 34, 35, 36, 37, 38, 39, 40, 41, 42, 43] (by decide +kernel) (by decide +kernel)
set_option maxRecDepth 20000 in
theorem gX6_sheetFinding_X6_isThere : GoodIn wsX6_sheetFinding (wsV RX6 104 RX6 yX6_isThere wsX6_isThere) := goodIn_app (goodIn_of _ (by decide +kernel)) ggX6_sheetFinding_X6_isThere
theorem dX6_sheetFinding_0 : decode cX6_sheetFinding 0 = .ok (.iload_n 1, 1) := by decide +kernel
theorem dX6_sheetFinding_1 : decode cX6_sheetFinding 1 = .ok (.invokestatic 203, 3) := by decide +kernel
theorem dX6_sheetFinding_4 : decode cX6_sheetFinding 4 = .ok (.ifCond .ne 5, 3) := by decide +kernel
theorem dX6_sheetFinding_7 : decode cX6_sheetFinding 7 = .ok (.iconst 0, 1) := by decide +kernel
theorem dX6_sheetFinding_8 : decode cX6_sheetFinding 8 = .ok (.ireturn, 1) := by decide +kernel
theorem dX6_sheetFinding_9 : decode cX6_sheetFinding 9 = .ok (.aload_n 0, 1) := by decide +kernel
theorem dX6_sheetFinding_10 : decode cX6_sheetFinding 10 = .ok (.getfield 43, 3) := by decide +kernel
theorem dX6_sheetFinding_13 : decode cX6_sheetFinding 13 = .ok (.iload_n 1, 1) := by decide +kernel
theorem dX6_sheetFinding_14 : decode cX6_sheetFinding 14 = .ok (.aaload, 1) := by decide +kernel
theorem dX6_sheetFinding_15 : decode cX6_sheetFinding 15 = .ok (.invokevirtual 213, 3) := by decide +kernel
theorem dX6_sheetFinding_18 : decode cX6_sheetFinding 18 = .ok (.ifCond .eq 5, 3) := by decide +kernel
theorem dX6_sheetFinding_21 : decode cX6_sheetFinding 21 = .ok (.iconst 5, 1) := by decide +kernel
theorem dX6_sheetFinding_22 : decode cX6_sheetFinding 22 = .ok (.ireturn, 1) := by decide +kernel
theorem dX6_sheetFinding_23 : decode cX6_sheetFinding 23 = .ok (.aload_n 0, 1) := by decide +kernel
theorem dX6_sheetFinding_24 : decode cX6_sheetFinding 24 = .ok (.iload_n 2, 1) := by decide +kernel
theorem dX6_sheetFinding_25 : decode cX6_sheetFinding 25 = .ok (.invokevirtual 104, 3) := by decide +kernel
theorem dX6_sheetFinding_28 : decode cX6_sheetFinding 28 = .ok (.ifCond .eq 7, 3) := by decide +kernel
theorem dX6_sheetFinding_31 : decode cX6_sheetFinding 31 = .ok (.iconst (-1), 1) := by decide +kernel
theorem dX6_sheetFinding_32 : decode cX6_sheetFinding 32 = .ok (.goto 4, 3) := by decide +kernel
theorem dX6_sheetFinding_35 : decode cX6_sheetFinding 35 = .ok (.iconst 0, 1) := by decide +kernel
theorem dX6_sheetFinding_36 : decode cX6_sheetFinding 36 = .ok (.ireturn, 1) := by decide +kernel
theorem dX7_init_0 : decode cX7_init 0 = .ok (.aload_n 0, 1) := by decide +kernel
theorem dX7_init_1 : decode cX7_init 1 = .ok (.invokespecial 3, 3) := by decide +kernel
theorem dX7_init_4 : decode cX7_init 4 = .ok (.aload_n 0, 1) := by decide +kernel
theorem dX7_init_5 : decode cX7_init 5 = .ok (.bipush 115, 2) := by decide +kernel
theorem dX7_init_7 : decode cX7_init 7 = .ok (.newarray .int, 2) := by decide +kernel
theorem dX7_init_9 : decode cX7_init 9 = .ok (.putfield 9, 3) := by decide +kernel
theorem dX7_init_12 : decode cX7_init 12 = .ok (.aload_n 0, 1) := by decide +kernel
theorem dX7_init_13 : decode cX7_init 13 = .ok (.bipush 115, 2) := by decide +kernel
theorem dX7_init_15 : decode cX7_init 15 = .ok (.newarray .int, 2) := by decide +kernel
theorem dX7_init_17 : decode cX7_init 17 = .ok (.putfield 13, 3) := by decide +kernel
theorem dX7_init_20 : decode cX7_init 20 = .ok (.aload_n 0, 1) := by decide +kernel
theorem dX7_init_21 : decode cX7_init 21 = .ok (.bipush 115, 2) := by decide +kernel
theorem dX7_init_23 : decode cX7_init 23 = .ok (.newarray .int, 2) := by decide +kernel
theorem dX7_init_25 : decode cX7_init 25 = .ok (.putfield 16, 3) := by decide +kernel
theorem dX7_init_28 : decode cX7_init 28 = .ok (.aload_n 0, 1) := by decide +kernel
theorem dX7_init_29 : decode cX7_init 29 = .ok (.bipush 7, 2) := by decide +kernel
theorem dX7_init_31 : decode cX7_init 31 = .ok (.newarray .int, 2) := by decide +kernel
theorem dX7_init_33 : decode cX7_init 33 = .ok (.putfield 19, 3) := by decide +kernel
theorem dX7_init_36 : decode cX7_init 36 = .ok (.aload_n 0, 1) := by decide +kernel
theorem dX7_init_37 : decode cX7_init 37 = .ok (.bipush 120, 2) := by decide +kernel
theorem dX7_init_39 : decode cX7_init 39 = .ok (.newarray .int, 2) := by decide +kernel
theorem dX7_init_41 : decode cX7_init 41 = .ok (.putfield 22, 3) := by decide +kernel
theorem dX7_init_44 : decode cX7_init 44 = .ok (.aload_n 0, 1) := by decide +kernel
theorem dX7_init_45 : decode cX7_init 45 = .ok (.iconst 4, 1) := by decide +kernel
theorem dX7_init_46 : decode cX7_init 46 = .ok (.newarray .int, 2) := by decide +kernel
