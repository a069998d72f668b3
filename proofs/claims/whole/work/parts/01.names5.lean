theorem dX7_isRing_17 : decode cX7_isRing 17 = .ok (.iload_n 3, 1) := by decide +kernel
theorem dX7_isRing_18 : decode cX7_isRing 18 = .ok (.iconst 1, 1) := by decide +kernel
theorem dX7_isRing_19 : decode cX7_isRing 19 = .ok (.invokevirtual 49, 3) := by decide +kernel
theorem dX7_isRing_22 : decode cX7_isRing 22 = .ok (.istore 6, 2) := by decide +kernel
theorem dX7_isRing_24 : decode cX7_isRing 24 = .ok (.iload_n 1, 1) := by decide +kernel
theorem dX7_isRing_25 : decode cX7_isRing 25 = .ok (.iload_n 2, 1) := by decide +kernel
theorem dX7_isRing_26 : decode cX7_isRing 26 = .ok (.if_icmp .eq 68, 3) := by decide +kernel
theorem dX7_isRing_29 : decode cX7_isRing 29 = .ok (.iload_n 2, 1) := by decide +kernel
theorem dX7_isRing_30 : decode cX7_isRing 30 = .ok (.iload_n 3, 1) := by decide +kernel
theorem dX7_isRing_31 : decode cX7_isRing 31 = .ok (.if_icmp .eq 63, 3) := by decide +kernel
theorem dX7_isRing_34 : decode cX7_isRing 34 = .ok (.iload_n 1, 1) := by decide +kernel
theorem dX7_isRing_35 : decode cX7_isRing 35 = .ok (.iload_n 3, 1) := by decide +kernel
theorem dX7_isRing_36 : decode cX7_isRing 36 = .ok (.if_icmp .eq 58, 3) := by decide +kernel
theorem dX7_isRing_39 : decode cX7_isRing 39 = .ok (.iload 4, 2) := by decide +kernel
theorem dX7_isRing_41 : decode cX7_isRing 41 = .ok (.iload 5, 2) := by decide +kernel
theorem dX7_isRing_43 : decode cX7_isRing 43 = .ok (.if_icmp .eq 51, 3) := by decide +kernel
theorem dX7_isRing_46 : decode cX7_isRing 46 = .ok (.iload 5, 2) := by decide +kernel
theorem dX7_isRing_48 : decode cX7_isRing 48 = .ok (.iload 6, 2) := by decide +kernel
theorem dX7_isRing_50 : decode cX7_isRing 50 = .ok (.if_icmp .eq 44, 3) := by decide +kernel
theorem dX7_isRing_53 : decode cX7_isRing 53 = .ok (.iload 4, 2) := by decide +kernel
theorem dX7_isRing_55 : decode cX7_isRing 55 = .ok (.iload 6, 2) := by decide +kernel
theorem dX7_isRing_57 : decode cX7_isRing 57 = .ok (.if_icmp .eq 37, 3) := by decide +kernel
theorem dX7_isRing_60 : decode cX7_isRing 60 = .ok (.aload_n 0, 1) := by decide +kernel
theorem dX7_isRing_61 : decode cX7_isRing 61 = .ok (.iload_n 1, 1) := by decide +kernel
theorem dX7_isRing_62 : decode cX7_isRing 62 = .ok (.iload 5, 2) := by decide +kernel
theorem dX7_isRing_64 : decode cX7_isRing 64 = .ok (.invokevirtual 65, 3) := by decide +kernel
theorem dX7_isRing_67 : decode cX7_isRing 67 = .ok (.ifCond .eq 27, 3) := by decide +kernel
theorem dX7_isRing_70 : decode cX7_isRing 70 = .ok (.aload_n 0, 1) := by decide +kernel
theorem dX7_isRing_71 : decode cX7_isRing 71 = .ok (.iload_n 2, 1) := by decide +kernel
theorem dX7_isRing_72 : decode cX7_isRing 72 = .ok (.iload 6, 2) := by decide +kernel
theorem dX7_isRing_74 : decode cX7_isRing 74 = .ok (.invokevirtual 65, 3) := by decide +kernel
theorem dX7_isRing_77 : decode cX7_isRing 77 = .ok (.ifCond .eq 17, 3) := by decide +kernel
theorem dX7_isRing_80 : decode cX7_isRing 80 = .ok (.aload_n 0, 1) := by decide +kernel
theorem dX7_isRing_81 : decode cX7_isRing 81 = .ok (.iload_n 3, 1) := by decide +kernel
theorem dX7_isRing_82 : decode cX7_isRing 82 = .ok (.iload 4, 2) := by decide +kernel
theorem dX7_isRing_84 : decode cX7_isRing 84 = .ok (.invokevirtual 65, 3) := by decide +kernel
theorem dX7_isRing_87 : decode cX7_isRing 87 = .ok (.ifCond .eq 7, 3) := by decide +kernel
theorem dX7_isRing_90 : decode cX7_isRing 90 = .ok (.iconst 1, 1) := by decide +kernel
theorem dX7_isRing_91 : decode cX7_isRing 91 = .ok (.goto 4, 3) := by decide +kernel
theorem dX7_isRing_94 : decode cX7_isRing 94 = .ok (.iconst 0, 1) := by decide +kernel
theorem dX7_isRing_95 : decode cX7_isRing 95 = .ok (.ireturn, 1) := by decide +kernel
set_option maxRecDepth 20000 in
theorem ggX7_ring_X7_isRing : GoodIn wsX7_ring wsX7_isRing := goodIn_r _ [7, 8, 9, 10, 6, 11, 1, 12, 13, 14, 15, 16, 17, 18, 19, 20, 21, 22, 23, 24, 25, 26, 27, 28, 29, 30, 37, 38, 39, 40, 41, 42, 43, 44, 45, 46, 47, 48, 49, 50, 51] (by decide +kernel) (by decide +kernel)
set_option maxRecDepth 20000 in
theorem gX7_ring_X7_isRing : GoodIn wsX7_ring (wsV RX7 124 RX7 yX7_isRing wsX7_isRing) := goodIn_app (goodIn_of _ (by decide +kernel)) ggX7_ring_X7_isRing
set_option maxRecDepth 20000 in
theorem ggX7_ring_X7_finds : GoodIn wsX7_ring wsX7_finds := goodIn_r _ [34, 35, 36, 37, 38, 39, 40, 41, 42, 43, 44, 45, 46, 47, 48, 49, 50, 51] (by decide +kernel) (by decide +kernel)
set_option maxRecDepth 20000 in
theorem gX7_ring_X7_finds : GoodIn wsX7_ring (wsV RX7 37 RX7 yX7_finds wsX7_finds) := goodIn_app (goodIn_of _ (by decide +kernel)) ggX7_ring_X7_finds
theorem dX7_ring_0 : decode cX7_ring 0 = .ok (.aload_n 0, 1) := by decide +kernel
theorem dX7_ring_1 : decode cX7_ring 1 = .ok (.getfield 9, 3) := by decide +kernel
theorem dX7_ring_4 : decode cX7_ring 4 = .ok (.iconst 2, 1) := by decide +kernel
theorem dX7_ring_5 : decode cX7_ring 5 = .ok (.iaload, 1) := by decide +kernel
theorem dX7_ring_6 : decode cX7_ring 6 = .ok (.istore_n 1, 1) := by decide +kernel
theorem dX7_ring_7 : decode cX7_ring 7 = .ok (.iconst 0, 1) := by decide +kernel
theorem dX7_ring_8 : decode cX7_ring 8 = .ok (.istore_n 2, 1) := by decide +kernel
theorem dX7_ring_9 : decode cX7_ring 9 = .ok (.iload_n 2, 1) := by decide +kernel
theorem dX7_ring_10 : decode cX7_ring 10 = .ok (.iload_n 1, 1) := by decide +kernel
theorem dX7_ring_11 : decode cX7_ring 11 = .ok (.iload_n 1, 1) := by decide +kernel
theorem dX7_ring_12 : decode cX7_ring 12 = .ok (.imul, 1) := by decide +kernel
theorem dX7_ring_13 : decode cX7_ring 13 = .ok (.iload_n 1, 1) := by decide +kernel
theorem dX7_ring_14 : decode cX7_ring 14 = .ok (.imul, 1) := by decide +kernel
theorem dX7_ring_15 : decode cX7_ring 15 = .ok (.if_icmp .ge 50, 3) := by decide +kernel
theorem dX7_ring_18 : decode cX7_ring 18 = .ok (.iload_n 2, 1) := by decide +kernel
theorem dX7_ring_19 : decode cX7_ring 19 = .ok (.iload_n 1, 1) := by decide +kernel
theorem dX7_ring_20 : decode cX7_ring 20 = .ok (.iload_n 1, 1) := by decide +kernel
theorem dX7_ring_21 : decode cX7_ring 21 = .ok (.imul, 1) := by decide +kernel
theorem dX7_ring_22 : decode cX7_ring 22 = .ok (.idiv, 1) := by decide +kernel
theorem dX7_ring_23 : decode cX7_ring 23 = .ok (.istore_n 3, 1) := by decide +kernel
theorem dX7_ring_24 : decode cX7_ring 24 = .ok (.iload_n 2, 1) := by decide +kernel
theorem dX7_ring_25 : decode cX7_ring 25 = .ok (.iload_n 1, 1) := by decide +kernel
theorem dX7_ring_26 : decode cX7_ring 26 = .ok (.idiv, 1) := by decide +kernel
theorem dX7_ring_27 : decode cX7_ring 27 = .ok (.iload_n 1, 1) := by decide +kernel
theorem dX7_ring_28 : decode cX7_ring 28 = .ok (.irem, 1) := by decide +kernel
theorem dX7_ring_29 : decode cX7_ring 29 = .ok (.istore 4, 2) := by decide +kernel
theorem dX7_ring_31 : decode cX7_ring 31 = .ok (.aload_n 0, 1) := by decide +kernel
theorem dX7_ring_32 : decode cX7_ring 32 = .ok (.iload_n 3, 1) := by decide +kernel
theorem dX7_ring_33 : decode cX7_ring 33 = .ok (.iload 4, 2) := by decide +kernel
theorem dX7_ring_35 : decode cX7_ring 35 = .ok (.iload_n 2, 1) := by decide +kernel
theorem dX7_ring_36 : decode cX7_ring 36 = .ok (.iload_n 1, 1) := by decide +kernel
theorem dX7_ring_37 : decode cX7_ring 37 = .ok (.irem, 1) := by decide +kernel
theorem dX7_ring_38 : decode cX7_ring 38 = .ok (.invokevirtual 124, 3) := by decide +kernel
theorem dX7_ring_41 : decode cX7_ring 41 = .ok (.ifCond .eq 18, 3) := by decide +kernel
theorem dX7_ring_44 : decode cX7_ring 44 = .ok (.bipush 100, 2) := by decide +kernel
theorem dX7_ring_46 : decode cX7_ring 46 = .ok (.iload_n 3, 1) := by decide +kernel
theorem dX7_ring_47 : decode cX7_ring 47 = .ok (.imul, 1) := by decide +kernel
theorem dX7_ring_48 : decode cX7_ring 48 = .ok (.bipush 10, 2) := by decide +kernel
theorem dX7_ring_50 : decode cX7_ring 50 = .ok (.iload 4, 2) := by decide +kernel
theorem dX7_ring_52 : decode cX7_ring 52 = .ok (.imul, 1) := by decide +kernel
theorem dX7_ring_53 : decode cX7_ring 53 = .ok (.iadd, 1) := by decide +kernel
theorem dX7_ring_54 : decode cX7_ring 54 = .ok (.iload_n 2, 1) := by decide +kernel
theorem dX7_ring_55 : decode cX7_ring 55 = .ok (.iload_n 1, 1) := by decide +kernel
theorem dX7_ring_56 : decode cX7_ring 56 = .ok (.irem, 1) := by decide +kernel
theorem dX7_ring_57 : decode cX7_ring 57 = .ok (.iadd, 1) := by decide +kernel
theorem dX7_ring_58 : decode cX7_ring 58 = .ok (.ireturn, 1) := by decide +kernel
theorem dX7_ring_59 : decode cX7_ring 59 = .ok (.iinc 2 1, 3) := by decide +kernel
theorem dX7_ring_62 : decode cX7_ring 62 = .ok (.goto (-53), 3) := by decide +kernel
theorem dX7_ring_65 : decode cX7_ring 65 = .ok (.aload_n 0, 1) := by decide +kernel
theorem dX7_ring_66 : decode cX7_ring 66 = .ok (.ldc 36, 2) := by decide +kernel
theorem dX7_ring_68 : decode cX7_ring 68 = .ok (.invokevirtual 37, 3) := by decide +kernel
theorem dX7_ring_71 : decode cX7_ring 71 = .ok (.ireturn, 1) := by decide +kernel
set_option maxRecDepth 20000 in
theorem ggX7_askedNext_X7_it : GoodIn wsX7_askedNext wsX7_it := goodIn_r _ [6, 1, 18, 19, 20, 21, 22, 23, 24, 25, 26, 27, 28, 29, 30, 31, 32] (by decide +kernel) (by decide +kernel)
set_option maxRecDepth 20000 in
theorem gX7_askedNext_X7_it : GoodIn wsX7_askedNext (wsV RX7 49 RX7 yX7_it wsX7_it) := goodIn_app (goodIn_of _ (by decide +kernel)) ggX7_askedNext_X7_it
set_option maxRecDepth 20000 in
theorem ggX7_askedNext_X7_worthTo : GoodIn wsX7_askedNext wsX7_worthTo := goodIn_r _ [10, 2, 3, 4, 5, 6, 1, 11, 12, 13, 14, 15, 16, 17, 18, 19, 20, 21, 22, 23, 24, 25, 26, 27, 28, 29, 30, 31, 32] (by decide +kernel) (by decide +kernel)
set_option maxRecDepth 20000 in
theorem gX7_askedNext_X7_worthTo : GoodIn wsX7_askedNext (wsV RX7 59 RX7 yX7_worthTo wsX7_worthTo) := goodIn_app (goodIn_of _ (by decide +kernel)) ggX7_askedNext_X7_worthTo
theorem dX7_askedNext_0 : decode cX7_askedNext 0 = .ok (.iconst (-1), 1) := by decide +kernel
theorem dX7_askedNext_1 : decode cX7_askedNext 1 = .ok (.istore_n 3, 1) := by decide +kernel
theorem dX7_askedNext_2 : decode cX7_askedNext 2 = .ok (.iconst 0, 1) := by decide +kernel
theorem dX7_askedNext_3 : decode cX7_askedNext 3 = .ok (.istore 4, 2) := by decide +kernel
theorem dX7_askedNext_5 : decode cX7_askedNext 5 = .ok (.iload 4, 2) := by decide +kernel
theorem dX7_askedNext_7 : decode cX7_askedNext 7 = .ok (.aload_n 0, 1) := by decide +kernel
theorem dX7_askedNext_8 : decode cX7_askedNext 8 = .ok (.getfield 9, 3) := by decide +kernel
theorem dX7_askedNext_11 : decode cX7_askedNext 11 = .ok (.iconst 2, 1) := by decide +kernel
theorem dX7_askedNext_12 : decode cX7_askedNext 12 = .ok (.iaload, 1) := by decide +kernel
theorem dX7_askedNext_13 : decode cX7_askedNext 13 = .ok (.if_icmp .ge 101, 3) := by decide +kernel
theorem dX7_askedNext_16 : decode cX7_askedNext 16 = .ok (.iload 4, 2) := by decide +kernel
theorem dX7_askedNext_18 : decode cX7_askedNext 18 = .ok (.iload_n 1, 1) := by decide +kernel
theorem dX7_askedNext_19 : decode cX7_askedNext 19 = .ok (.if_icmp .eq 44, 3) := by decide +kernel
theorem dX7_askedNext_22 : decode cX7_askedNext 22 = .ok (.iload_n 2, 1) := by decide +kernel
theorem dX7_askedNext_23 : decode cX7_askedNext 23 = .ok (.iload 4, 2) := by decide +kernel
theorem dX7_askedNext_25 : decode cX7_askedNext 25 = .ok (.ishr, 1) := by decide +kernel
theorem dX7_askedNext_26 : decode cX7_askedNext 26 = .ok (.iconst 1, 1) := by decide +kernel
theorem dX7_askedNext_27 : decode cX7_askedNext 27 = .ok (.iand, 1) := by decide +kernel
theorem dX7_askedNext_28 : decode cX7_askedNext 28 = .ok (.ifCond .ne 35, 3) := by decide +kernel
theorem dX7_askedNext_31 : decode cX7_askedNext 31 = .ok (.aload_n 0, 1) := by decide +kernel
theorem dX7_askedNext_32 : decode cX7_askedNext 32 = .ok (.iload 4, 2) := by decide +kernel
theorem dX7_askedNext_34 : decode cX7_askedNext 34 = .ok (.iconst 3, 1) := by decide +kernel
theorem dX7_askedNext_35 : decode cX7_askedNext 35 = .ok (.invokevirtual 49, 3) := by decide +kernel
theorem dX7_askedNext_38 : decode cX7_askedNext 38 = .ok (.bipush 10, 2) := by decide +kernel
theorem dX7_askedNext_40 : decode cX7_askedNext 40 = .ok (.if_icmp .lt 23, 3) := by decide +kernel
theorem dX7_askedNext_43 : decode cX7_askedNext 43 = .ok (.aload_n 0, 1) := by decide +kernel
theorem dX7_askedNext_44 : decode cX7_askedNext 44 = .ok (.iload 4, 2) := by decide +kernel
theorem dX7_askedNext_46 : decode cX7_askedNext 46 = .ok (.iconst 1, 1) := by decide +kernel
theorem dX7_askedNext_47 : decode cX7_askedNext 47 = .ok (.invokevirtual 49, 3) := by decide +kernel
theorem dX7_askedNext_50 : decode cX7_askedNext 50 = .ok (.aload_n 0, 1) := by decide +kernel
theorem dX7_askedNext_51 : decode cX7_askedNext 51 = .ok (.iload_n 1, 1) := by decide +kernel
theorem dX7_askedNext_52 : decode cX7_askedNext 52 = .ok (.iconst 1, 1) := by decide +kernel
theorem dX7_askedNext_53 : decode cX7_askedNext 53 = .ok (.invokevirtual 49, 3) := by decide +kernel
theorem dX7_askedNext_56 : decode cX7_askedNext 56 = .ok (.if_icmp .eq 7, 3) := by decide +kernel
theorem dX7_askedNext_59 : decode cX7_askedNext 59 = .ok (.iconst 1, 1) := by decide +kernel
theorem dX7_askedNext_60 : decode cX7_askedNext 60 = .ok (.goto 4, 3) := by decide +kernel
theorem dX7_askedNext_63 : decode cX7_askedNext 63 = .ok (.iconst 0, 1) := by decide +kernel
theorem dX7_askedNext_64 : decode cX7_askedNext 64 = .ok (.istore 5, 2) := by decide +kernel
theorem dX7_askedNext_66 : decode cX7_askedNext 66 = .ok (.iload 5, 2) := by decide +kernel
theorem dX7_askedNext_68 : decode cX7_askedNext 68 = .ok (.ifCond .eq 38, 3) := by decide +kernel
theorem dX7_askedNext_71 : decode cX7_askedNext 71 = .ok (.iload_n 3, 1) := by decide +kernel
theorem dX7_askedNext_72 : decode cX7_askedNext 72 = .ok (.ifCond .lt 29, 3) := by decide +kernel
theorem dX7_askedNext_75 : decode cX7_askedNext 75 = .ok (.aload_n 0, 1) := by decide +kernel
theorem dX7_askedNext_76 : decode cX7_askedNext 76 = .ok (.iload_n 1, 1) := by decide +kernel
theorem dX7_askedNext_77 : decode cX7_askedNext 77 = .ok (.aload_n 0, 1) := by decide +kernel
theorem dX7_askedNext_78 : decode cX7_askedNext 78 = .ok (.iload 4, 2) := by decide +kernel
theorem dX7_askedNext_80 : decode cX7_askedNext 80 = .ok (.iconst 1, 1) := by decide +kernel
theorem dX7_askedNext_81 : decode cX7_askedNext 81 = .ok (.invokevirtual 49, 3) := by decide +kernel
theorem dX7_askedNext_84 : decode cX7_askedNext 84 = .ok (.invokevirtual 59, 3) := by decide +kernel
theorem dX7_askedNext_87 : decode cX7_askedNext 87 = .ok (.aload_n 0, 1) := by decide +kernel
theorem dX7_askedNext_88 : decode cX7_askedNext 88 = .ok (.iload_n 1, 1) := by decide +kernel
theorem dX7_askedNext_89 : decode cX7_askedNext 89 = .ok (.aload_n 0, 1) := by decide +kernel
theorem dX7_askedNext_90 : decode cX7_askedNext 90 = .ok (.iload_n 3, 1) := by decide +kernel
theorem dX7_askedNext_91 : decode cX7_askedNext 91 = .ok (.iconst 1, 1) := by decide +kernel
theorem dX7_askedNext_92 : decode cX7_askedNext 92 = .ok (.invokevirtual 49, 3) := by decide +kernel
theorem dX7_askedNext_95 : decode cX7_askedNext 95 = .ok (.invokevirtual 59, 3) := by decide +kernel
theorem dX7_askedNext_98 : decode cX7_askedNext 98 = .ok (.if_icmp .le 8, 3) := by decide +kernel
theorem dX7_askedNext_101 : decode cX7_askedNext 101 = .ok (.iload 4, 2) := by decide +kernel
theorem dX7_askedNext_103 : decode cX7_askedNext 103 = .ok (.goto 4, 3) := by decide +kernel
theorem dX7_askedNext_106 : decode cX7_askedNext 106 = .ok (.iload_n 3, 1) := by decide +kernel
theorem dX7_askedNext_107 : decode cX7_askedNext 107 = .ok (.istore_n 3, 1) := by decide +kernel
theorem dX7_askedNext_108 : decode cX7_askedNext 108 = .ok (.iinc 4 1, 3) := by decide +kernel
theorem dX7_askedNext_111 : decode cX7_askedNext 111 = .ok (.goto (-106), 3) := by decide +kernel
theorem dX7_askedNext_114 : decode cX7_askedNext 114 = .ok (.iload_n 3, 1) := by decide +kernel
theorem dX7_askedNext_115 : decode cX7_askedNext 115 = .ok (.ireturn, 1) := by decide +kernel
set_option maxRecDepth 20000 in
theorem ggX7_asks_X7_asksOf : GoodIn wsX7_asks wsX7_asksOf := goodIn_r _ [5, 6, 7, 8, 9, 4, 10, 57, 58, 59, 60, 61, 62, 63, 64, 65, 66, 67, 68, 69, 70, 71] (by decide +kernel) (by decide +kernel)
set_option maxRecDepth 20000 in
theorem gX7_asks_X7_asksOf : GoodIn wsX7_asks (wsV RX7 104 RX7 yX7_asksOf wsX7_asksOf) := goodIn_app (goodIn_of _ (by decide +kernel)) ggX7_asks_X7_asksOf
set_option maxRecDepth 20000 in
theorem ggX7_asks_X7_askedNext : GoodIn wsX7_asks wsX7_askedNext := goodIn_r _ [14, 6, 7, 8, 9, 4, 10, 15, 16, 17, 18, 19, 20, 21, 22, 23, 24, 25, 57, 58, 59, 60, 61, 62, 63, 64, 65, 66, 67, 68, 69, 70, 71] (by decide +kernel) (by decide +kernel)
set_option maxRecDepth 20000 in
theorem gX7_asks_X7_askedNext : GoodIn wsX7_asks (wsV RX7 128 RX7 yX7_askedNext wsX7_askedNext) := goodIn_app (goodIn_of _ (by decide +kernel)) ggX7_asks_X7_askedNext
set_option maxRecDepth 20000 in
theorem ggX7_asks_X7_wouldSwap : GoodIn wsX7_asks wsX7_wouldSwap := goodIn_r _ [29, 7, 8, 9, 4, 10, 6, 30, 31, 32, 33, 15, 16, 17, 18, 19, 20, 21, 22, 23, 24, 25, 34, 35, 36, 37, 57, 58, 59, 60, 61, 62, 63, 64, 65, 66, 67, 68, 69, 70, 71] (by decide +kernel) (by decide +kernel)
set_option maxRecDepth 20000 in
theorem gX7_asks_X7_wouldSwap : GoodIn wsX7_asks (wsV RX7 69 RX7 yX7_wouldSwap wsX7_wouldSwap) := goodIn_app (goodIn_of _ (by decide +kernel)) ggX7_asks_X7_wouldSwap
set_option maxRecDepth 20000 in
theorem ggX7_asks_X7_swaps : GoodIn wsX7_asks wsX7_swaps := goodIn_r _ [41, 7, 8, 9, 4, 10, 6, 42, 43, 44, 45, 46, 47, 48, 49, 50, 51, 52, 53, 54, 55, 56, 57, 58, 59, 60, 61, 62, 63, 64, 65, 66, 67, 68, 69, 70, 71] (by decide +kernel) (by decide +kernel)
set_option maxRecDepth 20000 in
theorem gX7_asks_X7_swaps : GoodIn wsX7_asks (wsV RX7 121 RX7 yX7_swaps wsX7_swaps) := goodIn_app (goodIn_of _ (by decide +kernel)) ggX7_asks_X7_swaps
theorem dX7_asks_0 : decode cX7_asks 0 = .ok (.iconst 0, 1) := by decide +kernel
theorem dX7_asks_1 : decode cX7_asks 1 = .ok (.istore_n 2, 1) := by decide +kernel
theorem dX7_asks_2 : decode cX7_asks 2 = .ok (.aload_n 0, 1) := by decide +kernel
theorem dX7_asks_3 : decode cX7_asks 3 = .ok (.iload_n 1, 1) := by decide +kernel
theorem dX7_asks_4 : decode cX7_asks 4 = .ok (.invokevirtual 104, 3) := by decide +kernel
theorem dX7_asks_7 : decode cX7_asks 7 = .ok (.istore_n 3, 1) := by decide +kernel
theorem dX7_asks_8 : decode cX7_asks 8 = .ok (.iload_n 3, 1) := by decide +kernel
theorem dX7_asks_9 : decode cX7_asks 9 = .ok (.ifCond .le 48, 3) := by decide +kernel
theorem dX7_asks_12 : decode cX7_asks 12 = .ok (.aload_n 0, 1) := by decide +kernel
theorem dX7_asks_13 : decode cX7_asks 13 = .ok (.iload_n 1, 1) := by decide +kernel
theorem dX7_asks_14 : decode cX7_asks 14 = .ok (.iload_n 2, 1) := by decide +kernel
theorem dX7_asks_15 : decode cX7_asks 15 = .ok (.invokevirtual 128, 3) := by decide +kernel
theorem dX7_asks_18 : decode cX7_asks 18 = .ok (.istore 4, 2) := by decide +kernel
theorem dX7_asks_20 : decode cX7_asks 20 = .ok (.iload 4, 2) := by decide +kernel
theorem dX7_asks_22 : decode cX7_asks 22 = .ok (.ifCond .ge 4, 3) := by decide +kernel
theorem dX7_asks_25 : decode cX7_asks 25 = .ok (.return_, 1) := by decide +kernel
theorem dX7_asks_26 : decode cX7_asks 26 = .ok (.iload_n 2, 1) := by decide +kernel
theorem dX7_asks_27 : decode cX7_asks 27 = .ok (.iconst 1, 1) := by decide +kernel
theorem dX7_asks_28 : decode cX7_asks 28 = .ok (.iload 4, 2) := by decide +kernel
theorem dX7_asks_30 : decode cX7_asks 30 = .ok (.ishl, 1) := by decide +kernel
theorem dX7_asks_31 : decode cX7_asks 31 = .ok (.ior, 1) := by decide +kernel
theorem dX7_asks_32 : decode cX7_asks 32 = .ok (.istore_n 2, 1) := by decide +kernel
theorem dX7_asks_33 : decode cX7_asks 33 = .ok (.aload_n 0, 1) := by decide +kernel
theorem dX7_asks_34 : decode cX7_asks 34 = .ok (.iload_n 1, 1) := by decide +kernel
theorem dX7_asks_35 : decode cX7_asks 35 = .ok (.iload 4, 2) := by decide +kernel
theorem dX7_asks_37 : decode cX7_asks 37 = .ok (.invokevirtual 69, 3) := by decide +kernel
theorem dX7_asks_40 : decode cX7_asks 40 = .ok (.ifCond .eq 11, 3) := by decide +kernel
theorem dX7_asks_43 : decode cX7_asks 43 = .ok (.aload_n 0, 1) := by decide +kernel
theorem dX7_asks_44 : decode cX7_asks 44 = .ok (.iload_n 1, 1) := by decide +kernel
theorem dX7_asks_45 : decode cX7_asks 45 = .ok (.iload 4, 2) := by decide +kernel
theorem dX7_asks_47 : decode cX7_asks 47 = .ok (.invokevirtual 121, 3) := by decide +kernel
theorem dX7_asks_50 : decode cX7_asks 50 = .ok (.return_, 1) := by decide +kernel
theorem dX7_asks_51 : decode cX7_asks 51 = .ok (.iinc 3 (-1), 3) := by decide +kernel
theorem dX7_asks_54 : decode cX7_asks 54 = .ok (.goto (-46), 3) := by decide +kernel
theorem dX7_asks_57 : decode cX7_asks 57 = .ok (.return_, 1) := by decide +kernel
set_option maxRecDepth 20000 in
theorem ggX7_goes_X7_asks : GoodIn wsX7_goes wsX7_asks := goodIn_r _ [6, 7, 8, 9, 5, 10, 1, 11, 12, 13, 14, 15, 16, 17, 18, 19, 20, 21, 22, 23, 24, 25, 26, 27, 28, 29, 30, 31, 32, 33, 34, 35, 36, 37, 38, 39, 40, 41, 42, 43, 44, 45, 46, 47, 48, 49, 50, 51, 52, 53, 54, 55, 56, 57, 58, 59, 60, 61, 62, 63, 64, 65, 66, 67, 68, 69, 70, 71, 72, 73, 74, 75] (by decide +kernel) (by decide +kernel)
set_option maxRecDepth 20000 in
theorem gX7_goes_X7_asks : GoodIn wsX7_goes (wsV RX7 131 RX7 yX7_asks wsX7_asks) := goodIn_app (goodIn_of _ (by decide +kernel)) ggX7_goes_X7_asks
theorem dX7_goes_0 : decode cX7_goes 0 = .ok (.iconst 0, 1) := by decide +kernel
theorem dX7_goes_1 : decode cX7_goes 1 = .ok (.istore_n 1, 1) := by decide +kernel
theorem dX7_goes_2 : decode cX7_goes 2 = .ok (.iload_n 1, 1) := by decide +kernel
theorem dX7_goes_3 : decode cX7_goes 3 = .ok (.aload_n 0, 1) := by decide +kernel
theorem dX7_goes_4 : decode cX7_goes 4 = .ok (.getfield 9, 3) := by decide +kernel
theorem dX7_goes_7 : decode cX7_goes 7 = .ok (.iconst 2, 1) := by decide +kernel
theorem dX7_goes_8 : decode cX7_goes 8 = .ok (.iaload, 1) := by decide +kernel
theorem dX7_goes_9 : decode cX7_goes 9 = .ok (.if_icmp .ge 14, 3) := by decide +kernel
theorem dX7_goes_12 : decode cX7_goes 12 = .ok (.aload_n 0, 1) := by decide +kernel
theorem dX7_goes_13 : decode cX7_goes 13 = .ok (.iload_n 1, 1) := by decide +kernel
theorem dX7_goes_14 : decode cX7_goes 14 = .ok (.invokevirtual 131, 3) := by decide +kernel
theorem dX7_goes_17 : decode cX7_goes 17 = .ok (.iinc 1 1, 3) := by decide +kernel
theorem dX7_goes_20 : decode cX7_goes 20 = .ok (.goto (-18), 3) := by decide +kernel
theorem dX7_goes_23 : decode cX7_goes 23 = .ok (.aload_n 0, 1) := by decide +kernel
theorem dX7_goes_24 : decode cX7_goes 24 = .ok (.getfield 9, 3) := by decide +kernel
theorem dX7_goes_27 : decode cX7_goes 27 = .ok (.iconst 0, 1) := by decide +kernel
theorem dX7_goes_28 : decode cX7_goes 28 = .ok (.dup2, 1) := by decide +kernel
theorem dX7_goes_29 : decode cX7_goes 29 = .ok (.iaload, 1) := by decide +kernel
theorem dX7_goes_30 : decode cX7_goes 30 = .ok (.iconst 1, 1) := by decide +kernel
theorem dX7_goes_31 : decode cX7_goes 31 = .ok (.iadd, 1) := by decide +kernel
theorem dX7_goes_32 : decode cX7_goes 32 = .ok (.iastore, 1) := by decide +kernel
theorem dX7_goes_33 : decode cX7_goes 33 = .ok (.return_, 1) := by decide +kernel
set_option maxRecDepth 20000 in
theorem ggX7_goesFor_X7_goes : GoodIn wsX7_goesFor wsX7_goes := goodIn_r _ [5, 6, 7, 8, 9, 4, 10, 11, 12, 13, 14, 15, 16, 17, 18, 19, 20, 21, 22, 23, 24, 25, 26, 27, 28, 29, 30, 31, 32, 33, 34, 35, 36, 37, 38, 39, 40, 41, 42, 43, 44, 45, 46, 47, 48, 49, 50, 51, 52, 53, 54, 55, 56, 57, 58, 59, 60, 61, 62, 63, 64, 65, 66, 67, 68, 69, 70, 71, 72, 73, 74, 75, 76, 77, 78, 79] (by decide +kernel) (by decide +kernel)
set_option maxRecDepth 20000 in
theorem gX7_goesFor_X7_goes : GoodIn wsX7_goesFor (wsV RX7 135 RX7 yX7_goes wsX7_goes) := goodIn_app (goodIn_of _ (by decide +kernel)) ggX7_goesFor_X7_goes
theorem dX7_goesFor_0 : decode cX7_goesFor 0 = .ok (.iconst 0, 1) := by decide +kernel
theorem dX7_goesFor_1 : decode cX7_goesFor 1 = .ok (.istore_n 2, 1) := by decide +kernel
theorem dX7_goesFor_2 : decode cX7_goesFor 2 = .ok (.iload_n 2, 1) := by decide +kernel
theorem dX7_goesFor_3 : decode cX7_goesFor 3 = .ok (.iload_n 1, 1) := by decide +kernel
theorem dX7_goesFor_4 : decode cX7_goesFor 4 = .ok (.if_icmp .ge 13, 3) := by decide +kernel
theorem dX7_goesFor_7 : decode cX7_goesFor 7 = .ok (.aload_n 0, 1) := by decide +kernel
theorem dX7_goesFor_8 : decode cX7_goesFor 8 = .ok (.invokevirtual 135, 3) := by decide +kernel
theorem dX7_goesFor_11 : decode cX7_goesFor 11 = .ok (.iinc 2 1, 3) := by decide +kernel
theorem dX7_goesFor_14 : decode cX7_goesFor 14 = .ok (.goto (-12), 3) := by decide +kernel
theorem dX7_goesFor_17 : decode cX7_goesFor 17 = .ok (.return_, 1) := by decide +kernel
set_option maxRecDepth 20000 in
theorem ggX7_rounds_X7_in : GoodIn wsX7_rounds wsX7_in := goodIn_r _ [8] (by decide +kernel) (by decide +kernel)
set_option maxRecDepth 20000 in
theorem gX7_rounds_X7_in : GoodIn wsX7_rounds (va_wsS RX7 41 yX7_in wsX7_in) := goodIn_app (goodIn_of _ (by decide +kernel)) ggX7_rounds_X7_in
set_option maxRecDepth 20000 in
theorem ggX7_rounds_X7_finds : GoodIn wsX7_rounds wsX7_finds := goodIn_r _ [12, 13, 1, 84, 85, 86, 87, 88, 89, 90, 91, 92, 93, 94, 95, 96, 97, 98] (by decide +kernel) (by decide +kernel)
set_option maxRecDepth 20000 in
theorem gX7_rounds_X7_finds : GoodIn wsX7_rounds (wsV RX7 37 RX7 yX7_finds wsX7_finds) := goodIn_app (goodIn_of _ (by decide +kernel)) ggX7_rounds_X7_finds
set_option maxRecDepth 20000 in
theorem ggX7_rounds_X7_goesFor : GoodIn wsX7_rounds wsX7_goesFor := goodIn_r _ [17, 18, 19, 20, 7, 21, 2, 22, 23, 24, 25, 26, 27, 28, 29, 30, 31, 32, 33, 34, 35, 36, 37, 38, 39, 40, 41, 42, 43, 44, 45, 46, 47, 48, 49, 50, 51, 52, 53, 54, 55, 56, 57, 58, 59, 60, 61, 62, 63, 64, 65, 66, 67, 68, 69, 70, 71, 72, 73, 74, 75, 76, 77, 78, 79, 84, 85, 86, 87, 88, 89, 90, 91, 92, 93, 94, 95, 96, 97, 98] (by decide +kernel) (by decide +kernel)
set_option maxRecDepth 20000 in
theorem gX7_rounds_X7_goesFor : GoodIn wsX7_rounds (wsV RX7 140 RX7 yX7_goesFor wsX7_goesFor) := goodIn_app (goodIn_of _ (by decide +kernel)) ggX7_rounds_X7_goesFor
set_option maxRecDepth 20000 in
theorem ggX7_rounds_X7_sums : GoodIn wsX7_rounds wsX7_sums := goodIn_r _ [83, 2, 30, 31, 32, 7, 33, 84, 85, 86, 87, 88, 89, 90, 91, 92, 93, 94, 95, 96, 97, 98] (by decide +kernel) (by decide +kernel)
set_option maxRecDepth 20000 in
theorem gX7_rounds_X7_sums : GoodIn wsX7_rounds (wsV RX7 89 RX7 yX7_sums wsX7_sums) := goodIn_app (goodIn_of _ (by decide +kernel)) ggX7_rounds_X7_sums
theorem dX7_rounds_0 : decode cX7_rounds 0 = .ok (.iload_n 1, 1) := by decide +kernel
theorem dX7_rounds_1 : decode cX7_rounds 1 = .ok (.i2l, 1) := by decide +kernel
theorem dX7_rounds_2 : decode cX7_rounds 2 = .ok (.iconst 1, 1) := by decide +kernel
theorem dX7_rounds_3 : decode cX7_rounds 3 = .ok (.bipush 60, 2) := by decide +kernel
theorem dX7_rounds_5 : decode cX7_rounds 5 = .ok (.invokestatic 41, 3) := by decide +kernel
theorem dX7_rounds_8 : decode cX7_rounds 8 = .ok (.ifCond .ne 10, 3) := by decide +kernel
theorem dX7_rounds_11 : decode cX7_rounds 11 = .ok (.aload_n 0, 1) := by decide +kernel
theorem dX7_rounds_12 : decode cX7_rounds 12 = .ok (.ldc 35, 2) := by decide +kernel
theorem dX7_rounds_14 : decode cX7_rounds 14 = .ok (.invokevirtual 37, 3) := by decide +kernel
theorem dX7_rounds_17 : decode cX7_rounds 17 = .ok (.ireturn, 1) := by decide +kernel
theorem dX7_rounds_18 : decode cX7_rounds 18 = .ok (.aload_n 0, 1) := by decide +kernel
theorem dX7_rounds_19 : decode cX7_rounds 19 = .ok (.getfield 9, 3) := by decide +kernel
theorem dX7_rounds_22 : decode cX7_rounds 22 = .ok (.iconst 0, 1) := by decide +kernel
theorem dX7_rounds_23 : decode cX7_rounds 23 = .ok (.iaload, 1) := by decide +kernel
theorem dX7_rounds_24 : decode cX7_rounds 24 = .ok (.iload_n 1, 1) := by decide +kernel
theorem dX7_rounds_25 : decode cX7_rounds 25 = .ok (.iadd, 1) := by decide +kernel
theorem dX7_rounds_26 : decode cX7_rounds 26 = .ok (.ldc 138, 2) := by decide +kernel
theorem dX7_rounds_28 : decode cX7_rounds 28 = .ok (.if_icmp .le 10, 3) := by decide +kernel
theorem dX7_rounds_31 : decode cX7_rounds 31 = .ok (.aload_n 0, 1) := by decide +kernel
theorem dX7_rounds_32 : decode cX7_rounds 32 = .ok (.ldc 139, 2) := by decide +kernel
theorem dX7_rounds_34 : decode cX7_rounds 34 = .ok (.invokevirtual 37, 3) := by decide +kernel
theorem dX7_rounds_37 : decode cX7_rounds 37 = .ok (.ireturn, 1) := by decide +kernel
theorem dX7_rounds_38 : decode cX7_rounds 38 = .ok (.aload_n 0, 1) := by decide +kernel
theorem dX7_rounds_39 : decode cX7_rounds 39 = .ok (.iload_n 1, 1) := by decide +kernel
theorem dX7_rounds_40 : decode cX7_rounds 40 = .ok (.invokevirtual 140, 3) := by decide +kernel
theorem dX7_rounds_43 : decode cX7_rounds 43 = .ok (.aload_n 0, 1) := by decide +kernel
theorem dX7_rounds_44 : decode cX7_rounds 44 = .ok (.iconst 2, 1) := by decide +kernel
theorem dX7_rounds_45 : decode cX7_rounds 45 = .ok (.invokevirtual 89, 3) := by decide +kernel
theorem dX7_rounds_48 : decode cX7_rounds 48 = .ok (.ireturn, 1) := by decide +kernel
set_option maxRecDepth 20000 in
theorem ggX7_thinks_X7_copyAll : GoodIn wsX7_thinks wsX7_copyAll := goodIn_r _ [6] (by decide +kernel) (by decide +kernel)
set_option maxRecDepth 20000 in
theorem gX7_thinks_X7_copyAll : GoodIn wsX7_thinks (va_wsS RX7 143 yX7_copyAll wsX7_copyAll) := goodIn_app (goodIn_of _ (by decide +kernel)) ggX7_thinks_X7_copyAll
theorem dX7_thinks_0 : decode cX7_thinks 0 = .ok (.aload_n 0, 1) := by decide +kernel
theorem dX7_thinks_1 : decode cX7_thinks 1 = .ok (.getfield 9, 3) := by decide +kernel
theorem dX7_thinks_4 : decode cX7_thinks 4 = .ok (.aload_n 0, 1) := by decide +kernel
theorem dX7_thinks_5 : decode cX7_thinks 5 = .ok (.getfield 16, 3) := by decide +kernel
theorem dX7_thinks_8 : decode cX7_thinks 8 = .ok (.invokestatic 143, 3) := by decide +kernel
theorem dX7_thinks_11 : decode cX7_thinks 11 = .ok (.return_, 1) := by decide +kernel
set_option maxRecDepth 20000 in
theorem ggX7_putsBack_X7_copyAll : GoodIn wsX7_putsBack wsX7_copyAll := goodIn_r _ [6] (by decide +kernel) (by decide +kernel)
set_option maxRecDepth 20000 in
theorem gX7_putsBack_X7_copyAll : GoodIn wsX7_putsBack (va_wsS RX7 143 yX7_copyAll wsX7_copyAll) := goodIn_app (goodIn_of _ (by decide +kernel)) ggX7_putsBack_X7_copyAll
theorem dX7_putsBack_0 : decode cX7_putsBack 0 = .ok (.aload_n 0, 1) := by decide +kernel
theorem dX7_putsBack_1 : decode cX7_putsBack 1 = .ok (.getfield 16, 3) := by decide +kernel
theorem dX7_putsBack_4 : decode cX7_putsBack 4 = .ok (.aload_n 0, 1) := by decide +kernel
theorem dX7_putsBack_5 : decode cX7_putsBack 5 = .ok (.getfield 9, 3) := by decide +kernel
theorem dX7_putsBack_8 : decode cX7_putsBack 8 = .ok (.invokestatic 143, 3) := by decide +kernel
theorem dX7_putsBack_11 : decode cX7_putsBack 11 = .ok (.return_, 1) := by decide +kernel
set_option maxRecDepth 20000 in
theorem ggX7_on_X7_isChild : GoodIn wsX7_on wsX7_isChild := goodIn_r _ [6, 7, 8, 9, 5, 10, 94, 95, 96, 97, 98, 99, 100, 101, 102, 103, 104, 105, 106, 107, 108] (by decide +kernel) (by decide +kernel)
set_option maxRecDepth 20000 in
theorem gX7_on_X7_isChild : GoodIn wsX7_on (wsV RX7 45 RX7 yX7_isChild wsX7_isChild) := goodIn_app (goodIn_of _ (by decide +kernel)) ggX7_on_X7_isChild
set_option maxRecDepth 20000 in
theorem ggX7_on_X7_in : GoodIn wsX7_on wsX7_in := goodIn_r _ [10] (by decide +kernel) (by decide +kernel)
set_option maxRecDepth 20000 in
theorem gX7_on_X7_in : GoodIn wsX7_on (va_wsS RX7 41 yX7_in wsX7_in) := goodIn_app (goodIn_of _ (by decide +kernel)) ggX7_on_X7_in
set_option maxRecDepth 20000 in
theorem ggX7_on_X7_finds : GoodIn wsX7_on wsX7_finds := goodIn_r _ [14, 15, 1, 94, 95, 96, 97, 98, 99, 100, 101, 102, 103, 104, 105, 106, 107, 108] (by decide +kernel) (by decide +kernel)
set_option maxRecDepth 20000 in
theorem gX7_on_X7_finds : GoodIn wsX7_on (wsV RX7 37 RX7 yX7_finds wsX7_finds) := goodIn_app (goodIn_of _ (by decide +kernel)) ggX7_on_X7_finds
set_option maxRecDepth 20000 in
theorem ggX7_on_X7_thinks : GoodIn wsX7_on wsX7_thinks := goodIn_r _ [19, 7, 20, 21, 22, 5, 23, 94, 95, 96, 97, 98, 99, 100, 101, 102, 103, 104, 105, 106, 107, 108] (by decide +kernel) (by decide +kernel)
set_option maxRecDepth 20000 in
theorem gX7_on_X7_thinks : GoodIn wsX7_on (wsV RX7 147 RX7 yX7_thinks wsX7_thinks) := goodIn_app (goodIn_of _ (by decide +kernel)) ggX7_on_X7_thinks
set_option maxRecDepth 20000 in
theorem ggX7_on_X7_goesFor : GoodIn wsX7_on wsX7_goesFor := goodIn_r _ [27, 28, 29, 30, 5, 31, 7, 32, 33, 34, 35, 36, 37, 38, 39, 40, 41, 42, 43, 44, 45, 46, 47, 48, 49, 50, 51, 52, 53, 54, 55, 56, 57, 58, 59, 60, 61, 62, 63, 64, 65, 66, 67, 68, 69, 70, 71, 72, 73, 74, 75, 76, 77, 78, 79, 80, 81, 82, 83, 84, 85, 86, 87, 88, 89, 94, 95, 96, 97, 98, 99, 100, 101, 102, 103, 104, 105, 106, 107, 108] (by decide +kernel) (by decide +kernel)
set_option maxRecDepth 20000 in
theorem gX7_on_X7_goesFor : GoodIn wsX7_on (wsV RX7 140 RX7 yX7_goesFor wsX7_goesFor) := goodIn_app (goodIn_of _ (by decide +kernel)) ggX7_on_X7_goesFor
set_option maxRecDepth 20000 in
theorem ggX7_on_X7_gladness : GoodIn wsX7_on wsX7_gladness := goodIn_r _ [70, 40, 41, 42, 5, 43, 7, 48, 49, 50, 51, 52, 53, 54, 55, 56, 57, 58, 94, 95, 96, 97, 98, 99, 100, 101, 102, 103, 104, 105, 106, 107, 108] (by decide +kernel) (by decide +kernel)
set_option maxRecDepth 20000 in
theorem gX7_on_X7_gladness : GoodIn wsX7_on (wsV RX7 62 RX7 yX7_gladness wsX7_gladness) := goodIn_app (goodIn_of _ (by decide +kernel)) ggX7_on_X7_gladness
set_option maxRecDepth 20000 in
theorem ggX7_on_X7_it : GoodIn wsX7_on wsX7_it := goodIn_r _ [43, 7, 94, 95, 96, 97, 98, 99, 100, 101, 102, 103, 104, 105, 106, 107, 108] (by decide +kernel) (by decide +kernel)
set_option maxRecDepth 20000 in
theorem gX7_on_X7_it : GoodIn wsX7_on (wsV RX7 49 RX7 yX7_it wsX7_it) := goodIn_app (goodIn_of _ (by decide +kernel)) ggX7_on_X7_it
set_option maxRecDepth 20000 in
theorem ggX7_on_X7_putsBack : GoodIn wsX7_on wsX7_putsBack := goodIn_r _ [93, 20, 7, 21, 22, 5, 23, 94, 95, 96, 97, 98, 99, 100, 101, 102, 103, 104, 105, 106, 107, 108] (by decide +kernel) (by decide +kernel)
set_option maxRecDepth 20000 in
theorem gX7_on_X7_putsBack : GoodIn wsX7_on (wsV RX7 150 RX7 yX7_putsBack wsX7_putsBack) := goodIn_app (goodIn_of _ (by decide +kernel)) ggX7_on_X7_putsBack
theorem dX7_on_0 : decode cX7_on 0 = .ok (.aload_n 0, 1) := by decide +kernel
theorem dX7_on_1 : decode cX7_on 1 = .ok (.iload_n 1, 1) := by decide +kernel
theorem dX7_on_2 : decode cX7_on 2 = .ok (.invokevirtual 45, 3) := by decide +kernel
theorem dX7_on_5 : decode cX7_on 5 = .ok (.ifCond .eq 24, 3) := by decide +kernel
theorem dX7_on_8 : decode cX7_on 8 = .ok (.iload_n 2, 1) := by decide +kernel
theorem dX7_on_9 : decode cX7_on 9 = .ok (.i2l, 1) := by decide +kernel
theorem dX7_on_10 : decode cX7_on 10 = .ok (.iconst 0, 1) := by decide +kernel
theorem dX7_on_11 : decode cX7_on 11 = .ok (.bipush 100, 2) := by decide +kernel
theorem dX7_on_13 : decode cX7_on 13 = .ok (.invokestatic 41, 3) := by decide +kernel
theorem dX7_on_16 : decode cX7_on 16 = .ok (.ifCond .eq 13, 3) := by decide +kernel
theorem dX7_on_19 : decode cX7_on 19 = .ok (.iload_n 3, 1) := by decide +kernel
theorem dX7_on_20 : decode cX7_on 20 = .ok (.i2l, 1) := by decide +kernel
theorem dX7_on_21 : decode cX7_on 21 = .ok (.iconst 0, 1) := by decide +kernel
theorem dX7_on_22 : decode cX7_on 22 = .ok (.iconst 3, 1) := by decide +kernel
theorem dX7_on_23 : decode cX7_on 23 = .ok (.invokestatic 41, 3) := by decide +kernel
theorem dX7_on_26 : decode cX7_on 26 = .ok (.ifCond .ne 10, 3) := by decide +kernel
theorem dX7_on_29 : decode cX7_on 29 = .ok (.aload_n 0, 1) := by decide +kernel
theorem dX7_on_30 : decode cX7_on 30 = .ok (.ldc 35, 2) := by decide +kernel
theorem dX7_on_32 : decode cX7_on 32 = .ok (.invokevirtual 37, 3) := by decide +kernel
theorem dX7_on_35 : decode cX7_on 35 = .ok (.ireturn, 1) := by decide +kernel
theorem dX7_on_36 : decode cX7_on 36 = .ok (.aload_n 0, 1) := by decide +kernel
theorem dX7_on_37 : decode cX7_on 37 = .ok (.invokevirtual 147, 3) := by decide +kernel
theorem dX7_on_40 : decode cX7_on 40 = .ok (.aload_n 0, 1) := by decide +kernel
theorem dX7_on_41 : decode cX7_on 41 = .ok (.iload_n 2, 1) := by decide +kernel
theorem dX7_on_42 : decode cX7_on 42 = .ok (.invokevirtual 140, 3) := by decide +kernel
theorem dX7_on_45 : decode cX7_on 45 = .ok (.iload_n 3, 1) := by decide +kernel
theorem dX7_on_46 : decode cX7_on 46 = .ok (.iconst 3, 1) := by decide +kernel
theorem dX7_on_47 : decode cX7_on 47 = .ok (.if_icmp .ne 11, 3) := by decide +kernel
theorem dX7_on_50 : decode cX7_on 50 = .ok (.aload_n 0, 1) := by decide +kernel
theorem dX7_on_51 : decode cX7_on 51 = .ok (.iload_n 1, 1) := by decide +kernel
theorem dX7_on_52 : decode cX7_on 52 = .ok (.invokevirtual 62, 3) := by decide +kernel
theorem dX7_on_55 : decode cX7_on 55 = .ok (.goto 11, 3) := by decide +kernel
theorem dX7_on_58 : decode cX7_on 58 = .ok (.aload_n 0, 1) := by decide +kernel
theorem dX7_on_59 : decode cX7_on 59 = .ok (.iload_n 1, 1) := by decide +kernel
theorem dX7_on_60 : decode cX7_on 60 = .ok (.iconst 1, 1) := by decide +kernel
theorem dX7_on_61 : decode cX7_on 61 = .ok (.iload_n 3, 1) := by decide +kernel
theorem dX7_on_62 : decode cX7_on 62 = .ok (.iadd, 1) := by decide +kernel
theorem dX7_on_63 : decode cX7_on 63 = .ok (.invokevirtual 49, 3) := by decide +kernel
theorem dX7_on_66 : decode cX7_on 66 = .ok (.istore 4, 2) := by decide +kernel
theorem dX7_on_68 : decode cX7_on 68 = .ok (.aload_n 0, 1) := by decide +kernel
theorem dX7_on_69 : decode cX7_on 69 = .ok (.invokevirtual 150, 3) := by decide +kernel
theorem dX7_on_72 : decode cX7_on 72 = .ok (.iload 4, 2) := by decide +kernel
theorem dX7_on_74 : decode cX7_on 74 = .ok (.ireturn, 1) := by decide +kernel
set_option maxRecDepth 20000 in
theorem ggX7_glad_X7_in : GoodIn wsX7_glad wsX7_in := goodIn_r _ [5] (by decide +kernel) (by decide +kernel)
set_option maxRecDepth 20000 in
theorem gX7_glad_X7_in : GoodIn wsX7_glad (va_wsS RX7 41 yX7_in wsX7_in) := goodIn_app (goodIn_of _ (by decide +kernel)) ggX7_glad_X7_in
set_option maxRecDepth 20000 in
theorem ggX7_glad_X7_finds : GoodIn wsX7_glad wsX7_finds := goodIn_r _ [9, 10, 1, 94, 95, 96, 97, 98, 99, 100, 101, 102, 103, 104, 105, 106, 107, 108] (by decide +kernel) (by decide +kernel)
set_option maxRecDepth 20000 in
theorem gX7_glad_X7_finds : GoodIn wsX7_glad (wsV RX7 37 RX7 yX7_finds wsX7_finds) := goodIn_app (goodIn_of _ (by decide +kernel)) ggX7_glad_X7_finds
set_option maxRecDepth 20000 in
theorem ggX7_glad_X7_thinks : GoodIn wsX7_glad wsX7_thinks := goodIn_r _ [14, 15, 16, 17, 18, 4, 19, 94, 95, 96, 97, 98, 99, 100, 101, 102, 103, 104, 105, 106, 107, 108] (by decide +kernel) (by decide +kernel)
set_option maxRecDepth 20000 in
theorem gX7_glad_X7_thinks : GoodIn wsX7_glad (wsV RX7 147 RX7 yX7_thinks wsX7_thinks) := goodIn_app (goodIn_of _ (by decide +kernel)) ggX7_glad_X7_thinks
set_option maxRecDepth 20000 in
theorem ggX7_glad_X7_goesFor : GoodIn wsX7_glad wsX7_goesFor := goodIn_r _ [23, 24, 25, 26, 4, 27, 15, 28, 29, 30, 31, 32, 33, 34, 35, 36, 37, 38, 39, 40, 41, 42, 43, 44, 45, 46, 47, 48, 49, 50, 51, 52, 53, 54, 55, 56, 57, 58, 59, 60, 61, 62, 63, 64, 65, 66, 67, 68, 69, 70, 71, 72, 73, 74, 75, 76, 77, 78, 79, 80, 81, 82, 83, 84, 85, 94, 95, 96, 97, 98, 99, 100, 101, 102, 103, 104, 105, 106, 107, 108] (by decide +kernel) (by decide +kernel)
set_option maxRecDepth 20000 in
theorem gX7_glad_X7_goesFor : GoodIn wsX7_glad (wsV RX7 140 RX7 yX7_goesFor wsX7_goesFor) := goodIn_app (goodIn_of _ (by decide +kernel)) ggX7_glad_X7_goesFor
set_option maxRecDepth 20000 in
theorem ggX7_glad_X7_allGlad : GoodIn wsX7_glad wsX7_allGlad := goodIn_r _ [89, 15, 63, 64, 65, 4, 66, 36, 37, 38, 39, 44, 45, 46, 47, 48, 49, 50, 51, 52, 53, 54, 94, 95, 96, 97, 98, 99, 100, 101, 102, 103, 104, 105, 106, 107, 108] (by decide +kernel) (by decide +kernel)
set_option maxRecDepth 20000 in
theorem gX7_glad_X7_allGlad : GoodIn wsX7_glad (wsV RX7 82 RX7 yX7_allGlad wsX7_allGlad) := goodIn_app (goodIn_of _ (by decide +kernel)) ggX7_glad_X7_allGlad
set_option maxRecDepth 20000 in
theorem ggX7_glad_X7_putsBack : GoodIn wsX7_glad wsX7_putsBack := goodIn_r _ [93, 16, 15, 17, 18, 4, 19, 94, 95, 96, 97, 98, 99, 100, 101, 102, 103, 104, 105, 106, 107, 108] (by decide +kernel) (by decide +kernel)
set_option maxRecDepth 20000 in
theorem gX7_glad_X7_putsBack : GoodIn wsX7_glad (wsV RX7 150 RX7 yX7_putsBack wsX7_putsBack) := goodIn_app (goodIn_of _ (by decide +kernel)) ggX7_glad_X7_putsBack
theorem dX7_glad_0 : decode cX7_glad 0 = .ok (.iload_n 1, 1) := by decide +kernel
theorem dX7_glad_1 : decode cX7_glad 1 = .ok (.i2l, 1) := by decide +kernel
theorem dX7_glad_2 : decode cX7_glad 2 = .ok (.iconst 0, 1) := by decide +kernel
theorem dX7_glad_3 : decode cX7_glad 3 = .ok (.bipush 100, 2) := by decide +kernel
theorem dX7_glad_5 : decode cX7_glad 5 = .ok (.invokestatic 41, 3) := by decide +kernel
theorem dX7_glad_8 : decode cX7_glad 8 = .ok (.ifCond .ne 10, 3) := by decide +kernel
theorem dX7_glad_11 : decode cX7_glad 11 = .ok (.aload_n 0, 1) := by decide +kernel
theorem dX7_glad_12 : decode cX7_glad 12 = .ok (.ldc 35, 2) := by decide +kernel
theorem dX7_glad_14 : decode cX7_glad 14 = .ok (.invokevirtual 37, 3) := by decide +kernel
theorem dX7_glad_17 : decode cX7_glad 17 = .ok (.ireturn, 1) := by decide +kernel
theorem dX7_glad_18 : decode cX7_glad 18 = .ok (.aload_n 0, 1) := by decide +kernel
theorem dX7_glad_19 : decode cX7_glad 19 = .ok (.invokevirtual 147, 3) := by decide +kernel
theorem dX7_glad_22 : decode cX7_glad 22 = .ok (.aload_n 0, 1) := by decide +kernel
theorem dX7_glad_23 : decode cX7_glad 23 = .ok (.iload_n 1, 1) := by decide +kernel
theorem dX7_glad_24 : decode cX7_glad 24 = .ok (.invokevirtual 140, 3) := by decide +kernel
theorem dX7_glad_27 : decode cX7_glad 27 = .ok (.aload_n 0, 1) := by decide +kernel
theorem dX7_glad_28 : decode cX7_glad 28 = .ok (.invokevirtual 82, 3) := by decide +kernel
theorem dX7_glad_31 : decode cX7_glad 31 = .ok (.istore_n 2, 1) := by decide +kernel
theorem dX7_glad_32 : decode cX7_glad 32 = .ok (.aload_n 0, 1) := by decide +kernel
theorem dX7_glad_33 : decode cX7_glad 33 = .ok (.invokevirtual 150, 3) := by decide +kernel
theorem dX7_glad_36 : decode cX7_glad 36 = .ok (.iload_n 2, 1) := by decide +kernel
theorem dX7_glad_37 : decode cX7_glad 37 = .ok (.ireturn, 1) := by decide +kernel
set_option maxRecDepth 20000 in
theorem ggX7_gets_X7_isChild : GoodIn wsX7_gets wsX7_isChild := goodIn_r _ [7, 8, 9, 10, 6, 11, 94, 95, 96, 97, 98, 99, 100, 101, 102, 103, 104, 105, 106, 107, 108] (by decide +kernel) (by decide +kernel)
set_option maxRecDepth 20000 in
theorem gX7_gets_X7_isChild : GoodIn wsX7_gets (wsV RX7 45 RX7 yX7_isChild wsX7_isChild) := goodIn_app (goodIn_of _ (by decide +kernel)) ggX7_gets_X7_isChild
set_option maxRecDepth 20000 in
theorem ggX7_gets_X7_isThing : GoodIn wsX7_gets wsX7_isThing := goodIn_r _ [14, 9, 10, 6, 11] (by decide +kernel) (by decide +kernel)
set_option maxRecDepth 20000 in
theorem gX7_gets_X7_isThing : GoodIn wsX7_gets (va_wsS RX7 92 yX7_isThing wsX7_isThing) := goodIn_app (goodIn_of _ (by decide +kernel)) ggX7_gets_X7_isThing
set_option maxRecDepth 20000 in
theorem ggX7_gets_X7_finds : GoodIn wsX7_gets wsX7_finds := goodIn_r _ [18, 19, 1, 94, 95, 96, 97, 98, 99, 100, 101, 102, 103, 104, 105, 106, 107, 108] (by decide +kernel) (by decide +kernel)
set_option maxRecDepth 20000 in
theorem gX7_gets_X7_finds : GoodIn wsX7_gets (wsV RX7 37 RX7 yX7_finds wsX7_finds) := goodIn_app (goodIn_of _ (by decide +kernel)) ggX7_gets_X7_finds
set_option maxRecDepth 20000 in
theorem ggX7_gets_X7_thinks : GoodIn wsX7_gets wsX7_thinks := goodIn_r _ [23, 8, 24, 25, 26, 6, 27, 94, 95, 96, 97, 98, 99, 100, 101, 102, 103, 104, 105, 106, 107, 108] (by decide +kernel) (by decide +kernel)
set_option maxRecDepth 20000 in
theorem gX7_gets_X7_thinks : GoodIn wsX7_gets (wsV RX7 147 RX7 yX7_thinks wsX7_thinks) := goodIn_app (goodIn_of _ (by decide +kernel)) ggX7_gets_X7_thinks
set_option maxRecDepth 20000 in
theorem ggX7_gets_X7_it : GoodIn wsX7_gets wsX7_it := goodIn_r _ [31, 8, 94, 95, 96, 97, 98, 99, 100, 101, 102, 103, 104, 105, 106, 107, 108] (by decide +kernel) (by decide +kernel)
set_option maxRecDepth 20000 in
theorem gX7_gets_X7_it : GoodIn wsX7_gets (wsV RX7 49 RX7 yX7_it wsX7_it) := goodIn_app (goodIn_of _ (by decide +kernel)) ggX7_gets_X7_it
set_option maxRecDepth 20000 in
theorem ggX7_gets_X7_goes : GoodIn wsX7_gets wsX7_goes := goodIn_r _ [35, 8, 36, 37, 38, 6, 39, 40, 41, 42, 43, 28, 29, 30, 31, 44, 45, 46, 47, 48, 49, 50, 51, 52, 53, 54, 55, 56, 57, 58, 59, 60, 61, 62, 63, 64, 65, 66, 67, 68, 69, 70, 71, 72, 73, 74, 75, 76, 77, 78, 79, 80, 81, 82, 83, 84, 85, 86, 87, 88, 89, 94, 95, 96, 97, 98, 99, 100, 101, 102, 103, 104, 105, 106, 107, 108] (by decide +kernel) (by decide +kernel)
set_option maxRecDepth 20000 in
theorem gX7_gets_X7_goes : GoodIn wsX7_gets (wsV RX7 135 RX7 yX7_goes wsX7_goes) := goodIn_app (goodIn_of _ (by decide +kernel)) ggX7_gets_X7_goes
set_option maxRecDepth 20000 in
theorem ggX7_gets_X7_putsBack : GoodIn wsX7_gets wsX7_putsBack := goodIn_r _ [93, 24, 8, 25, 26, 6, 27, 94, 95, 96, 97, 98, 99, 100, 101, 102, 103, 104, 105, 106, 107, 108] (by decide +kernel) (by decide +kernel)
set_option maxRecDepth 20000 in
theorem gX7_gets_X7_putsBack : GoodIn wsX7_gets (wsV RX7 150 RX7 yX7_putsBack wsX7_putsBack) := goodIn_app (goodIn_of _ (by decide +kernel)) ggX7_gets_X7_putsBack
theorem dX7_gets_0 : decode cX7_gets 0 = .ok (.aload_n 0, 1) := by decide +kernel
theorem dX7_gets_1 : decode cX7_gets 1 = .ok (.iload_n 1, 1) := by decide +kernel
theorem dX7_gets_2 : decode cX7_gets 2 = .ok (.invokevirtual 45, 3) := by decide +kernel
theorem dX7_gets_5 : decode cX7_gets 5 = .ok (.ifCond .eq 10, 3) := by decide +kernel
theorem dX7_gets_8 : decode cX7_gets 8 = .ok (.iload_n 2, 1) := by decide +kernel
theorem dX7_gets_9 : decode cX7_gets 9 = .ok (.invokestatic 92, 3) := by decide +kernel
theorem dX7_gets_12 : decode cX7_gets 12 = .ok (.ifCond .ne 10, 3) := by decide +kernel
theorem dX7_gets_15 : decode cX7_gets 15 = .ok (.aload_n 0, 1) := by decide +kernel
theorem dX7_gets_16 : decode cX7_gets 16 = .ok (.ldc 35, 2) := by decide +kernel
theorem dX7_gets_18 : decode cX7_gets 18 = .ok (.invokevirtual 37, 3) := by decide +kernel
theorem dX7_gets_21 : decode cX7_gets 21 = .ok (.ireturn, 1) := by decide +kernel
theorem dX7_gets_22 : decode cX7_gets 22 = .ok (.aload_n 0, 1) := by decide +kernel
theorem dX7_gets_23 : decode cX7_gets 23 = .ok (.invokevirtual 147, 3) := by decide +kernel
theorem dX7_gets_26 : decode cX7_gets 26 = .ok (.iconst 0, 1) := by decide +kernel
theorem dX7_gets_27 : decode cX7_gets 27 = .ok (.istore_n 3, 1) := by decide +kernel
theorem dX7_gets_28 : decode cX7_gets 28 = .ok (.iload_n 3, 1) := by decide +kernel
theorem dX7_gets_29 : decode cX7_gets 29 = .ok (.bipush 100, 2) := by decide +kernel
theorem dX7_gets_31 : decode cX7_gets 31 = .ok (.if_icmp .gt 23, 3) := by decide +kernel
theorem dX7_gets_34 : decode cX7_gets 34 = .ok (.aload_n 0, 1) := by decide +kernel
theorem dX7_gets_35 : decode cX7_gets 35 = .ok (.iload_n 1, 1) := by decide +kernel
theorem dX7_gets_36 : decode cX7_gets 36 = .ok (.iconst 1, 1) := by decide +kernel
theorem dX7_gets_37 : decode cX7_gets 37 = .ok (.invokevirtual 49, 3) := by decide +kernel
theorem dX7_gets_40 : decode cX7_gets 40 = .ok (.iload_n 2, 1) := by decide +kernel
theorem dX7_gets_41 : decode cX7_gets 41 = .ok (.if_icmp .eq 13, 3) := by decide +kernel
theorem dX7_gets_44 : decode cX7_gets 44 = .ok (.aload_n 0, 1) := by decide +kernel
theorem dX7_gets_45 : decode cX7_gets 45 = .ok (.invokevirtual 135, 3) := by decide +kernel
theorem dX7_gets_48 : decode cX7_gets 48 = .ok (.iinc 3 1, 3) := by decide +kernel
theorem dX7_gets_51 : decode cX7_gets 51 = .ok (.goto (-23), 3) := by decide +kernel
theorem dX7_gets_54 : decode cX7_gets 54 = .ok (.aload_n 0, 1) := by decide +kernel
theorem dX7_gets_55 : decode cX7_gets 55 = .ok (.invokevirtual 150, 3) := by decide +kernel
theorem dX7_gets_58 : decode cX7_gets 58 = .ok (.iload_n 3, 1) := by decide +kernel
theorem dX7_gets_59 : decode cX7_gets 59 = .ok (.bipush 100, 2) := by decide +kernel
theorem dX7_gets_61 : decode cX7_gets 61 = .ok (.if_icmp .le 12, 3) := by decide +kernel
theorem dX7_gets_64 : decode cX7_gets 64 = .ok (.aload_n 0, 1) := by decide +kernel
theorem dX7_gets_65 : decode cX7_gets 65 = .ok (.ldc 36, 2) := by decide +kernel
theorem dX7_gets_67 : decode cX7_gets 67 = .ok (.invokevirtual 37, 3) := by decide +kernel
theorem dX7_gets_70 : decode cX7_gets 70 = .ok (.goto 4, 3) := by decide +kernel
theorem dX7_gets_73 : decode cX7_gets 73 = .ok (.iload_n 3, 1) := by decide +kernel
theorem dX7_gets_74 : decode cX7_gets 74 = .ok (.ireturn, 1) := by decide +kernel
set_option maxRecDepth 20000 in
theorem ggX7_over_X7_thinks : GoodIn wsX7_over wsX7_thinks := goodIn_r _ [6, 7, 8, 9, 10, 5, 11, 92, 93, 94, 95, 96, 97, 98, 99, 100, 101, 102, 103, 104, 105, 106] (by decide +kernel) (by decide +kernel)
set_option maxRecDepth 20000 in
theorem gX7_over_X7_thinks : GoodIn wsX7_over (wsV RX7 147 RX7 yX7_thinks wsX7_thinks) := goodIn_app (goodIn_of _ (by decide +kernel)) ggX7_over_X7_thinks
set_option maxRecDepth 20000 in
theorem ggX7_over_X7_isOver : GoodIn wsX7_over wsX7_isOver := goodIn_r _ [15, 7, 16, 17, 18, 5, 19, 20, 21, 22, 23, 24, 25, 26, 27, 28, 29, 30, 31, 32, 33, 34, 35, 36, 37, 38, 39, 40, 41, 42, 43, 44, 45, 46, 92, 93, 94, 95, 96, 97, 98, 99, 100, 101, 102, 103, 104, 105, 106] (by decide +kernel) (by decide +kernel)
set_option maxRecDepth 20000 in
theorem gX7_over_X7_isOver : GoodIn wsX7_over (wsV RX7 85 RX7 yX7_isOver wsX7_isOver) := goodIn_app (goodIn_of _ (by decide +kernel)) ggX7_over_X7_isOver
set_option maxRecDepth 20000 in
theorem ggX7_over_X7_goes : GoodIn wsX7_over wsX7_goes := goodIn_r _ [50, 7, 51, 52, 53, 5, 54, 55, 56, 57, 58, 24, 25, 26, 27, 59, 60, 61, 62, 32, 33, 34, 35, 36, 37, 38, 39, 40, 41, 42, 20, 21, 22, 23, 28, 29, 30, 31, 43, 44, 45, 46, 63, 64, 65, 66, 67, 68, 69, 70, 71, 72, 73, 74, 75, 76, 77, 78, 79, 80, 81, 92, 93, 94, 95, 96, 97, 98, 99, 100, 101, 102, 103, 104, 105, 106] (by decide +kernel) (by decide +kernel)
set_option maxRecDepth 20000 in
theorem gX7_over_X7_goes : GoodIn wsX7_over (wsV RX7 135 RX7 yX7_goes wsX7_goes) := goodIn_app (goodIn_of _ (by decide +kernel)) ggX7_over_X7_goes
set_option maxRecDepth 20000 in
theorem ggX7_over_X7_putsBack : GoodIn wsX7_over wsX7_putsBack := goodIn_r _ [85, 8, 7, 9, 10, 5, 11, 92, 93, 94, 95, 96, 97, 98, 99, 100, 101, 102, 103, 104, 105, 106] (by decide +kernel) (by decide +kernel)
set_option maxRecDepth 20000 in
theorem gX7_over_X7_putsBack : GoodIn wsX7_over (wsV RX7 150 RX7 yX7_putsBack wsX7_putsBack) := goodIn_app (goodIn_of _ (by decide +kernel)) ggX7_over_X7_putsBack
set_option maxRecDepth 20000 in
theorem ggX7_over_X7_finds : GoodIn wsX7_over wsX7_finds := goodIn_r _ [89, 90, 91, 92, 93, 94, 95, 96, 97, 98, 99, 100, 101, 102, 103, 104, 105, 106] (by decide +kernel) (by decide +kernel)
set_option maxRecDepth 20000 in
theorem gX7_over_X7_finds : GoodIn wsX7_over (wsV RX7 37 RX7 yX7_finds wsX7_finds) := goodIn_app (goodIn_of _ (by decide +kernel)) ggX7_over_X7_finds
theorem dX7_over_0 : decode cX7_over 0 = .ok (.aload_n 0, 1) := by decide +kernel
theorem dX7_over_1 : decode cX7_over 1 = .ok (.invokevirtual 147, 3) := by decide +kernel
theorem dX7_over_4 : decode cX7_over 4 = .ok (.iconst 0, 1) := by decide +kernel
theorem dX7_over_5 : decode cX7_over 5 = .ok (.istore_n 1, 1) := by decide +kernel
theorem dX7_over_6 : decode cX7_over 6 = .ok (.iload_n 1, 1) := by decide +kernel
theorem dX7_over_7 : decode cX7_over 7 = .ok (.bipush 100, 2) := by decide +kernel
theorem dX7_over_9 : decode cX7_over 9 = .ok (.if_icmp .gt 20, 3) := by decide +kernel
theorem dX7_over_12 : decode cX7_over 12 = .ok (.aload_n 0, 1) := by decide +kernel
theorem dX7_over_13 : decode cX7_over 13 = .ok (.invokevirtual 85, 3) := by decide +kernel
theorem dX7_over_16 : decode cX7_over 16 = .ok (.ifCond .ne 13, 3) := by decide +kernel
theorem dX7_over_19 : decode cX7_over 19 = .ok (.aload_n 0, 1) := by decide +kernel
theorem dX7_over_20 : decode cX7_over 20 = .ok (.invokevirtual 135, 3) := by decide +kernel
theorem dX7_over_23 : decode cX7_over 23 = .ok (.iinc 1 1, 3) := by decide +kernel
theorem dX7_over_26 : decode cX7_over 26 = .ok (.goto (-20), 3) := by decide +kernel
theorem dX7_over_29 : decode cX7_over 29 = .ok (.aload_n 0, 1) := by decide +kernel
theorem dX7_over_30 : decode cX7_over 30 = .ok (.invokevirtual 150, 3) := by decide +kernel
theorem dX7_over_33 : decode cX7_over 33 = .ok (.iload_n 1, 1) := by decide +kernel
theorem dX7_over_34 : decode cX7_over 34 = .ok (.bipush 100, 2) := by decide +kernel
theorem dX7_over_36 : decode cX7_over 36 = .ok (.if_icmp .le 12, 3) := by decide +kernel
theorem dX7_over_39 : decode cX7_over 39 = .ok (.aload_n 0, 1) := by decide +kernel
theorem dX7_over_40 : decode cX7_over 40 = .ok (.ldc 36, 2) := by decide +kernel
theorem dX7_over_42 : decode cX7_over 42 = .ok (.invokevirtual 37, 3) := by decide +kernel
theorem dX7_over_45 : decode cX7_over 45 = .ok (.goto 4, 3) := by decide +kernel
theorem dX7_over_48 : decode cX7_over 48 = .ok (.iload_n 1, 1) := by decide +kernel
theorem dX7_over_49 : decode cX7_over 49 = .ok (.ireturn, 1) := by decide +kernel
set_option maxRecDepth 20000 in
theorem ggX7_gladOn_X7_goesFor : GoodIn wsX7_gladOn wsX7_goesFor := goodIn_r _ [5, 6, 7, 8, 4, 9, 10, 11, 12, 13, 14, 15, 16, 17, 18, 19, 20, 21, 22, 23, 24, 25, 26, 27, 28, 29, 30, 31, 32, 33, 34, 35, 36, 37, 38, 39, 40, 41, 42, 43, 44, 45, 46, 47, 48, 49, 50, 51, 52, 53, 54, 55, 56, 57, 58, 59, 60, 61, 62, 63, 64, 65, 66, 67, 68, 77, 78, 79, 80, 81, 82, 83, 84, 85, 86, 87, 88, 89, 90, 91] (by decide +kernel) (by decide +kernel)
set_option maxRecDepth 20000 in
theorem gX7_gladOn_X7_goesFor : GoodIn wsX7_gladOn (wsV RX7 140 RX7 yX7_goesFor wsX7_goesFor) := goodIn_app (goodIn_of _ (by decide +kernel)) ggX7_gladOn_X7_goesFor
set_option maxRecDepth 20000 in
theorem ggX7_gladOn_X7_gladness : GoodIn wsX7_gladOn wsX7_gladness := goodIn_r _ [49, 19, 20, 21, 4, 22, 10, 27, 28, 29, 30, 31, 32, 33, 34, 35, 36, 37, 77, 78, 79, 80, 81, 82, 83, 84, 85, 86, 87, 88, 89, 90, 91] (by decide +kernel) (by decide +kernel)
set_option maxRecDepth 20000 in
theorem gX7_gladOn_X7_gladness : GoodIn wsX7_gladOn (wsV RX7 62 RX7 yX7_gladness wsX7_gladness) := goodIn_app (goodIn_of _ (by decide +kernel)) ggX7_gladOn_X7_gladness
set_option maxRecDepth 20000 in
theorem ggX7_gladOn_X7_putsBack : GoodIn wsX7_gladOn wsX7_putsBack := goodIn_r _ [72, 73, 10, 74, 75, 4, 76, 77, 78, 79, 80, 81, 82, 83, 84, 85, 86, 87, 88, 89, 90, 91] (by decide +kernel) (by decide +kernel)
set_option maxRecDepth 20000 in
theorem gX7_gladOn_X7_putsBack : GoodIn wsX7_gladOn (wsV RX7 150 RX7 yX7_putsBack wsX7_putsBack) := goodIn_app (goodIn_of _ (by decide +kernel)) ggX7_gladOn_X7_putsBack
theorem dX7_gladOn_0 : decode cX7_gladOn 0 = .ok (.aload_n 0, 1) := by decide +kernel
theorem dX7_gladOn_1 : decode cX7_gladOn 1 = .ok (.iload_n 2, 1) := by decide +kernel
theorem dX7_gladOn_2 : decode cX7_gladOn 2 = .ok (.invokevirtual 140, 3) := by decide +kernel
theorem dX7_gladOn_5 : decode cX7_gladOn 5 = .ok (.aload_n 0, 1) := by decide +kernel
theorem dX7_gladOn_6 : decode cX7_gladOn 6 = .ok (.iload_n 1, 1) := by decide +kernel
theorem dX7_gladOn_7 : decode cX7_gladOn 7 = .ok (.invokevirtual 62, 3) := by decide +kernel
theorem dX7_gladOn_10 : decode cX7_gladOn 10 = .ok (.istore_n 3, 1) := by decide +kernel
theorem dX7_gladOn_11 : decode cX7_gladOn 11 = .ok (.aload_n 0, 1) := by decide +kernel
theorem dX7_gladOn_12 : decode cX7_gladOn 12 = .ok (.invokevirtual 150, 3) := by decide +kernel
theorem dX7_gladOn_15 : decode cX7_gladOn 15 = .ok (.iload_n 3, 1) := by decide +kernel
theorem dX7_gladOn_16 : decode cX7_gladOn 16 = .ok (.ireturn, 1) := by decide +kernel
set_option maxRecDepth 20000 in
theorem ggX7_first_X7_isChild : GoodIn wsX7_first wsX7_isChild := goodIn_r _ [7, 2, 8, 9, 6, 10, 103, 104, 105, 106, 107, 108, 109, 110, 111, 112, 113, 114, 115, 116, 117] (by decide +kernel) (by decide +kernel)
set_option maxRecDepth 20000 in
theorem gX7_first_X7_isChild : GoodIn wsX7_first (wsV RX7 45 RX7 yX7_isChild wsX7_isChild) := goodIn_app (goodIn_of _ (by decide +kernel)) ggX7_first_X7_isChild
set_option maxRecDepth 20000 in
theorem ggX7_first_X7_in : GoodIn wsX7_first wsX7_in := goodIn_r _ [10] (by decide +kernel) (by decide +kernel)
set_option maxRecDepth 20000 in
theorem gX7_first_X7_in : GoodIn wsX7_first (va_wsS RX7 41 yX7_in wsX7_in) := goodIn_app (goodIn_of _ (by decide +kernel)) ggX7_first_X7_in
set_option maxRecDepth 20000 in
theorem ggX7_first_X7_finds : GoodIn wsX7_first wsX7_finds := goodIn_r _ [14, 15, 1, 103, 104, 105, 106, 107, 108, 109, 110, 111, 112, 113, 114, 115, 116, 117] (by decide +kernel) (by decide +kernel)
set_option maxRecDepth 20000 in
theorem gX7_first_X7_finds : GoodIn wsX7_first (wsV RX7 37 RX7 yX7_finds wsX7_finds) := goodIn_app (goodIn_of _ (by decide +kernel)) ggX7_first_X7_finds
set_option maxRecDepth 20000 in
theorem ggX7_first_X7_thinks : GoodIn wsX7_first wsX7_thinks := goodIn_r _ [19, 2, 20, 21, 22, 6, 23, 103, 104, 105, 106, 107, 108, 109, 110, 111, 112, 113, 114, 115, 116, 117] (by decide +kernel) (by decide +kernel)
set_option maxRecDepth 20000 in
theorem gX7_first_X7_thinks : GoodIn wsX7_first (wsV RX7 147 RX7 yX7_thinks wsX7_thinks) := goodIn_app (goodIn_of _ (by decide +kernel)) ggX7_first_X7_thinks
set_option maxRecDepth 20000 in
theorem ggX7_first_X7_swaps : GoodIn wsX7_first wsX7_swaps := goodIn_r _ [27, 28, 29, 30, 6, 31, 2, 32, 33, 34, 35, 36, 37, 38, 39, 40, 41, 42, 43, 44, 45, 46, 103, 104, 105, 106, 107, 108, 109, 110, 111, 112, 113, 114, 115, 116, 117] (by decide +kernel) (by decide +kernel)
set_option maxRecDepth 20000 in
theorem gX7_first_X7_swaps : GoodIn wsX7_first (wsV RX7 121 RX7 yX7_swaps wsX7_swaps) := goodIn_app (goodIn_of _ (by decide +kernel)) ggX7_first_X7_swaps
set_option maxRecDepth 20000 in
theorem ggX7_first_X7_gladOn : GoodIn wsX7_first wsX7_gladOn := goodIn_r _ [50, 51, 52, 53, 6, 54, 55, 56, 57, 58, 2, 59, 60, 61, 62, 63, 64, 65, 66, 28, 29, 30, 31, 67, 68, 69, 70, 71, 72, 73, 74, 75, 76, 77, 78, 79, 80, 81, 82, 83, 84, 85, 86, 87, 88, 89, 90, 91, 92, 93, 24, 25, 26, 27, 32, 33, 34, 35, 36, 37, 38, 39, 40, 41, 42, 43, 44, 45, 46, 94, 95, 96, 97, 20, 21, 22, 23, 103, 104, 105, 106, 107, 108, 109, 110, 111, 112, 113, 114, 115, 116, 117] (by decide +kernel) (by decide +kernel)
set_option maxRecDepth 20000 in
theorem gX7_first_X7_gladOn : GoodIn wsX7_first (wsV RX7 153 RX7 yX7_gladOn wsX7_gladOn) := goodIn_app (goodIn_of _ (by decide +kernel)) ggX7_first_X7_gladOn
set_option maxRecDepth 20000 in
theorem ggX7_first_X7_orNone : GoodIn wsX7_first wsX7_orNone := goodIn_r _ [101, 102, 11, 12, 13, 6, 14, 15, 1, 103, 104, 105, 106, 107, 108, 109, 110, 111, 112, 113, 114, 115, 116, 117] (by decide +kernel) (by decide +kernel)
set_option maxRecDepth 20000 in
theorem gX7_first_X7_orNone : GoodIn wsX7_first (wsV RX7 156 RX7 yX7_orNone wsX7_orNone) := goodIn_app (goodIn_of _ (by decide +kernel)) ggX7_first_X7_orNone
theorem dX7_first_0 : decode cX7_first 0 = .ok (.aload_n 0, 1) := by decide +kernel
theorem dX7_first_1 : decode cX7_first 1 = .ok (.iload_n 1, 1) := by decide +kernel
theorem dX7_first_2 : decode cX7_first 2 = .ok (.invokevirtual 45, 3) := by decide +kernel
theorem dX7_first_5 : decode cX7_first 5 = .ok (.ifCond .eq 14, 3) := by decide +kernel
theorem dX7_first_8 : decode cX7_first 8 = .ok (.iload_n 2, 1) := by decide +kernel
theorem dX7_first_9 : decode cX7_first 9 = .ok (.i2l, 1) := by decide +kernel
theorem dX7_first_10 : decode cX7_first 10 = .ok (.iconst 0, 1) := by decide +kernel
theorem dX7_first_11 : decode cX7_first 11 = .ok (.bipush 40, 2) := by decide +kernel
theorem dX7_first_13 : decode cX7_first 13 = .ok (.invokestatic 41, 3) := by decide +kernel
theorem dX7_first_16 : decode cX7_first 16 = .ok (.ifCond .ne 10, 3) := by decide +kernel
theorem dX7_first_19 : decode cX7_first 19 = .ok (.aload_n 0, 1) := by decide +kernel
theorem dX7_first_20 : decode cX7_first 20 = .ok (.ldc 35, 2) := by decide +kernel
theorem dX7_first_22 : decode cX7_first 22 = .ok (.invokevirtual 37, 3) := by decide +kernel
theorem dX7_first_25 : decode cX7_first 25 = .ok (.ireturn, 1) := by decide +kernel
theorem dX7_first_26 : decode cX7_first 26 = .ok (.aload_n 0, 1) := by decide +kernel
theorem dX7_first_27 : decode cX7_first 27 = .ok (.invokevirtual 147, 3) := by decide +kernel
theorem dX7_first_30 : decode cX7_first 30 = .ok (.iconst (-1), 1) := by decide +kernel
theorem dX7_first_31 : decode cX7_first 31 = .ok (.istore_n 3, 1) := by decide +kernel
theorem dX7_first_32 : decode cX7_first 32 = .ok (.iconst 0, 1) := by decide +kernel
theorem dX7_first_33 : decode cX7_first 33 = .ok (.istore 4, 2) := by decide +kernel
theorem dX7_first_35 : decode cX7_first 35 = .ok (.iconst 0, 1) := by decide +kernel
theorem dX7_first_36 : decode cX7_first 36 = .ok (.istore 5, 2) := by decide +kernel
theorem dX7_first_38 : decode cX7_first 38 = .ok (.iload 5, 2) := by decide +kernel
theorem dX7_first_40 : decode cX7_first 40 = .ok (.aload_n 0, 1) := by decide +kernel
theorem dX7_first_41 : decode cX7_first 41 = .ok (.getfield 9, 3) := by decide +kernel
theorem dX7_first_44 : decode cX7_first 44 = .ok (.iconst 2, 1) := by decide +kernel
theorem dX7_first_45 : decode cX7_first 45 = .ok (.iaload, 1) := by decide +kernel
theorem dX7_first_46 : decode cX7_first 46 = .ok (.if_icmp .ge 74, 3) := by decide +kernel
theorem dX7_first_49 : decode cX7_first 49 = .ok (.iload 5, 2) := by decide +kernel
theorem dX7_first_51 : decode cX7_first 51 = .ok (.iload_n 1, 1) := by decide +kernel
theorem dX7_first_52 : decode cX7_first 52 = .ok (.if_icmp .eq 62, 3) := by decide +kernel
theorem dX7_first_55 : decode cX7_first 55 = .ok (.aload_n 0, 1) := by decide +kernel
theorem dX7_first_56 : decode cX7_first 56 = .ok (.iload_n 1, 1) := by decide +kernel
theorem dX7_first_57 : decode cX7_first 57 = .ok (.iload 5, 2) := by decide +kernel
theorem dX7_first_59 : decode cX7_first 59 = .ok (.invokevirtual 121, 3) := by decide +kernel
theorem dX7_first_62 : decode cX7_first 62 = .ok (.aload_n 0, 1) := by decide +kernel
theorem dX7_first_63 : decode cX7_first 63 = .ok (.iload_n 1, 1) := by decide +kernel
theorem dX7_first_64 : decode cX7_first 64 = .ok (.iload_n 2, 1) := by decide +kernel
theorem dX7_first_65 : decode cX7_first 65 = .ok (.invokevirtual 153, 3) := by decide +kernel
theorem dX7_first_68 : decode cX7_first 68 = .ok (.istore 6, 2) := by decide +kernel
theorem dX7_first_70 : decode cX7_first 70 = .ok (.iload_n 3, 1) := by decide +kernel
theorem dX7_first_71 : decode cX7_first 71 = .ok (.ifCond .lt 10, 3) := by decide +kernel
theorem dX7_first_74 : decode cX7_first 74 = .ok (.iload 6, 2) := by decide +kernel
theorem dX7_first_76 : decode cX7_first 76 = .ok (.iload 4, 2) := by decide +kernel
theorem dX7_first_78 : decode cX7_first 78 = .ok (.if_icmp .le 7, 3) := by decide +kernel
theorem dX7_first_81 : decode cX7_first 81 = .ok (.iconst 1, 1) := by decide +kernel
theorem dX7_first_82 : decode cX7_first 82 = .ok (.goto 4, 3) := by decide +kernel
theorem dX7_first_85 : decode cX7_first 85 = .ok (.iconst 0, 1) := by decide +kernel
theorem dX7_first_86 : decode cX7_first 86 = .ok (.istore 7, 2) := by decide +kernel
theorem dX7_first_88 : decode cX7_first 88 = .ok (.iload 7, 2) := by decide +kernel
theorem dX7_first_90 : decode cX7_first 90 = .ok (.ifCond .eq 8, 3) := by decide +kernel
theorem dX7_first_93 : decode cX7_first 93 = .ok (.iload 5, 2) := by decide +kernel
theorem dX7_first_95 : decode cX7_first 95 = .ok (.goto 4, 3) := by decide +kernel
theorem dX7_first_98 : decode cX7_first 98 = .ok (.iload_n 3, 1) := by decide +kernel
theorem dX7_first_99 : decode cX7_first 99 = .ok (.istore_n 3, 1) := by decide +kernel
theorem dX7_first_100 : decode cX7_first 100 = .ok (.iload 7, 2) := by decide +kernel
theorem dX7_first_102 : decode cX7_first 102 = .ok (.ifCond .eq 8, 3) := by decide +kernel
theorem dX7_first_105 : decode cX7_first 105 = .ok (.iload 6, 2) := by decide +kernel
theorem dX7_first_107 : decode cX7_first 107 = .ok (.goto 5, 3) := by decide +kernel
theorem dX7_first_110 : decode cX7_first 110 = .ok (.iload 4, 2) := by decide +kernel
theorem dX7_first_112 : decode cX7_first 112 = .ok (.istore 4, 2) := by decide +kernel
theorem dX7_first_114 : decode cX7_first 114 = .ok (.iinc 5 1, 3) := by decide +kernel
theorem dX7_first_117 : decode cX7_first 117 = .ok (.goto (-79), 3) := by decide +kernel
theorem dX7_first_120 : decode cX7_first 120 = .ok (.aload_n 0, 1) := by decide +kernel
theorem dX7_first_121 : decode cX7_first 121 = .ok (.iload_n 3, 1) := by decide +kernel
theorem dX7_first_122 : decode cX7_first 122 = .ok (.invokevirtual 156, 3) := by decide +kernel
theorem dX7_first_125 : decode cX7_first 125 = .ok (.ireturn, 1) := by decide +kernel
set_option maxRecDepth 20000 in
theorem ggX7_bring_X7_isChild : GoodIn wsX7_bring wsX7_isChild := goodIn_r _ [6, 7, 8, 9, 5, 10, 98, 99, 100, 101, 102, 103, 104, 105, 106, 107, 108, 109, 110, 111, 112] (by decide +kernel) (by decide +kernel)
set_option maxRecDepth 20000 in
theorem gX7_bring_X7_isChild : GoodIn wsX7_bring (wsV RX7 45 RX7 yX7_isChild wsX7_isChild) := goodIn_app (goodIn_of _ (by decide +kernel)) ggX7_bring_X7_isChild
set_option maxRecDepth 20000 in
theorem ggX7_bring_X7_in : GoodIn wsX7_bring wsX7_in := goodIn_r _ [10] (by decide +kernel) (by decide +kernel)
set_option maxRecDepth 20000 in
theorem gX7_bring_X7_in : GoodIn wsX7_bring (va_wsS RX7 41 yX7_in wsX7_in) := goodIn_app (goodIn_of _ (by decide +kernel)) ggX7_bring_X7_in
set_option maxRecDepth 20000 in
theorem ggX7_bring_X7_finds : GoodIn wsX7_bring wsX7_finds := goodIn_r _ [14, 15, 1, 98, 99, 100, 101, 102, 103, 104, 105, 106, 107, 108, 109, 110, 111, 112] (by decide +kernel) (by decide +kernel)
set_option maxRecDepth 20000 in
theorem gX7_bring_X7_finds : GoodIn wsX7_bring (wsV RX7 37 RX7 yX7_finds wsX7_finds) := goodIn_app (goodIn_of _ (by decide +kernel)) ggX7_bring_X7_finds
set_option maxRecDepth 20000 in
theorem ggX7_bring_X7_thinks : GoodIn wsX7_bring wsX7_thinks := goodIn_r _ [19, 7, 20, 21, 22, 5, 23, 98, 99, 100, 101, 102, 103, 104, 105, 106, 107, 108, 109, 110, 111, 112] (by decide +kernel) (by decide +kernel)
set_option maxRecDepth 20000 in
theorem gX7_bring_X7_thinks : GoodIn wsX7_bring (wsV RX7 147 RX7 yX7_thinks wsX7_thinks) := goodIn_app (goodIn_of _ (by decide +kernel)) ggX7_bring_X7_thinks
set_option maxRecDepth 20000 in
theorem ggX7_bring_X7_put : GoodIn wsX7_bring wsX7_put := goodIn_r _ [27, 7, 98, 99, 100, 101, 102, 103, 104, 105, 106, 107, 108, 109, 110, 111, 112] (by decide +kernel) (by decide +kernel)
set_option maxRecDepth 20000 in
theorem gX7_bring_X7_put : GoodIn wsX7_bring (wsV RX7 95 RX7 yX7_put wsX7_put) := goodIn_app (goodIn_of _ (by decide +kernel)) ggX7_bring_X7_put
set_option maxRecDepth 20000 in
theorem ggX7_bring_X7_gladOn : GoodIn wsX7_bring wsX7_gladOn := goodIn_r _ [31, 32, 33, 34, 5, 35, 36, 37, 38, 39, 7, 40, 41, 42, 43, 44, 45, 46, 47, 48, 49, 50, 51, 52, 53, 54, 55, 56, 57, 58, 59, 60, 61, 62, 63, 64, 65, 66, 67, 68, 69, 70, 71, 72, 73, 74, 75, 76, 77, 78, 79, 80, 81, 82, 83, 84, 85, 86, 24, 25, 26, 27, 87, 88, 89, 90, 91, 92, 93, 94, 95, 96, 97, 20, 21, 22, 23, 98, 99, 100, 101, 102, 103, 104, 105, 106, 107, 108, 109, 110, 111, 112] (by decide +kernel) (by decide +kernel)
set_option maxRecDepth 20000 in
theorem gX7_bring_X7_gladOn : GoodIn wsX7_bring (wsV RX7 153 RX7 yX7_gladOn wsX7_gladOn) := goodIn_app (goodIn_of _ (by decide +kernel)) ggX7_bring_X7_gladOn
theorem dX7_bring_0 : decode cX7_bring 0 = .ok (.aload_n 0, 1) := by decide +kernel
theorem dX7_bring_1 : decode cX7_bring 1 = .ok (.iload_n 1, 1) := by decide +kernel
theorem dX7_bring_2 : decode cX7_bring 2 = .ok (.invokevirtual 45, 3) := by decide +kernel
theorem dX7_bring_5 : decode cX7_bring 5 = .ok (.ifCond .eq 14, 3) := by decide +kernel
theorem dX7_bring_8 : decode cX7_bring 8 = .ok (.iload_n 2, 1) := by decide +kernel
theorem dX7_bring_9 : decode cX7_bring 9 = .ok (.i2l, 1) := by decide +kernel
theorem dX7_bring_10 : decode cX7_bring 10 = .ok (.iconst 0, 1) := by decide +kernel
theorem dX7_bring_11 : decode cX7_bring 11 = .ok (.bipush 40, 2) := by decide +kernel
theorem dX7_bring_13 : decode cX7_bring 13 = .ok (.invokestatic 41, 3) := by decide +kernel
theorem dX7_bring_16 : decode cX7_bring 16 = .ok (.ifCond .ne 10, 3) := by decide +kernel
theorem dX7_bring_19 : decode cX7_bring 19 = .ok (.aload_n 0, 1) := by decide +kernel
theorem dX7_bring_20 : decode cX7_bring 20 = .ok (.ldc 35, 2) := by decide +kernel
theorem dX7_bring_22 : decode cX7_bring 22 = .ok (.invokevirtual 37, 3) := by decide +kernel
theorem dX7_bring_25 : decode cX7_bring 25 = .ok (.ireturn, 1) := by decide +kernel
theorem dX7_bring_26 : decode cX7_bring 26 = .ok (.aload_n 0, 1) := by decide +kernel
theorem dX7_bring_27 : decode cX7_bring 27 = .ok (.invokevirtual 147, 3) := by decide +kernel
theorem dX7_bring_30 : decode cX7_bring 30 = .ok (.iconst 0, 1) := by decide +kernel
theorem dX7_bring_31 : decode cX7_bring 31 = .ok (.istore_n 3, 1) := by decide +kernel
theorem dX7_bring_32 : decode cX7_bring 32 = .ok (.bipush (-100), 2) := by decide +kernel
theorem dX7_bring_34 : decode cX7_bring 34 = .ok (.istore 4, 2) := by decide +kernel
theorem dX7_bring_36 : decode cX7_bring 36 = .ok (.iconst 0, 1) := by decide +kernel
theorem dX7_bring_37 : decode cX7_bring 37 = .ok (.istore 5, 2) := by decide +kernel
theorem dX7_bring_39 : decode cX7_bring 39 = .ok (.iload 5, 2) := by decide +kernel
theorem dX7_bring_41 : decode cX7_bring 41 = .ok (.bipush 10, 2) := by decide +kernel
theorem dX7_bring_43 : decode cX7_bring 43 = .ok (.if_icmp .ge 55, 3) := by decide +kernel
theorem dX7_bring_46 : decode cX7_bring 46 = .ok (.aload_n 0, 1) := by decide +kernel
theorem dX7_bring_47 : decode cX7_bring 47 = .ok (.iload_n 1, 1) := by decide +kernel
theorem dX7_bring_48 : decode cX7_bring 48 = .ok (.iconst 1, 1) := by decide +kernel
theorem dX7_bring_49 : decode cX7_bring 49 = .ok (.iload 5, 2) := by decide +kernel
theorem dX7_bring_51 : decode cX7_bring 51 = .ok (.invokevirtual 95, 3) := by decide +kernel
theorem dX7_bring_54 : decode cX7_bring 54 = .ok (.aload_n 0, 1) := by decide +kernel
theorem dX7_bring_55 : decode cX7_bring 55 = .ok (.iload_n 1, 1) := by decide +kernel
theorem dX7_bring_56 : decode cX7_bring 56 = .ok (.iload_n 2, 1) := by decide +kernel
theorem dX7_bring_57 : decode cX7_bring 57 = .ok (.invokevirtual 153, 3) := by decide +kernel
theorem dX7_bring_60 : decode cX7_bring 60 = .ok (.istore 6, 2) := by decide +kernel
theorem dX7_bring_62 : decode cX7_bring 62 = .ok (.iload 6, 2) := by decide +kernel
theorem dX7_bring_64 : decode cX7_bring 64 = .ok (.iload 4, 2) := by decide +kernel
theorem dX7_bring_66 : decode cX7_bring 66 = .ok (.if_icmp .le 8, 3) := by decide +kernel
theorem dX7_bring_69 : decode cX7_bring 69 = .ok (.iload 5, 2) := by decide +kernel
theorem dX7_bring_71 : decode cX7_bring 71 = .ok (.goto 4, 3) := by decide +kernel
theorem dX7_bring_74 : decode cX7_bring 74 = .ok (.iload_n 3, 1) := by decide +kernel
theorem dX7_bring_75 : decode cX7_bring 75 = .ok (.istore_n 3, 1) := by decide +kernel
theorem dX7_bring_76 : decode cX7_bring 76 = .ok (.iload 6, 2) := by decide +kernel
theorem dX7_bring_78 : decode cX7_bring 78 = .ok (.iload 4, 2) := by decide +kernel
theorem dX7_bring_80 : decode cX7_bring 80 = .ok (.if_icmp .le 8, 3) := by decide +kernel
theorem dX7_bring_83 : decode cX7_bring 83 = .ok (.iload 6, 2) := by decide +kernel
theorem dX7_bring_85 : decode cX7_bring 85 = .ok (.goto 5, 3) := by decide +kernel
theorem dX7_bring_88 : decode cX7_bring 88 = .ok (.iload 4, 2) := by decide +kernel
theorem dX7_bring_90 : decode cX7_bring 90 = .ok (.istore 4, 2) := by decide +kernel
theorem dX7_bring_92 : decode cX7_bring 92 = .ok (.iinc 5 1, 3) := by decide +kernel
theorem dX7_bring_95 : decode cX7_bring 95 = .ok (.goto (-56), 3) := by decide +kernel
theorem dX7_bring_98 : decode cX7_bring 98 = .ok (.iload_n 3, 1) := by decide +kernel
theorem dX7_bring_99 : decode cX7_bring 99 = .ok (.ireturn, 1) := by decide +kernel
set_option maxRecDepth 20000 in
theorem ggX7_kind_X7_isChild : GoodIn wsX7_kind wsX7_isChild := goodIn_r _ [6, 7, 8, 9, 5, 10, 94, 95, 96, 97, 98, 99, 100, 101, 102, 103, 104, 105, 106, 107, 108] (by decide +kernel) (by decide +kernel)
set_option maxRecDepth 20000 in
theorem gX7_kind_X7_isChild : GoodIn wsX7_kind (wsV RX7 45 RX7 yX7_isChild wsX7_isChild) := goodIn_app (goodIn_of _ (by decide +kernel)) ggX7_kind_X7_isChild
set_option maxRecDepth 20000 in
theorem ggX7_kind_X7_in : GoodIn wsX7_kind wsX7_in := goodIn_r _ [10] (by decide +kernel) (by decide +kernel)
set_option maxRecDepth 20000 in
theorem gX7_kind_X7_in : GoodIn wsX7_kind (va_wsS RX7 41 yX7_in wsX7_in) := goodIn_app (goodIn_of _ (by decide +kernel)) ggX7_kind_X7_in
set_option maxRecDepth 20000 in
theorem ggX7_kind_X7_finds : GoodIn wsX7_kind wsX7_finds := goodIn_r _ [14, 15, 1, 94, 95, 96, 97, 98, 99, 100, 101, 102, 103, 104, 105, 106, 107, 108] (by decide +kernel) (by decide +kernel)
set_option maxRecDepth 20000 in
theorem gX7_kind_X7_finds : GoodIn wsX7_kind (wsV RX7 37 RX7 yX7_finds wsX7_finds) := goodIn_app (goodIn_of _ (by decide +kernel)) ggX7_kind_X7_finds
set_option maxRecDepth 20000 in
theorem ggX7_kind_X7_thinks : GoodIn wsX7_kind wsX7_thinks := goodIn_r _ [19, 7, 20, 21, 22, 5, 23, 94, 95, 96, 97, 98, 99, 100, 101, 102, 103, 104, 105, 106, 107, 108] (by decide +kernel) (by decide +kernel)
set_option maxRecDepth 20000 in
theorem gX7_kind_X7_thinks : GoodIn wsX7_kind (wsV RX7 147 RX7 yX7_thinks wsX7_thinks) := goodIn_app (goodIn_of _ (by decide +kernel)) ggX7_kind_X7_thinks
set_option maxRecDepth 20000 in
theorem ggX7_kind_X7_put : GoodIn wsX7_kind wsX7_put := goodIn_r _ [27, 7, 94, 95, 96, 97, 98, 99, 100, 101, 102, 103, 104, 105, 106, 107, 108] (by decide +kernel) (by decide +kernel)
set_option maxRecDepth 20000 in
theorem gX7_kind_X7_put : GoodIn wsX7_kind (wsV RX7 95 RX7 yX7_put wsX7_put) := goodIn_app (goodIn_of _ (by decide +kernel)) ggX7_kind_X7_put
set_option maxRecDepth 20000 in
theorem ggX7_kind_X7_goesFor : GoodIn wsX7_kind wsX7_goesFor := goodIn_r _ [31, 32, 33, 34, 5, 35, 7, 36, 37, 38, 39, 40, 41, 42, 43, 44, 45, 46, 47, 48, 49, 50, 51, 52, 53, 54, 55, 56, 57, 58, 59, 60, 61, 62, 63, 64, 65, 66, 67, 68, 69, 70, 71, 72, 73, 74, 75, 76, 77, 78, 79, 80, 81, 82, 24, 25, 26, 27, 83, 84, 85, 86, 87, 88, 89, 94, 95, 96, 97, 98, 99, 100, 101, 102, 103, 104, 105, 106, 107, 108] (by decide +kernel) (by decide +kernel)
set_option maxRecDepth 20000 in
theorem gX7_kind_X7_goesFor : GoodIn wsX7_kind (wsV RX7 140 RX7 yX7_goesFor wsX7_goesFor) := goodIn_app (goodIn_of _ (by decide +kernel)) ggX7_kind_X7_goesFor
set_option maxRecDepth 20000 in
theorem ggX7_kind_X7_it : GoodIn wsX7_kind wsX7_it := goodIn_r _ [47, 7, 94, 95, 96, 97, 98, 99, 100, 101, 102, 103, 104, 105, 106, 107, 108] (by decide +kernel) (by decide +kernel)
set_option maxRecDepth 20000 in
theorem gX7_kind_X7_it : GoodIn wsX7_kind (wsV RX7 49 RX7 yX7_it wsX7_it) := goodIn_app (goodIn_of _ (by decide +kernel)) ggX7_kind_X7_it
set_option maxRecDepth 20000 in
theorem ggX7_kind_X7_putsBack : GoodIn wsX7_kind wsX7_putsBack := goodIn_r _ [93, 20, 7, 21, 22, 5, 23, 94, 95, 96, 97, 98, 99, 100, 101, 102, 103, 104, 105, 106, 107, 108] (by decide +kernel) (by decide +kernel)
set_option maxRecDepth 20000 in
theorem gX7_kind_X7_putsBack : GoodIn wsX7_kind (wsV RX7 150 RX7 yX7_putsBack wsX7_putsBack) := goodIn_app (goodIn_of _ (by decide +kernel)) ggX7_kind_X7_putsBack
theorem dX7_kind_0 : decode cX7_kind 0 = .ok (.aload_n 0, 1) := by decide +kernel
theorem dX7_kind_1 : decode cX7_kind 1 = .ok (.iload_n 1, 1) := by decide +kernel
theorem dX7_kind_2 : decode cX7_kind 2 = .ok (.invokevirtual 45, 3) := by decide +kernel
theorem dX7_kind_5 : decode cX7_kind 5 = .ok (.ifCond .eq 14, 3) := by decide +kernel
theorem dX7_kind_8 : decode cX7_kind 8 = .ok (.iload_n 2, 1) := by decide +kernel
theorem dX7_kind_9 : decode cX7_kind 9 = .ok (.i2l, 1) := by decide +kernel
theorem dX7_kind_10 : decode cX7_kind 10 = .ok (.iconst 0, 1) := by decide +kernel
theorem dX7_kind_11 : decode cX7_kind 11 = .ok (.bipush 40, 2) := by decide +kernel
theorem dX7_kind_13 : decode cX7_kind 13 = .ok (.invokestatic 41, 3) := by decide +kernel
theorem dX7_kind_16 : decode cX7_kind 16 = .ok (.ifCond .ne 10, 3) := by decide +kernel
theorem dX7_kind_19 : decode cX7_kind 19 = .ok (.aload_n 0, 1) := by decide +kernel
theorem dX7_kind_20 : decode cX7_kind 20 = .ok (.ldc 35, 2) := by decide +kernel
theorem dX7_kind_22 : decode cX7_kind 22 = .ok (.invokevirtual 37, 3) := by decide +kernel
theorem dX7_kind_25 : decode cX7_kind 25 = .ok (.ireturn, 1) := by decide +kernel
theorem dX7_kind_26 : decode cX7_kind 26 = .ok (.aload_n 0, 1) := by decide +kernel
theorem dX7_kind_27 : decode cX7_kind 27 = .ok (.invokevirtual 147, 3) := by decide +kernel
theorem dX7_kind_30 : decode cX7_kind 30 = .ok (.iconst 0, 1) := by decide +kernel
theorem dX7_kind_31 : decode cX7_kind 31 = .ok (.istore_n 3, 1) := by decide +kernel
theorem dX7_kind_32 : decode cX7_kind 32 = .ok (.iconst (-1), 1) := by decide +kernel
theorem dX7_kind_33 : decode cX7_kind 33 = .ok (.istore 4, 2) := by decide +kernel
theorem dX7_kind_35 : decode cX7_kind 35 = .ok (.iconst 0, 1) := by decide +kernel
theorem dX7_kind_36 : decode cX7_kind 36 = .ok (.istore 5, 2) := by decide +kernel
theorem dX7_kind_38 : decode cX7_kind 38 = .ok (.iload 5, 2) := by decide +kernel
theorem dX7_kind_40 : decode cX7_kind 40 = .ok (.iconst 5, 1) := by decide +kernel
theorem dX7_kind_41 : decode cX7_kind 41 = .ok (.if_icmp .gt 71, 3) := by decide +kernel
theorem dX7_kind_44 : decode cX7_kind 44 = .ok (.aload_n 0, 1) := by decide +kernel
theorem dX7_kind_45 : decode cX7_kind 45 = .ok (.iload_n 1, 1) := by decide +kernel
theorem dX7_kind_46 : decode cX7_kind 46 = .ok (.iconst 0, 1) := by decide +kernel
theorem dX7_kind_47 : decode cX7_kind 47 = .ok (.iload 5, 2) := by decide +kernel
theorem dX7_kind_49 : decode cX7_kind 49 = .ok (.invokevirtual 95, 3) := by decide +kernel
theorem dX7_kind_52 : decode cX7_kind 52 = .ok (.aload_n 0, 1) := by decide +kernel
theorem dX7_kind_53 : decode cX7_kind 53 = .ok (.iload_n 2, 1) := by decide +kernel
theorem dX7_kind_54 : decode cX7_kind 54 = .ok (.invokevirtual 140, 3) := by decide +kernel
theorem dX7_kind_57 : decode cX7_kind 57 = .ok (.aload_n 0, 1) := by decide +kernel
theorem dX7_kind_58 : decode cX7_kind 58 = .ok (.iload_n 1, 1) := by decide +kernel
theorem dX7_kind_59 : decode cX7_kind 59 = .ok (.iconst 4, 1) := by decide +kernel
theorem dX7_kind_60 : decode cX7_kind 60 = .ok (.aload_n 0, 1) := by decide +kernel
theorem dX7_kind_61 : decode cX7_kind 61 = .ok (.iload_n 1, 1) := by decide +kernel
theorem dX7_kind_62 : decode cX7_kind 62 = .ok (.iconst 1, 1) := by decide +kernel
theorem dX7_kind_63 : decode cX7_kind 63 = .ok (.invokevirtual 49, 3) := by decide +kernel
theorem dX7_kind_66 : decode cX7_kind 66 = .ok (.iadd, 1) := by decide +kernel
theorem dX7_kind_67 : decode cX7_kind 67 = .ok (.invokevirtual 49, 3) := by decide +kernel
theorem dX7_kind_70 : decode cX7_kind 70 = .ok (.istore 6, 2) := by decide +kernel
theorem dX7_kind_72 : decode cX7_kind 72 = .ok (.aload_n 0, 1) := by decide +kernel
theorem dX7_kind_73 : decode cX7_kind 73 = .ok (.invokevirtual 150, 3) := by decide +kernel
theorem dX7_kind_76 : decode cX7_kind 76 = .ok (.iload 6, 2) := by decide +kernel
theorem dX7_kind_78 : decode cX7_kind 78 = .ok (.iload 4, 2) := by decide +kernel
theorem dX7_kind_80 : decode cX7_kind 80 = .ok (.if_icmp .le 8, 3) := by decide +kernel
theorem dX7_kind_83 : decode cX7_kind 83 = .ok (.iload 5, 2) := by decide +kernel
theorem dX7_kind_85 : decode cX7_kind 85 = .ok (.goto 4, 3) := by decide +kernel
theorem dX7_kind_88 : decode cX7_kind 88 = .ok (.iload_n 3, 1) := by decide +kernel
theorem dX7_kind_89 : decode cX7_kind 89 = .ok (.istore_n 3, 1) := by decide +kernel
theorem dX7_kind_90 : decode cX7_kind 90 = .ok (.iload 6, 2) := by decide +kernel
theorem dX7_kind_92 : decode cX7_kind 92 = .ok (.iload 4, 2) := by decide +kernel
theorem dX7_kind_94 : decode cX7_kind 94 = .ok (.if_icmp .le 8, 3) := by decide +kernel
theorem dX7_kind_97 : decode cX7_kind 97 = .ok (.iload 6, 2) := by decide +kernel
theorem dX7_kind_99 : decode cX7_kind 99 = .ok (.goto 5, 3) := by decide +kernel
theorem dX7_kind_102 : decode cX7_kind 102 = .ok (.iload 4, 2) := by decide +kernel
theorem dX7_kind_104 : decode cX7_kind 104 = .ok (.istore 4, 2) := by decide +kernel
theorem dX7_kind_106 : decode cX7_kind 106 = .ok (.iinc 5 1, 3) := by decide +kernel
theorem dX7_kind_109 : decode cX7_kind 109 = .ok (.goto (-71), 3) := by decide +kernel
theorem dX7_kind_112 : decode cX7_kind 112 = .ok (.iload_n 3, 1) := by decide +kernel
theorem dX7_kind_113 : decode cX7_kind 113 = .ok (.ireturn, 1) := by decide +kernel
set_option maxRecDepth 20000 in
theorem ggX7_trust_X7_isChild : GoodIn wsX7_trust wsX7_isChild := goodIn_r _ [6, 7, 8, 9, 5, 10, 103, 104, 105, 106, 107, 108, 109, 110, 111, 112, 113, 114, 115, 116, 117] (by decide +kernel) (by decide +kernel)
set_option maxRecDepth 20000 in
theorem gX7_trust_X7_isChild : GoodIn wsX7_trust (wsV RX7 45 RX7 yX7_isChild wsX7_isChild) := goodIn_app (goodIn_of _ (by decide +kernel)) ggX7_trust_X7_isChild
set_option maxRecDepth 20000 in
theorem ggX7_trust_X7_in : GoodIn wsX7_trust wsX7_in := goodIn_r _ [10] (by decide +kernel) (by decide +kernel)
set_option maxRecDepth 20000 in
theorem gX7_trust_X7_in : GoodIn wsX7_trust (va_wsS RX7 41 yX7_in wsX7_in) := goodIn_app (goodIn_of _ (by decide +kernel)) ggX7_trust_X7_in
set_option maxRecDepth 20000 in
theorem ggX7_trust_X7_finds : GoodIn wsX7_trust wsX7_finds := goodIn_r _ [14, 15, 1, 103, 104, 105, 106, 107, 108, 109, 110, 111, 112, 113, 114, 115, 116, 117] (by decide +kernel) (by decide +kernel)
set_option maxRecDepth 20000 in
theorem gX7_trust_X7_finds : GoodIn wsX7_trust (wsV RX7 37 RX7 yX7_finds wsX7_finds) := goodIn_app (goodIn_of _ (by decide +kernel)) ggX7_trust_X7_finds
set_option maxRecDepth 20000 in
theorem ggX7_trust_X7_thinks : GoodIn wsX7_trust wsX7_thinks := goodIn_r _ [19, 7, 20, 21, 22, 5, 23, 103, 104, 105, 106, 107, 108, 109, 110, 111, 112, 113, 114, 115, 116, 117] (by decide +kernel) (by decide +kernel)
set_option maxRecDepth 20000 in
theorem gX7_trust_X7_thinks : GoodIn wsX7_trust (wsV RX7 147 RX7 yX7_thinks wsX7_thinks) := goodIn_app (goodIn_of _ (by decide +kernel)) ggX7_trust_X7_thinks
set_option maxRecDepth 20000 in
theorem ggX7_trust_X7_put : GoodIn wsX7_trust wsX7_put := goodIn_r _ [27, 7, 103, 104, 105, 106, 107, 108, 109, 110, 111, 112, 113, 114, 115, 116, 117] (by decide +kernel) (by decide +kernel)
set_option maxRecDepth 20000 in
theorem gX7_trust_X7_put : GoodIn wsX7_trust (wsV RX7 95 RX7 yX7_put wsX7_put) := goodIn_app (goodIn_of _ (by decide +kernel)) ggX7_trust_X7_put
set_option maxRecDepth 20000 in
theorem ggX7_trust_X7_gladOn : GoodIn wsX7_trust wsX7_gladOn := goodIn_r _ [31, 32, 33, 34, 5, 35, 36, 37, 38, 39, 7, 40, 41, 42, 43, 44, 45, 46, 47, 48, 49, 50, 51, 52, 53, 54, 55, 56, 57, 58, 59, 60, 61, 62, 63, 64, 65, 66, 67, 68, 69, 70, 71, 72, 73, 74, 75, 76, 77, 78, 79, 80, 81, 82, 83, 84, 85, 86, 24, 25, 26, 27, 87, 88, 89, 90, 91, 92, 93, 94, 95, 96, 97, 20, 21, 22, 23, 103, 104, 105, 106, 107, 108, 109, 110, 111, 112, 113, 114, 115, 116, 117] (by decide +kernel) (by decide +kernel)
set_option maxRecDepth 20000 in
theorem gX7_trust_X7_gladOn : GoodIn wsX7_trust (wsV RX7 153 RX7 yX7_gladOn wsX7_gladOn) := goodIn_app (goodIn_of _ (by decide +kernel)) ggX7_trust_X7_gladOn
set_option maxRecDepth 20000 in
theorem ggX7_trust_X7_orNone : GoodIn wsX7_trust wsX7_orNone := goodIn_r _ [101, 102, 11, 12, 13, 5, 14, 15, 1, 103, 104, 105, 106, 107, 108, 109, 110, 111, 112, 113, 114, 115, 116, 117] (by decide +kernel) (by decide +kernel)
set_option maxRecDepth 20000 in
theorem gX7_trust_X7_orNone : GoodIn wsX7_trust (wsV RX7 156 RX7 yX7_orNone wsX7_orNone) := goodIn_app (goodIn_of _ (by decide +kernel)) ggX7_trust_X7_orNone
theorem dX7_trust_0 : decode cX7_trust 0 = .ok (.aload_n 0, 1) := by decide +kernel
theorem dX7_trust_1 : decode cX7_trust 1 = .ok (.iload_n 1, 1) := by decide +kernel
theorem dX7_trust_2 : decode cX7_trust 2 = .ok (.invokevirtual 45, 3) := by decide +kernel
theorem dX7_trust_5 : decode cX7_trust 5 = .ok (.ifCond .eq 26, 3) := by decide +kernel
theorem dX7_trust_8 : decode cX7_trust 8 = .ok (.iload_n 2, 1) := by decide +kernel
theorem dX7_trust_9 : decode cX7_trust 9 = .ok (.i2l, 1) := by decide +kernel
theorem dX7_trust_10 : decode cX7_trust 10 = .ok (.iconst 0, 1) := by decide +kernel
theorem dX7_trust_11 : decode cX7_trust 11 = .ok (.bipush 40, 2) := by decide +kernel
theorem dX7_trust_13 : decode cX7_trust 13 = .ok (.invokestatic 41, 3) := by decide +kernel
theorem dX7_trust_16 : decode cX7_trust 16 = .ok (.ifCond .eq 15, 3) := by decide +kernel
theorem dX7_trust_19 : decode cX7_trust 19 = .ok (.iload_n 3, 1) := by decide +kernel
theorem dX7_trust_20 : decode cX7_trust 20 = .ok (.i2l, 1) := by decide +kernel
theorem dX7_trust_21 : decode cX7_trust 21 = .ok (.bipush (-20), 2) := by decide +kernel
theorem dX7_trust_23 : decode cX7_trust 23 = .ok (.bipush 40, 2) := by decide +kernel
theorem dX7_trust_25 : decode cX7_trust 25 = .ok (.invokestatic 41, 3) := by decide +kernel
theorem dX7_trust_28 : decode cX7_trust 28 = .ok (.ifCond .ne 10, 3) := by decide +kernel
theorem dX7_trust_31 : decode cX7_trust 31 = .ok (.aload_n 0, 1) := by decide +kernel
theorem dX7_trust_32 : decode cX7_trust 32 = .ok (.ldc 35, 2) := by decide +kernel
theorem dX7_trust_34 : decode cX7_trust 34 = .ok (.invokevirtual 37, 3) := by decide +kernel
theorem dX7_trust_37 : decode cX7_trust 37 = .ok (.ireturn, 1) := by decide +kernel
theorem dX7_trust_38 : decode cX7_trust 38 = .ok (.aload_n 0, 1) := by decide +kernel
theorem dX7_trust_39 : decode cX7_trust 39 = .ok (.invokevirtual 147, 3) := by decide +kernel
theorem dX7_trust_42 : decode cX7_trust 42 = .ok (.iconst (-1), 1) := by decide +kernel
theorem dX7_trust_43 : decode cX7_trust 43 = .ok (.istore 4, 2) := by decide +kernel
theorem dX7_trust_45 : decode cX7_trust 45 = .ok (.iconst 0, 1) := by decide +kernel
theorem dX7_trust_46 : decode cX7_trust 46 = .ok (.istore 5, 2) := by decide +kernel
theorem dX7_trust_48 : decode cX7_trust 48 = .ok (.iload 5, 2) := by decide +kernel
theorem dX7_trust_50 : decode cX7_trust 50 = .ok (.bipush 99, 2) := by decide +kernel
theorem dX7_trust_52 : decode cX7_trust 52 = .ok (.if_icmp .gt 40, 3) := by decide +kernel
theorem dX7_trust_55 : decode cX7_trust 55 = .ok (.iload 4, 2) := by decide +kernel
theorem dX7_trust_57 : decode cX7_trust 57 = .ok (.ifCond .ge 35, 3) := by decide +kernel
theorem dX7_trust_60 : decode cX7_trust 60 = .ok (.aload_n 0, 1) := by decide +kernel
theorem dX7_trust_61 : decode cX7_trust 61 = .ok (.iload_n 1, 1) := by decide +kernel
theorem dX7_trust_62 : decode cX7_trust 62 = .ok (.iconst 3, 1) := by decide +kernel
theorem dX7_trust_63 : decode cX7_trust 63 = .ok (.iload 5, 2) := by decide +kernel
theorem dX7_trust_65 : decode cX7_trust 65 = .ok (.invokevirtual 95, 3) := by decide +kernel
theorem dX7_trust_68 : decode cX7_trust 68 = .ok (.aload_n 0, 1) := by decide +kernel
theorem dX7_trust_69 : decode cX7_trust 69 = .ok (.iload_n 1, 1) := by decide +kernel
theorem dX7_trust_70 : decode cX7_trust 70 = .ok (.iload_n 2, 1) := by decide +kernel
theorem dX7_trust_71 : decode cX7_trust 71 = .ok (.invokevirtual 153, 3) := by decide +kernel
theorem dX7_trust_74 : decode cX7_trust 74 = .ok (.iload_n 3, 1) := by decide +kernel
theorem dX7_trust_75 : decode cX7_trust 75 = .ok (.if_icmp .lt 8, 3) := by decide +kernel
theorem dX7_trust_78 : decode cX7_trust 78 = .ok (.iload 5, 2) := by decide +kernel
theorem dX7_trust_80 : decode cX7_trust 80 = .ok (.goto 4, 3) := by decide +kernel
theorem dX7_trust_83 : decode cX7_trust 83 = .ok (.iconst (-1), 1) := by decide +kernel
theorem dX7_trust_84 : decode cX7_trust 84 = .ok (.istore 4, 2) := by decide +kernel
theorem dX7_trust_86 : decode cX7_trust 86 = .ok (.iinc 5 1, 3) := by decide +kernel
theorem dX7_trust_89 : decode cX7_trust 89 = .ok (.goto (-41), 3) := by decide +kernel
theorem dX7_trust_92 : decode cX7_trust 92 = .ok (.aload_n 0, 1) := by decide +kernel
theorem dX7_trust_93 : decode cX7_trust 93 = .ok (.iload 4, 2) := by decide +kernel
theorem dX7_trust_95 : decode cX7_trust 95 = .ok (.invokevirtual 156, 3) := by decide +kernel
theorem dX7_trust_98 : decode cX7_trust 98 = .ok (.ireturn, 1) := by decide +kernel
set_option maxRecDepth 20000 in
theorem ggX7_away_X7_in : GoodIn wsX7_away wsX7_in := goodIn_r _ [6] (by decide +kernel) (by decide +kernel)
set_option maxRecDepth 20000 in
theorem gX7_away_X7_in : GoodIn wsX7_away (va_wsS RX7 41 yX7_in wsX7_in) := goodIn_app (goodIn_of _ (by decide +kernel)) ggX7_away_X7_in
set_option maxRecDepth 20000 in
theorem ggX7_away_X7_finds : GoodIn wsX7_away wsX7_finds := goodIn_r _ [10, 11, 1, 99, 100, 101, 102, 103, 104, 105, 106, 107, 108, 109, 110, 111, 112, 113] (by decide +kernel) (by decide +kernel)
set_option maxRecDepth 20000 in
theorem gX7_away_X7_finds : GoodIn wsX7_away (wsV RX7 37 RX7 yX7_finds wsX7_finds) := goodIn_app (goodIn_of _ (by decide +kernel)) ggX7_away_X7_finds
set_option maxRecDepth 20000 in
theorem ggX7_away_X7_thinks : GoodIn wsX7_away wsX7_thinks := goodIn_r _ [15, 2, 16, 17, 18, 5, 19, 99, 100, 101, 102, 103, 104, 105, 106, 107, 108, 109, 110, 111, 112, 113] (by decide +kernel) (by decide +kernel)
set_option maxRecDepth 20000 in
theorem gX7_away_X7_thinks : GoodIn wsX7_away (wsV RX7 147 RX7 yX7_thinks wsX7_thinks) := goodIn_app (goodIn_of _ (by decide +kernel)) ggX7_away_X7_thinks
set_option maxRecDepth 20000 in
theorem ggX7_away_X7_put : GoodIn wsX7_away wsX7_put := goodIn_r _ [23, 2, 99, 100, 101, 102, 103, 104, 105, 106, 107, 108, 109, 110, 111, 112, 113] (by decide +kernel) (by decide +kernel)
set_option maxRecDepth 20000 in
theorem gX7_away_X7_put : GoodIn wsX7_away (wsV RX7 95 RX7 yX7_put wsX7_put) := goodIn_app (goodIn_of _ (by decide +kernel)) ggX7_away_X7_put
set_option maxRecDepth 20000 in
theorem ggX7_away_X7_goesFor : GoodIn wsX7_away wsX7_goesFor := goodIn_r _ [27, 28, 29, 30, 5, 31, 2, 32, 33, 34, 35, 36, 37, 38, 39, 40, 41, 42, 43, 44, 45, 46, 47, 48, 49, 50, 51, 52, 53, 54, 55, 56, 57, 58, 59, 60, 61, 62, 63, 64, 65, 66, 67, 68, 69, 70, 71, 72, 73, 74, 75, 76, 77, 78, 20, 21, 22, 23, 79, 80, 81, 82, 83, 84, 85, 99, 100, 101, 102, 103, 104, 105, 106, 107, 108, 109, 110, 111, 112, 113] (by decide +kernel) (by decide +kernel)
set_option maxRecDepth 20000 in
theorem gX7_away_X7_goesFor : GoodIn wsX7_away (wsV RX7 140 RX7 yX7_goesFor wsX7_goesFor) := goodIn_app (goodIn_of _ (by decide +kernel)) ggX7_away_X7_goesFor
set_option maxRecDepth 20000 in
theorem ggX7_away_X7_allGlad : GoodIn wsX7_away wsX7_allGlad := goodIn_r _ [89, 2, 67, 68, 69, 5, 70, 40, 41, 42, 43, 48, 49, 50, 51, 52, 53, 54, 55, 56, 57, 58, 99, 100, 101, 102, 103, 104, 105, 106, 107, 108, 109, 110, 111, 112, 113] (by decide +kernel) (by decide +kernel)
set_option maxRecDepth 20000 in
theorem gX7_away_X7_allGlad : GoodIn wsX7_away (wsV RX7 82 RX7 yX7_allGlad wsX7_allGlad) := goodIn_app (goodIn_of _ (by decide +kernel)) ggX7_away_X7_allGlad
set_option maxRecDepth 20000 in
theorem ggX7_away_X7_putsBack : GoodIn wsX7_away wsX7_putsBack := goodIn_r _ [93, 16, 2, 17, 18, 5, 19, 99, 100, 101, 102, 103, 104, 105, 106, 107, 108, 109, 110, 111, 112, 113] (by decide +kernel) (by decide +kernel)
set_option maxRecDepth 20000 in
theorem gX7_away_X7_putsBack : GoodIn wsX7_away (wsV RX7 150 RX7 yX7_putsBack wsX7_putsBack) := goodIn_app (goodIn_of _ (by decide +kernel)) ggX7_away_X7_putsBack
set_option maxRecDepth 20000 in
theorem ggX7_away_X7_orNone : GoodIn wsX7_away wsX7_orNone := goodIn_r _ [97, 98, 7, 8, 9, 5, 10, 11, 1, 99, 100, 101, 102, 103, 104, 105, 106, 107, 108, 109, 110, 111, 112, 113] (by decide +kernel) (by decide +kernel)
set_option maxRecDepth 20000 in
theorem gX7_away_X7_orNone : GoodIn wsX7_away (wsV RX7 156 RX7 yX7_orNone wsX7_orNone) := goodIn_app (goodIn_of _ (by decide +kernel)) ggX7_away_X7_orNone
theorem dX7_away_0 : decode cX7_away 0 = .ok (.iload_n 1, 1) := by decide +kernel
theorem dX7_away_1 : decode cX7_away 1 = .ok (.i2l, 1) := by decide +kernel
theorem dX7_away_2 : decode cX7_away 2 = .ok (.iconst 0, 1) := by decide +kernel
theorem dX7_away_3 : decode cX7_away 3 = .ok (.bipush 40, 2) := by decide +kernel
theorem dX7_away_5 : decode cX7_away 5 = .ok (.invokestatic 41, 3) := by decide +kernel
theorem dX7_away_8 : decode cX7_away 8 = .ok (.ifCond .ne 10, 3) := by decide +kernel
theorem dX7_away_11 : decode cX7_away 11 = .ok (.aload_n 0, 1) := by decide +kernel
theorem dX7_away_12 : decode cX7_away 12 = .ok (.ldc 35, 2) := by decide +kernel
theorem dX7_away_14 : decode cX7_away 14 = .ok (.invokevirtual 37, 3) := by decide +kernel
theorem dX7_away_17 : decode cX7_away 17 = .ok (.ireturn, 1) := by decide +kernel
theorem dX7_away_18 : decode cX7_away 18 = .ok (.aload_n 0, 1) := by decide +kernel
theorem dX7_away_19 : decode cX7_away 19 = .ok (.invokevirtual 147, 3) := by decide +kernel
theorem dX7_away_22 : decode cX7_away 22 = .ok (.iconst (-1), 1) := by decide +kernel
theorem dX7_away_23 : decode cX7_away 23 = .ok (.istore_n 2, 1) := by decide +kernel
theorem dX7_away_24 : decode cX7_away 24 = .ok (.iconst 0, 1) := by decide +kernel
theorem dX7_away_25 : decode cX7_away 25 = .ok (.istore_n 3, 1) := by decide +kernel
theorem dX7_away_26 : decode cX7_away 26 = .ok (.iconst 0, 1) := by decide +kernel
theorem dX7_away_27 : decode cX7_away 27 = .ok (.istore 4, 2) := by decide +kernel
theorem dX7_away_29 : decode cX7_away 29 = .ok (.iload 4, 2) := by decide +kernel
theorem dX7_away_31 : decode cX7_away 31 = .ok (.aload_n 0, 1) := by decide +kernel
theorem dX7_away_32 : decode cX7_away 32 = .ok (.getfield 9, 3) := by decide +kernel
theorem dX7_away_35 : decode cX7_away 35 = .ok (.iconst 2, 1) := by decide +kernel
theorem dX7_away_36 : decode cX7_away 36 = .ok (.iaload, 1) := by decide +kernel
theorem dX7_away_37 : decode cX7_away 37 = .ok (.if_icmp .ge 73, 3) := by decide +kernel
theorem dX7_away_40 : decode cX7_away 40 = .ok (.aload_n 0, 1) := by decide +kernel
theorem dX7_away_41 : decode cX7_away 41 = .ok (.iload 4, 2) := by decide +kernel
theorem dX7_away_43 : decode cX7_away 43 = .ok (.iconst 3, 1) := by decide +kernel
theorem dX7_away_44 : decode cX7_away 44 = .ok (.iconst 0, 1) := by decide +kernel
theorem dX7_away_45 : decode cX7_away 45 = .ok (.invokevirtual 95, 3) := by decide +kernel
theorem dX7_away_48 : decode cX7_away 48 = .ok (.aload_n 0, 1) := by decide +kernel
theorem dX7_away_49 : decode cX7_away 49 = .ok (.iload_n 1, 1) := by decide +kernel
theorem dX7_away_50 : decode cX7_away 50 = .ok (.invokevirtual 140, 3) := by decide +kernel
theorem dX7_away_53 : decode cX7_away 53 = .ok (.aload_n 0, 1) := by decide +kernel
theorem dX7_away_54 : decode cX7_away 54 = .ok (.invokevirtual 82, 3) := by decide +kernel
theorem dX7_away_57 : decode cX7_away 57 = .ok (.istore 5, 2) := by decide +kernel
theorem dX7_away_59 : decode cX7_away 59 = .ok (.aload_n 0, 1) := by decide +kernel
theorem dX7_away_60 : decode cX7_away 60 = .ok (.invokevirtual 150, 3) := by decide +kernel
theorem dX7_away_63 : decode cX7_away 63 = .ok (.iload_n 2, 1) := by decide +kernel
theorem dX7_away_64 : decode cX7_away 64 = .ok (.ifCond .lt 9, 3) := by decide +kernel
theorem dX7_away_67 : decode cX7_away 67 = .ok (.iload 5, 2) := by decide +kernel
theorem dX7_away_69 : decode cX7_away 69 = .ok (.iload_n 3, 1) := by decide +kernel
theorem dX7_away_70 : decode cX7_away 70 = .ok (.if_icmp .le 7, 3) := by decide +kernel
theorem dX7_away_73 : decode cX7_away 73 = .ok (.iconst 1, 1) := by decide +kernel
theorem dX7_away_74 : decode cX7_away 74 = .ok (.goto 4, 3) := by decide +kernel
theorem dX7_away_77 : decode cX7_away 77 = .ok (.iconst 0, 1) := by decide +kernel
theorem dX7_away_78 : decode cX7_away 78 = .ok (.istore 6, 2) := by decide +kernel
theorem dX7_away_80 : decode cX7_away 80 = .ok (.iload 6, 2) := by decide +kernel
theorem dX7_away_82 : decode cX7_away 82 = .ok (.ifCond .eq 8, 3) := by decide +kernel
theorem dX7_away_85 : decode cX7_away 85 = .ok (.iload 4, 2) := by decide +kernel
theorem dX7_away_87 : decode cX7_away 87 = .ok (.goto 4, 3) := by decide +kernel
theorem dX7_away_90 : decode cX7_away 90 = .ok (.iload_n 2, 1) := by decide +kernel
theorem dX7_away_91 : decode cX7_away 91 = .ok (.istore_n 2, 1) := by decide +kernel
theorem dX7_away_92 : decode cX7_away 92 = .ok (.iload 6, 2) := by decide +kernel
theorem dX7_away_94 : decode cX7_away 94 = .ok (.ifCond .eq 8, 3) := by decide +kernel
theorem dX7_away_97 : decode cX7_away 97 = .ok (.iload 5, 2) := by decide +kernel
theorem dX7_away_99 : decode cX7_away 99 = .ok (.goto 4, 3) := by decide +kernel
theorem dX7_away_102 : decode cX7_away 102 = .ok (.iload_n 3, 1) := by decide +kernel
theorem dX7_away_103 : decode cX7_away 103 = .ok (.istore_n 3, 1) := by decide +kernel
theorem dX7_away_104 : decode cX7_away 104 = .ok (.iinc 4 1, 3) := by decide +kernel
theorem dX7_away_107 : decode cX7_away 107 = .ok (.goto (-78), 3) := by decide +kernel
theorem dX7_away_110 : decode cX7_away 110 = .ok (.aload_n 0, 1) := by decide +kernel
theorem dX7_away_111 : decode cX7_away 111 = .ok (.iload_n 2, 1) := by decide +kernel
theorem dX7_away_112 : decode cX7_away 112 = .ok (.invokevirtual 156, 3) := by decide +kernel
theorem dX7_away_115 : decode cX7_away 115 = .ok (.ireturn, 1) := by decide +kernel
set_option maxRecDepth 20000 in
theorem ggX7_winner_X7_in : GoodIn wsX7_winner wsX7_in := goodIn_r _ [6] (by decide +kernel) (by decide +kernel)
set_option maxRecDepth 20000 in
theorem gX7_winner_X7_in : GoodIn wsX7_winner (va_wsS RX7 41 yX7_in wsX7_in) := goodIn_app (goodIn_of _ (by decide +kernel)) ggX7_winner_X7_in
set_option maxRecDepth 20000 in
theorem ggX7_winner_X7_finds : GoodIn wsX7_winner wsX7_finds := goodIn_r _ [10, 11, 1, 99, 100, 101, 102, 103, 104, 105, 106, 107, 108, 109, 110, 111, 112, 113] (by decide +kernel) (by decide +kernel)
set_option maxRecDepth 20000 in
theorem gX7_winner_X7_finds : GoodIn wsX7_winner (wsV RX7 37 RX7 yX7_finds wsX7_finds) := goodIn_app (goodIn_of _ (by decide +kernel)) ggX7_winner_X7_finds
set_option maxRecDepth 20000 in
theorem ggX7_winner_X7_thinks : GoodIn wsX7_winner wsX7_thinks := goodIn_r _ [15, 2, 16, 17, 18, 5, 19, 99, 100, 101, 102, 103, 104, 105, 106, 107, 108, 109, 110, 111, 112, 113] (by decide +kernel) (by decide +kernel)
set_option maxRecDepth 20000 in
theorem gX7_winner_X7_thinks : GoodIn wsX7_winner (wsV RX7 147 RX7 yX7_thinks wsX7_thinks) := goodIn_app (goodIn_of _ (by decide +kernel)) ggX7_winner_X7_thinks
set_option maxRecDepth 20000 in
theorem ggX7_winner_X7_gladness : GoodIn wsX7_winner wsX7_gladness := goodIn_r _ [23, 24, 25, 26, 5, 27, 2, 28, 29, 30, 31, 32, 33, 34, 35, 36, 37, 38, 99, 100, 101, 102, 103, 104, 105, 106, 107, 108, 109, 110, 111, 112, 113] (by decide +kernel) (by decide +kernel)
set_option maxRecDepth 20000 in
theorem gX7_winner_X7_gladness : GoodIn wsX7_winner (wsV RX7 62 RX7 yX7_gladness wsX7_gladness) := goodIn_app (goodIn_of _ (by decide +kernel)) ggX7_winner_X7_gladness
set_option maxRecDepth 20000 in
theorem ggX7_winner_X7_gladOn : GoodIn wsX7_winner wsX7_gladOn := goodIn_r _ [42, 43, 44, 45, 5, 46, 47, 48, 49, 50, 2, 51, 52, 53, 54, 55, 56, 57, 58, 24, 25, 26, 27, 59, 60, 61, 62, 28, 29, 30, 31, 32, 33, 34, 35, 36, 37, 38, 63, 64, 65, 66, 67, 68, 69, 70, 20, 21, 22, 23, 71, 72, 73, 74, 75, 76, 77, 78, 79, 80, 81, 82, 83, 84, 85, 86, 87, 88, 89, 90, 91, 92, 93, 16, 17, 18, 19, 99, 100, 101, 102, 103, 104, 105, 106, 107, 108, 109, 110, 111, 112, 113] (by decide +kernel) (by decide +kernel)
set_option maxRecDepth 20000 in
theorem gX7_winner_X7_gladOn : GoodIn wsX7_winner (wsV RX7 153 RX7 yX7_gladOn wsX7_gladOn) := goodIn_app (goodIn_of _ (by decide +kernel)) ggX7_winner_X7_gladOn
set_option maxRecDepth 20000 in
theorem ggX7_winner_X7_orNone : GoodIn wsX7_winner wsX7_orNone := goodIn_r _ [97, 98, 7, 8, 9, 5, 10, 11, 1, 99, 100, 101, 102, 103, 104, 105, 106, 107, 108, 109, 110, 111, 112, 113] (by decide +kernel) (by decide +kernel)
set_option maxRecDepth 20000 in
theorem gX7_winner_X7_orNone : GoodIn wsX7_winner (wsV RX7 156 RX7 yX7_orNone wsX7_orNone) := goodIn_app (goodIn_of _ (by decide +kernel)) ggX7_winner_X7_orNone
theorem dX7_winner_0 : decode cX7_winner 0 = .ok (.iload_n 1, 1) := by decide +kernel
theorem dX7_winner_1 : decode cX7_winner 1 = .ok (.i2l, 1) := by decide +kernel
theorem dX7_winner_2 : decode cX7_winner 2 = .ok (.iconst 0, 1) := by decide +kernel
theorem dX7_winner_3 : decode cX7_winner 3 = .ok (.bipush 100, 2) := by decide +kernel
theorem dX7_winner_5 : decode cX7_winner 5 = .ok (.invokestatic 41, 3) := by decide +kernel
theorem dX7_winner_8 : decode cX7_winner 8 = .ok (.ifCond .ne 10, 3) := by decide +kernel
theorem dX7_winner_11 : decode cX7_winner 11 = .ok (.aload_n 0, 1) := by decide +kernel
theorem dX7_winner_12 : decode cX7_winner 12 = .ok (.ldc 35, 2) := by decide +kernel
theorem dX7_winner_14 : decode cX7_winner 14 = .ok (.invokevirtual 37, 3) := by decide +kernel
theorem dX7_winner_17 : decode cX7_winner 17 = .ok (.ireturn, 1) := by decide +kernel
theorem dX7_winner_18 : decode cX7_winner 18 = .ok (.aload_n 0, 1) := by decide +kernel
theorem dX7_winner_19 : decode cX7_winner 19 = .ok (.invokevirtual 147, 3) := by decide +kernel
theorem dX7_winner_22 : decode cX7_winner 22 = .ok (.iconst (-1), 1) := by decide +kernel
theorem dX7_winner_23 : decode cX7_winner 23 = .ok (.istore_n 2, 1) := by decide +kernel
theorem dX7_winner_24 : decode cX7_winner 24 = .ok (.iconst 0, 1) := by decide +kernel
theorem dX7_winner_25 : decode cX7_winner 25 = .ok (.istore_n 3, 1) := by decide +kernel
theorem dX7_winner_26 : decode cX7_winner 26 = .ok (.iconst 0, 1) := by decide +kernel
theorem dX7_winner_27 : decode cX7_winner 27 = .ok (.istore 4, 2) := by decide +kernel
theorem dX7_winner_29 : decode cX7_winner 29 = .ok (.iload 4, 2) := by decide +kernel
theorem dX7_winner_31 : decode cX7_winner 31 = .ok (.aload_n 0, 1) := by decide +kernel
theorem dX7_winner_32 : decode cX7_winner 32 = .ok (.getfield 9, 3) := by decide +kernel
theorem dX7_winner_35 : decode cX7_winner 35 = .ok (.iconst 2, 1) := by decide +kernel
theorem dX7_winner_36 : decode cX7_winner 36 = .ok (.iaload, 1) := by decide +kernel
theorem dX7_winner_37 : decode cX7_winner 37 = .ok (.if_icmp .ge 70, 3) := by decide +kernel
theorem dX7_winner_40 : decode cX7_winner 40 = .ok (.aload_n 0, 1) := by decide +kernel
theorem dX7_winner_41 : decode cX7_winner 41 = .ok (.iload 4, 2) := by decide +kernel
theorem dX7_winner_43 : decode cX7_winner 43 = .ok (.invokevirtual 62, 3) := by decide +kernel
theorem dX7_winner_46 : decode cX7_winner 46 = .ok (.istore 5, 2) := by decide +kernel
theorem dX7_winner_48 : decode cX7_winner 48 = .ok (.aload_n 0, 1) := by decide +kernel
theorem dX7_winner_49 : decode cX7_winner 49 = .ok (.iload 4, 2) := by decide +kernel
theorem dX7_winner_51 : decode cX7_winner 51 = .ok (.iload_n 1, 1) := by decide +kernel
theorem dX7_winner_52 : decode cX7_winner 52 = .ok (.invokevirtual 153, 3) := by decide +kernel
theorem dX7_winner_55 : decode cX7_winner 55 = .ok (.iload 5, 2) := by decide +kernel
theorem dX7_winner_57 : decode cX7_winner 57 = .ok (.isub, 1) := by decide +kernel
theorem dX7_winner_58 : decode cX7_winner 58 = .ok (.istore 6, 2) := by decide +kernel
theorem dX7_winner_60 : decode cX7_winner 60 = .ok (.iload_n 2, 1) := by decide +kernel
theorem dX7_winner_61 : decode cX7_winner 61 = .ok (.ifCond .lt 9, 3) := by decide +kernel
theorem dX7_winner_64 : decode cX7_winner 64 = .ok (.iload 6, 2) := by decide +kernel
theorem dX7_winner_66 : decode cX7_winner 66 = .ok (.iload_n 3, 1) := by decide +kernel
theorem dX7_winner_67 : decode cX7_winner 67 = .ok (.if_icmp .le 7, 3) := by decide +kernel
theorem dX7_winner_70 : decode cX7_winner 70 = .ok (.iconst 1, 1) := by decide +kernel
theorem dX7_winner_71 : decode cX7_winner 71 = .ok (.goto 4, 3) := by decide +kernel
theorem dX7_winner_74 : decode cX7_winner 74 = .ok (.iconst 0, 1) := by decide +kernel
theorem dX7_winner_75 : decode cX7_winner 75 = .ok (.istore 7, 2) := by decide +kernel
theorem dX7_winner_77 : decode cX7_winner 77 = .ok (.iload 7, 2) := by decide +kernel
theorem dX7_winner_79 : decode cX7_winner 79 = .ok (.ifCond .eq 8, 3) := by decide +kernel
theorem dX7_winner_82 : decode cX7_winner 82 = .ok (.iload 4, 2) := by decide +kernel
theorem dX7_winner_84 : decode cX7_winner 84 = .ok (.goto 4, 3) := by decide +kernel
theorem dX7_winner_87 : decode cX7_winner 87 = .ok (.iload_n 2, 1) := by decide +kernel
theorem dX7_winner_88 : decode cX7_winner 88 = .ok (.istore_n 2, 1) := by decide +kernel
theorem dX7_winner_89 : decode cX7_winner 89 = .ok (.iload 7, 2) := by decide +kernel
theorem dX7_winner_91 : decode cX7_winner 91 = .ok (.ifCond .eq 8, 3) := by decide +kernel
theorem dX7_winner_94 : decode cX7_winner 94 = .ok (.iload 6, 2) := by decide +kernel
theorem dX7_winner_96 : decode cX7_winner 96 = .ok (.goto 4, 3) := by decide +kernel
theorem dX7_winner_99 : decode cX7_winner 99 = .ok (.iload_n 3, 1) := by decide +kernel
theorem dX7_winner_100 : decode cX7_winner 100 = .ok (.istore_n 3, 1) := by decide +kernel
theorem dX7_winner_101 : decode cX7_winner 101 = .ok (.iinc 4 1, 3) := by decide +kernel
theorem dX7_winner_104 : decode cX7_winner 104 = .ok (.goto (-75), 3) := by decide +kernel
theorem dX7_winner_107 : decode cX7_winner 107 = .ok (.aload_n 0, 1) := by decide +kernel
theorem dX7_winner_108 : decode cX7_winner 108 = .ok (.iload_n 2, 1) := by decide +kernel
theorem dX7_winner_109 : decode cX7_winner 109 = .ok (.invokevirtual 156, 3) := by decide +kernel
theorem dX7_winner_112 : decode cX7_winner 112 = .ok (.ireturn, 1) := by decide +kernel
set_option maxRecDepth 20000 in
theorem ggX7_feed_X7_in : GoodIn wsX7_feed wsX7_in := goodIn_r _ [8] (by decide +kernel) (by decide +kernel)
set_option maxRecDepth 20000 in
theorem gX7_feed_X7_in : GoodIn wsX7_feed (va_wsS RX7 41 yX7_in wsX7_in) := goodIn_app (goodIn_of _ (by decide +kernel)) ggX7_feed_X7_in
set_option maxRecDepth 20000 in
theorem ggX7_feed_X7_finds : GoodIn wsX7_feed wsX7_finds := goodIn_r _ [12, 13, 1, 14, 15, 16, 17, 18, 19, 20, 21, 22, 23, 24, 25, 26, 27, 28] (by decide +kernel) (by decide +kernel)
set_option maxRecDepth 20000 in
theorem gX7_feed_X7_finds : GoodIn wsX7_feed (wsV RX7 37 RX7 yX7_finds wsX7_finds) := goodIn_app (goodIn_of _ (by decide +kernel)) ggX7_feed_X7_finds
theorem dX7_feed_0 : decode cX7_feed 0 = .ok (.iload_n 2, 1) := by decide +kernel
theorem dX7_feed_1 : decode cX7_feed 1 = .ok (.i2l, 1) := by decide +kernel
theorem dX7_feed_2 : decode cX7_feed 2 = .ok (.iconst 1, 1) := by decide +kernel
theorem dX7_feed_3 : decode cX7_feed 3 = .ok (.iconst 4, 1) := by decide +kernel
theorem dX7_feed_4 : decode cX7_feed 4 = .ok (.invokestatic 41, 3) := by decide +kernel
theorem dX7_feed_7 : decode cX7_feed 7 = .ok (.ifCond .ne 10, 3) := by decide +kernel
theorem dX7_feed_10 : decode cX7_feed 10 = .ok (.aload_n 0, 1) := by decide +kernel
theorem dX7_feed_11 : decode cX7_feed 11 = .ok (.ldc 35, 2) := by decide +kernel
theorem dX7_feed_13 : decode cX7_feed 13 = .ok (.invokevirtual 37, 3) := by decide +kernel
theorem dX7_feed_16 : decode cX7_feed 16 = .ok (.ireturn, 1) := by decide +kernel
theorem dX7_feed_17 : decode cX7_feed 17 = .ok (.aload_n 0, 1) := by decide +kernel
theorem dX7_feed_18 : decode cX7_feed 18 = .ok (.getfield 159, 3) := by decide +kernel
theorem dX7_feed_21 : decode cX7_feed 21 = .ok (.iload_n 2, 1) := by decide +kernel
theorem dX7_feed_22 : decode cX7_feed 22 = .ok (.iadd, 1) := by decide +kernel
theorem dX7_feed_23 : decode cX7_feed 23 = .ok (.bipush 120, 2) := by decide +kernel
theorem dX7_feed_25 : decode cX7_feed 25 = .ok (.if_icmp .le 10, 3) := by decide +kernel
theorem dX7_feed_28 : decode cX7_feed 28 = .ok (.aload_n 0, 1) := by decide +kernel
theorem dX7_feed_29 : decode cX7_feed 29 = .ok (.ldc 99, 2) := by decide +kernel
theorem dX7_feed_31 : decode cX7_feed 31 = .ok (.invokevirtual 37, 3) := by decide +kernel
theorem dX7_feed_34 : decode cX7_feed 34 = .ok (.ireturn, 1) := by decide +kernel
theorem dX7_feed_35 : decode cX7_feed 35 = .ok (.iload_n 2, 1) := by decide +kernel
theorem dX7_feed_36 : decode cX7_feed 36 = .ok (.iconst 1, 1) := by decide +kernel
theorem dX7_feed_37 : decode cX7_feed 37 = .ok (.isub, 1) := by decide +kernel
theorem dX7_feed_38 : decode cX7_feed 38 = .ok (.istore_n 3, 1) := by decide +kernel
theorem dX7_feed_39 : decode cX7_feed 39 = .ok (.iload_n 3, 1) := by decide +kernel
theorem dX7_feed_40 : decode cX7_feed 40 = .ok (.ifCond .lt 38, 3) := by decide +kernel
theorem dX7_feed_43 : decode cX7_feed 43 = .ok (.aload_n 0, 1) := by decide +kernel
theorem dX7_feed_44 : decode cX7_feed 44 = .ok (.getfield 22, 3) := by decide +kernel
theorem dX7_feed_47 : decode cX7_feed 47 = .ok (.aload_n 0, 1) := by decide +kernel
theorem dX7_feed_48 : decode cX7_feed 48 = .ok (.getfield 159, 3) := by decide +kernel
theorem dX7_feed_51 : decode cX7_feed 51 = .ok (.iload_n 1, 1) := by decide +kernel
theorem dX7_feed_52 : decode cX7_feed 52 = .ok (.bipush 8, 2) := by decide +kernel
theorem dX7_feed_54 : decode cX7_feed 54 = .ok (.iload_n 3, 1) := by decide +kernel
theorem dX7_feed_55 : decode cX7_feed 55 = .ok (.imul, 1) := by decide +kernel
theorem dX7_feed_56 : decode cX7_feed 56 = .ok (.ishr, 1) := by decide +kernel
theorem dX7_feed_57 : decode cX7_feed 57 = .ok (.sipush 255, 3) := by decide +kernel
theorem dX7_feed_60 : decode cX7_feed 60 = .ok (.iand, 1) := by decide +kernel
theorem dX7_feed_61 : decode cX7_feed 61 = .ok (.iastore, 1) := by decide +kernel
theorem dX7_feed_62 : decode cX7_feed 62 = .ok (.aload_n 0, 1) := by decide +kernel
theorem dX7_feed_63 : decode cX7_feed 63 = .ok (.dup, 1) := by decide +kernel
theorem dX7_feed_64 : decode cX7_feed 64 = .ok (.getfield 159, 3) := by decide +kernel
theorem dX7_feed_67 : decode cX7_feed 67 = .ok (.iconst 1, 1) := by decide +kernel
theorem dX7_feed_68 : decode cX7_feed 68 = .ok (.iadd, 1) := by decide +kernel
theorem dX7_feed_69 : decode cX7_feed 69 = .ok (.putfield 159, 3) := by decide +kernel
theorem dX7_feed_72 : decode cX7_feed 72 = .ok (.iinc 3 (-1), 3) := by decide +kernel
theorem dX7_feed_75 : decode cX7_feed 75 = .ok (.goto (-36), 3) := by decide +kernel
theorem dX7_feed_78 : decode cX7_feed 78 = .ok (.aload_n 0, 1) := by decide +kernel
theorem dX7_feed_79 : decode cX7_feed 79 = .ok (.getfield 159, 3) := by decide +kernel
theorem dX7_feed_82 : decode cX7_feed 82 = .ok (.ireturn, 1) := by decide +kernel
theorem dX7_wipe_0 : decode cX7_wipe 0 = .ok (.aload_n 0, 1) := by decide +kernel
theorem dX7_wipe_1 : decode cX7_wipe 1 = .ok (.getfield 159, 3) := by decide +kernel
theorem dX7_wipe_4 : decode cX7_wipe 4 = .ok (.istore_n 1, 1) := by decide +kernel
theorem dX7_wipe_5 : decode cX7_wipe 5 = .ok (.aload_n 0, 1) := by decide +kernel
theorem dX7_wipe_6 : decode cX7_wipe 6 = .ok (.iconst 0, 1) := by decide +kernel
theorem dX7_wipe_7 : decode cX7_wipe 7 = .ok (.putfield 159, 3) := by decide +kernel
theorem dX7_wipe_10 : decode cX7_wipe 10 = .ok (.iload_n 1, 1) := by decide +kernel
theorem dX7_wipe_11 : decode cX7_wipe 11 = .ok (.ireturn, 1) := by decide +kernel
set_option maxRecDepth 20000 in
theorem ggX7_isByte_X7_in : GoodIn wsX7_isByte wsX7_in := goodIn_r _ [6] (by decide +kernel) (by decide +kernel)
set_option maxRecDepth 20000 in
theorem gX7_isByte_X7_in : GoodIn wsX7_isByte (va_wsS RX7 41 yX7_in wsX7_in) := goodIn_app (goodIn_of _ (by decide +kernel)) ggX7_isByte_X7_in
theorem dX7_isByte_0 : decode cX7_isByte 0 = .ok (.iload_n 1, 1) := by decide +kernel
theorem dX7_isByte_1 : decode cX7_isByte 1 = .ok (.aload_n 0, 1) := by decide +kernel
theorem dX7_isByte_2 : decode cX7_isByte 2 = .ok (.getfield 159, 3) := by decide +kernel
theorem dX7_isByte_5 : decode cX7_isByte 5 = .ok (.if_icmp .ge 22, 3) := by decide +kernel
theorem dX7_isByte_8 : decode cX7_isByte 8 = .ok (.aload_n 0, 1) := by decide +kernel
theorem dX7_isByte_9 : decode cX7_isByte 9 = .ok (.getfield 22, 3) := by decide +kernel
theorem dX7_isByte_12 : decode cX7_isByte 12 = .ok (.iload_n 1, 1) := by decide +kernel
theorem dX7_isByte_13 : decode cX7_isByte 13 = .ok (.iaload, 1) := by decide +kernel
theorem dX7_isByte_14 : decode cX7_isByte 14 = .ok (.i2l, 1) := by decide +kernel
theorem dX7_isByte_15 : decode cX7_isByte 15 = .ok (.iload_n 2, 1) := by decide +kernel
theorem dX7_isByte_16 : decode cX7_isByte 16 = .ok (.iload_n 3, 1) := by decide +kernel
theorem dX7_isByte_17 : decode cX7_isByte 17 = .ok (.invokestatic 41, 3) := by decide +kernel
theorem dX7_isByte_20 : decode cX7_isByte 20 = .ok (.ifCond .eq 7, 3) := by decide +kernel
theorem dX7_isByte_23 : decode cX7_isByte 23 = .ok (.iconst 1, 1) := by decide +kernel
theorem dX7_isByte_24 : decode cX7_isByte 24 = .ok (.goto 4, 3) := by decide +kernel
theorem dX7_isByte_27 : decode cX7_isByte 27 = .ok (.iconst 0, 1) := by decide +kernel
theorem dX7_isByte_28 : decode cX7_isByte 28 = .ok (.ireturn, 1) := by decide +kernel
theorem dX7_isName_0 : decode cX7_isName 0 = .ok (.iload_n 2, 1) := by decide +kernel
theorem dX7_isName_1 : decode cX7_isName 1 = .ok (.bipush 7, 2) := by decide +kernel
theorem dX7_isName_3 : decode cX7_isName 3 = .ok (.if_icmp .gt 26, 3) := by decide +kernel
theorem dX7_isName_6 : decode cX7_isName 6 = .ok (.iload_n 2, 1) := by decide +kernel
theorem dX7_isName_7 : decode cX7_isName 7 = .ok (.bipush 7, 2) := by decide +kernel
theorem dX7_isName_9 : decode cX7_isName 9 = .ok (.if_icmp .eq 16, 3) := by decide +kernel
theorem dX7_isName_12 : decode cX7_isName 12 = .ok (.getstatic 163, 3) := by decide +kernel
theorem dX7_isName_15 : decode cX7_isName 15 = .ok (.bipush 7, 2) := by decide +kernel
theorem dX7_isName_17 : decode cX7_isName 17 = .ok (.iload_n 1, 1) := by decide +kernel
theorem dX7_isName_18 : decode cX7_isName 18 = .ok (.imul, 1) := by decide +kernel
theorem dX7_isName_19 : decode cX7_isName 19 = .ok (.iload_n 2, 1) := by decide +kernel
theorem dX7_isName_20 : decode cX7_isName 20 = .ok (.iadd, 1) := by decide +kernel
theorem dX7_isName_21 : decode cX7_isName 21 = .ok (.iaload, 1) := by decide +kernel
theorem dX7_isName_22 : decode cX7_isName 22 = .ok (.ifCond .ne 7, 3) := by decide +kernel
theorem dX7_isName_25 : decode cX7_isName 25 = .ok (.iconst 1, 1) := by decide +kernel
theorem dX7_isName_26 : decode cX7_isName 26 = .ok (.goto 4, 3) := by decide +kernel
theorem dX7_isName_29 : decode cX7_isName 29 = .ok (.iconst 0, 1) := by decide +kernel
theorem dX7_isName_30 : decode cX7_isName 30 = .ok (.istore_n 3, 1) := by decide +kernel
theorem dX7_isName_31 : decode cX7_isName 31 = .ok (.iconst 0, 1) := by decide +kernel
theorem dX7_isName_32 : decode cX7_isName 32 = .ok (.istore 4, 2) := by decide +kernel
theorem dX7_isName_34 : decode cX7_isName 34 = .ok (.iload 4, 2) := by decide +kernel
theorem dX7_isName_36 : decode cX7_isName 36 = .ok (.iload_n 2, 1) := by decide +kernel
theorem dX7_isName_37 : decode cX7_isName 37 = .ok (.if_icmp .ge 45, 3) := by decide +kernel
theorem dX7_isName_40 : decode cX7_isName 40 = .ok (.iload_n 3, 1) := by decide +kernel
theorem dX7_isName_41 : decode cX7_isName 41 = .ok (.ifCond .eq 41, 3) := by decide +kernel
theorem dX7_isName_44 : decode cX7_isName 44 = .ok (.getstatic 163, 3) := by decide +kernel
theorem dX7_isName_47 : decode cX7_isName 47 = .ok (.bipush 7, 2) := by decide +kernel
theorem dX7_isName_49 : decode cX7_isName 49 = .ok (.iload_n 1, 1) := by decide +kernel
theorem dX7_isName_50 : decode cX7_isName 50 = .ok (.imul, 1) := by decide +kernel
theorem dX7_isName_51 : decode cX7_isName 51 = .ok (.iload 4, 2) := by decide +kernel
theorem dX7_isName_53 : decode cX7_isName 53 = .ok (.iadd, 1) := by decide +kernel
theorem dX7_isName_54 : decode cX7_isName 54 = .ok (.iaload, 1) := by decide +kernel
theorem dX7_isName_55 : decode cX7_isName 55 = .ok (.aload_n 0, 1) := by decide +kernel
theorem dX7_isName_56 : decode cX7_isName 56 = .ok (.getfield 22, 3) := by decide +kernel
theorem dX7_isName_59 : decode cX7_isName 59 = .ok (.aload_n 0, 1) := by decide +kernel
theorem dX7_isName_60 : decode cX7_isName 60 = .ok (.getfield 166, 3) := by decide +kernel
theorem dX7_isName_63 : decode cX7_isName 63 = .ok (.iload 4, 2) := by decide +kernel
theorem dX7_isName_65 : decode cX7_isName 65 = .ok (.iadd, 1) := by decide +kernel
theorem dX7_isName_66 : decode cX7_isName 66 = .ok (.iaload, 1) := by decide +kernel
theorem dX7_isName_67 : decode cX7_isName 67 = .ok (.if_icmp .ne 7, 3) := by decide +kernel
theorem dX7_isName_70 : decode cX7_isName 70 = .ok (.iconst 1, 1) := by decide +kernel
theorem dX7_isName_71 : decode cX7_isName 71 = .ok (.goto 4, 3) := by decide +kernel
theorem dX7_isName_74 : decode cX7_isName 74 = .ok (.iconst 0, 1) := by decide +kernel
theorem dX7_isName_75 : decode cX7_isName 75 = .ok (.istore_n 3, 1) := by decide +kernel
theorem dX7_isName_76 : decode cX7_isName 76 = .ok (.iinc 4 1, 3) := by decide +kernel
theorem dX7_isName_79 : decode cX7_isName 79 = .ok (.goto (-45), 3) := by decide +kernel
theorem dX7_isName_82 : decode cX7_isName 82 = .ok (.iload_n 3, 1) := by decide +kernel
theorem dX7_isName_83 : decode cX7_isName 83 = .ok (.ireturn, 1) := by decide +kernel
set_option maxRecDepth 20000 in
theorem ggX7_wordHere_X7_isName : GoodIn wsX7_wordHere wsX7_isName := goodIn_r _ [7, 8, 9, 2, 10, 11, 12, 13, 14, 15, 16, 17, 18, 19, 20, 21, 22, 23, 24] (by decide +kernel) (by decide +kernel)
set_option maxRecDepth 20000 in
theorem gX7_wordHere_X7_isName : GoodIn wsX7_wordHere (wsV RX7 172 RX7 yX7_isName wsX7_isName) := goodIn_app (goodIn_of _ (by decide +kernel)) ggX7_wordHere_X7_isName
theorem dX7_wordHere_0 : decode cX7_wordHere 0 = .ok (.iconst 0, 1) := by decide +kernel
theorem dX7_wordHere_1 : decode cX7_wordHere 1 = .ok (.istore_n 1, 1) := by decide +kernel
theorem dX7_wordHere_2 : decode cX7_wordHere 2 = .ok (.iload_n 1, 1) := by decide +kernel
theorem dX7_wordHere_3 : decode cX7_wordHere 3 = .ok (.bipush 11, 2) := by decide +kernel
theorem dX7_wordHere_5 : decode cX7_wordHere 5 = .ok (.if_icmp .ge 26, 3) := by decide +kernel
theorem dX7_wordHere_8 : decode cX7_wordHere 8 = .ok (.aload_n 0, 1) := by decide +kernel
theorem dX7_wordHere_9 : decode cX7_wordHere 9 = .ok (.iload_n 1, 1) := by decide +kernel
theorem dX7_wordHere_10 : decode cX7_wordHere 10 = .ok (.aload_n 0, 1) := by decide +kernel
theorem dX7_wordHere_11 : decode cX7_wordHere 11 = .ok (.getfield 169, 3) := by decide +kernel
theorem dX7_wordHere_14 : decode cX7_wordHere 14 = .ok (.aload_n 0, 1) := by decide +kernel
theorem dX7_wordHere_15 : decode cX7_wordHere 15 = .ok (.getfield 166, 3) := by decide +kernel
theorem dX7_wordHere_18 : decode cX7_wordHere 18 = .ok (.isub, 1) := by decide +kernel
theorem dX7_wordHere_19 : decode cX7_wordHere 19 = .ok (.invokevirtual 172, 3) := by decide +kernel
theorem dX7_wordHere_22 : decode cX7_wordHere 22 = .ok (.ifCond .ne 9, 3) := by decide +kernel
theorem dX7_wordHere_25 : decode cX7_wordHere 25 = .ok (.iinc 1 1, 3) := by decide +kernel
theorem dX7_wordHere_28 : decode cX7_wordHere 28 = .ok (.goto (-26), 3) := by decide +kernel
theorem dX7_wordHere_31 : decode cX7_wordHere 31 = .ok (.iload_n 1, 1) := by decide +kernel
theorem dX7_wordHere_32 : decode cX7_wordHere 32 = .ok (.bipush 11, 2) := by decide +kernel
theorem dX7_wordHere_34 : decode cX7_wordHere 34 = .ok (.if_icmp .ge 7, 3) := by decide +kernel
theorem dX7_wordHere_37 : decode cX7_wordHere 37 = .ok (.iload_n 1, 1) := by decide +kernel
theorem dX7_wordHere_38 : decode cX7_wordHere 38 = .ok (.goto 5, 3) := by decide +kernel
theorem dX7_wordHere_41 : decode cX7_wordHere 41 = .ok (.bipush 23, 2) := by decide +kernel
theorem dX7_wordHere_43 : decode cX7_wordHere 43 = .ok (.ireturn, 1) := by decide +kernel
set_option maxRecDepth 20000 in
theorem ggX7_reads_X7_isByte : GoodIn wsX7_reads wsX7_isByte := goodIn_r _ [11, 4, 6, 12, 13, 10, 14, 24, 25, 26, 27, 28, 29, 30, 31, 32, 33, 34, 35, 36, 37, 38] (by decide +kernel) (by decide +kernel)
set_option maxRecDepth 20000 in
theorem gX7_reads_X7_isByte : GoodIn wsX7_reads (wsV RX7 175 RX7 yX7_isByte wsX7_isByte) := goodIn_app (goodIn_of _ (by decide +kernel)) ggX7_reads_X7_isByte
set_option maxRecDepth 20000 in
theorem ggX7_reads_X7_wordHere : GoodIn wsX7_reads wsX7_wordHere := goodIn_r _ [18, 1, 2, 19, 20, 21, 10, 22, 23, 6, 24, 25, 26, 27, 28, 29, 30, 31, 32, 33, 34, 35, 36, 37, 38] (by decide +kernel) (by decide +kernel)
set_option maxRecDepth 20000 in
theorem gX7_reads_X7_wordHere : GoodIn wsX7_reads (wsV RX7 184 RX7 yX7_wordHere wsX7_wordHere) := goodIn_app (goodIn_of _ (by decide +kernel)) ggX7_reads_X7_wordHere
theorem dX7_reads_0 : decode cX7_reads 0 = .ok (.aload_n 0, 1) := by decide +kernel
theorem dX7_reads_1 : decode cX7_reads 1 = .ok (.aload_n 0, 1) := by decide +kernel
theorem dX7_reads_2 : decode cX7_reads 2 = .ok (.getfield 169, 3) := by decide +kernel
theorem dX7_reads_5 : decode cX7_reads 5 = .ok (.bipush 32, 2) := by decide +kernel
theorem dX7_reads_7 : decode cX7_reads 7 = .ok (.bipush 32, 2) := by decide +kernel
theorem dX7_reads_9 : decode cX7_reads 9 = .ok (.invokevirtual 175, 3) := by decide +kernel
theorem dX7_reads_12 : decode cX7_reads 12 = .ok (.ifCond .eq 16, 3) := by decide +kernel
theorem dX7_reads_15 : decode cX7_reads 15 = .ok (.aload_n 0, 1) := by decide +kernel
theorem dX7_reads_16 : decode cX7_reads 16 = .ok (.dup, 1) := by decide +kernel
theorem dX7_reads_17 : decode cX7_reads 17 = .ok (.getfield 169, 3) := by decide +kernel
theorem dX7_reads_20 : decode cX7_reads 20 = .ok (.iconst 1, 1) := by decide +kernel
theorem dX7_reads_21 : decode cX7_reads 21 = .ok (.iadd, 1) := by decide +kernel
theorem dX7_reads_22 : decode cX7_reads 22 = .ok (.putfield 169, 3) := by decide +kernel
theorem dX7_reads_25 : decode cX7_reads 25 = .ok (.goto (-25), 3) := by decide +kernel
theorem dX7_reads_28 : decode cX7_reads 28 = .ok (.aload_n 0, 1) := by decide +kernel
theorem dX7_reads_29 : decode cX7_reads 29 = .ok (.aload_n 0, 1) := by decide +kernel
