set_option maxRecDepth 20000 in
theorem ggX5_readItem_X5_readTrust : GoodIn wsX5_readItem wsX5_readTrust := goodIn_r _ [145, 1, 146, 87, 4, 5, 6, 7, 8, 9, 10, 11, 12, 13, 14, 15, 16, 17, 18, 19, 20, 21, 22, 23, 24, 25, 26, 27, 28, 29, 30, 31, 32, 33, 34, 35, 36, 37, 38, 39, 40, 41, 42, 43, 44, 45, 46, 47, 48, 49, 50, 51, 52, 53, 54, 55, 56, 57, 58, 59, 60, 61, 62, 63, 64, 65, 66, 67, 68, 69, 70, 71, 72, 73, 74, 75, 76, 77, 78, 79, 80, 81, 88, 89, 90, 91, 153, 154, 155, 156, 157, 158, 159, 160, 161, 162, 163, 164, 165, 166, 167, 168, 169, 170] (by decide +kernel) (by decide +kernel)
set_option maxRecDepth 20000 in
theorem gX5_readItem_X5_readTrust : GoodIn wsX5_readItem (wsV RX5 67 RX5 yX5_readTrust wsX5_readTrust) := goodIn_app (goodIn_of _ (by decide +kernel)) ggX5_readItem_X5_readTrust
set_option maxRecDepth 20000 in
theorem ggX5_readItem_X5_readLikes : GoodIn wsX5_readItem wsX5_readLikes := goodIn_r _ [150, 1, 151, 87, 4, 5, 6, 7, 8, 9, 10, 11, 12, 13, 14, 15, 16, 17, 18, 19, 20, 21, 22, 23, 24, 25, 26, 27, 28, 29, 30, 31, 32, 33, 34, 35, 36, 37, 38, 39, 40, 41, 42, 43, 44, 45, 46, 47, 48, 49, 50, 51, 52, 53, 54, 55, 56, 57, 58, 59, 60, 61, 62, 63, 64, 65, 66, 67, 68, 69, 70, 71, 72, 73, 74, 75, 76, 77, 78, 79, 80, 81, 88, 89, 90, 91, 152, 138, 139, 95, 140, 141, 153, 165, 166, 167, 168, 169, 170, 154, 155, 156, 157, 158, 159, 160, 161, 162, 163, 164] (by decide +kernel) (by decide +kernel)
set_option maxRecDepth 20000 in
theorem gX5_readItem_X5_readLikes : GoodIn wsX5_readItem (wsV RX5 70 RX5 yX5_readLikes wsX5_readLikes) := goodIn_app (goodIn_of _ (by decide +kernel)) ggX5_readItem_X5_readLikes
theorem dX5_readItem_0 : decode cX5_readItem 0 = .ok (.aload_n 0, 1) := by decide +kernel
theorem dX5_readItem_1 : decode cX5_readItem 1 = .ok (.getfield 12, 3) := by decide +kernel
theorem dX5_readItem_4 : decode cX5_readItem 4 = .ok (.ldc 35, 2) := by decide +kernel
theorem dX5_readItem_6 : decode cX5_readItem 6 = .ok (.invokevirtual 37, 3) := by decide +kernel
theorem dX5_readItem_9 : decode cX5_readItem 9 = .ok (.ifCond .ne 15, 3) := by decide +kernel
theorem dX5_readItem_12 : decode cX5_readItem 12 = .ok (.aload_n 0, 1) := by decide +kernel
theorem dX5_readItem_13 : decode cX5_readItem 13 = .ok (.getfield 12, 3) := by decide +kernel
theorem dX5_readItem_16 : decode cX5_readItem 16 = .ok (.ldc 41, 2) := by decide +kernel
theorem dX5_readItem_18 : decode cX5_readItem 18 = .ok (.invokevirtual 37, 3) := by decide +kernel
theorem dX5_readItem_21 : decode cX5_readItem 21 = .ok (.ifCond .eq 33, 3) := by decide +kernel
theorem dX5_readItem_24 : decode cX5_readItem 24 = .ok (.aload_n 1, 1) := by decide +kernel
theorem dX5_readItem_25 : decode cX5_readItem 25 = .ok (.aload_n 0, 1) := by decide +kernel
theorem dX5_readItem_26 : decode cX5_readItem 26 = .ok (.getfield 12, 3) := by decide +kernel
theorem dX5_readItem_29 : decode cX5_readItem 29 = .ok (.ldc 35, 2) := by decide +kernel
theorem dX5_readItem_31 : decode cX5_readItem 31 = .ok (.invokevirtual 37, 3) := by decide +kernel
theorem dX5_readItem_34 : decode cX5_readItem 34 = .ok (.ifCond .eq 7, 3) := by decide +kernel
theorem dX5_readItem_37 : decode cX5_readItem 37 = .ok (.iconst 1, 1) := by decide +kernel
theorem dX5_readItem_38 : decode cX5_readItem 38 = .ok (.goto 4, 3) := by decide +kernel
theorem dX5_readItem_41 : decode cX5_readItem 41 = .ok (.iconst 0, 1) := by decide +kernel
theorem dX5_readItem_42 : decode cX5_readItem 42 = .ok (.putfield 43, 3) := by decide +kernel
theorem dX5_readItem_45 : decode cX5_readItem 45 = .ok (.aload_n 0, 1) := by decide +kernel
theorem dX5_readItem_46 : decode cX5_readItem 46 = .ok (.getfield 12, 3) := by decide +kernel
theorem dX5_readItem_49 : decode cX5_readItem 49 = .ok (.invokevirtual 29, 3) := by decide +kernel
theorem dX5_readItem_52 : decode cX5_readItem 52 = .ok (.iconst 1, 1) := by decide +kernel
theorem dX5_readItem_53 : decode cX5_readItem 53 = .ok (.ireturn, 1) := by decide +kernel
theorem dX5_readItem_54 : decode cX5_readItem 54 = .ok (.aload_n 0, 1) := by decide +kernel
theorem dX5_readItem_55 : decode cX5_readItem 55 = .ok (.getfield 12, 3) := by decide +kernel
theorem dX5_readItem_58 : decode cX5_readItem 58 = .ok (.ldc 47, 2) := by decide +kernel
theorem dX5_readItem_60 : decode cX5_readItem 60 = .ok (.invokevirtual 37, 3) := by decide +kernel
theorem dX5_readItem_63 : decode cX5_readItem 63 = .ok (.ifCond .eq 9, 3) := by decide +kernel
theorem dX5_readItem_66 : decode cX5_readItem 66 = .ok (.aload_n 0, 1) := by decide +kernel
theorem dX5_readItem_67 : decode cX5_readItem 67 = .ok (.aload_n 1, 1) := by decide +kernel
theorem dX5_readItem_68 : decode cX5_readItem 68 = .ok (.invokevirtual 49, 3) := by decide +kernel
theorem dX5_readItem_71 : decode cX5_readItem 71 = .ok (.ireturn, 1) := by decide +kernel
theorem dX5_readItem_72 : decode cX5_readItem 72 = .ok (.aload_n 0, 1) := by decide +kernel
theorem dX5_readItem_73 : decode cX5_readItem 73 = .ok (.invokevirtual 52, 3) := by decide +kernel
theorem dX5_readItem_76 : decode cX5_readItem 76 = .ok (.istore_n 2, 1) := by decide +kernel
theorem dX5_readItem_77 : decode cX5_readItem 77 = .ok (.iload_n 2, 1) := by decide +kernel
theorem dX5_readItem_78 : decode cX5_readItem 78 = .ok (.ifCond .lt 19, 3) := by decide +kernel
theorem dX5_readItem_81 : decode cX5_readItem 81 = .ok (.aload_n 1, 1) := by decide +kernel
theorem dX5_readItem_82 : decode cX5_readItem 82 = .ok (.invokevirtual 56, 3) := by decide +kernel
theorem dX5_readItem_85 : decode cX5_readItem 85 = .ok (.ifCond .ne 12, 3) := by decide +kernel
theorem dX5_readItem_88 : decode cX5_readItem 88 = .ok (.aload_n 0, 1) := by decide +kernel
theorem dX5_readItem_89 : decode cX5_readItem 89 = .ok (.aload_n 1, 1) := by decide +kernel
theorem dX5_readItem_90 : decode cX5_readItem 90 = .ok (.iload_n 2, 1) := by decide +kernel
theorem dX5_readItem_91 : decode cX5_readItem 91 = .ok (.invokevirtual 60, 3) := by decide +kernel
theorem dX5_readItem_94 : decode cX5_readItem 94 = .ok (.ifCond .ne 5, 3) := by decide +kernel
theorem dX5_readItem_97 : decode cX5_readItem 97 = .ok (.iconst 0, 1) := by decide +kernel
theorem dX5_readItem_98 : decode cX5_readItem 98 = .ok (.ireturn, 1) := by decide +kernel
theorem dX5_readItem_99 : decode cX5_readItem 99 = .ok (.aload_n 1, 1) := by decide +kernel
theorem dX5_readItem_100 : decode cX5_readItem 100 = .ok (.getfield 64, 3) := by decide +kernel
theorem dX5_readItem_103 : decode cX5_readItem 103 = .ok (.iconst 1, 1) := by decide +kernel
theorem dX5_readItem_104 : decode cX5_readItem 104 = .ok (.isub, 1) := by decide +kernel
theorem dX5_readItem_105 : decode cX5_readItem 105 = .ok (.istore_n 3, 1) := by decide +kernel
theorem dX5_readItem_106 : decode cX5_readItem 106 = .ok (.aload_n 0, 1) := by decide +kernel
theorem dX5_readItem_107 : decode cX5_readItem 107 = .ok (.aload_n 1, 1) := by decide +kernel
theorem dX5_readItem_108 : decode cX5_readItem 108 = .ok (.iload_n 3, 1) := by decide +kernel
theorem dX5_readItem_109 : decode cX5_readItem 109 = .ok (.invokevirtual 67, 3) := by decide +kernel
theorem dX5_readItem_112 : decode cX5_readItem 112 = .ok (.ifCond .eq 16, 3) := by decide +kernel
theorem dX5_readItem_115 : decode cX5_readItem 115 = .ok (.aload_n 0, 1) := by decide +kernel
theorem dX5_readItem_116 : decode cX5_readItem 116 = .ok (.aload_n 1, 1) := by decide +kernel
theorem dX5_readItem_117 : decode cX5_readItem 117 = .ok (.iload_n 3, 1) := by decide +kernel
theorem dX5_readItem_118 : decode cX5_readItem 118 = .ok (.invokevirtual 70, 3) := by decide +kernel
theorem dX5_readItem_121 : decode cX5_readItem 121 = .ok (.ifCond .eq 7, 3) := by decide +kernel
theorem dX5_readItem_124 : decode cX5_readItem 124 = .ok (.iconst 1, 1) := by decide +kernel
theorem dX5_readItem_125 : decode cX5_readItem 125 = .ok (.goto 4, 3) := by decide +kernel
theorem dX5_readItem_128 : decode cX5_readItem 128 = .ok (.iconst 0, 1) := by decide +kernel
theorem dX5_readItem_129 : decode cX5_readItem 129 = .ok (.ireturn, 1) := by decide +kernel
set_option maxRecDepth 20000 in
theorem ggX5_kindNamed_X5_nameOf : GoodIn wsX5_kindNamed wsX5_nameOf := goodIn_r _ [5] (by decide +kernel) (by decide +kernel)
set_option maxRecDepth 20000 in
theorem gX5_kindNamed_X5_nameOf : GoodIn wsX5_kindNamed (va_wsS RX5 75 yX5_nameOf wsX5_nameOf) := goodIn_app (goodIn_of _ (by decide +kernel)) ggX5_kindNamed_X5_nameOf
set_option maxRecDepth 20000 in
theorem ggX5_kindNamed_X3_isWord : GoodIn wsX5_kindNamed wsX3_isWord := goodIn_r _ [10, 11, 12, 13, 14, 15, 16, 17, 18, 19, 20, 21, 22, 23, 24, 25, 26, 27, 28, 29, 30, 31, 32, 33, 34, 35, 36, 37, 38, 39, 40, 41, 42, 43, 44, 45, 46, 47, 48, 49, 50, 51, 52, 53, 54, 55, 56, 57, 58, 59, 60, 61, 62, 63, 65, 66, 67, 68, 69, 70] (by decide +kernel) (by decide +kernel)
set_option maxRecDepth 20000 in
theorem gX5_kindNamed_X3_isWord : GoodIn wsX5_kindNamed (wsV RX5 37 RX3 yX3_isWord wsX3_isWord) := goodIn_app (goodIn_of _ (by decide +kernel)) ggX5_kindNamed_X3_isWord
theorem dX5_kindNamed_0 : decode cX5_kindNamed 0 = .ok (.iconst 0, 1) := by decide +kernel
theorem dX5_kindNamed_1 : decode cX5_kindNamed 1 = .ok (.istore_n 1, 1) := by decide +kernel
theorem dX5_kindNamed_2 : decode cX5_kindNamed 2 = .ok (.iload_n 1, 1) := by decide +kernel
theorem dX5_kindNamed_3 : decode cX5_kindNamed 3 = .ok (.bipush 6, 2) := by decide +kernel
theorem dX5_kindNamed_5 : decode cX5_kindNamed 5 = .ok (.if_icmp .ge 25, 3) := by decide +kernel
theorem dX5_kindNamed_8 : decode cX5_kindNamed 8 = .ok (.aload_n 0, 1) := by decide +kernel
theorem dX5_kindNamed_9 : decode cX5_kindNamed 9 = .ok (.getfield 12, 3) := by decide +kernel
theorem dX5_kindNamed_12 : decode cX5_kindNamed 12 = .ok (.iload_n 1, 1) := by decide +kernel
theorem dX5_kindNamed_13 : decode cX5_kindNamed 13 = .ok (.invokestatic 75, 3) := by decide +kernel
theorem dX5_kindNamed_16 : decode cX5_kindNamed 16 = .ok (.invokevirtual 37, 3) := by decide +kernel
theorem dX5_kindNamed_19 : decode cX5_kindNamed 19 = .ok (.ifCond .eq 5, 3) := by decide +kernel
theorem dX5_kindNamed_22 : decode cX5_kindNamed 22 = .ok (.iload_n 1, 1) := by decide +kernel
theorem dX5_kindNamed_23 : decode cX5_kindNamed 23 = .ok (.ireturn, 1) := by decide +kernel
theorem dX5_kindNamed_24 : decode cX5_kindNamed 24 = .ok (.iinc 1 1, 3) := by decide +kernel
theorem dX5_kindNamed_27 : decode cX5_kindNamed 27 = .ok (.goto (-25), 3) := by decide +kernel
theorem dX5_kindNamed_30 : decode cX5_kindNamed 30 = .ok (.iconst (-1), 1) := by decide +kernel
theorem dX5_kindNamed_31 : decode cX5_kindNamed 31 = .ok (.ireturn, 1) := by decide +kernel
theorem dX5_nameOf_0 : decode cX5_nameOf 0 = .ok (.iload_n 0, 1) := by decide +kernel
theorem dX5_nameOf_1 : decode cX5_nameOf 1 = .ok (.tableswitch 50 0 4 #[35, 38, 41, 44, 47], 35) := by decide +kernel
theorem dX5_nameOf_36 : decode cX5_nameOf 36 = .ok (.ldc 79, 2) := by decide +kernel
theorem dX5_nameOf_38 : decode cX5_nameOf 38 = .ok (.areturn, 1) := by decide +kernel
theorem dX5_nameOf_39 : decode cX5_nameOf 39 = .ok (.ldc 81, 2) := by decide +kernel
theorem dX5_nameOf_41 : decode cX5_nameOf 41 = .ok (.areturn, 1) := by decide +kernel
theorem dX5_nameOf_42 : decode cX5_nameOf 42 = .ok (.ldc 83, 2) := by decide +kernel
theorem dX5_nameOf_44 : decode cX5_nameOf 44 = .ok (.areturn, 1) := by decide +kernel
theorem dX5_nameOf_45 : decode cX5_nameOf 45 = .ok (.ldc 85, 2) := by decide +kernel
theorem dX5_nameOf_47 : decode cX5_nameOf 47 = .ok (.areturn, 1) := by decide +kernel
theorem dX5_nameOf_48 : decode cX5_nameOf 48 = .ok (.ldc 87, 2) := by decide +kernel
theorem dX5_nameOf_50 : decode cX5_nameOf 50 = .ok (.areturn, 1) := by decide +kernel
theorem dX5_nameOf_51 : decode cX5_nameOf 51 = .ok (.ldc 89, 2) := by decide +kernel
theorem dX5_nameOf_53 : decode cX5_nameOf 53 = .ok (.areturn, 1) := by decide +kernel
set_option maxRecDepth 20000 in
theorem ggX5_readSwap_X3_advance : GoodIn wsX5_readSwap wsX3_advance := goodIn_r _ [8, 9, 10, 11, 12, 13, 14, 15, 7, 16, 17, 18, 19, 20, 21, 22, 23, 24, 25, 26, 27, 28, 69, 70, 71, 72, 73, 74] (by decide +kernel) (by decide +kernel)
set_option maxRecDepth 20000 in
theorem gX5_readSwap_X3_advance : GoodIn wsX5_readSwap (wsV RX5 29 RX3 yX3_advance wsX3_advance) := goodIn_app (goodIn_of _ (by decide +kernel)) ggX5_readSwap_X3_advance
set_option maxRecDepth 20000 in
theorem ggX5_readSwap_X3_isNumberUpTo : GoodIn wsX5_readSwap wsX3_isNumberUpTo := goodIn_r _ [32, 13, 28, 69, 70, 71, 72, 73, 74] (by decide +kernel) (by decide +kernel)
set_option maxRecDepth 20000 in
theorem gX5_readSwap_X3_isNumberUpTo : GoodIn wsX5_readSwap (wsV RX5 91 RX3 yX3_isNumberUpTo wsX3_isNumberUpTo) := goodIn_app (goodIn_of _ (by decide +kernel)) ggX5_readSwap_X3_isNumberUpTo
set_option maxRecDepth 20000 in
theorem ggX5_readSwap_X4_exchange : GoodIn wsX5_readSwap wsX4_exchange := goodIn_r _ [37, 38, 39, 40, 41, 36, 42, 43, 44, 45, 46, 47, 48, 49, 50, 51, 52, 53, 54, 55, 56, 58, 59, 60, 61, 62, 63, 64, 65, 66, 67, 68] (by decide +kernel) (by decide +kernel)
set_option maxRecDepth 20000 in
theorem gX5_readSwap_X4_exchange : GoodIn wsX5_readSwap (wsV RX5 98 RX4 yX4_exchange wsX4_exchange) := goodIn_app (goodIn_of _ (by decide +kernel)) ggX5_readSwap_X4_exchange
theorem dX5_readSwap_0 : decode cX5_readSwap 0 = .ok (.aload_n 0, 1) := by decide +kernel
theorem dX5_readSwap_1 : decode cX5_readSwap 1 = .ok (.getfield 12, 3) := by decide +kernel
theorem dX5_readSwap_4 : decode cX5_readSwap 4 = .ok (.invokevirtual 29, 3) := by decide +kernel
theorem dX5_readSwap_7 : decode cX5_readSwap 7 = .ok (.aload_n 0, 1) := by decide +kernel
theorem dX5_readSwap_8 : decode cX5_readSwap 8 = .ok (.getfield 12, 3) := by decide +kernel
theorem dX5_readSwap_11 : decode cX5_readSwap 11 = .ok (.aload_n 1, 1) := by decide +kernel
theorem dX5_readSwap_12 : decode cX5_readSwap 12 = .ok (.getfield 64, 3) := by decide +kernel
theorem dX5_readSwap_15 : decode cX5_readSwap 15 = .ok (.iconst 1, 1) := by decide +kernel
theorem dX5_readSwap_16 : decode cX5_readSwap 16 = .ok (.isub, 1) := by decide +kernel
theorem dX5_readSwap_17 : decode cX5_readSwap 17 = .ok (.invokevirtual 91, 3) := by decide +kernel
theorem dX5_readSwap_20 : decode cX5_readSwap 20 = .ok (.ifCond .ne 5, 3) := by decide +kernel
theorem dX5_readSwap_23 : decode cX5_readSwap 23 = .ok (.iconst 0, 1) := by decide +kernel
theorem dX5_readSwap_24 : decode cX5_readSwap 24 = .ok (.ireturn, 1) := by decide +kernel
theorem dX5_readSwap_25 : decode cX5_readSwap 25 = .ok (.aload_n 0, 1) := by decide +kernel
theorem dX5_readSwap_26 : decode cX5_readSwap 26 = .ok (.getfield 12, 3) := by decide +kernel
theorem dX5_readSwap_29 : decode cX5_readSwap 29 = .ok (.getfield 95, 3) := by decide +kernel
theorem dX5_readSwap_32 : decode cX5_readSwap 32 = .ok (.istore_n 2, 1) := by decide +kernel
theorem dX5_readSwap_33 : decode cX5_readSwap 33 = .ok (.aload_n 0, 1) := by decide +kernel
theorem dX5_readSwap_34 : decode cX5_readSwap 34 = .ok (.getfield 12, 3) := by decide +kernel
theorem dX5_readSwap_37 : decode cX5_readSwap 37 = .ok (.invokevirtual 29, 3) := by decide +kernel
theorem dX5_readSwap_40 : decode cX5_readSwap 40 = .ok (.aload_n 0, 1) := by decide +kernel
theorem dX5_readSwap_41 : decode cX5_readSwap 41 = .ok (.getfield 12, 3) := by decide +kernel
theorem dX5_readSwap_44 : decode cX5_readSwap 44 = .ok (.aload_n 1, 1) := by decide +kernel
theorem dX5_readSwap_45 : decode cX5_readSwap 45 = .ok (.getfield 64, 3) := by decide +kernel
theorem dX5_readSwap_48 : decode cX5_readSwap 48 = .ok (.iconst 1, 1) := by decide +kernel
theorem dX5_readSwap_49 : decode cX5_readSwap 49 = .ok (.isub, 1) := by decide +kernel
theorem dX5_readSwap_50 : decode cX5_readSwap 50 = .ok (.invokevirtual 91, 3) := by decide +kernel
theorem dX5_readSwap_53 : decode cX5_readSwap 53 = .ok (.ifCond .eq 14, 3) := by decide +kernel
theorem dX5_readSwap_56 : decode cX5_readSwap 56 = .ok (.aload_n 0, 1) := by decide +kernel
theorem dX5_readSwap_57 : decode cX5_readSwap 57 = .ok (.getfield 12, 3) := by decide +kernel
theorem dX5_readSwap_60 : decode cX5_readSwap 60 = .ok (.getfield 95, 3) := by decide +kernel
theorem dX5_readSwap_63 : decode cX5_readSwap 63 = .ok (.iload_n 2, 1) := by decide +kernel
theorem dX5_readSwap_64 : decode cX5_readSwap 64 = .ok (.if_icmp .ne 5, 3) := by decide +kernel
theorem dX5_readSwap_67 : decode cX5_readSwap 67 = .ok (.iconst 0, 1) := by decide +kernel
theorem dX5_readSwap_68 : decode cX5_readSwap 68 = .ok (.ireturn, 1) := by decide +kernel
theorem dX5_readSwap_69 : decode cX5_readSwap 69 = .ok (.aload_n 1, 1) := by decide +kernel
theorem dX5_readSwap_70 : decode cX5_readSwap 70 = .ok (.iload_n 2, 1) := by decide +kernel
theorem dX5_readSwap_71 : decode cX5_readSwap 71 = .ok (.aload_n 0, 1) := by decide +kernel
theorem dX5_readSwap_72 : decode cX5_readSwap 72 = .ok (.getfield 12, 3) := by decide +kernel
theorem dX5_readSwap_75 : decode cX5_readSwap 75 = .ok (.getfield 95, 3) := by decide +kernel
theorem dX5_readSwap_78 : decode cX5_readSwap 78 = .ok (.invokevirtual 98, 3) := by decide +kernel
theorem dX5_readSwap_81 : decode cX5_readSwap 81 = .ok (.aload_n 0, 1) := by decide +kernel
theorem dX5_readSwap_82 : decode cX5_readSwap 82 = .ok (.getfield 12, 3) := by decide +kernel
theorem dX5_readSwap_85 : decode cX5_readSwap 85 = .ok (.invokevirtual 29, 3) := by decide +kernel
theorem dX5_readSwap_88 : decode cX5_readSwap 88 = .ok (.iconst 1, 1) := by decide +kernel
theorem dX5_readSwap_89 : decode cX5_readSwap 89 = .ok (.ireturn, 1) := by decide +kernel
set_option maxRecDepth 20000 in
theorem ggX5_readChild_X3_advance : GoodIn wsX5_readChild wsX3_advance := goodIn_r _ [7, 8, 9, 10, 11, 12, 13, 14, 6, 15, 16, 17, 18, 19, 20, 21, 22, 23, 24, 25, 26, 27, 49, 50, 51, 52, 53, 54] (by decide +kernel) (by decide +kernel)
set_option maxRecDepth 20000 in
theorem gX5_readChild_X3_advance : GoodIn wsX5_readChild (wsV RX5 29 RX3 yX3_advance wsX3_advance) := goodIn_app (goodIn_of _ (by decide +kernel)) ggX5_readChild_X3_advance
set_option maxRecDepth 20000 in
theorem ggX5_readChild_X3_isNumberUpTo : GoodIn wsX5_readChild wsX3_isNumberUpTo := goodIn_r _ [31, 12, 27, 49, 50, 51, 52, 53, 54] (by decide +kernel) (by decide +kernel)
set_option maxRecDepth 20000 in
theorem gX5_readChild_X3_isNumberUpTo : GoodIn wsX5_readChild (wsV RX5 91 RX3 yX3_isNumberUpTo wsX3_isNumberUpTo) := goodIn_app (goodIn_of _ (by decide +kernel)) ggX5_readChild_X3_isNumberUpTo
set_option maxRecDepth 20000 in
theorem ggX5_readChild_X4_addOne : GoodIn wsX5_readChild wsX4_addOne := goodIn_r _ [36, 37, 38, 39, 40, 41, 42, 43, 44, 45, 35, 46, 47, 55, 56, 57, 58, 59, 60, 61, 62, 63, 64, 65] (by decide +kernel) (by decide +kernel)
set_option maxRecDepth 20000 in
theorem gX5_readChild_X4_addOne : GoodIn wsX5_readChild (wsV RX5 102 RX4 yX4_addOne wsX4_addOne) := goodIn_app (goodIn_of _ (by decide +kernel)) ggX5_readChild_X4_addOne
theorem dX5_readChild_0 : decode cX5_readChild 0 = .ok (.aload_n 0, 1) := by decide +kernel
theorem dX5_readChild_1 : decode cX5_readChild 1 = .ok (.getfield 12, 3) := by decide +kernel
theorem dX5_readChild_4 : decode cX5_readChild 4 = .ok (.invokevirtual 29, 3) := by decide +kernel
theorem dX5_readChild_7 : decode cX5_readChild 7 = .ok (.aload_n 0, 1) := by decide +kernel
theorem dX5_readChild_8 : decode cX5_readChild 8 = .ok (.getfield 12, 3) := by decide +kernel
theorem dX5_readChild_11 : decode cX5_readChild 11 = .ok (.bipush 9, 2) := by decide +kernel
theorem dX5_readChild_13 : decode cX5_readChild 13 = .ok (.invokevirtual 91, 3) := by decide +kernel
theorem dX5_readChild_16 : decode cX5_readChild 16 = .ok (.ifCond .ne 5, 3) := by decide +kernel
theorem dX5_readChild_19 : decode cX5_readChild 19 = .ok (.iconst 0, 1) := by decide +kernel
theorem dX5_readChild_20 : decode cX5_readChild 20 = .ok (.ireturn, 1) := by decide +kernel
theorem dX5_readChild_21 : decode cX5_readChild 21 = .ok (.aload_n 1, 1) := by decide +kernel
theorem dX5_readChild_22 : decode cX5_readChild 22 = .ok (.iload_n 2, 1) := by decide +kernel
theorem dX5_readChild_23 : decode cX5_readChild 23 = .ok (.aload_n 0, 1) := by decide +kernel
theorem dX5_readChild_24 : decode cX5_readChild 24 = .ok (.getfield 12, 3) := by decide +kernel
theorem dX5_readChild_27 : decode cX5_readChild 27 = .ok (.getfield 95, 3) := by decide +kernel
theorem dX5_readChild_30 : decode cX5_readChild 30 = .ok (.invokevirtual 102, 3) := by decide +kernel
theorem dX5_readChild_33 : decode cX5_readChild 33 = .ok (.pop, 1) := by decide +kernel
theorem dX5_readChild_34 : decode cX5_readChild 34 = .ok (.aload_n 0, 1) := by decide +kernel
theorem dX5_readChild_35 : decode cX5_readChild 35 = .ok (.getfield 12, 3) := by decide +kernel
theorem dX5_readChild_38 : decode cX5_readChild 38 = .ok (.invokevirtual 29, 3) := by decide +kernel
theorem dX5_readChild_41 : decode cX5_readChild 41 = .ok (.iconst 1, 1) := by decide +kernel
theorem dX5_readChild_42 : decode cX5_readChild 42 = .ok (.ireturn, 1) := by decide +kernel
set_option maxRecDepth 20000 in
theorem ggX5_readTrust_X3_isWord : GoodIn wsX5_readTrust wsX3_isWord := goodIn_r _ [8, 9, 10, 11, 12, 13, 14, 15, 16, 17, 18, 19, 20, 21, 22, 23, 24, 25, 26, 27, 28, 29, 30, 31, 32, 33, 34, 35, 36, 37, 38, 39, 40, 41, 42, 43, 44, 45, 46, 47, 48, 49, 50, 51, 52, 53, 54, 55, 56, 57, 58, 59, 60, 61, 98, 99, 100, 101, 102, 103] (by decide +kernel) (by decide +kernel)
set_option maxRecDepth 20000 in
theorem gX5_readTrust_X3_isWord : GoodIn wsX5_readTrust (wsV RX5 37 RX3 yX3_isWord wsX3_isWord) := goodIn_app (goodIn_of _ (by decide +kernel)) ggX5_readTrust_X3_isWord
set_option maxRecDepth 20000 in
theorem ggX5_readTrust_X3_advance : GoodIn wsX5_readTrust wsX3_advance := goodIn_r _ [65, 10, 11, 66, 12, 9, 67, 68, 7, 69, 70, 71, 72, 73, 74, 75, 76, 77, 78, 79, 80, 81, 98, 99, 100, 101, 102, 103] (by decide +kernel) (by decide +kernel)
set_option maxRecDepth 20000 in
theorem gX5_readTrust_X3_advance : GoodIn wsX5_readTrust (wsV RX5 29 RX3 yX3_advance wsX3_advance) := goodIn_app (goodIn_of _ (by decide +kernel)) ggX5_readTrust_X3_advance
set_option maxRecDepth 20000 in
theorem ggX5_readTrust_X3_isNumberUpTo : GoodIn wsX5_readTrust wsX3_isNumberUpTo := goodIn_r _ [85, 9, 81, 98, 99, 100, 101, 102, 103] (by decide +kernel) (by decide +kernel)
set_option maxRecDepth 20000 in
theorem gX5_readTrust_X3_isNumberUpTo : GoodIn wsX5_readTrust (wsV RX5 91 RX3 yX3_isNumberUpTo wsX3_isNumberUpTo) := goodIn_app (goodIn_of _ (by decide +kernel)) ggX5_readTrust_X3_isNumberUpTo
theorem dX5_readTrust_0 : decode cX5_readTrust 0 = .ok (.aload_n 0, 1) := by decide +kernel
theorem dX5_readTrust_1 : decode cX5_readTrust 1 = .ok (.getfield 12, 3) := by decide +kernel
theorem dX5_readTrust_4 : decode cX5_readTrust 4 = .ok (.ldc 106, 2) := by decide +kernel
theorem dX5_readTrust_6 : decode cX5_readTrust 6 = .ok (.invokevirtual 37, 3) := by decide +kernel
theorem dX5_readTrust_9 : decode cX5_readTrust 9 = .ok (.ifCond .ne 5, 3) := by decide +kernel
theorem dX5_readTrust_12 : decode cX5_readTrust 12 = .ok (.iconst 1, 1) := by decide +kernel
theorem dX5_readTrust_13 : decode cX5_readTrust 13 = .ok (.ireturn, 1) := by decide +kernel
theorem dX5_readTrust_14 : decode cX5_readTrust 14 = .ok (.aload_n 0, 1) := by decide +kernel
theorem dX5_readTrust_15 : decode cX5_readTrust 15 = .ok (.getfield 12, 3) := by decide +kernel
theorem dX5_readTrust_18 : decode cX5_readTrust 18 = .ok (.invokevirtual 29, 3) := by decide +kernel
theorem dX5_readTrust_21 : decode cX5_readTrust 21 = .ok (.aload_n 0, 1) := by decide +kernel
theorem dX5_readTrust_22 : decode cX5_readTrust 22 = .ok (.getfield 12, 3) := by decide +kernel
theorem dX5_readTrust_25 : decode cX5_readTrust 25 = .ok (.bipush 99, 2) := by decide +kernel
theorem dX5_readTrust_27 : decode cX5_readTrust 27 = .ok (.invokevirtual 91, 3) := by decide +kernel
theorem dX5_readTrust_30 : decode cX5_readTrust 30 = .ok (.ifCond .ne 5, 3) := by decide +kernel
theorem dX5_readTrust_33 : decode cX5_readTrust 33 = .ok (.iconst 0, 1) := by decide +kernel
theorem dX5_readTrust_34 : decode cX5_readTrust 34 = .ok (.ireturn, 1) := by decide +kernel
theorem dX5_readTrust_35 : decode cX5_readTrust 35 = .ok (.aload_n 1, 1) := by decide +kernel
theorem dX5_readTrust_36 : decode cX5_readTrust 36 = .ok (.getfield 108, 3) := by decide +kernel
theorem dX5_readTrust_39 : decode cX5_readTrust 39 = .ok (.iload_n 2, 1) := by decide +kernel
theorem dX5_readTrust_40 : decode cX5_readTrust 40 = .ok (.aload_n 0, 1) := by decide +kernel
theorem dX5_readTrust_41 : decode cX5_readTrust 41 = .ok (.getfield 12, 3) := by decide +kernel
theorem dX5_readTrust_44 : decode cX5_readTrust 44 = .ok (.getfield 95, 3) := by decide +kernel
theorem dX5_readTrust_47 : decode cX5_readTrust 47 = .ok (.iastore, 1) := by decide +kernel
theorem dX5_readTrust_48 : decode cX5_readTrust 48 = .ok (.aload_n 0, 1) := by decide +kernel
theorem dX5_readTrust_49 : decode cX5_readTrust 49 = .ok (.getfield 12, 3) := by decide +kernel
theorem dX5_readTrust_52 : decode cX5_readTrust 52 = .ok (.invokevirtual 29, 3) := by decide +kernel
theorem dX5_readTrust_55 : decode cX5_readTrust 55 = .ok (.iconst 1, 1) := by decide +kernel
theorem dX5_readTrust_56 : decode cX5_readTrust 56 = .ok (.ireturn, 1) := by decide +kernel
set_option maxRecDepth 20000 in
theorem ggX5_readLikes_X3_isWord : GoodIn wsX5_readLikes wsX3_isWord := goodIn_r _ [8, 9, 10, 11, 12, 13, 14, 15, 16, 17, 18, 19, 20, 21, 22, 23, 24, 25, 26, 27, 28, 29, 30, 31, 32, 33, 34, 35, 36, 37, 38, 39, 40, 41, 42, 43, 44, 45, 46, 47, 48, 49, 50, 51, 52, 53, 54, 55, 56, 57, 58, 59, 60, 61, 93, 94, 95, 96, 97, 98] (by decide +kernel) (by decide +kernel)
set_option maxRecDepth 20000 in
theorem gX5_readLikes_X3_isWord : GoodIn wsX5_readLikes (wsV RX5 37 RX3 yX3_isWord wsX3_isWord) := goodIn_app (goodIn_of _ (by decide +kernel)) ggX5_readLikes_X3_isWord
set_option maxRecDepth 20000 in
theorem ggX5_readLikes_X3_advance : GoodIn wsX5_readLikes wsX3_advance := goodIn_r _ [65, 10, 11, 66, 12, 9, 67, 68, 7, 69, 70, 71, 72, 73, 74, 75, 76, 77, 78, 79, 80, 81, 93, 94, 95, 96, 97, 98] (by decide +kernel) (by decide +kernel)
set_option maxRecDepth 20000 in
theorem gX5_readLikes_X3_advance : GoodIn wsX5_readLikes (wsV RX5 29 RX3 yX3_advance wsX3_advance) := goodIn_app (goodIn_of _ (by decide +kernel)) ggX5_readLikes_X3_advance
set_option maxRecDepth 20000 in
theorem ggX5_readLikes_X3_isNumberUpTo : GoodIn wsX5_readLikes wsX3_isNumberUpTo := goodIn_r _ [85, 9, 81, 93, 94, 95, 96, 97, 98] (by decide +kernel) (by decide +kernel)
set_option maxRecDepth 20000 in
theorem gX5_readLikes_X3_isNumberUpTo : GoodIn wsX5_readLikes (wsV RX5 91 RX3 yX3_isNumberUpTo wsX3_isNumberUpTo) := goodIn_app (goodIn_of _ (by decide +kernel)) ggX5_readLikes_X3_isNumberUpTo
set_option maxRecDepth 20000 in
theorem ggX5_readLikes_X4_makeLike : GoodIn wsX5_readLikes wsX4_makeLike := goodIn_r _ [90, 91, 99, 100, 101, 102, 103, 104, 105, 106, 107, 108, 109] (by decide +kernel) (by decide +kernel)
set_option maxRecDepth 20000 in
theorem gX5_readLikes_X4_makeLike : GoodIn wsX5_readLikes (wsV RX5 114 RX4 yX4_makeLike wsX4_makeLike) := goodIn_app (goodIn_of _ (by decide +kernel)) ggX5_readLikes_X4_makeLike
theorem dX5_readLikes_0 : decode cX5_readLikes 0 = .ok (.aload_n 0, 1) := by decide +kernel
theorem dX5_readLikes_1 : decode cX5_readLikes 1 = .ok (.getfield 12, 3) := by decide +kernel
theorem dX5_readLikes_4 : decode cX5_readLikes 4 = .ok (.ldc 112, 2) := by decide +kernel
theorem dX5_readLikes_6 : decode cX5_readLikes 6 = .ok (.invokevirtual 37, 3) := by decide +kernel
theorem dX5_readLikes_9 : decode cX5_readLikes 9 = .ok (.ifCond .ne 5, 3) := by decide +kernel
theorem dX5_readLikes_12 : decode cX5_readLikes 12 = .ok (.iconst 1, 1) := by decide +kernel
theorem dX5_readLikes_13 : decode cX5_readLikes 13 = .ok (.ireturn, 1) := by decide +kernel
theorem dX5_readLikes_14 : decode cX5_readLikes 14 = .ok (.aload_n 0, 1) := by decide +kernel
theorem dX5_readLikes_15 : decode cX5_readLikes 15 = .ok (.getfield 12, 3) := by decide +kernel
theorem dX5_readLikes_18 : decode cX5_readLikes 18 = .ok (.invokevirtual 29, 3) := by decide +kernel
theorem dX5_readLikes_21 : decode cX5_readLikes 21 = .ok (.iconst 0, 1) := by decide +kernel
theorem dX5_readLikes_22 : decode cX5_readLikes 22 = .ok (.istore_n 3, 1) := by decide +kernel
theorem dX5_readLikes_23 : decode cX5_readLikes 23 = .ok (.iload_n 3, 1) := by decide +kernel
theorem dX5_readLikes_24 : decode cX5_readLikes 24 = .ok (.iconst 4, 1) := by decide +kernel
theorem dX5_readLikes_25 : decode cX5_readLikes 25 = .ok (.if_icmp .ge 60, 3) := by decide +kernel
theorem dX5_readLikes_28 : decode cX5_readLikes 28 = .ok (.iload_n 3, 1) := by decide +kernel
theorem dX5_readLikes_29 : decode cX5_readLikes 29 = .ok (.ifCond .le 16, 3) := by decide +kernel
theorem dX5_readLikes_32 : decode cX5_readLikes 32 = .ok (.aload_n 0, 1) := by decide +kernel
theorem dX5_readLikes_33 : decode cX5_readLikes 33 = .ok (.getfield 12, 3) := by decide +kernel
theorem dX5_readLikes_36 : decode cX5_readLikes 36 = .ok (.getfield 25, 3) := by decide +kernel
theorem dX5_readLikes_39 : decode cX5_readLikes 39 = .ok (.iconst 2, 1) := by decide +kernel
theorem dX5_readLikes_40 : decode cX5_readLikes 40 = .ok (.if_icmp .eq 5, 3) := by decide +kernel
theorem dX5_readLikes_43 : decode cX5_readLikes 43 = .ok (.iconst 1, 1) := by decide +kernel
theorem dX5_readLikes_44 : decode cX5_readLikes 44 = .ok (.ireturn, 1) := by decide +kernel
theorem dX5_readLikes_45 : decode cX5_readLikes 45 = .ok (.aload_n 0, 1) := by decide +kernel
theorem dX5_readLikes_46 : decode cX5_readLikes 46 = .ok (.getfield 12, 3) := by decide +kernel
theorem dX5_readLikes_49 : decode cX5_readLikes 49 = .ok (.bipush 20, 2) := by decide +kernel
theorem dX5_readLikes_51 : decode cX5_readLikes 51 = .ok (.invokevirtual 91, 3) := by decide +kernel
theorem dX5_readLikes_54 : decode cX5_readLikes 54 = .ok (.ifCond .ne 5, 3) := by decide +kernel
theorem dX5_readLikes_57 : decode cX5_readLikes 57 = .ok (.iconst 0, 1) := by decide +kernel
theorem dX5_readLikes_58 : decode cX5_readLikes 58 = .ok (.ireturn, 1) := by decide +kernel
theorem dX5_readLikes_59 : decode cX5_readLikes 59 = .ok (.aload_n 1, 1) := by decide +kernel
theorem dX5_readLikes_60 : decode cX5_readLikes 60 = .ok (.iload_n 2, 1) := by decide +kernel
theorem dX5_readLikes_61 : decode cX5_readLikes 61 = .ok (.iload_n 3, 1) := by decide +kernel
theorem dX5_readLikes_62 : decode cX5_readLikes 62 = .ok (.aload_n 0, 1) := by decide +kernel
theorem dX5_readLikes_63 : decode cX5_readLikes 63 = .ok (.getfield 12, 3) := by decide +kernel
theorem dX5_readLikes_66 : decode cX5_readLikes 66 = .ok (.getfield 95, 3) := by decide +kernel
theorem dX5_readLikes_69 : decode cX5_readLikes 69 = .ok (.invokevirtual 114, 3) := by decide +kernel
theorem dX5_readLikes_72 : decode cX5_readLikes 72 = .ok (.aload_n 0, 1) := by decide +kernel
theorem dX5_readLikes_73 : decode cX5_readLikes 73 = .ok (.getfield 12, 3) := by decide +kernel
theorem dX5_readLikes_76 : decode cX5_readLikes 76 = .ok (.invokevirtual 29, 3) := by decide +kernel
theorem dX5_readLikes_79 : decode cX5_readLikes 79 = .ok (.iinc 3 1, 3) := by decide +kernel
theorem dX5_readLikes_82 : decode cX5_readLikes 82 = .ok (.goto (-59), 3) := by decide +kernel
theorem dX5_readLikes_85 : decode cX5_readLikes 85 = .ok (.iconst 1, 1) := by decide +kernel
theorem dX5_readLikes_86 : decode cX5_readLikes 86 = .ok (.ireturn, 1) := by decide +kernel
set_option maxRecDepth 20000 in
theorem ggX6_init_X4_init : GoodIn wsX6_init wsX4_init := goodIn_r _ [28, 29, 2, 3, 30, 31, 32, 22, 33, 34, 35, 36, 37, 38, 39, 11, 12, 40, 41, 42, 43, 44, 45, 46, 70, 71, 72, 73, 74, 75, 76, 77, 78, 79, 80, 90, 91] (by decide +kernel) (by decide +kernel)
set_option maxRecDepth 20000 in
theorem gX6_init_X4_init_n9 : GoodIn wsX6_init (wsX4_init) := ggX6_init_X4_init
set_option maxRecDepth 20000 in
theorem ggX6_init_X0_init : GoodIn wsX6_init wsX0_init := goodIn_r _ [43, 44, 2, 3, 45, 46, 90, 91] (by decide +kernel) (by decide +kernel)
set_option maxRecDepth 20000 in
theorem gX6_init_X0_init_n24 : GoodIn wsX6_init (wsX0_init) := ggX6_init_X0_init
set_option maxRecDepth 20000 in
theorem ggX6_init_X5_init : GoodIn wsX6_init wsX5_init := goodIn_r _ [48, 49, 2, 3, 50, 51, 52, 53, 54, 55, 56, 22, 57, 58, 59, 60, 61, 62, 96, 97, 98, 99, 100, 101, 92] (by decide +kernel) (by decide +kernel)
set_option maxRecDepth 20000 in
theorem gX6_init_X5_init_n31 : GoodIn wsX6_init (wsX5_init) := ggX6_init_X5_init
set_option maxRecDepth 20000 in
theorem ggX6_init_X2_init : GoodIn wsX6_init wsX2_init := goodIn_r _ [64, 65, 2, 3, 66, 67, 68, 69, 93, 94, 95] (by decide +kernel) (by decide +kernel)
set_option maxRecDepth 20000 in
theorem gX6_init_X2_init_n55 : GoodIn wsX6_init (wsX2_init) := ggX6_init_X2_init
theorem dX6_init_0 : decode cX6_init 0 = .ok (.aload_n 0, 1) := by decide +kernel
theorem dX6_init_1 : decode cX6_init 1 = .ok (.invokespecial 1, 3) := by decide +kernel
theorem dX6_init_4 : decode cX6_init 4 = .ok (.aload_n 0, 1) := by decide +kernel
theorem dX6_init_5 : decode cX6_init 5 = .ok (.new 7, 3) := by decide +kernel
theorem dX6_init_8 : decode cX6_init 8 = .ok (.dup, 1) := by decide +kernel
theorem dX6_init_9 : decode cX6_init 9 = .ok (.invokespecial 9, 3) := by decide +kernel
theorem dX6_init_12 : decode cX6_init 12 = .ok (.putfield 10, 3) := by decide +kernel
theorem dX6_init_15 : decode cX6_init 15 = .ok (.aload_n 0, 1) := by decide +kernel
theorem dX6_init_16 : decode cX6_init 16 = .ok (.new 7, 3) := by decide +kernel
theorem dX6_init_19 : decode cX6_init 19 = .ok (.dup, 1) := by decide +kernel
theorem dX6_init_20 : decode cX6_init 20 = .ok (.invokespecial 9, 3) := by decide +kernel
theorem dX6_init_23 : decode cX6_init 23 = .ok (.putfield 16, 3) := by decide +kernel
theorem dX6_init_26 : decode cX6_init 26 = .ok (.aload_n 0, 1) := by decide +kernel
theorem dX6_init_27 : decode cX6_init 27 = .ok (.new 7, 3) := by decide +kernel
theorem dX6_init_30 : decode cX6_init 30 = .ok (.dup, 1) := by decide +kernel
theorem dX6_init_31 : decode cX6_init 31 = .ok (.invokespecial 9, 3) := by decide +kernel
theorem dX6_init_34 : decode cX6_init 34 = .ok (.putfield 19, 3) := by decide +kernel
theorem dX6_init_37 : decode cX6_init 37 = .ok (.aload_n 0, 1) := by decide +kernel
theorem dX6_init_38 : decode cX6_init 38 = .ok (.new 22, 3) := by decide +kernel
theorem dX6_init_41 : decode cX6_init 41 = .ok (.dup, 1) := by decide +kernel
theorem dX6_init_42 : decode cX6_init 42 = .ok (.invokespecial 24, 3) := by decide +kernel
theorem dX6_init_45 : decode cX6_init 45 = .ok (.putfield 25, 3) := by decide +kernel
theorem dX6_init_48 : decode cX6_init 48 = .ok (.aload_n 0, 1) := by decide +kernel
theorem dX6_init_49 : decode cX6_init 49 = .ok (.new 29, 3) := by decide +kernel
theorem dX6_init_52 : decode cX6_init 52 = .ok (.dup, 1) := by decide +kernel
theorem dX6_init_53 : decode cX6_init 53 = .ok (.invokespecial 31, 3) := by decide +kernel
theorem dX6_init_56 : decode cX6_init 56 = .ok (.putfield 32, 3) := by decide +kernel
theorem dX6_init_59 : decode cX6_init 59 = .ok (.aload_n 0, 1) := by decide +kernel
theorem dX6_init_60 : decode cX6_init 60 = .ok (.aload_n 0, 1) := by decide +kernel
theorem dX6_init_61 : decode cX6_init 61 = .ok (.getfield 32, 3) := by decide +kernel
theorem dX6_init_64 : decode cX6_init 64 = .ok (.getfield 36, 3) := by decide +kernel
theorem dX6_init_67 : decode cX6_init 67 = .ok (.putfield 40, 3) := by decide +kernel
theorem dX6_init_70 : decode cX6_init 70 = .ok (.aload_n 0, 1) := by decide +kernel
theorem dX6_init_71 : decode cX6_init 71 = .ok (.iconst 4, 1) := by decide +kernel
theorem dX6_init_72 : decode cX6_init 72 = .ok (.anewarray 41, 3) := by decide +kernel
theorem dX6_init_75 : decode cX6_init 75 = .ok (.putfield 43, 3) := by decide +kernel
theorem dX6_init_78 : decode cX6_init 78 = .ok (.aload_n 0, 1) := by decide +kernel
theorem dX6_init_79 : decode cX6_init 79 = .ok (.bipush 7, 2) := by decide +kernel
theorem dX6_init_81 : decode cX6_init 81 = .ok (.newarray .int, 2) := by decide +kernel
theorem dX6_init_83 : decode cX6_init 83 = .ok (.putfield 47, 3) := by decide +kernel
theorem dX6_init_86 : decode cX6_init 86 = .ok (.aload_n 0, 1) := by decide +kernel
theorem dX6_init_87 : decode cX6_init 87 = .ok (.iconst 0, 1) := by decide +kernel
theorem dX6_init_88 : decode cX6_init 88 = .ok (.putfield 51, 3) := by decide +kernel
theorem dX6_init_91 : decode cX6_init 91 = .ok (.iconst 0, 1) := by decide +kernel
theorem dX6_init_92 : decode cX6_init 92 = .ok (.istore_n 1, 1) := by decide +kernel
theorem dX6_init_93 : decode cX6_init 93 = .ok (.iload_n 1, 1) := by decide +kernel
theorem dX6_init_94 : decode cX6_init 94 = .ok (.iconst 4, 1) := by decide +kernel
theorem dX6_init_95 : decode cX6_init 95 = .ok (.if_icmp .ge 22, 3) := by decide +kernel
theorem dX6_init_98 : decode cX6_init 98 = .ok (.aload_n 0, 1) := by decide +kernel
theorem dX6_init_99 : decode cX6_init 99 = .ok (.getfield 43, 3) := by decide +kernel
theorem dX6_init_102 : decode cX6_init 102 = .ok (.iload_n 1, 1) := by decide +kernel
theorem dX6_init_103 : decode cX6_init 103 = .ok (.new 41, 3) := by decide +kernel
theorem dX6_init_106 : decode cX6_init 106 = .ok (.dup, 1) := by decide +kernel
theorem dX6_init_107 : decode cX6_init 107 = .ok (.invokespecial 55, 3) := by decide +kernel
theorem dX6_init_110 : decode cX6_init 110 = .ok (.aastore, 1) := by decide +kernel
theorem dX6_init_111 : decode cX6_init 111 = .ok (.iinc 1 1, 3) := by decide +kernel
theorem dX6_init_114 : decode cX6_init 114 = .ok (.goto (-21), 3) := by decide +kernel
theorem dX6_init_117 : decode cX6_init 117 = .ok (.return_, 1) := by decide +kernel
set_option maxRecDepth 20000 in
theorem ggX6_teacher_X6_isWithin : GoodIn wsX6_teacher wsX6_isWithin := goodIn_r _ [6] (by decide +kernel) (by decide +kernel)
set_option maxRecDepth 20000 in
theorem gX6_teacher_X6_isWithin : GoodIn wsX6_teacher (va_wsS RX6 56 yX6_isWithin wsX6_isWithin) := goodIn_app (goodIn_of _ (by decide +kernel)) ggX6_teacher_X6_isWithin
set_option maxRecDepth 20000 in
theorem ggX6_teacher_X6_finding : GoodIn wsX6_teacher wsX6_finding := goodIn_r _ [10, 11, 12, 13, 14, 15, 16, 17, 18, 19, 20, 21] (by decide +kernel) (by decide +kernel)
set_option maxRecDepth 20000 in
theorem gX6_teacher_X6_finding : GoodIn wsX6_teacher (wsV RX6 60 RX6 yX6_finding wsX6_finding) := goodIn_app (goodIn_of _ (by decide +kernel)) ggX6_teacher_X6_finding
theorem dX6_teacher_0 : decode cX6_teacher 0 = .ok (.iload_n 1, 1) := by decide +kernel
theorem dX6_teacher_1 : decode cX6_teacher 1 = .ok (.iconst 0, 1) := by decide +kernel
theorem dX6_teacher_2 : decode cX6_teacher 2 = .ok (.iconst 1, 1) := by decide +kernel
theorem dX6_teacher_3 : decode cX6_teacher 3 = .ok (.invokestatic 56, 3) := by decide +kernel
theorem dX6_teacher_6 : decode cX6_teacher 6 = .ok (.ifCond .ne 9, 3) := by decide +kernel
theorem dX6_teacher_9 : decode cX6_teacher 9 = .ok (.aload_n 0, 1) := by decide +kernel
theorem dX6_teacher_10 : decode cX6_teacher 10 = .ok (.iconst 0, 1) := by decide +kernel
theorem dX6_teacher_11 : decode cX6_teacher 11 = .ok (.invokevirtual 60, 3) := by decide +kernel
theorem dX6_teacher_14 : decode cX6_teacher 14 = .ok (.ireturn, 1) := by decide +kernel
theorem dX6_teacher_15 : decode cX6_teacher 15 = .ok (.aload_n 0, 1) := by decide +kernel
theorem dX6_teacher_16 : decode cX6_teacher 16 = .ok (.getfield 10, 3) := by decide +kernel
theorem dX6_teacher_19 : decode cX6_teacher 19 = .ok (.getfield 64, 3) := by decide +kernel
theorem dX6_teacher_22 : decode cX6_teacher 22 = .ok (.istore_n 2, 1) := by decide +kernel
theorem dX6_teacher_23 : decode cX6_teacher 23 = .ok (.aload_n 0, 1) := by decide +kernel
theorem dX6_teacher_24 : decode cX6_teacher 24 = .ok (.getfield 10, 3) := by decide +kernel
theorem dX6_teacher_27 : decode cX6_teacher 27 = .ok (.iload_n 1, 1) := by decide +kernel
theorem dX6_teacher_28 : decode cX6_teacher 28 = .ok (.putfield 64, 3) := by decide +kernel
theorem dX6_teacher_31 : decode cX6_teacher 31 = .ok (.iload_n 2, 1) := by decide +kernel
theorem dX6_teacher_32 : decode cX6_teacher 32 = .ok (.ireturn, 1) := by decide +kernel
set_option maxRecDepth 20000 in
theorem ggX6_now_X4_thingsHeld : GoodIn wsX6_now wsX4_thingsHeld := goodIn_r _ [8, 9, 10, 75, 76, 77, 78, 79, 80, 81, 82, 83, 84, 85] (by decide +kernel) (by decide +kernel)
set_option maxRecDepth 20000 in
theorem gX6_now_X4_thingsHeld : GoodIn wsX6_now (wsV RX6 71 RX4 yX4_thingsHeld wsX4_thingsHeld) := goodIn_app (goodIn_of _ (by decide +kernel)) ggX6_now_X4_thingsHeld
set_option maxRecDepth 20000 in
theorem ggX6_now_X4_gladOfAll : GoodIn wsX6_now wsX4_gladOfAll := goodIn_r _ [14, 9, 15, 16, 17, 7, 18, 10, 19, 20, 21, 22, 23, 24, 25, 26, 27, 28, 29, 30, 31, 32, 33, 75, 76, 77, 78, 79, 80, 81, 82, 83, 84, 85] (by decide +kernel) (by decide +kernel)
set_option maxRecDepth 20000 in
theorem gX6_now_X4_gladOfAll : GoodIn wsX6_now (wsV RX6 75 RX4 yX4_gladOfAll wsX4_gladOfAll) := goodIn_app (goodIn_of _ (by decide +kernel)) ggX6_now_X4_gladOfAll
set_option maxRecDepth 20000 in
theorem ggX6_now_X4_isOver : GoodIn wsX6_now wsX4_isOver := goodIn_r _ [37, 9, 38, 39, 40, 7, 41, 42, 43, 44, 45, 10, 46, 47, 48, 49, 23, 50, 51, 19, 20, 21, 22, 24, 25, 26, 27, 28, 29, 30, 31, 32, 33, 52, 53, 54, 75, 76, 77, 78, 79, 80, 81, 82, 83, 84, 85] (by decide +kernel) (by decide +kernel)
set_option maxRecDepth 20000 in
theorem gX6_now_X4_isOver : GoodIn wsX6_now (wsV RX6 78 RX4 yX4_isOver wsX4_isOver) := goodIn_app (goodIn_of _ (by decide +kernel)) ggX6_now_X4_isOver
set_option maxRecDepth 20000 in
theorem ggX6_now_X4_swappedOfAll : GoodIn wsX6_now wsX4_swappedOfAll := goodIn_r _ [58, 9, 50, 75, 76, 77, 78, 79, 80, 81, 82, 83, 84, 85] (by decide +kernel) (by decide +kernel)
set_option maxRecDepth 20000 in
theorem gX6_now_X4_swappedOfAll : GoodIn wsX6_now (wsV RX6 82 RX4 yX4_swappedOfAll wsX4_swappedOfAll) := goodIn_app (goodIn_of _ (by decide +kernel)) ggX6_now_X4_swappedOfAll
set_option maxRecDepth 20000 in
theorem ggX6_now_X6_finding : GoodIn wsX6_now wsX6_finding := goodIn_r _ [63, 64, 65, 66, 67, 68, 69, 70, 71, 72, 73, 74] (by decide +kernel) (by decide +kernel)
set_option maxRecDepth 20000 in
theorem gX6_now_X6_finding : GoodIn wsX6_now (wsV RX6 60 RX6 yX6_finding wsX6_finding) := goodIn_app (goodIn_of _ (by decide +kernel)) ggX6_now_X6_finding
theorem dX6_now_0 : decode cX6_now 0 = .ok (.iload_n 1, 1) := by decide +kernel
theorem dX6_now_1 : decode cX6_now 1 = .ok (.tableswitch 95 0 5 #[39, 47, 55, 63, 71, 87], 39) := by decide +kernel
theorem dX6_now_40 : decode cX6_now 40 = .ok (.aload_n 0, 1) := by decide +kernel
theorem dX6_now_41 : decode cX6_now 41 = .ok (.getfield 10, 3) := by decide +kernel
theorem dX6_now_44 : decode cX6_now 44 = .ok (.getfield 68, 3) := by decide +kernel
theorem dX6_now_47 : decode cX6_now 47 = .ok (.ireturn, 1) := by decide +kernel
theorem dX6_now_48 : decode cX6_now 48 = .ok (.aload_n 0, 1) := by decide +kernel
theorem dX6_now_49 : decode cX6_now 49 = .ok (.getfield 10, 3) := by decide +kernel
theorem dX6_now_52 : decode cX6_now 52 = .ok (.getfield 64, 3) := by decide +kernel
theorem dX6_now_55 : decode cX6_now 55 = .ok (.ireturn, 1) := by decide +kernel
theorem dX6_now_56 : decode cX6_now 56 = .ok (.aload_n 0, 1) := by decide +kernel
theorem dX6_now_57 : decode cX6_now 57 = .ok (.getfield 10, 3) := by decide +kernel
theorem dX6_now_60 : decode cX6_now 60 = .ok (.invokevirtual 71, 3) := by decide +kernel
theorem dX6_now_63 : decode cX6_now 63 = .ok (.ireturn, 1) := by decide +kernel
theorem dX6_now_64 : decode cX6_now 64 = .ok (.aload_n 0, 1) := by decide +kernel
theorem dX6_now_65 : decode cX6_now 65 = .ok (.getfield 10, 3) := by decide +kernel
theorem dX6_now_68 : decode cX6_now 68 = .ok (.invokevirtual 75, 3) := by decide +kernel
theorem dX6_now_71 : decode cX6_now 71 = .ok (.ireturn, 1) := by decide +kernel
theorem dX6_now_72 : decode cX6_now 72 = .ok (.aload_n 0, 1) := by decide +kernel
theorem dX6_now_73 : decode cX6_now 73 = .ok (.getfield 10, 3) := by decide +kernel
theorem dX6_now_76 : decode cX6_now 76 = .ok (.invokevirtual 78, 3) := by decide +kernel
theorem dX6_now_79 : decode cX6_now 79 = .ok (.ifCond .eq 7, 3) := by decide +kernel
theorem dX6_now_82 : decode cX6_now 82 = .ok (.iconst 1, 1) := by decide +kernel
theorem dX6_now_83 : decode cX6_now 83 = .ok (.goto 4, 3) := by decide +kernel
theorem dX6_now_86 : decode cX6_now 86 = .ok (.iconst 0, 1) := by decide +kernel
theorem dX6_now_87 : decode cX6_now 87 = .ok (.ireturn, 1) := by decide +kernel
theorem dX6_now_88 : decode cX6_now 88 = .ok (.aload_n 0, 1) := by decide +kernel
theorem dX6_now_89 : decode cX6_now 89 = .ok (.getfield 10, 3) := by decide +kernel
theorem dX6_now_92 : decode cX6_now 92 = .ok (.invokevirtual 82, 3) := by decide +kernel
theorem dX6_now_95 : decode cX6_now 95 = .ok (.ireturn, 1) := by decide +kernel
theorem dX6_now_96 : decode cX6_now 96 = .ok (.aload_n 0, 1) := by decide +kernel
theorem dX6_now_97 : decode cX6_now 97 = .ok (.iconst 0, 1) := by decide +kernel
theorem dX6_now_98 : decode cX6_now 98 = .ok (.invokevirtual 60, 3) := by decide +kernel
theorem dX6_now_101 : decode cX6_now 101 = .ok (.ireturn, 1) := by decide +kernel
set_option maxRecDepth 20000 in
theorem ggX6_who_X6_isThing : GoodIn wsX6_who wsX6_isThing := goodIn_r _ [5, 6, 7, 4, 8] (by decide +kernel) (by decide +kernel)
set_option maxRecDepth 20000 in
theorem gX6_who_X6_isThing : GoodIn wsX6_who (va_wsS RX6 85 yX6_isThing wsX6_isThing) := goodIn_app (goodIn_of _ (by decide +kernel)) ggX6_who_X6_isThing
set_option maxRecDepth 20000 in
theorem ggX6_who_X6_finding : GoodIn wsX6_who wsX6_finding := goodIn_r _ [12, 13, 14, 22, 23, 24, 25, 26, 27, 28, 29, 30] (by decide +kernel) (by decide +kernel)
set_option maxRecDepth 20000 in
theorem gX6_who_X6_finding : GoodIn wsX6_who (wsV RX6 60 RX6 yX6_finding wsX6_finding) := goodIn_app (goodIn_of _ (by decide +kernel)) ggX6_who_X6_finding
set_option maxRecDepth 20000 in
theorem ggX6_who_X4_holdersOf : GoodIn wsX6_who wsX4_holdersOf := goodIn_r _ [19, 20, 21, 31, 32, 33, 34, 35, 36, 37, 38, 39, 40, 41] (by decide +kernel) (by decide +kernel)
set_option maxRecDepth 20000 in
theorem gX6_who_X4_holdersOf : GoodIn wsX6_who (wsV RX6 89 RX4 yX4_holdersOf wsX4_holdersOf) := goodIn_app (goodIn_of _ (by decide +kernel)) ggX6_who_X4_holdersOf
theorem dX6_who_0 : decode cX6_who 0 = .ok (.iload_n 1, 1) := by decide +kernel
theorem dX6_who_1 : decode cX6_who 1 = .ok (.invokestatic 85, 3) := by decide +kernel
theorem dX6_who_4 : decode cX6_who 4 = .ok (.ifCond .ne 9, 3) := by decide +kernel
theorem dX6_who_7 : decode cX6_who 7 = .ok (.aload_n 0, 1) := by decide +kernel
theorem dX6_who_8 : decode cX6_who 8 = .ok (.iconst 0, 1) := by decide +kernel
theorem dX6_who_9 : decode cX6_who 9 = .ok (.invokevirtual 60, 3) := by decide +kernel
theorem dX6_who_12 : decode cX6_who 12 = .ok (.ireturn, 1) := by decide +kernel
theorem dX6_who_13 : decode cX6_who 13 = .ok (.aload_n 0, 1) := by decide +kernel
theorem dX6_who_14 : decode cX6_who 14 = .ok (.getfield 10, 3) := by decide +kernel
theorem dX6_who_17 : decode cX6_who 17 = .ok (.iload_n 1, 1) := by decide +kernel
theorem dX6_who_18 : decode cX6_who 18 = .ok (.invokevirtual 89, 3) := by decide +kernel
theorem dX6_who_21 : decode cX6_who 21 = .ok (.ireturn, 1) := by decide +kernel
set_option maxRecDepth 20000 in
theorem ggX6_child_X1_isKind : GoodIn wsX6_child wsX1_isKind := goodIn_r _ [5] (by decide +kernel) (by decide +kernel)
set_option maxRecDepth 20000 in
theorem gX6_child_X1_isKind : GoodIn wsX6_child (va_wsS RX6 92 yX1_isKind wsX1_isKind) := goodIn_app (goodIn_of _ (by decide +kernel)) ggX6_child_X1_isKind
set_option maxRecDepth 20000 in
theorem ggX6_child_X6_isThing : GoodIn wsX6_child wsX6_isThing := goodIn_r _ [9, 10, 11, 8, 12] (by decide +kernel) (by decide +kernel)
set_option maxRecDepth 20000 in
theorem gX6_child_X6_isThing : GoodIn wsX6_child (va_wsS RX6 85 yX6_isThing wsX6_isThing) := goodIn_app (goodIn_of _ (by decide +kernel)) ggX6_child_X6_isThing
set_option maxRecDepth 20000 in
theorem ggX6_child_X6_finding : GoodIn wsX6_child wsX6_finding := goodIn_r _ [16, 17, 18, 39, 40, 41, 42, 43, 44, 45, 46, 47] (by decide +kernel) (by decide +kernel)
set_option maxRecDepth 20000 in
theorem gX6_child_X6_finding : GoodIn wsX6_child (wsV RX6 60 RX6 yX6_finding wsX6_finding) := goodIn_app (goodIn_of _ (by decide +kernel)) ggX6_child_X6_finding
set_option maxRecDepth 20000 in
theorem ggX6_child_X4_isFull : GoodIn wsX6_child wsX4_isFull := goodIn_r _ [23, 24, 48, 49, 50, 51, 52, 53, 54, 55, 56, 57, 58] (by decide +kernel) (by decide +kernel)
set_option maxRecDepth 20000 in
theorem gX6_child_X4_isFull : GoodIn wsX6_child (wsV RX6 97 RX4 yX4_isFull wsX4_isFull) := goodIn_app (goodIn_of _ (by decide +kernel)) ggX6_child_X4_isFull
set_option maxRecDepth 20000 in
theorem ggX6_child_X4_addOne : GoodIn wsX6_child wsX4_addOne := goodIn_r _ [28, 24, 29, 30, 31, 32, 33, 34, 35, 36, 22, 37, 38, 48, 49, 50, 51, 52, 53, 54, 55, 56, 57, 58] (by decide +kernel) (by decide +kernel)
set_option maxRecDepth 20000 in
theorem gX6_child_X4_addOne : GoodIn wsX6_child (wsV RX6 100 RX4 yX4_addOne wsX4_addOne) := goodIn_app (goodIn_of _ (by decide +kernel)) ggX6_child_X4_addOne
theorem dX6_child_0 : decode cX6_child 0 = .ok (.iload_n 1, 1) := by decide +kernel
theorem dX6_child_1 : decode cX6_child 1 = .ok (.invokestatic 92, 3) := by decide +kernel
theorem dX6_child_4 : decode cX6_child 4 = .ok (.ifCond .eq 10, 3) := by decide +kernel
theorem dX6_child_7 : decode cX6_child 7 = .ok (.iload_n 2, 1) := by decide +kernel
theorem dX6_child_8 : decode cX6_child 8 = .ok (.invokestatic 85, 3) := by decide +kernel
theorem dX6_child_11 : decode cX6_child 11 = .ok (.ifCond .ne 9, 3) := by decide +kernel
theorem dX6_child_14 : decode cX6_child 14 = .ok (.aload_n 0, 1) := by decide +kernel
theorem dX6_child_15 : decode cX6_child 15 = .ok (.iconst 0, 1) := by decide +kernel
theorem dX6_child_16 : decode cX6_child 16 = .ok (.invokevirtual 60, 3) := by decide +kernel
theorem dX6_child_19 : decode cX6_child 19 = .ok (.ireturn, 1) := by decide +kernel
theorem dX6_child_20 : decode cX6_child 20 = .ok (.aload_n 0, 1) := by decide +kernel
theorem dX6_child_21 : decode cX6_child 21 = .ok (.getfield 10, 3) := by decide +kernel
theorem dX6_child_24 : decode cX6_child 24 = .ok (.invokevirtual 97, 3) := by decide +kernel
theorem dX6_child_27 : decode cX6_child 27 = .ok (.ifCond .eq 9, 3) := by decide +kernel
theorem dX6_child_30 : decode cX6_child 30 = .ok (.aload_n 0, 1) := by decide +kernel
theorem dX6_child_31 : decode cX6_child 31 = .ok (.iconst 1, 1) := by decide +kernel
theorem dX6_child_32 : decode cX6_child 32 = .ok (.invokevirtual 60, 3) := by decide +kernel
theorem dX6_child_35 : decode cX6_child 35 = .ok (.ireturn, 1) := by decide +kernel
theorem dX6_child_36 : decode cX6_child 36 = .ok (.aload_n 0, 1) := by decide +kernel
theorem dX6_child_37 : decode cX6_child 37 = .ok (.getfield 10, 3) := by decide +kernel
theorem dX6_child_40 : decode cX6_child 40 = .ok (.iload_n 1, 1) := by decide +kernel
theorem dX6_child_41 : decode cX6_child 41 = .ok (.iload_n 2, 1) := by decide +kernel
theorem dX6_child_42 : decode cX6_child 42 = .ok (.invokevirtual 100, 3) := by decide +kernel
theorem dX6_child_45 : decode cX6_child 45 = .ok (.ireturn, 1) := by decide +kernel
set_option maxRecDepth 20000 in
theorem ggX6_of_X6_isThere : GoodIn wsX6_of wsX6_isThere := goodIn_r _ [11, 1, 12, 13, 14, 10, 15, 49, 50, 51, 52, 53, 54, 55, 56, 57, 58, 59, 60, 61, 62, 63, 64, 65, 66, 67, 68] (by decide +kernel) (by decide +kernel)
set_option maxRecDepth 20000 in
theorem gX6_of_X6_isThere : GoodIn wsX6_of (wsV RX6 104 RX6 yX6_isThere wsX6_isThere) := goodIn_app (goodIn_of _ (by decide +kernel)) ggX6_of_X6_isThere
set_option maxRecDepth 20000 in
theorem ggX6_of_X6_finding : GoodIn wsX6_of wsX6_finding := goodIn_r _ [19, 20, 21, 49, 50, 51, 52, 53, 54, 55, 56, 57] (by decide +kernel) (by decide +kernel)
set_option maxRecDepth 20000 in
theorem gX6_of_X6_finding : GoodIn wsX6_of (wsV RX6 60 RX6 yX6_finding wsX6_finding) := goodIn_app (goodIn_of _ (by decide +kernel)) ggX6_of_X6_finding
set_option maxRecDepth 20000 in
theorem ggX6_of_X4_gladOf : GoodIn wsX6_of wsX4_gladOf := goodIn_r _ [26, 27, 28, 29, 30, 25, 31, 32, 33, 34, 35, 36, 37, 38, 39, 40, 41, 42, 58, 59, 60, 61, 62, 63, 64, 65, 66, 67, 68] (by decide +kernel) (by decide +kernel)
set_option maxRecDepth 20000 in
theorem gX6_of_X4_gladOf : GoodIn wsX6_of (wsV RX6 119 RX4 yX4_gladOf wsX4_gladOf) := goodIn_app (goodIn_of _ (by decide +kernel)) ggX6_of_X4_gladOf
set_option maxRecDepth 20000 in
theorem ggX6_of_X1_asksOf : GoodIn wsX6_of wsX1_asksOf := goodIn_r _ [45] (by decide +kernel) (by decide +kernel)
set_option maxRecDepth 20000 in
theorem gX6_of_X1_asksOf : GoodIn wsX6_of (va_wsS RX6 122 yX1_asksOf wsX1_asksOf) := goodIn_app (goodIn_of _ (by decide +kernel)) ggX6_of_X1_asksOf
set_option maxRecDepth 20000 in
theorem ggX6_of_X1_losesOf : GoodIn wsX6_of wsX1_losesOf := goodIn_r _ [48] (by decide +kernel) (by decide +kernel)
set_option maxRecDepth 20000 in
theorem gX6_of_X1_losesOf : GoodIn wsX6_of (va_wsS RX6 125 yX1_losesOf wsX1_losesOf) := goodIn_app (goodIn_of _ (by decide +kernel)) ggX6_of_X1_losesOf
theorem dX6_of_0 : decode cX6_of 0 = .ok (.aload_n 0, 1) := by decide +kernel
theorem dX6_of_1 : decode cX6_of 1 = .ok (.iload_n 1, 1) := by decide +kernel
theorem dX6_of_2 : decode cX6_of 2 = .ok (.invokevirtual 104, 3) := by decide +kernel
theorem dX6_of_5 : decode cX6_of 5 = .ok (.ifCond .ne 9, 3) := by decide +kernel
theorem dX6_of_8 : decode cX6_of 8 = .ok (.aload_n 0, 1) := by decide +kernel
theorem dX6_of_9 : decode cX6_of 9 = .ok (.iconst 0, 1) := by decide +kernel
theorem dX6_of_10 : decode cX6_of 10 = .ok (.invokevirtual 60, 3) := by decide +kernel
theorem dX6_of_13 : decode cX6_of 13 = .ok (.ireturn, 1) := by decide +kernel
theorem dX6_of_14 : decode cX6_of 14 = .ok (.iload_n 2, 1) := by decide +kernel
theorem dX6_of_15 : decode cX6_of 15 = .ok (.tableswitch 123 0 6 #[41, 51, 61, 71, 81, 90, 110], 41) := by decide +kernel
theorem dX6_of_56 : decode cX6_of 56 = .ok (.aload_n 0, 1) := by decide +kernel
theorem dX6_of_57 : decode cX6_of 57 = .ok (.getfield 10, 3) := by decide +kernel
theorem dX6_of_60 : decode cX6_of 60 = .ok (.getfield 107, 3) := by decide +kernel
theorem dX6_of_63 : decode cX6_of 63 = .ok (.iload_n 1, 1) := by decide +kernel
theorem dX6_of_64 : decode cX6_of 64 = .ok (.iaload, 1) := by decide +kernel
theorem dX6_of_65 : decode cX6_of 65 = .ok (.ireturn, 1) := by decide +kernel
theorem dX6_of_66 : decode cX6_of 66 = .ok (.aload_n 0, 1) := by decide +kernel
theorem dX6_of_67 : decode cX6_of 67 = .ok (.getfield 10, 3) := by decide +kernel
theorem dX6_of_70 : decode cX6_of 70 = .ok (.getfield 110, 3) := by decide +kernel
theorem dX6_of_73 : decode cX6_of 73 = .ok (.iload_n 1, 1) := by decide +kernel
theorem dX6_of_74 : decode cX6_of 74 = .ok (.iaload, 1) := by decide +kernel
theorem dX6_of_75 : decode cX6_of 75 = .ok (.ireturn, 1) := by decide +kernel
theorem dX6_of_76 : decode cX6_of 76 = .ok (.aload_n 0, 1) := by decide +kernel
theorem dX6_of_77 : decode cX6_of 77 = .ok (.getfield 10, 3) := by decide +kernel
theorem dX6_of_80 : decode cX6_of 80 = .ok (.getfield 113, 3) := by decide +kernel
theorem dX6_of_83 : decode cX6_of 83 = .ok (.iload_n 1, 1) := by decide +kernel
theorem dX6_of_84 : decode cX6_of 84 = .ok (.iaload, 1) := by decide +kernel
theorem dX6_of_85 : decode cX6_of 85 = .ok (.ireturn, 1) := by decide +kernel
theorem dX6_of_86 : decode cX6_of 86 = .ok (.aload_n 0, 1) := by decide +kernel
theorem dX6_of_87 : decode cX6_of 87 = .ok (.getfield 10, 3) := by decide +kernel
theorem dX6_of_90 : decode cX6_of 90 = .ok (.getfield 116, 3) := by decide +kernel
theorem dX6_of_93 : decode cX6_of 93 = .ok (.iload_n 1, 1) := by decide +kernel
theorem dX6_of_94 : decode cX6_of 94 = .ok (.iaload, 1) := by decide +kernel
theorem dX6_of_95 : decode cX6_of 95 = .ok (.ireturn, 1) := by decide +kernel
theorem dX6_of_96 : decode cX6_of 96 = .ok (.aload_n 0, 1) := by decide +kernel
theorem dX6_of_97 : decode cX6_of 97 = .ok (.getfield 10, 3) := by decide +kernel
theorem dX6_of_100 : decode cX6_of 100 = .ok (.iload_n 1, 1) := by decide +kernel
theorem dX6_of_101 : decode cX6_of 101 = .ok (.invokevirtual 119, 3) := by decide +kernel
theorem dX6_of_104 : decode cX6_of 104 = .ok (.ireturn, 1) := by decide +kernel
theorem dX6_of_105 : decode cX6_of 105 = .ok (.aload_n 0, 1) := by decide +kernel
theorem dX6_of_106 : decode cX6_of 106 = .ok (.getfield 10, 3) := by decide +kernel
theorem dX6_of_109 : decode cX6_of 109 = .ok (.getfield 107, 3) := by decide +kernel
theorem dX6_of_112 : decode cX6_of 112 = .ok (.iload_n 1, 1) := by decide +kernel
theorem dX6_of_113 : decode cX6_of 113 = .ok (.iaload, 1) := by decide +kernel
theorem dX6_of_114 : decode cX6_of 114 = .ok (.aload_n 0, 1) := by decide +kernel
theorem dX6_of_115 : decode cX6_of 115 = .ok (.getfield 10, 3) := by decide +kernel
theorem dX6_of_118 : decode cX6_of 118 = .ok (.getfield 68, 3) := by decide +kernel
theorem dX6_of_121 : decode cX6_of 121 = .ok (.invokestatic 122, 3) := by decide +kernel
theorem dX6_of_124 : decode cX6_of 124 = .ok (.ireturn, 1) := by decide +kernel
theorem dX6_of_125 : decode cX6_of 125 = .ok (.aload_n 0, 1) := by decide +kernel
theorem dX6_of_126 : decode cX6_of 126 = .ok (.getfield 10, 3) := by decide +kernel
theorem dX6_of_129 : decode cX6_of 129 = .ok (.getfield 107, 3) := by decide +kernel
theorem dX6_of_132 : decode cX6_of 132 = .ok (.iload_n 1, 1) := by decide +kernel
theorem dX6_of_133 : decode cX6_of 133 = .ok (.iaload, 1) := by decide +kernel
theorem dX6_of_134 : decode cX6_of 134 = .ok (.invokestatic 125, 3) := by decide +kernel
theorem dX6_of_137 : decode cX6_of 137 = .ok (.ireturn, 1) := by decide +kernel
theorem dX6_of_138 : decode cX6_of 138 = .ok (.aload_n 0, 1) := by decide +kernel
theorem dX6_of_139 : decode cX6_of 139 = .ok (.iconst 0, 1) := by decide +kernel
theorem dX6_of_140 : decode cX6_of 140 = .ok (.invokevirtual 60, 3) := by decide +kernel
theorem dX6_of_143 : decode cX6_of 143 = .ok (.ireturn, 1) := by decide +kernel
set_option maxRecDepth 20000 in
theorem ggX6_set_X6_isThere : GoodIn wsX6_set wsX6_isThere := goodIn_r _ [9, 1, 10, 11, 12, 8, 13, 30, 31, 32, 33, 34, 35, 36, 37, 38, 39, 40, 41, 42, 43, 44, 45, 46, 47, 48, 49] (by decide +kernel) (by decide +kernel)
set_option maxRecDepth 20000 in
theorem gX6_set_X6_isThere : GoodIn wsX6_set (wsV RX6 104 RX6 yX6_isThere wsX6_isThere) := goodIn_app (goodIn_of _ (by decide +kernel)) ggX6_set_X6_isThere
set_option maxRecDepth 20000 in
theorem ggX6_set_X6_isWithin : GoodIn wsX6_set wsX6_isWithin := goodIn_r _ [13] (by decide +kernel) (by decide +kernel)
set_option maxRecDepth 20000 in
theorem gX6_set_X6_isWithin : GoodIn wsX6_set (va_wsS RX6 56 yX6_isWithin wsX6_isWithin) := goodIn_app (goodIn_of _ (by decide +kernel)) ggX6_set_X6_isWithin
set_option maxRecDepth 20000 in
theorem ggX6_set_X6_mostOf : GoodIn wsX6_set wsX6_mostOf := goodIn_r _ [16] (by decide +kernel) (by decide +kernel)
set_option maxRecDepth 20000 in
theorem gX6_set_X6_mostOf : GoodIn wsX6_set (va_wsS RX6 128 yX6_mostOf wsX6_mostOf) := goodIn_app (goodIn_of _ (by decide +kernel)) ggX6_set_X6_mostOf
set_option maxRecDepth 20000 in
theorem ggX6_set_X6_finding : GoodIn wsX6_set wsX6_finding := goodIn_r _ [20, 21, 22, 30, 31, 32, 33, 34, 35, 36, 37, 38] (by decide +kernel) (by decide +kernel)
set_option maxRecDepth 20000 in
theorem gX6_set_X6_finding : GoodIn wsX6_set (wsV RX6 60 RX6 yX6_finding wsX6_finding) := goodIn_app (goodIn_of _ (by decide +kernel)) ggX6_set_X6_finding
set_option maxRecDepth 20000 in
theorem ggX6_set_X4_give : GoodIn wsX6_set wsX4_give := goodIn_r _ [27, 28, 29, 39, 40, 41, 42, 43, 44, 45, 46, 47, 48, 49] (by decide +kernel) (by decide +kernel)
set_option maxRecDepth 20000 in
theorem gX6_set_X4_give : GoodIn wsX6_set (wsV RX6 131 RX4 yX4_give wsX4_give) := goodIn_app (goodIn_of _ (by decide +kernel)) ggX6_set_X4_give
theorem dX6_set_0 : decode cX6_set 0 = .ok (.aload_n 0, 1) := by decide +kernel
theorem dX6_set_1 : decode cX6_set 1 = .ok (.iload_n 1, 1) := by decide +kernel
theorem dX6_set_2 : decode cX6_set 2 = .ok (.invokevirtual 104, 3) := by decide +kernel
theorem dX6_set_5 : decode cX6_set 5 = .ok (.ifCond .eq 24, 3) := by decide +kernel
theorem dX6_set_8 : decode cX6_set 8 = .ok (.iload_n 2, 1) := by decide +kernel
theorem dX6_set_9 : decode cX6_set 9 = .ok (.iconst 1, 1) := by decide +kernel
theorem dX6_set_10 : decode cX6_set 10 = .ok (.iconst 3, 1) := by decide +kernel
theorem dX6_set_11 : decode cX6_set 11 = .ok (.invokestatic 56, 3) := by decide +kernel
theorem dX6_set_14 : decode cX6_set 14 = .ok (.ifCond .eq 15, 3) := by decide +kernel
theorem dX6_set_17 : decode cX6_set 17 = .ok (.iload_n 3, 1) := by decide +kernel
theorem dX6_set_18 : decode cX6_set 18 = .ok (.iconst 0, 1) := by decide +kernel
theorem dX6_set_19 : decode cX6_set 19 = .ok (.iload_n 2, 1) := by decide +kernel
theorem dX6_set_20 : decode cX6_set 20 = .ok (.invokestatic 128, 3) := by decide +kernel
theorem dX6_set_23 : decode cX6_set 23 = .ok (.invokestatic 56, 3) := by decide +kernel
theorem dX6_set_26 : decode cX6_set 26 = .ok (.ifCond .ne 9, 3) := by decide +kernel
theorem dX6_set_29 : decode cX6_set 29 = .ok (.aload_n 0, 1) := by decide +kernel
theorem dX6_set_30 : decode cX6_set 30 = .ok (.iconst 0, 1) := by decide +kernel
theorem dX6_set_31 : decode cX6_set 31 = .ok (.invokevirtual 60, 3) := by decide +kernel
theorem dX6_set_34 : decode cX6_set 34 = .ok (.ireturn, 1) := by decide +kernel
theorem dX6_set_35 : decode cX6_set 35 = .ok (.iload_n 2, 1) := by decide +kernel
theorem dX6_set_36 : decode cX6_set 36 = .ok (.iconst 1, 1) := by decide +kernel
theorem dX6_set_37 : decode cX6_set 37 = .ok (.if_icmp .ne 26, 3) := by decide +kernel
theorem dX6_set_40 : decode cX6_set 40 = .ok (.aload_n 0, 1) := by decide +kernel
theorem dX6_set_41 : decode cX6_set 41 = .ok (.getfield 10, 3) := by decide +kernel
theorem dX6_set_44 : decode cX6_set 44 = .ok (.getfield 110, 3) := by decide +kernel
theorem dX6_set_47 : decode cX6_set 47 = .ok (.iload_n 1, 1) := by decide +kernel
theorem dX6_set_48 : decode cX6_set 48 = .ok (.iaload, 1) := by decide +kernel
theorem dX6_set_49 : decode cX6_set 49 = .ok (.istore 4, 2) := by decide +kernel
theorem dX6_set_51 : decode cX6_set 51 = .ok (.aload_n 0, 1) := by decide +kernel
theorem dX6_set_52 : decode cX6_set 52 = .ok (.getfield 10, 3) := by decide +kernel
theorem dX6_set_55 : decode cX6_set 55 = .ok (.iload_n 1, 1) := by decide +kernel
theorem dX6_set_56 : decode cX6_set 56 = .ok (.iload_n 3, 1) := by decide +kernel
theorem dX6_set_57 : decode cX6_set 57 = .ok (.invokevirtual 131, 3) := by decide +kernel
theorem dX6_set_60 : decode cX6_set 60 = .ok (.goto 53, 3) := by decide +kernel
theorem dX6_set_63 : decode cX6_set 63 = .ok (.iload_n 2, 1) := by decide +kernel
theorem dX6_set_64 : decode cX6_set 64 = .ok (.iconst 2, 1) := by decide +kernel
theorem dX6_set_65 : decode cX6_set 65 = .ok (.if_icmp .ne 27, 3) := by decide +kernel
theorem dX6_set_68 : decode cX6_set 68 = .ok (.aload_n 0, 1) := by decide +kernel
theorem dX6_set_69 : decode cX6_set 69 = .ok (.getfield 10, 3) := by decide +kernel
theorem dX6_set_72 : decode cX6_set 72 = .ok (.getfield 113, 3) := by decide +kernel
theorem dX6_set_75 : decode cX6_set 75 = .ok (.iload_n 1, 1) := by decide +kernel
theorem dX6_set_76 : decode cX6_set 76 = .ok (.iaload, 1) := by decide +kernel
theorem dX6_set_77 : decode cX6_set 77 = .ok (.istore 4, 2) := by decide +kernel
theorem dX6_set_79 : decode cX6_set 79 = .ok (.aload_n 0, 1) := by decide +kernel
theorem dX6_set_80 : decode cX6_set 80 = .ok (.getfield 10, 3) := by decide +kernel
theorem dX6_set_83 : decode cX6_set 83 = .ok (.getfield 113, 3) := by decide +kernel
theorem dX6_set_86 : decode cX6_set 86 = .ok (.iload_n 1, 1) := by decide +kernel
theorem dX6_set_87 : decode cX6_set 87 = .ok (.iload_n 3, 1) := by decide +kernel
theorem dX6_set_88 : decode cX6_set 88 = .ok (.iastore, 1) := by decide +kernel
theorem dX6_set_89 : decode cX6_set 89 = .ok (.goto 24, 3) := by decide +kernel
theorem dX6_set_92 : decode cX6_set 92 = .ok (.aload_n 0, 1) := by decide +kernel
theorem dX6_set_93 : decode cX6_set 93 = .ok (.getfield 10, 3) := by decide +kernel
theorem dX6_set_96 : decode cX6_set 96 = .ok (.getfield 116, 3) := by decide +kernel
theorem dX6_set_99 : decode cX6_set 99 = .ok (.iload_n 1, 1) := by decide +kernel
theorem dX6_set_100 : decode cX6_set 100 = .ok (.iaload, 1) := by decide +kernel
theorem dX6_set_101 : decode cX6_set 101 = .ok (.istore 4, 2) := by decide +kernel
theorem dX6_set_103 : decode cX6_set 103 = .ok (.aload_n 0, 1) := by decide +kernel
theorem dX6_set_104 : decode cX6_set 104 = .ok (.getfield 10, 3) := by decide +kernel
theorem dX6_set_107 : decode cX6_set 107 = .ok (.getfield 116, 3) := by decide +kernel
theorem dX6_set_110 : decode cX6_set 110 = .ok (.iload_n 1, 1) := by decide +kernel
theorem dX6_set_111 : decode cX6_set 111 = .ok (.iload_n 3, 1) := by decide +kernel
theorem dX6_set_112 : decode cX6_set 112 = .ok (.iastore, 1) := by decide +kernel
theorem dX6_set_113 : decode cX6_set 113 = .ok (.iload 4, 2) := by decide +kernel
theorem dX6_set_115 : decode cX6_set 115 = .ok (.ireturn, 1) := by decide +kernel
set_option maxRecDepth 20000 in
theorem ggX6_likes_X6_isThere : GoodIn wsX6_likes wsX6_isThere := goodIn_r _ [6, 1, 7, 8, 9, 5, 10, 30, 31, 32, 33, 34, 35, 36, 37, 38, 39, 40, 41, 42, 43, 44, 45, 46, 47, 48, 49] (by decide +kernel) (by decide +kernel)
set_option maxRecDepth 20000 in
theorem gX6_likes_X6_isThere : GoodIn wsX6_likes (wsV RX6 104 RX6 yX6_isThere wsX6_isThere) := goodIn_app (goodIn_of _ (by decide +kernel)) ggX6_likes_X6_isThere
set_option maxRecDepth 20000 in
theorem ggX6_likes_X6_isThing : GoodIn wsX6_likes wsX6_isThing := goodIn_r _ [13, 8, 9, 5, 10] (by decide +kernel) (by decide +kernel)
set_option maxRecDepth 20000 in
theorem gX6_likes_X6_isThing : GoodIn wsX6_likes (va_wsS RX6 85 yX6_isThing wsX6_isThing) := goodIn_app (goodIn_of _ (by decide +kernel)) ggX6_likes_X6_isThing
set_option maxRecDepth 20000 in
theorem ggX6_likes_X6_isWithin : GoodIn wsX6_likes wsX6_isWithin := goodIn_r _ [10] (by decide +kernel) (by decide +kernel)
set_option maxRecDepth 20000 in
theorem gX6_likes_X6_isWithin : GoodIn wsX6_likes (va_wsS RX6 56 yX6_isWithin wsX6_isWithin) := goodIn_app (goodIn_of _ (by decide +kernel)) ggX6_likes_X6_isWithin
set_option maxRecDepth 20000 in
theorem ggX6_likes_X6_finding : GoodIn wsX6_likes wsX6_finding := goodIn_r _ [17, 18, 19, 30, 31, 32, 33, 34, 35, 36, 37, 38] (by decide +kernel) (by decide +kernel)
set_option maxRecDepth 20000 in
theorem gX6_likes_X6_finding : GoodIn wsX6_likes (wsV RX6 60 RX6 yX6_finding wsX6_finding) := goodIn_app (goodIn_of _ (by decide +kernel)) ggX6_likes_X6_finding
set_option maxRecDepth 20000 in
theorem ggX6_likes_X4_likedBy : GoodIn wsX6_likes wsX4_likedBy := goodIn_r _ [24, 25, 39, 40, 41, 42, 43, 44, 45, 46, 47, 48, 49] (by decide +kernel) (by decide +kernel)
set_option maxRecDepth 20000 in
theorem gX6_likes_X4_likedBy : GoodIn wsX6_likes (wsV RX6 135 RX4 yX4_likedBy wsX4_likedBy) := goodIn_app (goodIn_of _ (by decide +kernel)) ggX6_likes_X4_likedBy
set_option maxRecDepth 20000 in
theorem ggX6_likes_X4_makeLike : GoodIn wsX6_likes wsX4_makeLike := goodIn_r _ [29, 25, 39, 40, 41, 42, 43, 44, 45, 46, 47, 48, 49] (by decide +kernel) (by decide +kernel)
set_option maxRecDepth 20000 in
theorem gX6_likes_X4_makeLike : GoodIn wsX6_likes (wsV RX6 138 RX4 yX4_makeLike wsX4_makeLike) := goodIn_app (goodIn_of _ (by decide +kernel)) ggX6_likes_X4_makeLike
theorem dX6_likes_0 : decode cX6_likes 0 = .ok (.aload_n 0, 1) := by decide +kernel
theorem dX6_likes_1 : decode cX6_likes 1 = .ok (.iload_n 1, 1) := by decide +kernel
theorem dX6_likes_2 : decode cX6_likes 2 = .ok (.invokevirtual 104, 3) := by decide +kernel
theorem dX6_likes_5 : decode cX6_likes 5 = .ok (.ifCond .eq 20, 3) := by decide +kernel
theorem dX6_likes_8 : decode cX6_likes 8 = .ok (.iload_n 2, 1) := by decide +kernel
theorem dX6_likes_9 : decode cX6_likes 9 = .ok (.invokestatic 85, 3) := by decide +kernel
theorem dX6_likes_12 : decode cX6_likes 12 = .ok (.ifCond .eq 13, 3) := by decide +kernel
theorem dX6_likes_15 : decode cX6_likes 15 = .ok (.iload_n 3, 1) := by decide +kernel
theorem dX6_likes_16 : decode cX6_likes 16 = .ok (.iconst 0, 1) := by decide +kernel
theorem dX6_likes_17 : decode cX6_likes 17 = .ok (.bipush 20, 2) := by decide +kernel
theorem dX6_likes_19 : decode cX6_likes 19 = .ok (.invokestatic 56, 3) := by decide +kernel
theorem dX6_likes_22 : decode cX6_likes 22 = .ok (.ifCond .ne 9, 3) := by decide +kernel
theorem dX6_likes_25 : decode cX6_likes 25 = .ok (.aload_n 0, 1) := by decide +kernel
theorem dX6_likes_26 : decode cX6_likes 26 = .ok (.iconst 0, 1) := by decide +kernel
theorem dX6_likes_27 : decode cX6_likes 27 = .ok (.invokevirtual 60, 3) := by decide +kernel
theorem dX6_likes_30 : decode cX6_likes 30 = .ok (.ireturn, 1) := by decide +kernel
theorem dX6_likes_31 : decode cX6_likes 31 = .ok (.aload_n 0, 1) := by decide +kernel
theorem dX6_likes_32 : decode cX6_likes 32 = .ok (.getfield 10, 3) := by decide +kernel
theorem dX6_likes_35 : decode cX6_likes 35 = .ok (.iload_n 1, 1) := by decide +kernel
theorem dX6_likes_36 : decode cX6_likes 36 = .ok (.iload_n 2, 1) := by decide +kernel
theorem dX6_likes_37 : decode cX6_likes 37 = .ok (.invokevirtual 135, 3) := by decide +kernel
theorem dX6_likes_40 : decode cX6_likes 40 = .ok (.istore 4, 2) := by decide +kernel
theorem dX6_likes_42 : decode cX6_likes 42 = .ok (.aload_n 0, 1) := by decide +kernel
theorem dX6_likes_43 : decode cX6_likes 43 = .ok (.getfield 10, 3) := by decide +kernel
theorem dX6_likes_46 : decode cX6_likes 46 = .ok (.iload_n 1, 1) := by decide +kernel
theorem dX6_likes_47 : decode cX6_likes 47 = .ok (.iload_n 2, 1) := by decide +kernel
theorem dX6_likes_48 : decode cX6_likes 48 = .ok (.iload_n 3, 1) := by decide +kernel
theorem dX6_likes_49 : decode cX6_likes 49 = .ok (.invokevirtual 138, 3) := by decide +kernel
theorem dX6_likes_52 : decode cX6_likes 52 = .ok (.iload 4, 2) := by decide +kernel
theorem dX6_likes_54 : decode cX6_likes 54 = .ok (.ireturn, 1) := by decide +kernel
set_option maxRecDepth 20000 in
theorem ggX6_worth_X6_isThere : GoodIn wsX6_worth wsX6_isThere := goodIn_r _ [6, 1, 7, 8, 9, 5, 10, 36, 37, 38, 39, 40, 41, 42, 43, 44, 45, 46, 47, 48, 49, 50, 51, 52, 53, 54, 55] (by decide +kernel) (by decide +kernel)
set_option maxRecDepth 20000 in
theorem gX6_worth_X6_isThere : GoodIn wsX6_worth (wsV RX6 104 RX6 yX6_isThere wsX6_isThere) := goodIn_app (goodIn_of _ (by decide +kernel)) ggX6_worth_X6_isThere
set_option maxRecDepth 20000 in
theorem ggX6_worth_X6_isThing : GoodIn wsX6_worth wsX6_isThing := goodIn_r _ [13, 8, 9, 5, 10] (by decide +kernel) (by decide +kernel)
set_option maxRecDepth 20000 in
theorem gX6_worth_X6_isThing : GoodIn wsX6_worth (va_wsS RX6 85 yX6_isThing wsX6_isThing) := goodIn_app (goodIn_of _ (by decide +kernel)) ggX6_worth_X6_isThing
set_option maxRecDepth 20000 in
theorem ggX6_worth_X6_finding : GoodIn wsX6_worth wsX6_finding := goodIn_r _ [17, 18, 19, 36, 37, 38, 39, 40, 41, 42, 43, 44] (by decide +kernel) (by decide +kernel)
set_option maxRecDepth 20000 in
theorem gX6_worth_X6_finding : GoodIn wsX6_worth (wsV RX6 60 RX6 yX6_finding wsX6_finding) := goodIn_app (goodIn_of _ (by decide +kernel)) ggX6_worth_X6_finding
set_option maxRecDepth 20000 in
theorem ggX6_worth_X4_worthTo : GoodIn wsX6_worth wsX4_worthTo := goodIn_r _ [24, 25, 26, 27, 28, 29, 23, 30, 31, 32, 33, 34, 35, 45, 46, 47, 48, 49, 50, 51, 52, 53, 54, 55] (by decide +kernel) (by decide +kernel)
set_option maxRecDepth 20000 in
theorem gX6_worth_X4_worthTo : GoodIn wsX6_worth (wsV RX6 142 RX4 yX4_worthTo wsX4_worthTo) := goodIn_app (goodIn_of _ (by decide +kernel)) ggX6_worth_X4_worthTo
theorem dX6_worth_0 : decode cX6_worth 0 = .ok (.aload_n 0, 1) := by decide +kernel
theorem dX6_worth_1 : decode cX6_worth 1 = .ok (.iload_n 1, 1) := by decide +kernel
theorem dX6_worth_2 : decode cX6_worth 2 = .ok (.invokevirtual 104, 3) := by decide +kernel
theorem dX6_worth_5 : decode cX6_worth 5 = .ok (.ifCond .eq 10, 3) := by decide +kernel
theorem dX6_worth_8 : decode cX6_worth 8 = .ok (.iload_n 2, 1) := by decide +kernel
theorem dX6_worth_9 : decode cX6_worth 9 = .ok (.invokestatic 85, 3) := by decide +kernel
theorem dX6_worth_12 : decode cX6_worth 12 = .ok (.ifCond .ne 9, 3) := by decide +kernel
theorem dX6_worth_15 : decode cX6_worth 15 = .ok (.aload_n 0, 1) := by decide +kernel
theorem dX6_worth_16 : decode cX6_worth 16 = .ok (.iconst 0, 1) := by decide +kernel
theorem dX6_worth_17 : decode cX6_worth 17 = .ok (.invokevirtual 60, 3) := by decide +kernel
theorem dX6_worth_20 : decode cX6_worth 20 = .ok (.ireturn, 1) := by decide +kernel
theorem dX6_worth_21 : decode cX6_worth 21 = .ok (.aload_n 0, 1) := by decide +kernel
theorem dX6_worth_22 : decode cX6_worth 22 = .ok (.getfield 10, 3) := by decide +kernel
theorem dX6_worth_25 : decode cX6_worth 25 = .ok (.iload_n 1, 1) := by decide +kernel
theorem dX6_worth_26 : decode cX6_worth 26 = .ok (.iload_n 2, 1) := by decide +kernel
theorem dX6_worth_27 : decode cX6_worth 27 = .ok (.invokevirtual 142, 3) := by decide +kernel
theorem dX6_worth_30 : decode cX6_worth 30 = .ok (.ireturn, 1) := by decide +kernel
set_option maxRecDepth 20000 in
theorem ggX6_agrees_X6_isThere : GoodIn wsX6_agrees wsX6_isThere := goodIn_r _ [6, 1, 7, 8, 9, 5, 10, 46, 47, 48, 49, 50, 51, 52, 53, 54, 55, 56, 57, 58, 59, 60, 61, 62, 63, 64, 65] (by decide +kernel) (by decide +kernel)
set_option maxRecDepth 20000 in
theorem gX6_agrees_X6_isThere : GoodIn wsX6_agrees (wsV RX6 104 RX6 yX6_isThere wsX6_isThere) := goodIn_app (goodIn_of _ (by decide +kernel)) ggX6_agrees_X6_isThere
set_option maxRecDepth 20000 in
theorem ggX6_agrees_X6_isThing : GoodIn wsX6_agrees wsX6_isThing := goodIn_r _ [13, 8, 9, 5, 10] (by decide +kernel) (by decide +kernel)
set_option maxRecDepth 20000 in
theorem gX6_agrees_X6_isThing : GoodIn wsX6_agrees (va_wsS RX6 85 yX6_isThing wsX6_isThing) := goodIn_app (goodIn_of _ (by decide +kernel)) ggX6_agrees_X6_isThing
set_option maxRecDepth 20000 in
theorem ggX6_agrees_X6_finding : GoodIn wsX6_agrees wsX6_finding := goodIn_r _ [17, 18, 19, 46, 47, 48, 49, 50, 51, 52, 53, 54] (by decide +kernel) (by decide +kernel)
set_option maxRecDepth 20000 in
theorem gX6_agrees_X6_finding : GoodIn wsX6_agrees (wsV RX6 60 RX6 yX6_finding wsX6_finding) := goodIn_app (goodIn_of _ (by decide +kernel)) ggX6_agrees_X6_finding
set_option maxRecDepth 20000 in
theorem ggX6_agrees_X4_agreesTo : GoodIn wsX6_agrees wsX4_agreesTo := goodIn_r _ [24, 25, 26, 27, 28, 29, 30, 31, 23, 32, 33, 34, 35, 36, 37, 38, 39, 40, 41, 42, 43, 44, 45, 55, 56, 57, 58, 59, 60, 61, 62, 63, 64, 65] (by decide +kernel) (by decide +kernel)
set_option maxRecDepth 20000 in
theorem gX6_agrees_X4_agreesTo : GoodIn wsX6_agrees (wsV RX6 145 RX4 yX4_agreesTo wsX4_agreesTo) := goodIn_app (goodIn_of _ (by decide +kernel)) ggX6_agrees_X4_agreesTo
theorem dX6_agrees_0 : decode cX6_agrees 0 = .ok (.aload_n 0, 1) := by decide +kernel
theorem dX6_agrees_1 : decode cX6_agrees 1 = .ok (.iload_n 1, 1) := by decide +kernel
theorem dX6_agrees_2 : decode cX6_agrees 2 = .ok (.invokevirtual 104, 3) := by decide +kernel
theorem dX6_agrees_5 : decode cX6_agrees 5 = .ok (.ifCond .eq 10, 3) := by decide +kernel
theorem dX6_agrees_8 : decode cX6_agrees 8 = .ok (.iload_n 2, 1) := by decide +kernel
theorem dX6_agrees_9 : decode cX6_agrees 9 = .ok (.invokestatic 85, 3) := by decide +kernel
theorem dX6_agrees_12 : decode cX6_agrees 12 = .ok (.ifCond .ne 9, 3) := by decide +kernel
theorem dX6_agrees_15 : decode cX6_agrees 15 = .ok (.aload_n 0, 1) := by decide +kernel
theorem dX6_agrees_16 : decode cX6_agrees 16 = .ok (.iconst 0, 1) := by decide +kernel
theorem dX6_agrees_17 : decode cX6_agrees 17 = .ok (.invokevirtual 60, 3) := by decide +kernel
theorem dX6_agrees_20 : decode cX6_agrees 20 = .ok (.ireturn, 1) := by decide +kernel
theorem dX6_agrees_21 : decode cX6_agrees 21 = .ok (.aload_n 0, 1) := by decide +kernel
theorem dX6_agrees_22 : decode cX6_agrees 22 = .ok (.getfield 10, 3) := by decide +kernel
theorem dX6_agrees_25 : decode cX6_agrees 25 = .ok (.iload_n 1, 1) := by decide +kernel
theorem dX6_agrees_26 : decode cX6_agrees 26 = .ok (.iload_n 2, 1) := by decide +kernel
theorem dX6_agrees_27 : decode cX6_agrees 27 = .ok (.invokevirtual 145, 3) := by decide +kernel
theorem dX6_agrees_30 : decode cX6_agrees 30 = .ok (.ifCond .eq 7, 3) := by decide +kernel
theorem dX6_agrees_33 : decode cX6_agrees 33 = .ok (.iconst 1, 1) := by decide +kernel
theorem dX6_agrees_34 : decode cX6_agrees 34 = .ok (.goto 4, 3) := by decide +kernel
theorem dX6_agrees_37 : decode cX6_agrees 37 = .ok (.iconst 0, 1) := by decide +kernel
theorem dX6_agrees_38 : decode cX6_agrees 38 = .ok (.ireturn, 1) := by decide +kernel
set_option maxRecDepth 20000 in
theorem ggX6_turn_X6_isThere : GoodIn wsX6_turn wsX6_isThere := goodIn_r _ [7, 1, 8, 9, 10, 6, 11, 22, 23, 24, 25, 26, 27, 28, 29, 30, 31, 32, 33, 34, 35, 36, 37, 38, 39, 40, 41] (by decide +kernel) (by decide +kernel)
set_option maxRecDepth 20000 in
theorem gX6_turn_X6_isThere : GoodIn wsX6_turn (wsV RX6 104 RX6 yX6_isThere wsX6_isThere) := goodIn_app (goodIn_of _ (by decide +kernel)) ggX6_turn_X6_isThere
set_option maxRecDepth 20000 in
theorem ggX6_turn_X1_isKind : GoodIn wsX6_turn wsX1_isKind := goodIn_r _ [15] (by decide +kernel) (by decide +kernel)
set_option maxRecDepth 20000 in
theorem gX6_turn_X1_isKind : GoodIn wsX6_turn (va_wsS RX6 92 yX1_isKind wsX1_isKind) := goodIn_app (goodIn_of _ (by decide +kernel)) ggX6_turn_X1_isKind
set_option maxRecDepth 20000 in
theorem ggX6_turn_X6_finding : GoodIn wsX6_turn wsX6_finding := goodIn_r _ [19, 20, 21, 22, 23, 24, 25, 26, 27, 28, 29, 30] (by decide +kernel) (by decide +kernel)
set_option maxRecDepth 20000 in
theorem gX6_turn_X6_finding : GoodIn wsX6_turn (wsV RX6 60 RX6 yX6_finding wsX6_finding) := goodIn_app (goodIn_of _ (by decide +kernel)) ggX6_turn_X6_finding
theorem dX6_turn_0 : decode cX6_turn 0 = .ok (.aload_n 0, 1) := by decide +kernel
theorem dX6_turn_1 : decode cX6_turn 1 = .ok (.iload_n 1, 1) := by decide +kernel
theorem dX6_turn_2 : decode cX6_turn 2 = .ok (.invokevirtual 104, 3) := by decide +kernel
theorem dX6_turn_5 : decode cX6_turn 5 = .ok (.ifCond .eq 10, 3) := by decide +kernel
theorem dX6_turn_8 : decode cX6_turn 8 = .ok (.iload_n 2, 1) := by decide +kernel
theorem dX6_turn_9 : decode cX6_turn 9 = .ok (.invokestatic 92, 3) := by decide +kernel
theorem dX6_turn_12 : decode cX6_turn 12 = .ok (.ifCond .ne 9, 3) := by decide +kernel
theorem dX6_turn_15 : decode cX6_turn 15 = .ok (.aload_n 0, 1) := by decide +kernel
theorem dX6_turn_16 : decode cX6_turn 16 = .ok (.iconst 0, 1) := by decide +kernel
theorem dX6_turn_17 : decode cX6_turn 17 = .ok (.invokevirtual 60, 3) := by decide +kernel
theorem dX6_turn_20 : decode cX6_turn 20 = .ok (.ireturn, 1) := by decide +kernel
theorem dX6_turn_21 : decode cX6_turn 21 = .ok (.aload_n 0, 1) := by decide +kernel
theorem dX6_turn_22 : decode cX6_turn 22 = .ok (.getfield 10, 3) := by decide +kernel
theorem dX6_turn_25 : decode cX6_turn 25 = .ok (.getfield 107, 3) := by decide +kernel
theorem dX6_turn_28 : decode cX6_turn 28 = .ok (.iload_n 1, 1) := by decide +kernel
theorem dX6_turn_29 : decode cX6_turn 29 = .ok (.iaload, 1) := by decide +kernel
theorem dX6_turn_30 : decode cX6_turn 30 = .ok (.istore_n 3, 1) := by decide +kernel
theorem dX6_turn_31 : decode cX6_turn 31 = .ok (.aload_n 0, 1) := by decide +kernel
theorem dX6_turn_32 : decode cX6_turn 32 = .ok (.getfield 10, 3) := by decide +kernel
theorem dX6_turn_35 : decode cX6_turn 35 = .ok (.getfield 107, 3) := by decide +kernel
theorem dX6_turn_38 : decode cX6_turn 38 = .ok (.iload_n 1, 1) := by decide +kernel
theorem dX6_turn_39 : decode cX6_turn 39 = .ok (.iload_n 2, 1) := by decide +kernel
theorem dX6_turn_40 : decode cX6_turn 40 = .ok (.iastore, 1) := by decide +kernel
theorem dX6_turn_41 : decode cX6_turn 41 = .ok (.iload_n 3, 1) := by decide +kernel
theorem dX6_turn_42 : decode cX6_turn 42 = .ok (.ireturn, 1) := by decide +kernel
set_option maxRecDepth 20000 in
theorem ggX6_as_X6_isThere : GoodIn wsX6_as wsX6_isThere := goodIn_r _ [8, 1, 9, 10, 11, 7, 12, 27, 28, 29, 30, 31, 32, 33, 34, 35, 36, 37, 38, 39, 40, 41, 42, 43, 44, 45, 46] (by decide +kernel) (by decide +kernel)
set_option maxRecDepth 20000 in
theorem gX6_as_X6_isThere : GoodIn wsX6_as (wsV RX6 104 RX6 yX6_isThere wsX6_isThere) := goodIn_app (goodIn_of _ (by decide +kernel)) ggX6_as_X6_isThere
set_option maxRecDepth 20000 in
theorem ggX6_as_X1_isKind : GoodIn wsX6_as wsX1_isKind := goodIn_r _ [16] (by decide +kernel) (by decide +kernel)
set_option maxRecDepth 20000 in
theorem gX6_as_X1_isKind : GoodIn wsX6_as (va_wsS RX6 92 yX1_isKind wsX1_isKind) := goodIn_app (goodIn_of _ (by decide +kernel)) ggX6_as_X1_isKind
set_option maxRecDepth 20000 in
theorem ggX6_as_X6_finding : GoodIn wsX6_as wsX6_finding := goodIn_r _ [20, 21, 22, 27, 28, 29, 30, 31, 32, 33, 34, 35] (by decide +kernel) (by decide +kernel)
set_option maxRecDepth 20000 in
theorem gX6_as_X6_finding : GoodIn wsX6_as (wsV RX6 60 RX6 yX6_finding wsX6_finding) := goodIn_app (goodIn_of _ (by decide +kernel)) ggX6_as_X6_finding
set_option maxRecDepth 20000 in
theorem ggX6_as_X1_isUnder : GoodIn wsX6_as wsX1_isUnder := goodIn_r _ [25, 26] (by decide +kernel) (by decide +kernel)
set_option maxRecDepth 20000 in
theorem gX6_as_X1_isUnder : GoodIn wsX6_as (va_wsS RX6 149 yX1_isUnder wsX1_isUnder) := goodIn_app (goodIn_of _ (by decide +kernel)) ggX6_as_X1_isUnder
theorem dX6_as_0 : decode cX6_as 0 = .ok (.aload_n 0, 1) := by decide +kernel
theorem dX6_as_1 : decode cX6_as 1 = .ok (.iload_n 1, 1) := by decide +kernel
theorem dX6_as_2 : decode cX6_as 2 = .ok (.invokevirtual 104, 3) := by decide +kernel
theorem dX6_as_5 : decode cX6_as 5 = .ok (.ifCond .eq 10, 3) := by decide +kernel
theorem dX6_as_8 : decode cX6_as 8 = .ok (.iload_n 2, 1) := by decide +kernel
theorem dX6_as_9 : decode cX6_as 9 = .ok (.invokestatic 92, 3) := by decide +kernel
theorem dX6_as_12 : decode cX6_as 12 = .ok (.ifCond .ne 9, 3) := by decide +kernel
theorem dX6_as_15 : decode cX6_as 15 = .ok (.aload_n 0, 1) := by decide +kernel
theorem dX6_as_16 : decode cX6_as 16 = .ok (.iconst 0, 1) := by decide +kernel
theorem dX6_as_17 : decode cX6_as 17 = .ok (.invokevirtual 60, 3) := by decide +kernel
theorem dX6_as_20 : decode cX6_as 20 = .ok (.ireturn, 1) := by decide +kernel
theorem dX6_as_21 : decode cX6_as 21 = .ok (.aload_n 0, 1) := by decide +kernel
theorem dX6_as_22 : decode cX6_as 22 = .ok (.getfield 10, 3) := by decide +kernel
theorem dX6_as_25 : decode cX6_as 25 = .ok (.getfield 107, 3) := by decide +kernel
theorem dX6_as_28 : decode cX6_as 28 = .ok (.iload_n 1, 1) := by decide +kernel
theorem dX6_as_29 : decode cX6_as 29 = .ok (.iaload, 1) := by decide +kernel
theorem dX6_as_30 : decode cX6_as 30 = .ok (.iload_n 2, 1) := by decide +kernel
theorem dX6_as_31 : decode cX6_as 31 = .ok (.invokestatic 149, 3) := by decide +kernel
theorem dX6_as_34 : decode cX6_as 34 = .ok (.ifCond .ne 9, 3) := by decide +kernel
theorem dX6_as_37 : decode cX6_as 37 = .ok (.aload_n 0, 1) := by decide +kernel
theorem dX6_as_38 : decode cX6_as 38 = .ok (.iconst 2, 1) := by decide +kernel
theorem dX6_as_39 : decode cX6_as 39 = .ok (.invokevirtual 60, 3) := by decide +kernel
theorem dX6_as_42 : decode cX6_as 42 = .ok (.ireturn, 1) := by decide +kernel
theorem dX6_as_43 : decode cX6_as 43 = .ok (.aload_n 0, 1) := by decide +kernel
theorem dX6_as_44 : decode cX6_as 44 = .ok (.getfield 10, 3) := by decide +kernel
theorem dX6_as_47 : decode cX6_as 47 = .ok (.getfield 116, 3) := by decide +kernel
theorem dX6_as_50 : decode cX6_as 50 = .ok (.iload_n 1, 1) := by decide +kernel
theorem dX6_as_51 : decode cX6_as 51 = .ok (.iaload, 1) := by decide +kernel
theorem dX6_as_52 : decode cX6_as 52 = .ok (.ireturn, 1) := by decide +kernel
set_option maxRecDepth 20000 in
theorem ggX6_swap_X6_areTwo : GoodIn wsX6_swap wsX6_areTwo := goodIn_r _ [6, 7, 8, 9, 5, 10, 1, 11, 12, 13, 14, 62, 63, 64, 65, 66, 67, 68, 69, 70, 71, 72, 73, 74, 75, 76, 77, 78, 79, 80, 81] (by decide +kernel) (by decide +kernel)
set_option maxRecDepth 20000 in
theorem gX6_swap_X6_areTwo : GoodIn wsX6_swap (wsV RX6 152 RX6 yX6_areTwo wsX6_areTwo) := goodIn_app (goodIn_of _ (by decide +kernel)) ggX6_swap_X6_areTwo
set_option maxRecDepth 20000 in
theorem ggX6_swap_X6_finding : GoodIn wsX6_swap wsX6_finding := goodIn_r _ [18, 19, 20, 62, 63, 64, 65, 66, 67, 68, 69, 70] (by decide +kernel) (by decide +kernel)
set_option maxRecDepth 20000 in
theorem gX6_swap_X6_finding : GoodIn wsX6_swap (wsV RX6 60 RX6 yX6_finding wsX6_finding) := goodIn_app (goodIn_of _ (by decide +kernel)) ggX6_swap_X6_finding
set_option maxRecDepth 20000 in
theorem ggX6_swap_X4_exchange : GoodIn wsX6_swap wsX4_exchange := goodIn_r _ [25, 26, 27, 28, 29, 24, 30, 31, 32, 33, 34, 35, 36, 37, 38, 39, 40, 41, 42, 43, 44, 71, 72, 73, 74, 75, 76, 77, 78, 79, 80, 81] (by decide +kernel) (by decide +kernel)
set_option maxRecDepth 20000 in
theorem gX6_swap_X4_exchange : GoodIn wsX6_swap (wsV RX6 155 RX4 yX4_exchange wsX4_exchange) := goodIn_app (goodIn_of _ (by decide +kernel)) ggX6_swap_X4_exchange
set_option maxRecDepth 20000 in
theorem ggX6_swap_X4_gladOf : GoodIn wsX6_swap wsX4_gladOf := goodIn_r _ [48, 26, 49, 50, 51, 24, 52, 37, 53, 54, 55, 56, 57, 58, 59, 60, 43, 61, 71, 72, 73, 74, 75, 76, 77, 78, 79, 80, 81] (by decide +kernel) (by decide +kernel)
set_option maxRecDepth 20000 in
theorem gX6_swap_X4_gladOf : GoodIn wsX6_swap (wsV RX6 119 RX4 yX4_gladOf wsX4_gladOf) := goodIn_app (goodIn_of _ (by decide +kernel)) ggX6_swap_X4_gladOf
theorem dX6_swap_0 : decode cX6_swap 0 = .ok (.aload_n 0, 1) := by decide +kernel
theorem dX6_swap_1 : decode cX6_swap 1 = .ok (.iload_n 1, 1) := by decide +kernel
theorem dX6_swap_2 : decode cX6_swap 2 = .ok (.iload_n 2, 1) := by decide +kernel
theorem dX6_swap_3 : decode cX6_swap 3 = .ok (.invokevirtual 152, 3) := by decide +kernel
theorem dX6_swap_6 : decode cX6_swap 6 = .ok (.ifCond .ne 9, 3) := by decide +kernel
theorem dX6_swap_9 : decode cX6_swap 9 = .ok (.aload_n 0, 1) := by decide +kernel
theorem dX6_swap_10 : decode cX6_swap 10 = .ok (.iconst 0, 1) := by decide +kernel
theorem dX6_swap_11 : decode cX6_swap 11 = .ok (.invokevirtual 60, 3) := by decide +kernel
theorem dX6_swap_14 : decode cX6_swap 14 = .ok (.ireturn, 1) := by decide +kernel
theorem dX6_swap_15 : decode cX6_swap 15 = .ok (.aload_n 0, 1) := by decide +kernel
theorem dX6_swap_16 : decode cX6_swap 16 = .ok (.getfield 10, 3) := by decide +kernel
theorem dX6_swap_19 : decode cX6_swap 19 = .ok (.iload_n 1, 1) := by decide +kernel
theorem dX6_swap_20 : decode cX6_swap 20 = .ok (.iload_n 2, 1) := by decide +kernel
theorem dX6_swap_21 : decode cX6_swap 21 = .ok (.invokevirtual 155, 3) := by decide +kernel
theorem dX6_swap_24 : decode cX6_swap 24 = .ok (.aload_n 0, 1) := by decide +kernel
theorem dX6_swap_25 : decode cX6_swap 25 = .ok (.getfield 10, 3) := by decide +kernel
theorem dX6_swap_28 : decode cX6_swap 28 = .ok (.iload_n 1, 1) := by decide +kernel
theorem dX6_swap_29 : decode cX6_swap 29 = .ok (.invokevirtual 119, 3) := by decide +kernel
theorem dX6_swap_32 : decode cX6_swap 32 = .ok (.ireturn, 1) := by decide +kernel
set_option maxRecDepth 20000 in
theorem ggX6_mates_X6_isThere : GoodIn wsX6_mates wsX6_isThere := goodIn_r _ [7, 1, 2, 8, 9, 6, 10, 51, 52, 53, 54, 55, 56, 57, 58, 59, 60, 61, 62, 63, 64, 65, 66, 67, 68, 69, 70] (by decide +kernel) (by decide +kernel)
set_option maxRecDepth 20000 in
theorem gX6_mates_X6_isThere : GoodIn wsX6_mates (wsV RX6 104 RX6 yX6_isThere wsX6_isThere) := goodIn_app (goodIn_of _ (by decide +kernel)) ggX6_mates_X6_isThere
set_option maxRecDepth 20000 in
theorem ggX6_mates_X6_finding : GoodIn wsX6_mates wsX6_finding := goodIn_r _ [14, 15, 16, 51, 52, 53, 54, 55, 56, 57, 58, 59] (by decide +kernel) (by decide +kernel)
set_option maxRecDepth 20000 in
theorem gX6_mates_X6_finding : GoodIn wsX6_mates (wsV RX6 60 RX6 yX6_finding wsX6_finding) := goodIn_app (goodIn_of _ (by decide +kernel)) ggX6_mates_X6_finding
set_option maxRecDepth 20000 in
theorem ggX6_mates_X4_wouldSwap : GoodIn wsX6_mates wsX4_wouldSwap := goodIn_r _ [21, 22, 23, 24, 20, 25, 26, 27, 28, 29, 30, 31, 32, 33, 34, 35, 36, 37, 38, 39, 40, 41, 42, 43, 44, 45, 46, 47, 48, 49, 50, 60, 61, 62, 63, 64, 65, 66, 67, 68, 69, 70] (by decide +kernel) (by decide +kernel)
set_option maxRecDepth 20000 in
theorem gX6_mates_X4_wouldSwap : GoodIn wsX6_mates (wsV RX6 161 RX4 yX4_wouldSwap wsX4_wouldSwap) := goodIn_app (goodIn_of _ (by decide +kernel)) ggX6_mates_X4_wouldSwap
theorem dX6_mates_0 : decode cX6_mates 0 = .ok (.aload_n 0, 1) := by decide +kernel
theorem dX6_mates_1 : decode cX6_mates 1 = .ok (.iload_n 1, 1) := by decide +kernel
theorem dX6_mates_2 : decode cX6_mates 2 = .ok (.invokevirtual 104, 3) := by decide +kernel
theorem dX6_mates_5 : decode cX6_mates 5 = .ok (.ifCond .ne 9, 3) := by decide +kernel
theorem dX6_mates_8 : decode cX6_mates 8 = .ok (.aload_n 0, 1) := by decide +kernel
theorem dX6_mates_9 : decode cX6_mates 9 = .ok (.iconst 0, 1) := by decide +kernel
theorem dX6_mates_10 : decode cX6_mates 10 = .ok (.invokevirtual 60, 3) := by decide +kernel
theorem dX6_mates_13 : decode cX6_mates 13 = .ok (.ireturn, 1) := by decide +kernel
theorem dX6_mates_14 : decode cX6_mates 14 = .ok (.iconst 0, 1) := by decide +kernel
theorem dX6_mates_15 : decode cX6_mates 15 = .ok (.istore_n 2, 1) := by decide +kernel
theorem dX6_mates_16 : decode cX6_mates 16 = .ok (.iconst 0, 1) := by decide +kernel
theorem dX6_mates_17 : decode cX6_mates 17 = .ok (.istore_n 3, 1) := by decide +kernel
theorem dX6_mates_18 : decode cX6_mates 18 = .ok (.iload_n 3, 1) := by decide +kernel
theorem dX6_mates_19 : decode cX6_mates 19 = .ok (.aload_n 0, 1) := by decide +kernel
theorem dX6_mates_20 : decode cX6_mates 20 = .ok (.getfield 10, 3) := by decide +kernel
theorem dX6_mates_23 : decode cX6_mates 23 = .ok (.getfield 158, 3) := by decide +kernel
theorem dX6_mates_26 : decode cX6_mates 26 = .ok (.if_icmp .ge 27, 3) := by decide +kernel
theorem dX6_mates_29 : decode cX6_mates 29 = .ok (.aload_n 0, 1) := by decide +kernel
theorem dX6_mates_30 : decode cX6_mates 30 = .ok (.getfield 10, 3) := by decide +kernel
theorem dX6_mates_33 : decode cX6_mates 33 = .ok (.iload_n 1, 1) := by decide +kernel
theorem dX6_mates_34 : decode cX6_mates 34 = .ok (.iload_n 3, 1) := by decide +kernel
theorem dX6_mates_35 : decode cX6_mates 35 = .ok (.invokevirtual 161, 3) := by decide +kernel
theorem dX6_mates_38 : decode cX6_mates 38 = .ok (.ifCond .eq 9, 3) := by decide +kernel
theorem dX6_mates_41 : decode cX6_mates 41 = .ok (.iload_n 2, 1) := by decide +kernel
theorem dX6_mates_42 : decode cX6_mates 42 = .ok (.iconst 1, 1) := by decide +kernel
theorem dX6_mates_43 : decode cX6_mates 43 = .ok (.iload_n 3, 1) := by decide +kernel
theorem dX6_mates_44 : decode cX6_mates 44 = .ok (.ishl, 1) := by decide +kernel
theorem dX6_mates_45 : decode cX6_mates 45 = .ok (.ior, 1) := by decide +kernel
theorem dX6_mates_46 : decode cX6_mates 46 = .ok (.istore_n 2, 1) := by decide +kernel
theorem dX6_mates_47 : decode cX6_mates 47 = .ok (.iinc 3 1, 3) := by decide +kernel
theorem dX6_mates_50 : decode cX6_mates 50 = .ok (.goto (-32), 3) := by decide +kernel
theorem dX6_mates_53 : decode cX6_mates 53 = .ok (.iload_n 2, 1) := by decide +kernel
theorem dX6_mates_54 : decode cX6_mates 54 = .ok (.ireturn, 1) := by decide +kernel
set_option maxRecDepth 20000 in
theorem ggX6_ring_X4_wants : GoodIn wsX6_ring wsX4_wants := goodIn_r _ [7, 8, 9, 10, 11, 6, 12, 13, 14, 15, 16, 17, 18, 19, 20, 21, 22, 23, 24, 25, 26, 27, 28, 29, 30, 31, 32, 55, 56, 57, 58, 59, 60, 61, 62, 63, 64, 65] (by decide +kernel) (by decide +kernel)
set_option maxRecDepth 20000 in
theorem gX6_ring_X4_wants : GoodIn wsX6_ring (wsV RX6 164 RX4 yX4_wants wsX4_wants) := goodIn_app (goodIn_of _ (by decide +kernel)) ggX6_ring_X4_wants
set_option maxRecDepth 20000 in
theorem ggX6_ring_X4_closesRing : GoodIn wsX6_ring wsX4_closesRing := goodIn_r _ [36, 37, 38, 4, 5, 6, 7, 8, 9, 10, 11, 12, 13, 14, 15, 16, 17, 18, 19, 20, 21, 22, 23, 24, 25, 26, 27, 28, 29, 30, 31, 32, 55, 56, 57, 58, 59, 60, 61, 62, 63, 64, 65] (by decide +kernel) (by decide +kernel)
set_option maxRecDepth 20000 in
theorem gX6_ring_X4_closesRing : GoodIn wsX6_ring (wsV RX6 167 RX4 yX4_closesRing wsX4_closesRing) := goodIn_app (goodIn_of _ (by decide +kernel)) ggX6_ring_X4_closesRing
set_option maxRecDepth 20000 in
theorem ggX6_ring_X6_finding : GoodIn wsX6_ring wsX6_finding := goodIn_r _ [43, 44, 45, 46, 47, 48, 49, 50, 51, 52, 53, 54] (by decide +kernel) (by decide +kernel)
set_option maxRecDepth 20000 in
theorem gX6_ring_X6_finding : GoodIn wsX6_ring (wsV RX6 60 RX6 yX6_finding wsX6_finding) := goodIn_app (goodIn_of _ (by decide +kernel)) ggX6_ring_X6_finding
theorem dX6_ring_0 : decode cX6_ring 0 = .ok (.iconst 0, 1) := by decide +kernel
theorem dX6_ring_1 : decode cX6_ring 1 = .ok (.istore_n 1, 1) := by decide +kernel
theorem dX6_ring_2 : decode cX6_ring 2 = .ok (.iload_n 1, 1) := by decide +kernel
theorem dX6_ring_3 : decode cX6_ring 3 = .ok (.aload_n 0, 1) := by decide +kernel
theorem dX6_ring_4 : decode cX6_ring 4 = .ok (.getfield 10, 3) := by decide +kernel
theorem dX6_ring_7 : decode cX6_ring 7 = .ok (.getfield 158, 3) := by decide +kernel
theorem dX6_ring_10 : decode cX6_ring 10 = .ok (.if_icmp .ge 70, 3) := by decide +kernel
theorem dX6_ring_13 : decode cX6_ring 13 = .ok (.iconst 0, 1) := by decide +kernel
theorem dX6_ring_14 : decode cX6_ring 14 = .ok (.istore_n 2, 1) := by decide +kernel
theorem dX6_ring_15 : decode cX6_ring 15 = .ok (.iload_n 2, 1) := by decide +kernel
theorem dX6_ring_16 : decode cX6_ring 16 = .ok (.aload_n 0, 1) := by decide +kernel
theorem dX6_ring_17 : decode cX6_ring 17 = .ok (.getfield 10, 3) := by decide +kernel
theorem dX6_ring_20 : decode cX6_ring 20 = .ok (.getfield 158, 3) := by decide +kernel
theorem dX6_ring_23 : decode cX6_ring 23 = .ok (.if_icmp .ge 51, 3) := by decide +kernel
theorem dX6_ring_26 : decode cX6_ring 26 = .ok (.aload_n 0, 1) := by decide +kernel
theorem dX6_ring_27 : decode cX6_ring 27 = .ok (.getfield 10, 3) := by decide +kernel
theorem dX6_ring_30 : decode cX6_ring 30 = .ok (.iload_n 1, 1) := by decide +kernel
theorem dX6_ring_31 : decode cX6_ring 31 = .ok (.iload_n 2, 1) := by decide +kernel
theorem dX6_ring_32 : decode cX6_ring 32 = .ok (.invokevirtual 164, 3) := by decide +kernel
theorem dX6_ring_35 : decode cX6_ring 35 = .ok (.ifCond .eq 15, 3) := by decide +kernel
theorem dX6_ring_38 : decode cX6_ring 38 = .ok (.aload_n 0, 1) := by decide +kernel
theorem dX6_ring_39 : decode cX6_ring 39 = .ok (.getfield 10, 3) := by decide +kernel
theorem dX6_ring_42 : decode cX6_ring 42 = .ok (.iload_n 1, 1) := by decide +kernel
theorem dX6_ring_43 : decode cX6_ring 43 = .ok (.iload_n 2, 1) := by decide +kernel
theorem dX6_ring_44 : decode cX6_ring 44 = .ok (.invokevirtual 167, 3) := by decide +kernel
theorem dX6_ring_47 : decode cX6_ring 47 = .ok (.goto 4, 3) := by decide +kernel
theorem dX6_ring_50 : decode cX6_ring 50 = .ok (.iconst (-1), 1) := by decide +kernel
theorem dX6_ring_51 : decode cX6_ring 51 = .ok (.istore_n 3, 1) := by decide +kernel
theorem dX6_ring_52 : decode cX6_ring 52 = .ok (.iload_n 3, 1) := by decide +kernel
theorem dX6_ring_53 : decode cX6_ring 53 = .ok (.ifCond .lt 15, 3) := by decide +kernel
theorem dX6_ring_56 : decode cX6_ring 56 = .ok (.bipush 100, 2) := by decide +kernel
theorem dX6_ring_58 : decode cX6_ring 58 = .ok (.iload_n 1, 1) := by decide +kernel
theorem dX6_ring_59 : decode cX6_ring 59 = .ok (.imul, 1) := by decide +kernel
theorem dX6_ring_60 : decode cX6_ring 60 = .ok (.bipush 10, 2) := by decide +kernel
theorem dX6_ring_62 : decode cX6_ring 62 = .ok (.iload_n 2, 1) := by decide +kernel
theorem dX6_ring_63 : decode cX6_ring 63 = .ok (.imul, 1) := by decide +kernel
theorem dX6_ring_64 : decode cX6_ring 64 = .ok (.iadd, 1) := by decide +kernel
theorem dX6_ring_65 : decode cX6_ring 65 = .ok (.iload_n 3, 1) := by decide +kernel
theorem dX6_ring_66 : decode cX6_ring 66 = .ok (.iadd, 1) := by decide +kernel
theorem dX6_ring_67 : decode cX6_ring 67 = .ok (.ireturn, 1) := by decide +kernel
theorem dX6_ring_68 : decode cX6_ring 68 = .ok (.iinc 2 1, 3) := by decide +kernel
theorem dX6_ring_71 : decode cX6_ring 71 = .ok (.goto (-56), 3) := by decide +kernel
theorem dX6_ring_74 : decode cX6_ring 74 = .ok (.iinc 1 1, 3) := by decide +kernel
theorem dX6_ring_77 : decode cX6_ring 77 = .ok (.goto (-75), 3) := by decide +kernel
theorem dX6_ring_80 : decode cX6_ring 80 = .ok (.aload_n 0, 1) := by decide +kernel
theorem dX6_ring_81 : decode cX6_ring 81 = .ok (.iconst 3, 1) := by decide +kernel
theorem dX6_ring_82 : decode cX6_ring 82 = .ok (.invokevirtual 60, 3) := by decide +kernel
theorem dX6_ring_85 : decode cX6_ring 85 = .ok (.ireturn, 1) := by decide +kernel
set_option maxRecDepth 20000 in
theorem ggX6_rounds_X6_isWithin : GoodIn wsX6_rounds wsX6_isWithin := goodIn_r _ [7] (by decide +kernel) (by decide +kernel)
set_option maxRecDepth 20000 in
theorem gX6_rounds_X6_isWithin : GoodIn wsX6_rounds (va_wsS RX6 56 yX6_isWithin wsX6_isWithin) := goodIn_app (goodIn_of _ (by decide +kernel)) ggX6_rounds_X6_isWithin
set_option maxRecDepth 20000 in
theorem ggX6_rounds_X6_finding : GoodIn wsX6_rounds wsX6_finding := goodIn_r _ [11, 12, 13, 98, 99, 100, 101, 102, 103, 104, 105, 106] (by decide +kernel) (by decide +kernel)
set_option maxRecDepth 20000 in
theorem gX6_rounds_X6_finding : GoodIn wsX6_rounds (wsV RX6 60 RX6 yX6_finding wsX6_finding) := goodIn_app (goodIn_of _ (by decide +kernel)) ggX6_rounds_X6_finding
set_option maxRecDepth 20000 in
theorem ggX6_rounds_X4_goOn : GoodIn wsX6_rounds wsX4_goOn := goodIn_r _ [18, 19, 20, 21, 22, 17, 23, 24, 25, 26, 27, 28, 29, 30, 31, 32, 33, 34, 35, 36, 37, 38, 39, 40, 41, 42, 43, 44, 45, 46, 47, 48, 49, 50, 51, 52, 53, 54, 55, 56, 57, 58, 59, 60, 61, 62, 63, 64, 65, 66, 67, 68, 69, 70, 71, 72, 73, 74, 75, 76, 77, 78, 79, 80, 81, 82, 83, 84, 85, 86, 87, 88, 89, 90, 91, 92, 93, 107, 108, 109, 110, 111, 112, 113, 114, 115, 116, 117, 118, 119] (by decide +kernel) (by decide +kernel)
set_option maxRecDepth 20000 in
theorem gX6_rounds_X4_goOn : GoodIn wsX6_rounds (wsV RX6 171 RX4 yX4_goOn wsX4_goOn) := goodIn_app (goodIn_of _ (by decide +kernel)) ggX6_rounds_X4_goOn
set_option maxRecDepth 20000 in
theorem ggX6_rounds_X4_swappedOfAll : GoodIn wsX6_rounds wsX4_swappedOfAll := goodIn_r _ [97, 24, 71, 107, 108, 109, 110, 111, 112, 113, 114, 115, 116, 117] (by decide +kernel) (by decide +kernel)
set_option maxRecDepth 20000 in
theorem gX6_rounds_X4_swappedOfAll : GoodIn wsX6_rounds (wsV RX6 82 RX4 yX4_swappedOfAll wsX4_swappedOfAll) := goodIn_app (goodIn_of _ (by decide +kernel)) ggX6_rounds_X4_swappedOfAll
theorem dX6_rounds_0 : decode cX6_rounds 0 = .ok (.iload_n 1, 1) := by decide +kernel
theorem dX6_rounds_1 : decode cX6_rounds 1 = .ok (.iconst 1, 1) := by decide +kernel
theorem dX6_rounds_2 : decode cX6_rounds 2 = .ok (.bipush 60, 2) := by decide +kernel
theorem dX6_rounds_4 : decode cX6_rounds 4 = .ok (.invokestatic 56, 3) := by decide +kernel
theorem dX6_rounds_7 : decode cX6_rounds 7 = .ok (.ifCond .ne 9, 3) := by decide +kernel
theorem dX6_rounds_10 : decode cX6_rounds 10 = .ok (.aload_n 0, 1) := by decide +kernel
theorem dX6_rounds_11 : decode cX6_rounds 11 = .ok (.iconst 0, 1) := by decide +kernel
theorem dX6_rounds_12 : decode cX6_rounds 12 = .ok (.invokevirtual 60, 3) := by decide +kernel
theorem dX6_rounds_15 : decode cX6_rounds 15 = .ok (.ireturn, 1) := by decide +kernel
theorem dX6_rounds_16 : decode cX6_rounds 16 = .ok (.aload_n 0, 1) := by decide +kernel
theorem dX6_rounds_17 : decode cX6_rounds 17 = .ok (.getfield 10, 3) := by decide +kernel
theorem dX6_rounds_20 : decode cX6_rounds 20 = .ok (.getfield 68, 3) := by decide +kernel
theorem dX6_rounds_23 : decode cX6_rounds 23 = .ok (.iload_n 1, 1) := by decide +kernel
theorem dX6_rounds_24 : decode cX6_rounds 24 = .ok (.iadd, 1) := by decide +kernel
theorem dX6_rounds_25 : decode cX6_rounds 25 = .ok (.ldc 170, 2) := by decide +kernel
theorem dX6_rounds_27 : decode cX6_rounds 27 = .ok (.if_icmp .le 9, 3) := by decide +kernel
theorem dX6_rounds_30 : decode cX6_rounds 30 = .ok (.aload_n 0, 1) := by decide +kernel
theorem dX6_rounds_31 : decode cX6_rounds 31 = .ok (.iconst 4, 1) := by decide +kernel
theorem dX6_rounds_32 : decode cX6_rounds 32 = .ok (.invokevirtual 60, 3) := by decide +kernel
theorem dX6_rounds_35 : decode cX6_rounds 35 = .ok (.ireturn, 1) := by decide +kernel
theorem dX6_rounds_36 : decode cX6_rounds 36 = .ok (.aload_n 0, 1) := by decide +kernel
theorem dX6_rounds_37 : decode cX6_rounds 37 = .ok (.getfield 10, 3) := by decide +kernel
theorem dX6_rounds_40 : decode cX6_rounds 40 = .ok (.iload_n 1, 1) := by decide +kernel
theorem dX6_rounds_41 : decode cX6_rounds 41 = .ok (.invokevirtual 171, 3) := by decide +kernel
theorem dX6_rounds_44 : decode cX6_rounds 44 = .ok (.aload_n 0, 1) := by decide +kernel
theorem dX6_rounds_45 : decode cX6_rounds 45 = .ok (.getfield 10, 3) := by decide +kernel
theorem dX6_rounds_48 : decode cX6_rounds 48 = .ok (.invokevirtual 82, 3) := by decide +kernel
theorem dX6_rounds_51 : decode cX6_rounds 51 = .ok (.ireturn, 1) := by decide +kernel
set_option maxRecDepth 20000 in
theorem ggX6_on_X6_isThere : GoodIn wsX6_on wsX6_isThere := goodIn_r _ [10, 2, 11, 12, 13, 9, 14, 113, 114, 115, 116, 117, 118, 119, 120, 121, 122, 123, 124, 125, 126, 127, 128, 129, 130, 131, 132] (by decide +kernel) (by decide +kernel)
set_option maxRecDepth 20000 in
theorem gX6_on_X6_isThere : GoodIn wsX6_on (wsV RX6 104 RX6 yX6_isThere wsX6_isThere) := goodIn_app (goodIn_of _ (by decide +kernel)) ggX6_on_X6_isThere
set_option maxRecDepth 20000 in
theorem ggX6_on_X6_isWithin : GoodIn wsX6_on wsX6_isWithin := goodIn_r _ [14] (by decide +kernel) (by decide +kernel)
set_option maxRecDepth 20000 in
theorem gX6_on_X6_isWithin : GoodIn wsX6_on (va_wsS RX6 56 yX6_isWithin wsX6_isWithin) := goodIn_app (goodIn_of _ (by decide +kernel)) ggX6_on_X6_isWithin
set_option maxRecDepth 20000 in
theorem ggX6_on_X6_finding : GoodIn wsX6_on wsX6_finding := goodIn_r _ [18, 19, 20, 113, 114, 115, 116, 117, 118, 119, 120, 121] (by decide +kernel) (by decide +kernel)
set_option maxRecDepth 20000 in
theorem gX6_on_X6_finding : GoodIn wsX6_on (wsV RX6 60 RX6 yX6_finding wsX6_finding) := goodIn_app (goodIn_of _ (by decide +kernel)) ggX6_on_X6_finding
set_option maxRecDepth 20000 in
theorem ggX6_on_X4_become : GoodIn wsX6_on wsX4_become := goodIn_r _ [25, 26, 27, 28, 29, 30, 31, 32, 33, 34, 35, 36, 37, 38, 39, 122, 123, 124, 125, 126, 127, 128, 129, 130, 131, 132] (by decide +kernel) (by decide +kernel)
set_option maxRecDepth 20000 in
theorem gX6_on_X4_become : GoodIn wsX6_on (wsV RX6 175 RX4 yX4_become wsX4_become) := goodIn_app (goodIn_of _ (by decide +kernel)) ggX6_on_X4_become
set_option maxRecDepth 20000 in
theorem ggX6_on_X4_goOn : GoodIn wsX6_on wsX4_goOn := goodIn_r _ [43, 39, 44, 45, 46, 24, 47, 28, 26, 48, 49, 50, 51, 29, 34, 52, 53, 54, 55, 56, 57, 58, 59, 60, 36, 61, 62, 63, 64, 65, 66, 67, 68, 69, 70, 71, 38, 72, 73, 74, 75, 37, 76, 77, 78, 79, 80, 81, 82, 83, 84, 85, 86, 87, 35, 27, 88, 89, 90, 91, 92, 93, 94, 95, 96, 97, 98, 99, 100, 101, 102, 103, 104, 105, 106, 107, 108, 122, 123, 124, 125, 126, 127, 128, 129, 130, 131, 132, 133, 134] (by decide +kernel) (by decide +kernel)
set_option maxRecDepth 20000 in
theorem gX6_on_X4_goOn : GoodIn wsX6_on (wsV RX6 171 RX4 yX4_goOn wsX4_goOn) := goodIn_app (goodIn_of _ (by decide +kernel)) ggX6_on_X4_goOn
set_option maxRecDepth 20000 in
theorem ggX6_on_X4_gladOf : GoodIn wsX6_on wsX4_gladOf := goodIn_r _ [112, 34, 68, 69, 70, 24, 71, 29, 38, 72, 73, 74, 75, 37, 76, 77, 54, 78, 122, 123, 124, 125, 126, 127, 128, 129, 130, 131, 132] (by decide +kernel) (by decide +kernel)
set_option maxRecDepth 20000 in
theorem gX6_on_X4_gladOf : GoodIn wsX6_on (wsV RX6 119 RX4 yX4_gladOf wsX4_gladOf) := goodIn_app (goodIn_of _ (by decide +kernel)) ggX6_on_X4_gladOf
theorem dX6_on_0 : decode cX6_on 0 = .ok (.aload_n 0, 1) := by decide +kernel
theorem dX6_on_1 : decode cX6_on 1 = .ok (.iload_n 1, 1) := by decide +kernel
theorem dX6_on_2 : decode cX6_on 2 = .ok (.invokevirtual 104, 3) := by decide +kernel
theorem dX6_on_5 : decode cX6_on 5 = .ok (.ifCond .eq 22, 3) := by decide +kernel
theorem dX6_on_8 : decode cX6_on 8 = .ok (.iload_n 2, 1) := by decide +kernel
theorem dX6_on_9 : decode cX6_on 9 = .ok (.iconst 0, 1) := by decide +kernel
theorem dX6_on_10 : decode cX6_on 10 = .ok (.bipush 100, 2) := by decide +kernel
theorem dX6_on_12 : decode cX6_on 12 = .ok (.invokestatic 56, 3) := by decide +kernel
theorem dX6_on_15 : decode cX6_on 15 = .ok (.ifCond .eq 12, 3) := by decide +kernel
theorem dX6_on_18 : decode cX6_on 18 = .ok (.iload_n 3, 1) := by decide +kernel
theorem dX6_on_19 : decode cX6_on 19 = .ok (.iconst 0, 1) := by decide +kernel
theorem dX6_on_20 : decode cX6_on 20 = .ok (.iconst 3, 1) := by decide +kernel
theorem dX6_on_21 : decode cX6_on 21 = .ok (.invokestatic 56, 3) := by decide +kernel
theorem dX6_on_24 : decode cX6_on 24 = .ok (.ifCond .ne 9, 3) := by decide +kernel
theorem dX6_on_27 : decode cX6_on 27 = .ok (.aload_n 0, 1) := by decide +kernel
theorem dX6_on_28 : decode cX6_on 28 = .ok (.iconst 0, 1) := by decide +kernel
theorem dX6_on_29 : decode cX6_on 29 = .ok (.invokevirtual 60, 3) := by decide +kernel
theorem dX6_on_32 : decode cX6_on 32 = .ok (.ireturn, 1) := by decide +kernel
theorem dX6_on_33 : decode cX6_on 33 = .ok (.aload_n 0, 1) := by decide +kernel
theorem dX6_on_34 : decode cX6_on 34 = .ok (.getfield 19, 3) := by decide +kernel
theorem dX6_on_37 : decode cX6_on 37 = .ok (.aload_n 0, 1) := by decide +kernel
theorem dX6_on_38 : decode cX6_on 38 = .ok (.getfield 10, 3) := by decide +kernel
theorem dX6_on_41 : decode cX6_on 41 = .ok (.invokevirtual 175, 3) := by decide +kernel
theorem dX6_on_44 : decode cX6_on 44 = .ok (.aload_n 0, 1) := by decide +kernel
theorem dX6_on_45 : decode cX6_on 45 = .ok (.getfield 19, 3) := by decide +kernel
theorem dX6_on_48 : decode cX6_on 48 = .ok (.iload_n 2, 1) := by decide +kernel
theorem dX6_on_49 : decode cX6_on 49 = .ok (.invokevirtual 171, 3) := by decide +kernel
theorem dX6_on_52 : decode cX6_on 52 = .ok (.iload_n 3, 1) := by decide +kernel
theorem dX6_on_53 : decode cX6_on 53 = .ok (.tableswitch 57 0 2 #[27, 37, 47], 27) := by decide +kernel
theorem dX6_on_80 : decode cX6_on 80 = .ok (.aload_n 0, 1) := by decide +kernel
theorem dX6_on_81 : decode cX6_on 81 = .ok (.getfield 19, 3) := by decide +kernel
theorem dX6_on_84 : decode cX6_on 84 = .ok (.getfield 110, 3) := by decide +kernel
theorem dX6_on_87 : decode cX6_on 87 = .ok (.iload_n 1, 1) := by decide +kernel
theorem dX6_on_88 : decode cX6_on 88 = .ok (.iaload, 1) := by decide +kernel
theorem dX6_on_89 : decode cX6_on 89 = .ok (.ireturn, 1) := by decide +kernel
theorem dX6_on_90 : decode cX6_on 90 = .ok (.aload_n 0, 1) := by decide +kernel
theorem dX6_on_91 : decode cX6_on 91 = .ok (.getfield 19, 3) := by decide +kernel
theorem dX6_on_94 : decode cX6_on 94 = .ok (.getfield 113, 3) := by decide +kernel
theorem dX6_on_97 : decode cX6_on 97 = .ok (.iload_n 1, 1) := by decide +kernel
theorem dX6_on_98 : decode cX6_on 98 = .ok (.iaload, 1) := by decide +kernel
theorem dX6_on_99 : decode cX6_on 99 = .ok (.ireturn, 1) := by decide +kernel
theorem dX6_on_100 : decode cX6_on 100 = .ok (.aload_n 0, 1) := by decide +kernel
theorem dX6_on_101 : decode cX6_on 101 = .ok (.getfield 19, 3) := by decide +kernel
theorem dX6_on_104 : decode cX6_on 104 = .ok (.getfield 116, 3) := by decide +kernel
theorem dX6_on_107 : decode cX6_on 107 = .ok (.iload_n 1, 1) := by decide +kernel
theorem dX6_on_108 : decode cX6_on 108 = .ok (.iaload, 1) := by decide +kernel
theorem dX6_on_109 : decode cX6_on 109 = .ok (.ireturn, 1) := by decide +kernel
theorem dX6_on_110 : decode cX6_on 110 = .ok (.aload_n 0, 1) := by decide +kernel
theorem dX6_on_111 : decode cX6_on 111 = .ok (.getfield 19, 3) := by decide +kernel
theorem dX6_on_114 : decode cX6_on 114 = .ok (.iload_n 1, 1) := by decide +kernel
theorem dX6_on_115 : decode cX6_on 115 = .ok (.invokevirtual 119, 3) := by decide +kernel
theorem dX6_on_118 : decode cX6_on 118 = .ok (.ireturn, 1) := by decide +kernel
set_option maxRecDepth 20000 in
theorem ggX6_glad_X6_isWithin : GoodIn wsX6_glad wsX6_isWithin := goodIn_r _ [6] (by decide +kernel) (by decide +kernel)
set_option maxRecDepth 20000 in
theorem gX6_glad_X6_isWithin : GoodIn wsX6_glad (va_wsS RX6 56 yX6_isWithin wsX6_isWithin) := goodIn_app (goodIn_of _ (by decide +kernel)) ggX6_glad_X6_isWithin
set_option maxRecDepth 20000 in
theorem ggX6_glad_X6_finding : GoodIn wsX6_glad wsX6_finding := goodIn_r _ [10, 11, 12, 109, 110, 111, 112, 113, 114, 115, 116, 117] (by decide +kernel) (by decide +kernel)
set_option maxRecDepth 20000 in
theorem gX6_glad_X6_finding : GoodIn wsX6_glad (wsV RX6 60 RX6 yX6_finding wsX6_finding) := goodIn_app (goodIn_of _ (by decide +kernel)) ggX6_glad_X6_finding
set_option maxRecDepth 20000 in
theorem ggX6_glad_X4_become : GoodIn wsX6_glad wsX4_become := goodIn_r _ [17, 18, 19, 20, 21, 22, 23, 24, 25, 26, 27, 28, 29, 30, 31, 118, 119, 120, 121, 122, 123, 124, 125, 126, 127, 128] (by decide +kernel) (by decide +kernel)
set_option maxRecDepth 20000 in
theorem gX6_glad_X4_become : GoodIn wsX6_glad (wsV RX6 175 RX4 yX4_become wsX4_become) := goodIn_app (goodIn_of _ (by decide +kernel)) ggX6_glad_X4_become
set_option maxRecDepth 20000 in
theorem ggX6_glad_X4_goOn : GoodIn wsX6_glad wsX4_goOn := goodIn_r _ [35, 31, 36, 37, 38, 16, 39, 20, 18, 40, 41, 42, 43, 21, 26, 44, 45, 46, 47, 48, 49, 50, 51, 52, 28, 53, 54, 55, 56, 57, 58, 59, 60, 61, 62, 63, 30, 64, 65, 66, 67, 29, 68, 69, 70, 71, 72, 73, 74, 75, 76, 77, 78, 79, 27, 19, 80, 81, 82, 83, 84, 85, 86, 87, 88, 89, 90, 91, 92, 93, 94, 95, 96, 97, 98, 99, 100, 118, 119, 120, 121, 122, 123, 124, 125, 126, 127, 128, 129, 130] (by decide +kernel) (by decide +kernel)
set_option maxRecDepth 20000 in
theorem gX6_glad_X4_goOn : GoodIn wsX6_glad (wsV RX6 171 RX4 yX4_goOn wsX4_goOn) := goodIn_app (goodIn_of _ (by decide +kernel)) ggX6_glad_X4_goOn
set_option maxRecDepth 20000 in
theorem ggX6_glad_X4_gladOfAll : GoodIn wsX6_glad wsX4_gladOfAll := goodIn_r _ [104, 20, 105, 106, 107, 16, 108, 26, 60, 61, 62, 63, 21, 30, 64, 65, 66, 67, 29, 68, 69, 46, 70, 118, 119, 120, 121, 122, 123, 124, 125, 126, 127, 128] (by decide +kernel) (by decide +kernel)
set_option maxRecDepth 20000 in
theorem gX6_glad_X4_gladOfAll : GoodIn wsX6_glad (wsV RX6 75 RX4 yX4_gladOfAll wsX4_gladOfAll) := goodIn_app (goodIn_of _ (by decide +kernel)) ggX6_glad_X4_gladOfAll
theorem dX6_glad_0 : decode cX6_glad 0 = .ok (.iload_n 1, 1) := by decide +kernel
theorem dX6_glad_1 : decode cX6_glad 1 = .ok (.iconst 0, 1) := by decide +kernel
theorem dX6_glad_2 : decode cX6_glad 2 = .ok (.bipush 100, 2) := by decide +kernel
theorem dX6_glad_4 : decode cX6_glad 4 = .ok (.invokestatic 56, 3) := by decide +kernel
theorem dX6_glad_7 : decode cX6_glad 7 = .ok (.ifCond .ne 9, 3) := by decide +kernel
theorem dX6_glad_10 : decode cX6_glad 10 = .ok (.aload_n 0, 1) := by decide +kernel
theorem dX6_glad_11 : decode cX6_glad 11 = .ok (.iconst 0, 1) := by decide +kernel
theorem dX6_glad_12 : decode cX6_glad 12 = .ok (.invokevirtual 60, 3) := by decide +kernel
theorem dX6_glad_15 : decode cX6_glad 15 = .ok (.ireturn, 1) := by decide +kernel
theorem dX6_glad_16 : decode cX6_glad 16 = .ok (.aload_n 0, 1) := by decide +kernel
theorem dX6_glad_17 : decode cX6_glad 17 = .ok (.getfield 19, 3) := by decide +kernel
theorem dX6_glad_20 : decode cX6_glad 20 = .ok (.aload_n 0, 1) := by decide +kernel
theorem dX6_glad_21 : decode cX6_glad 21 = .ok (.getfield 10, 3) := by decide +kernel
theorem dX6_glad_24 : decode cX6_glad 24 = .ok (.invokevirtual 175, 3) := by decide +kernel
theorem dX6_glad_27 : decode cX6_glad 27 = .ok (.aload_n 0, 1) := by decide +kernel
theorem dX6_glad_28 : decode cX6_glad 28 = .ok (.getfield 19, 3) := by decide +kernel
theorem dX6_glad_31 : decode cX6_glad 31 = .ok (.iload_n 1, 1) := by decide +kernel
theorem dX6_glad_32 : decode cX6_glad 32 = .ok (.invokevirtual 171, 3) := by decide +kernel
theorem dX6_glad_35 : decode cX6_glad 35 = .ok (.aload_n 0, 1) := by decide +kernel
theorem dX6_glad_36 : decode cX6_glad 36 = .ok (.getfield 19, 3) := by decide +kernel
theorem dX6_glad_39 : decode cX6_glad 39 = .ok (.invokevirtual 75, 3) := by decide +kernel
theorem dX6_glad_42 : decode cX6_glad 42 = .ok (.ireturn, 1) := by decide +kernel
set_option maxRecDepth 20000 in
theorem ggX6_gets_X6_isThere : GoodIn wsX6_gets wsX6_isThere := goodIn_r _ [8, 2, 9, 10, 11, 7, 12, 106, 107, 108, 109, 110, 111, 112, 113, 114, 115, 116, 117, 118, 119, 120, 121, 122, 123, 124, 125] (by decide +kernel) (by decide +kernel)
set_option maxRecDepth 20000 in
theorem gX6_gets_X6_isThere : GoodIn wsX6_gets (wsV RX6 104 RX6 yX6_isThere wsX6_isThere) := goodIn_app (goodIn_of _ (by decide +kernel)) ggX6_gets_X6_isThere
set_option maxRecDepth 20000 in
theorem ggX6_gets_X6_isThing : GoodIn wsX6_gets wsX6_isThing := goodIn_r _ [15, 10, 11, 7, 12] (by decide +kernel) (by decide +kernel)
set_option maxRecDepth 20000 in
theorem gX6_gets_X6_isThing : GoodIn wsX6_gets (va_wsS RX6 85 yX6_isThing wsX6_isThing) := goodIn_app (goodIn_of _ (by decide +kernel)) ggX6_gets_X6_isThing
set_option maxRecDepth 20000 in
theorem ggX6_gets_X6_finding : GoodIn wsX6_gets wsX6_finding := goodIn_r _ [19, 20, 21, 106, 107, 108, 109, 110, 111, 112, 113, 114] (by decide +kernel) (by decide +kernel)
set_option maxRecDepth 20000 in
theorem gX6_gets_X6_finding : GoodIn wsX6_gets (wsV RX6 60 RX6 yX6_finding wsX6_finding) := goodIn_app (goodIn_of _ (by decide +kernel)) ggX6_gets_X6_finding
set_option maxRecDepth 20000 in
theorem ggX6_gets_X4_become : GoodIn wsX6_gets wsX4_become := goodIn_r _ [26, 27, 28, 29, 30, 31, 32, 33, 34, 35, 36, 37, 38, 39, 40, 115, 116, 117, 118, 119, 120, 121, 122, 123, 124, 125] (by decide +kernel) (by decide +kernel)
set_option maxRecDepth 20000 in
theorem gX6_gets_X4_become : GoodIn wsX6_gets (wsV RX6 175 RX4 yX4_become wsX4_become) := goodIn_app (goodIn_of _ (by decide +kernel)) ggX6_gets_X4_become
set_option maxRecDepth 20000 in
theorem ggX6_gets_X4_playRound : GoodIn wsX6_gets wsX4_playRound := goodIn_r _ [44, 40, 29, 27, 45, 46, 47, 25, 48, 30, 35, 49, 50, 51, 52, 53, 54, 55, 56, 57, 37, 58, 59, 60, 61, 62, 63, 64, 65, 66, 67, 68, 39, 69, 70, 71, 72, 38, 73, 74, 75, 76, 77, 78, 79, 80, 81, 82, 83, 84, 36, 28, 85, 86, 87, 88, 89, 90, 91, 92, 93, 94, 95, 96, 97, 98, 99, 100, 101, 102, 103, 104, 105, 115, 116, 117, 118, 119, 120, 121, 122, 123, 124, 125, 126, 127] (by decide +kernel) (by decide +kernel)
set_option maxRecDepth 20000 in
theorem gX6_gets_X4_playRound : GoodIn wsX6_gets (wsV RX6 179 RX4 yX4_playRound wsX4_playRound) := goodIn_app (goodIn_of _ (by decide +kernel)) ggX6_gets_X4_playRound
theorem dX6_gets_0 : decode cX6_gets 0 = .ok (.aload_n 0, 1) := by decide +kernel
theorem dX6_gets_1 : decode cX6_gets 1 = .ok (.iload_n 1, 1) := by decide +kernel
theorem dX6_gets_2 : decode cX6_gets 2 = .ok (.invokevirtual 104, 3) := by decide +kernel
theorem dX6_gets_5 : decode cX6_gets 5 = .ok (.ifCond .eq 10, 3) := by decide +kernel
theorem dX6_gets_8 : decode cX6_gets 8 = .ok (.iload_n 2, 1) := by decide +kernel
theorem dX6_gets_9 : decode cX6_gets 9 = .ok (.invokestatic 85, 3) := by decide +kernel
theorem dX6_gets_12 : decode cX6_gets 12 = .ok (.ifCond .ne 9, 3) := by decide +kernel
theorem dX6_gets_15 : decode cX6_gets 15 = .ok (.aload_n 0, 1) := by decide +kernel
theorem dX6_gets_16 : decode cX6_gets 16 = .ok (.iconst 0, 1) := by decide +kernel
theorem dX6_gets_17 : decode cX6_gets 17 = .ok (.invokevirtual 60, 3) := by decide +kernel
theorem dX6_gets_20 : decode cX6_gets 20 = .ok (.ireturn, 1) := by decide +kernel
theorem dX6_gets_21 : decode cX6_gets 21 = .ok (.aload_n 0, 1) := by decide +kernel
theorem dX6_gets_22 : decode cX6_gets 22 = .ok (.getfield 19, 3) := by decide +kernel
theorem dX6_gets_25 : decode cX6_gets 25 = .ok (.aload_n 0, 1) := by decide +kernel
theorem dX6_gets_26 : decode cX6_gets 26 = .ok (.getfield 10, 3) := by decide +kernel
theorem dX6_gets_29 : decode cX6_gets 29 = .ok (.invokevirtual 175, 3) := by decide +kernel
theorem dX6_gets_32 : decode cX6_gets 32 = .ok (.iconst 0, 1) := by decide +kernel
theorem dX6_gets_33 : decode cX6_gets 33 = .ok (.istore_n 3, 1) := by decide +kernel
theorem dX6_gets_34 : decode cX6_gets 34 = .ok (.iload_n 3, 1) := by decide +kernel
theorem dX6_gets_35 : decode cX6_gets 35 = .ok (.bipush 100, 2) := by decide +kernel
theorem dX6_gets_37 : decode cX6_gets 37 = .ok (.if_icmp .gt 31, 3) := by decide +kernel
theorem dX6_gets_40 : decode cX6_gets 40 = .ok (.aload_n 0, 1) := by decide +kernel
theorem dX6_gets_41 : decode cX6_gets 41 = .ok (.getfield 19, 3) := by decide +kernel
theorem dX6_gets_44 : decode cX6_gets 44 = .ok (.getfield 110, 3) := by decide +kernel
theorem dX6_gets_47 : decode cX6_gets 47 = .ok (.iload_n 1, 1) := by decide +kernel
theorem dX6_gets_48 : decode cX6_gets 48 = .ok (.iaload, 1) := by decide +kernel
theorem dX6_gets_49 : decode cX6_gets 49 = .ok (.iload_n 2, 1) := by decide +kernel
theorem dX6_gets_50 : decode cX6_gets 50 = .ok (.if_icmp .ne 5, 3) := by decide +kernel
theorem dX6_gets_53 : decode cX6_gets 53 = .ok (.iload_n 3, 1) := by decide +kernel
theorem dX6_gets_54 : decode cX6_gets 54 = .ok (.ireturn, 1) := by decide +kernel
theorem dX6_gets_55 : decode cX6_gets 55 = .ok (.aload_n 0, 1) := by decide +kernel
theorem dX6_gets_56 : decode cX6_gets 56 = .ok (.getfield 19, 3) := by decide +kernel
theorem dX6_gets_59 : decode cX6_gets 59 = .ok (.invokevirtual 179, 3) := by decide +kernel
theorem dX6_gets_62 : decode cX6_gets 62 = .ok (.iinc 3 1, 3) := by decide +kernel
theorem dX6_gets_65 : decode cX6_gets 65 = .ok (.goto (-31), 3) := by decide +kernel
theorem dX6_gets_68 : decode cX6_gets 68 = .ok (.aload_n 0, 1) := by decide +kernel
theorem dX6_gets_69 : decode cX6_gets 69 = .ok (.iconst 3, 1) := by decide +kernel
theorem dX6_gets_70 : decode cX6_gets 70 = .ok (.invokevirtual 60, 3) := by decide +kernel
theorem dX6_gets_73 : decode cX6_gets 73 = .ok (.ireturn, 1) := by decide +kernel
set_option maxRecDepth 20000 in
theorem ggX6_over_X4_become : GoodIn wsX6_over wsX4_become := goodIn_r _ [7, 8, 9, 10, 11, 12, 13, 14, 15, 16, 17, 18, 19, 20, 21, 115, 116, 117, 118, 119, 120, 121, 122, 123, 124, 125] (by decide +kernel) (by decide +kernel)
set_option maxRecDepth 20000 in
theorem gX6_over_X4_become : GoodIn wsX6_over (wsV RX6 175 RX4 yX4_become wsX4_become) := goodIn_app (goodIn_of _ (by decide +kernel)) ggX6_over_X4_become
set_option maxRecDepth 20000 in
theorem ggX6_over_X4_isOver : GoodIn wsX6_over wsX4_isOver := goodIn_r _ [25, 10, 26, 27, 28, 6, 29, 30, 31, 32, 33, 16, 34, 35, 36, 37, 11, 17, 9, 38, 39, 40, 41, 20, 42, 43, 44, 45, 19, 46, 47, 48, 49, 50, 51, 52, 115, 116, 117, 118, 119, 120, 121, 122, 123, 124, 125] (by decide +kernel) (by decide +kernel)
set_option maxRecDepth 20000 in
theorem gX6_over_X4_isOver : GoodIn wsX6_over (wsV RX6 78 RX4 yX4_isOver wsX4_isOver) := goodIn_app (goodIn_of _ (by decide +kernel)) ggX6_over_X4_isOver
set_option maxRecDepth 20000 in
theorem ggX6_over_X4_playRound : GoodIn wsX6_over wsX4_playRound := goodIn_r _ [56, 21, 10, 8, 57, 58, 59, 6, 60, 11, 16, 61, 62, 48, 63, 64, 65, 66, 67, 68, 18, 69, 70, 71, 72, 73, 74, 75, 38, 39, 40, 41, 20, 42, 43, 44, 45, 19, 46, 47, 49, 76, 77, 78, 79, 80, 34, 35, 36, 37, 17, 9, 50, 51, 52, 81, 82, 83, 84, 85, 86, 87, 88, 89, 90, 91, 92, 93, 94, 95, 96, 97, 98, 115, 116, 117, 118, 119, 120, 121, 122, 123, 124, 125, 126, 127] (by decide +kernel) (by decide +kernel)
set_option maxRecDepth 20000 in
theorem gX6_over_X4_playRound : GoodIn wsX6_over (wsV RX6 179 RX4 yX4_playRound wsX4_playRound) := goodIn_app (goodIn_of _ (by decide +kernel)) ggX6_over_X4_playRound
set_option maxRecDepth 20000 in
theorem ggX6_over_X6_finding : GoodIn wsX6_over wsX6_finding := goodIn_r _ [103, 104, 105, 106, 107, 108, 109, 110, 111, 112, 113, 114] (by decide +kernel) (by decide +kernel)
set_option maxRecDepth 20000 in
theorem gX6_over_X6_finding : GoodIn wsX6_over (wsV RX6 60 RX6 yX6_finding wsX6_finding) := goodIn_app (goodIn_of _ (by decide +kernel)) ggX6_over_X6_finding
theorem dX6_over_0 : decode cX6_over 0 = .ok (.aload_n 0, 1) := by decide +kernel
theorem dX6_over_1 : decode cX6_over 1 = .ok (.getfield 19, 3) := by decide +kernel
theorem dX6_over_4 : decode cX6_over 4 = .ok (.aload_n 0, 1) := by decide +kernel
theorem dX6_over_5 : decode cX6_over 5 = .ok (.getfield 10, 3) := by decide +kernel
theorem dX6_over_8 : decode cX6_over 8 = .ok (.invokevirtual 175, 3) := by decide +kernel
theorem dX6_over_11 : decode cX6_over 11 = .ok (.iconst 0, 1) := by decide +kernel
theorem dX6_over_12 : decode cX6_over 12 = .ok (.istore_n 1, 1) := by decide +kernel
theorem dX6_over_13 : decode cX6_over 13 = .ok (.iload_n 1, 1) := by decide +kernel
theorem dX6_over_14 : decode cX6_over 14 = .ok (.bipush 100, 2) := by decide +kernel
theorem dX6_over_16 : decode cX6_over 16 = .ok (.if_icmp .gt 28, 3) := by decide +kernel
theorem dX6_over_19 : decode cX6_over 19 = .ok (.aload_n 0, 1) := by decide +kernel
theorem dX6_over_20 : decode cX6_over 20 = .ok (.getfield 19, 3) := by decide +kernel
theorem dX6_over_23 : decode cX6_over 23 = .ok (.invokevirtual 78, 3) := by decide +kernel
theorem dX6_over_26 : decode cX6_over 26 = .ok (.ifCond .eq 5, 3) := by decide +kernel
theorem dX6_over_29 : decode cX6_over 29 = .ok (.iload_n 1, 1) := by decide +kernel
theorem dX6_over_30 : decode cX6_over 30 = .ok (.ireturn, 1) := by decide +kernel
theorem dX6_over_31 : decode cX6_over 31 = .ok (.aload_n 0, 1) := by decide +kernel
theorem dX6_over_32 : decode cX6_over 32 = .ok (.getfield 19, 3) := by decide +kernel
theorem dX6_over_35 : decode cX6_over 35 = .ok (.invokevirtual 179, 3) := by decide +kernel
theorem dX6_over_38 : decode cX6_over 38 = .ok (.iinc 1 1, 3) := by decide +kernel
theorem dX6_over_41 : decode cX6_over 41 = .ok (.goto (-28), 3) := by decide +kernel
