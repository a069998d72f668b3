theorem dX1_agreesFor_68 : decode cX1_agreesFor 68 = .ok (.if_icmp .ge 7, 3) := by decide +kernel
theorem dX1_agreesFor_71 : decode cX1_agreesFor 71 = .ok (.iconst 1, 1) := by decide +kernel
theorem dX1_agreesFor_72 : decode cX1_agreesFor 72 = .ok (.goto 4, 3) := by decide +kernel
theorem dX1_agreesFor_75 : decode cX1_agreesFor 75 = .ok (.iconst 0, 1) := by decide +kernel
theorem dX1_agreesFor_76 : decode cX1_agreesFor 76 = .ok (.ireturn, 1) := by decide +kernel
theorem dX1_agreesFor_77 : decode cX1_agreesFor 77 = .ok (.iload_n 1, 1) := by decide +kernel
theorem dX1_agreesFor_78 : decode cX1_agreesFor 78 = .ok (.iload_n 2, 1) := by decide +kernel
theorem dX1_agreesFor_79 : decode cX1_agreesFor 79 = .ok (.ifCond .ne 7, 3) := by decide +kernel
theorem dX1_agreesFor_82 : decode cX1_agreesFor 82 = .ok (.iconst 1, 1) := by decide +kernel
theorem dX1_agreesFor_83 : decode cX1_agreesFor 83 = .ok (.goto 4, 3) := by decide +kernel
theorem dX1_agreesFor_86 : decode cX1_agreesFor 86 = .ok (.iconst 0, 1) := by decide +kernel
theorem dX1_agreesFor_87 : decode cX1_agreesFor 87 = .ok (.if_icmp .le 11, 3) := by decide +kernel
theorem dX1_agreesFor_90 : decode cX1_agreesFor 90 = .ok (.iload_n 3, 1) := by decide +kernel
theorem dX1_agreesFor_91 : decode cX1_agreesFor 91 = .ok (.ifCond .ne 7, 3) := by decide +kernel
theorem dX1_agreesFor_94 : decode cX1_agreesFor 94 = .ok (.iconst 1, 1) := by decide +kernel
theorem dX1_agreesFor_95 : decode cX1_agreesFor 95 = .ok (.goto 4, 3) := by decide +kernel
theorem dX1_agreesFor_98 : decode cX1_agreesFor 98 = .ok (.iconst 0, 1) := by decide +kernel
theorem dX1_agreesFor_99 : decode cX1_agreesFor 99 = .ok (.ireturn, 1) := by decide +kernel
theorem dX1_agreesFor_100 : decode cX1_agreesFor 100 = .ok (.iload_n 1, 1) := by decide +kernel
theorem dX1_agreesFor_101 : decode cX1_agreesFor 101 = .ok (.ifCond .le 7, 3) := by decide +kernel
theorem dX1_agreesFor_104 : decode cX1_agreesFor 104 = .ok (.iconst 1, 1) := by decide +kernel
theorem dX1_agreesFor_105 : decode cX1_agreesFor 105 = .ok (.goto 4, 3) := by decide +kernel
theorem dX1_agreesFor_108 : decode cX1_agreesFor 108 = .ok (.iconst 0, 1) := by decide +kernel
theorem dX1_agreesFor_109 : decode cX1_agreesFor 109 = .ok (.ireturn, 1) := by decide +kernel
theorem dX1_asksOf_0 : decode cX1_asksOf 0 = .ok (.iload_n 1, 1) := by decide +kernel
theorem dX1_asksOf_1 : decode cX1_asksOf 1 = .ok (.iconst 2, 1) := by decide +kernel
theorem dX1_asksOf_2 : decode cX1_asksOf 2 = .ok (.irem, 1) := by decide +kernel
theorem dX1_asksOf_3 : decode cX1_asksOf 3 = .ok (.ifCond .ne 7, 3) := by decide +kernel
theorem dX1_asksOf_6 : decode cX1_asksOf 6 = .ok (.iconst 1, 1) := by decide +kernel
theorem dX1_asksOf_7 : decode cX1_asksOf 7 = .ok (.goto 4, 3) := by decide +kernel
theorem dX1_asksOf_10 : decode cX1_asksOf 10 = .ok (.iconst 0, 1) := by decide +kernel
theorem dX1_asksOf_11 : decode cX1_asksOf 11 = .ok (.istore_n 2, 1) := by decide +kernel
theorem dX1_asksOf_12 : decode cX1_asksOf 12 = .ok (.iload_n 0, 1) := by decide +kernel
theorem dX1_asksOf_13 : decode cX1_asksOf 13 = .ok (.tableswitch 44 1 5 #[35, 38, 44, 35, 40], 35) := by decide +kernel
theorem dX1_asksOf_48 : decode cX1_asksOf 48 = .ok (.bipush 7, 2) := by decide +kernel
theorem dX1_asksOf_50 : decode cX1_asksOf 50 = .ok (.ireturn, 1) := by decide +kernel
theorem dX1_asksOf_51 : decode cX1_asksOf 51 = .ok (.iload_n 2, 1) := by decide +kernel
theorem dX1_asksOf_52 : decode cX1_asksOf 52 = .ok (.ireturn, 1) := by decide +kernel
theorem dX1_asksOf_53 : decode cX1_asksOf 53 = .ok (.iload_n 2, 1) := by decide +kernel
theorem dX1_asksOf_54 : decode cX1_asksOf 54 = .ok (.iconst 1, 1) := by decide +kernel
theorem dX1_asksOf_55 : decode cX1_asksOf 55 = .ok (.iadd, 1) := by decide +kernel
theorem dX1_asksOf_56 : decode cX1_asksOf 56 = .ok (.ireturn, 1) := by decide +kernel
theorem dX1_asksOf_57 : decode cX1_asksOf 57 = .ok (.iconst 2, 1) := by decide +kernel
theorem dX1_asksOf_58 : decode cX1_asksOf 58 = .ok (.ireturn, 1) := by decide +kernel
theorem dX1_losesOf_0 : decode cX1_losesOf 0 = .ok (.iload_n 0, 1) := by decide +kernel
theorem dX1_losesOf_1 : decode cX1_losesOf 1 = .ok (.lookupswitch 32 #[(1, 27), (4, 29)], 27) := by decide +kernel
theorem dX1_losesOf_28 : decode cX1_losesOf 28 = .ok (.iconst 1, 1) := by decide +kernel
theorem dX1_losesOf_29 : decode cX1_losesOf 29 = .ok (.ireturn, 1) := by decide +kernel
theorem dX1_losesOf_30 : decode cX1_losesOf 30 = .ok (.bipush 10, 2) := by decide +kernel
theorem dX1_losesOf_32 : decode cX1_losesOf 32 = .ok (.ireturn, 1) := by decide +kernel
theorem dX1_losesOf_33 : decode cX1_losesOf 33 = .ok (.iconst 0, 1) := by decide +kernel
theorem dX1_losesOf_34 : decode cX1_losesOf 34 = .ok (.ireturn, 1) := by decide +kernel
theorem dX2_init_0 : decode cX2_init 0 = .ok (.aload_n 0, 1) := by decide +kernel
theorem dX2_init_1 : decode cX2_init 1 = .ok (.invokespecial 3, 3) := by decide +kernel
theorem dX2_init_4 : decode cX2_init 4 = .ok (.aload_n 0, 1) := by decide +kernel
theorem dX2_init_5 : decode cX2_init 5 = .ok (.bipush 40, 2) := by decide +kernel
theorem dX2_init_7 : decode cX2_init 7 = .ok (.newarray .long, 2) := by decide +kernel
theorem dX2_init_9 : decode cX2_init 9 = .ok (.putfield 9, 3) := by decide +kernel
theorem dX2_init_12 : decode cX2_init 12 = .ok (.aload_n 0, 1) := by decide +kernel
theorem dX2_init_13 : decode cX2_init 13 = .ok (.iconst 0, 1) := by decide +kernel
theorem dX2_init_14 : decode cX2_init 14 = .ok (.putfield 15, 3) := by decide +kernel
theorem dX2_init_17 : decode cX2_init 17 = .ok (.aload_n 0, 1) := by decide +kernel
theorem dX2_init_18 : decode cX2_init 18 = .ok (.iconst 0, 1) := by decide +kernel
theorem dX2_init_19 : decode cX2_init 19 = .ok (.putfield 19, 3) := by decide +kernel
theorem dX2_init_22 : decode cX2_init 22 = .ok (.return_, 1) := by decide +kernel
theorem dX2_isWidth_0 : decode cX2_isWidth 0 = .ok (.iload_n 0, 1) := by decide +kernel
theorem dX2_isWidth_1 : decode cX2_isWidth 1 = .ok (.ifCond .eq 21, 3) := by decide +kernel
theorem dX2_isWidth_4 : decode cX2_isWidth 4 = .ok (.iload_n 0, 1) := by decide +kernel
theorem dX2_isWidth_5 : decode cX2_isWidth 5 = .ok (.bipush 8, 2) := by decide +kernel
theorem dX2_isWidth_7 : decode cX2_isWidth 7 = .ok (.if_icmp .eq 15, 3) := by decide +kernel
theorem dX2_isWidth_10 : decode cX2_isWidth 10 = .ok (.iload_n 0, 1) := by decide +kernel
theorem dX2_isWidth_11 : decode cX2_isWidth 11 = .ok (.bipush 16, 2) := by decide +kernel
theorem dX2_isWidth_13 : decode cX2_isWidth 13 = .ok (.if_icmp .eq 9, 3) := by decide +kernel
theorem dX2_isWidth_16 : decode cX2_isWidth 16 = .ok (.iload_n 0, 1) := by decide +kernel
theorem dX2_isWidth_17 : decode cX2_isWidth 17 = .ok (.bipush 64, 2) := by decide +kernel
theorem dX2_isWidth_19 : decode cX2_isWidth 19 = .ok (.if_icmp .ne 7, 3) := by decide +kernel
theorem dX2_isWidth_22 : decode cX2_isWidth 22 = .ok (.iconst 1, 1) := by decide +kernel
theorem dX2_isWidth_23 : decode cX2_isWidth 23 = .ok (.goto 4, 3) := by decide +kernel
theorem dX2_isWidth_26 : decode cX2_isWidth 26 = .ok (.iconst 0, 1) := by decide +kernel
theorem dX2_isWidth_27 : decode cX2_isWidth 27 = .ok (.ireturn, 1) := by decide +kernel
theorem dX2_isMissing_0 : decode cX2_isMissing 0 = .ok (.aload_n 0, 1) := by decide +kernel
theorem dX2_isMissing_1 : decode cX2_isMissing 1 = .ok (.getfield 15, 3) := by decide +kernel
theorem dX2_isMissing_4 : decode cX2_isMissing 4 = .ok (.ifCond .ne 7, 3) := by decide +kernel
theorem dX2_isMissing_7 : decode cX2_isMissing 7 = .ok (.iconst 1, 1) := by decide +kernel
theorem dX2_isMissing_8 : decode cX2_isMissing 8 = .ok (.goto 4, 3) := by decide +kernel
theorem dX2_isMissing_11 : decode cX2_isMissing 11 = .ok (.iconst 0, 1) := by decide +kernel
theorem dX2_isMissing_12 : decode cX2_isMissing 12 = .ok (.ireturn, 1) := by decide +kernel
theorem dX2_layOut_0 : decode cX2_layOut 0 = .ok (.aload_n 0, 1) := by decide +kernel
theorem dX2_layOut_1 : decode cX2_layOut 1 = .ok (.iload_n 1, 1) := by decide +kernel
theorem dX2_layOut_2 : decode cX2_layOut 2 = .ok (.putfield 15, 3) := by decide +kernel
theorem dX2_layOut_5 : decode cX2_layOut 5 = .ok (.aload_n 0, 1) := by decide +kernel
theorem dX2_layOut_6 : decode cX2_layOut 6 = .ok (.iload_n 1, 1) := by decide +kernel
theorem dX2_layOut_7 : decode cX2_layOut 7 = .ok (.ifCond .ne 7, 3) := by decide +kernel
theorem dX2_layOut_10 : decode cX2_layOut 10 = .ok (.iconst 0, 1) := by decide +kernel
theorem dX2_layOut_11 : decode cX2_layOut 11 = .ok (.goto 4, 3) := by decide +kernel
theorem dX2_layOut_14 : decode cX2_layOut 14 = .ok (.iload_n 2, 1) := by decide +kernel
theorem dX2_layOut_15 : decode cX2_layOut 15 = .ok (.putfield 19, 3) := by decide +kernel
theorem dX2_layOut_18 : decode cX2_layOut 18 = .ok (.iconst 0, 1) := by decide +kernel
theorem dX2_layOut_19 : decode cX2_layOut 19 = .ok (.istore_n 3, 1) := by decide +kernel
theorem dX2_layOut_20 : decode cX2_layOut 20 = .ok (.iload_n 3, 1) := by decide +kernel
theorem dX2_layOut_21 : decode cX2_layOut 21 = .ok (.bipush 40, 2) := by decide +kernel
theorem dX2_layOut_23 : decode cX2_layOut 23 = .ok (.if_icmp .ge 16, 3) := by decide +kernel
theorem dX2_layOut_26 : decode cX2_layOut 26 = .ok (.aload_n 0, 1) := by decide +kernel
theorem dX2_layOut_27 : decode cX2_layOut 27 = .ok (.getfield 9, 3) := by decide +kernel
theorem dX2_layOut_30 : decode cX2_layOut 30 = .ok (.iload_n 3, 1) := by decide +kernel
theorem dX2_layOut_31 : decode cX2_layOut 31 = .ok (.lconst 0, 1) := by decide +kernel
theorem dX2_layOut_32 : decode cX2_layOut 32 = .ok (.lastore, 1) := by decide +kernel
theorem dX2_layOut_33 : decode cX2_layOut 33 = .ok (.iinc 3 1, 3) := by decide +kernel
theorem dX2_layOut_36 : decode cX2_layOut 36 = .ok (.goto (-16), 3) := by decide +kernel
theorem dX2_layOut_39 : decode cX2_layOut 39 = .ok (.return_, 1) := by decide +kernel
theorem dX2_put_0 : decode cX2_put 0 = .ok (.aload_n 0, 1) := by decide +kernel
theorem dX2_put_1 : decode cX2_put 1 = .ok (.getfield 9, 3) := by decide +kernel
theorem dX2_put_4 : decode cX2_put 4 = .ok (.iload_n 1, 1) := by decide +kernel
theorem dX2_put_5 : decode cX2_put 5 = .ok (.aload_n 0, 1) := by decide +kernel
theorem dX2_put_6 : decode cX2_put 6 = .ok (.getfield 15, 3) := by decide +kernel
theorem dX2_put_9 : decode cX2_put 9 = .ok (.bipush 8, 2) := by decide +kernel
theorem dX2_put_11 : decode cX2_put 11 = .ok (.if_icmp .ne 10, 3) := by decide +kernel
theorem dX2_put_14 : decode cX2_put 14 = .ok (.lload_n 2, 1) := by decide +kernel
theorem dX2_put_15 : decode cX2_put 15 = .ok (.l2i, 1) := by decide +kernel
theorem dX2_put_16 : decode cX2_put 16 = .ok (.i2b, 1) := by decide +kernel
theorem dX2_put_17 : decode cX2_put 17 = .ok (.i2l, 1) := by decide +kernel
theorem dX2_put_18 : decode cX2_put 18 = .ok (.goto 20, 3) := by decide +kernel
theorem dX2_put_21 : decode cX2_put 21 = .ok (.aload_n 0, 1) := by decide +kernel
theorem dX2_put_22 : decode cX2_put 22 = .ok (.getfield 15, 3) := by decide +kernel
theorem dX2_put_25 : decode cX2_put 25 = .ok (.bipush 16, 2) := by decide +kernel
theorem dX2_put_27 : decode cX2_put 27 = .ok (.if_icmp .ne 10, 3) := by decide +kernel
theorem dX2_put_30 : decode cX2_put 30 = .ok (.lload_n 2, 1) := by decide +kernel
theorem dX2_put_31 : decode cX2_put 31 = .ok (.l2i, 1) := by decide +kernel
theorem dX2_put_32 : decode cX2_put 32 = .ok (.i2s, 1) := by decide +kernel
theorem dX2_put_33 : decode cX2_put 33 = .ok (.i2l, 1) := by decide +kernel
theorem dX2_put_34 : decode cX2_put 34 = .ok (.goto 4, 3) := by decide +kernel
theorem dX2_put_37 : decode cX2_put 37 = .ok (.lload_n 2, 1) := by decide +kernel
theorem dX2_put_38 : decode cX2_put 38 = .ok (.lastore, 1) := by decide +kernel
theorem dX2_put_39 : decode cX2_put 39 = .ok (.return_, 1) := by decide +kernel
theorem dX2_hasSpan_0 : decode cX2_hasSpan 0 = .ok (.iload_n 1, 1) := by decide +kernel
theorem dX2_hasSpan_1 : decode cX2_hasSpan 1 = .ok (.ifCond .lt 29, 3) := by decide +kernel
theorem dX2_hasSpan_4 : decode cX2_hasSpan 4 = .ok (.iload_n 2, 1) := by decide +kernel
theorem dX2_hasSpan_5 : decode cX2_hasSpan 5 = .ok (.ifCond .lt 25, 3) := by decide +kernel
theorem dX2_hasSpan_8 : decode cX2_hasSpan 8 = .ok (.iload_n 1, 1) := by decide +kernel
theorem dX2_hasSpan_9 : decode cX2_hasSpan 9 = .ok (.aload_n 0, 1) := by decide +kernel
theorem dX2_hasSpan_10 : decode cX2_hasSpan 10 = .ok (.getfield 19, 3) := by decide +kernel
theorem dX2_hasSpan_13 : decode cX2_hasSpan 13 = .ok (.if_icmp .gt 17, 3) := by decide +kernel
theorem dX2_hasSpan_16 : decode cX2_hasSpan 16 = .ok (.iload_n 2, 1) := by decide +kernel
theorem dX2_hasSpan_17 : decode cX2_hasSpan 17 = .ok (.aload_n 0, 1) := by decide +kernel
theorem dX2_hasSpan_18 : decode cX2_hasSpan 18 = .ok (.getfield 19, 3) := by decide +kernel
theorem dX2_hasSpan_21 : decode cX2_hasSpan 21 = .ok (.iload_n 1, 1) := by decide +kernel
theorem dX2_hasSpan_22 : decode cX2_hasSpan 22 = .ok (.isub, 1) := by decide +kernel
theorem dX2_hasSpan_23 : decode cX2_hasSpan 23 = .ok (.if_icmp .gt 7, 3) := by decide +kernel
theorem dX2_hasSpan_26 : decode cX2_hasSpan 26 = .ok (.iconst 1, 1) := by decide +kernel
theorem dX2_hasSpan_27 : decode cX2_hasSpan 27 = .ok (.goto 4, 3) := by decide +kernel
theorem dX2_hasSpan_30 : decode cX2_hasSpan 30 = .ok (.iconst 0, 1) := by decide +kernel
theorem dX2_hasSpan_31 : decode cX2_hasSpan 31 = .ok (.ireturn, 1) := by decide +kernel
theorem dX3_init_0 : decode cX3_init 0 = .ok (.aload_n 0, 1) := by decide +kernel
theorem dX3_init_1 : decode cX3_init 1 = .ok (.invokespecial 3, 3) := by decide +kernel
theorem dX3_init_4 : decode cX3_init 4 = .ok (.aload_n 0, 1) := by decide +kernel
theorem dX3_init_5 : decode cX3_init 5 = .ok (.bipush 120, 2) := by decide +kernel
theorem dX3_init_7 : decode cX3_init 7 = .ok (.newarray .int, 2) := by decide +kernel
theorem dX3_init_9 : decode cX3_init 9 = .ok (.putfield 9, 3) := by decide +kernel
theorem dX3_init_12 : decode cX3_init 12 = .ok (.aload_n 0, 1) := by decide +kernel
theorem dX3_init_13 : decode cX3_init 13 = .ok (.iconst 0, 1) := by decide +kernel
theorem dX3_init_14 : decode cX3_init 14 = .ok (.putfield 15, 3) := by decide +kernel
theorem dX3_init_17 : decode cX3_init 17 = .ok (.aload_n 0, 1) := by decide +kernel
theorem dX3_init_18 : decode cX3_init 18 = .ok (.iconst 0, 1) := by decide +kernel
theorem dX3_init_19 : decode cX3_init 19 = .ok (.putfield 19, 3) := by decide +kernel
theorem dX3_init_22 : decode cX3_init 22 = .ok (.aload_n 0, 1) := by decide +kernel
theorem dX3_init_23 : decode cX3_init 23 = .ok (.iconst 0, 1) := by decide +kernel
theorem dX3_init_24 : decode cX3_init 24 = .ok (.putfield 22, 3) := by decide +kernel
theorem dX3_init_27 : decode cX3_init 27 = .ok (.aload_n 0, 1) := by decide +kernel
theorem dX3_init_28 : decode cX3_init 28 = .ok (.iconst 0, 1) := by decide +kernel
theorem dX3_init_29 : decode cX3_init 29 = .ok (.putfield 25, 3) := by decide +kernel
theorem dX3_init_32 : decode cX3_init 32 = .ok (.aload_n 0, 1) := by decide +kernel
theorem dX3_init_33 : decode cX3_init 33 = .ok (.iconst 0, 1) := by decide +kernel
theorem dX3_init_34 : decode cX3_init 34 = .ok (.putfield 28, 3) := by decide +kernel
theorem dX3_init_37 : decode cX3_init 37 = .ok (.return_, 1) := by decide +kernel
theorem dX3_append_0 : decode cX3_append 0 = .ok (.aload_n 0, 1) := by decide +kernel
theorem dX3_append_1 : decode cX3_append 1 = .ok (.getfield 9, 3) := by decide +kernel
theorem dX3_append_4 : decode cX3_append 4 = .ok (.aload_n 0, 1) := by decide +kernel
theorem dX3_append_5 : decode cX3_append 5 = .ok (.getfield 15, 3) := by decide +kernel
theorem dX3_append_8 : decode cX3_append 8 = .ok (.iload_n 1, 1) := by decide +kernel
theorem dX3_append_9 : decode cX3_append 9 = .ok (.iastore, 1) := by decide +kernel
theorem dX3_append_10 : decode cX3_append 10 = .ok (.aload_n 0, 1) := by decide +kernel
theorem dX3_append_11 : decode cX3_append 11 = .ok (.dup, 1) := by decide +kernel
theorem dX3_append_12 : decode cX3_append 12 = .ok (.getfield 15, 3) := by decide +kernel
theorem dX3_append_15 : decode cX3_append 15 = .ok (.iconst 1, 1) := by decide +kernel
theorem dX3_append_16 : decode cX3_append 16 = .ok (.iadd, 1) := by decide +kernel
theorem dX3_append_17 : decode cX3_append 17 = .ok (.putfield 15, 3) := by decide +kernel
theorem dX3_append_20 : decode cX3_append 20 = .ok (.return_, 1) := by decide +kernel
set_option maxRecDepth 20000 in
theorem ggX3_rewind_X3_advance : GoodIn wsX3_rewind wsX3_advance := goodIn_r _ [6, 1, 7, 8, 9, 10, 11, 12, 5, 13, 14, 15, 16, 17, 18, 19, 20, 21, 22, 23, 24, 25, 26, 27, 28, 29, 30, 31] (by decide +kernel) (by decide +kernel)
set_option maxRecDepth 20000 in
theorem gX3_rewind_X3_advance : GoodIn wsX3_rewind (wsV RX3 31 RX3 yX3_advance wsX3_advance) := goodIn_app (goodIn_of _ (by decide +kernel)) ggX3_rewind_X3_advance
theorem dX3_rewind_0 : decode cX3_rewind 0 = .ok (.aload_n 0, 1) := by decide +kernel
theorem dX3_rewind_1 : decode cX3_rewind 1 = .ok (.iconst 0, 1) := by decide +kernel
theorem dX3_rewind_2 : decode cX3_rewind 2 = .ok (.putfield 25, 3) := by decide +kernel
theorem dX3_rewind_5 : decode cX3_rewind 5 = .ok (.aload_n 0, 1) := by decide +kernel
theorem dX3_rewind_6 : decode cX3_rewind 6 = .ok (.invokevirtual 31, 3) := by decide +kernel
theorem dX3_rewind_9 : decode cX3_rewind 9 = .ok (.return_, 1) := by decide +kernel
set_option maxRecDepth 20000 in
theorem ggX3_advance_X3_isLetter : GoodIn wsX3_advance wsX3_isLetter := goodIn_r _ [9] (by decide +kernel) (by decide +kernel)
set_option maxRecDepth 20000 in
theorem gX3_advance_X3_isLetter : GoodIn wsX3_advance (va_wsS RX3 34 yX3_isLetter wsX3_isLetter) := goodIn_app (goodIn_of _ (by decide +kernel)) ggX3_advance_X3_isLetter
set_option maxRecDepth 20000 in
theorem ggX3_advance_X3_takeWord : GoodIn wsX3_advance wsX3_takeWord := goodIn_r _ [13, 5, 1, 3, 4, 6, 7, 8, 9, 22, 23, 24, 25, 26, 27] (by decide +kernel) (by decide +kernel)
set_option maxRecDepth 20000 in
theorem gX3_advance_X3_takeWord : GoodIn wsX3_advance (wsV RX3 38 RX3 yX3_takeWord wsX3_takeWord) := goodIn_app (goodIn_of _ (by decide +kernel)) ggX3_advance_X3_takeWord
set_option maxRecDepth 20000 in
theorem ggX3_advance_X3_isDigit : GoodIn wsX3_advance wsX3_isDigit := goodIn_r _ [16] (by decide +kernel) (by decide +kernel)
set_option maxRecDepth 20000 in
theorem gX3_advance_X3_isDigit : GoodIn wsX3_advance (va_wsS RX3 41 yX3_isDigit wsX3_isDigit) := goodIn_app (goodIn_of _ (by decide +kernel)) ggX3_advance_X3_isDigit
set_option maxRecDepth 20000 in
theorem ggX3_advance_X3_takeNumber : GoodIn wsX3_advance wsX3_takeNumber := goodIn_r _ [20, 5, 21, 1, 3, 4, 14, 15, 8, 16, 22, 23, 24, 25, 26, 27] (by decide +kernel) (by decide +kernel)
set_option maxRecDepth 20000 in
theorem gX3_advance_X3_takeNumber : GoodIn wsX3_advance (wsV RX3 44 RX3 yX3_takeNumber wsX3_takeNumber) := goodIn_app (goodIn_of _ (by decide +kernel)) ggX3_advance_X3_takeNumber
theorem dX3_advance_0 : decode cX3_advance 0 = .ok (.aload_n 0, 1) := by decide +kernel
theorem dX3_advance_1 : decode cX3_advance 1 = .ok (.aload_n 0, 1) := by decide +kernel
theorem dX3_advance_2 : decode cX3_advance 2 = .ok (.getfield 25, 3) := by decide +kernel
theorem dX3_advance_5 : decode cX3_advance 5 = .ok (.putfield 22, 3) := by decide +kernel
theorem dX3_advance_8 : decode cX3_advance 8 = .ok (.aload_n 0, 1) := by decide +kernel
theorem dX3_advance_9 : decode cX3_advance 9 = .ok (.getfield 22, 3) := by decide +kernel
theorem dX3_advance_12 : decode cX3_advance 12 = .ok (.aload_n 0, 1) := by decide +kernel
theorem dX3_advance_13 : decode cX3_advance 13 = .ok (.getfield 15, 3) := by decide +kernel
theorem dX3_advance_16 : decode cX3_advance 16 = .ok (.if_icmp .ge 30, 3) := by decide +kernel
theorem dX3_advance_19 : decode cX3_advance 19 = .ok (.aload_n 0, 1) := by decide +kernel
theorem dX3_advance_20 : decode cX3_advance 20 = .ok (.getfield 9, 3) := by decide +kernel
theorem dX3_advance_23 : decode cX3_advance 23 = .ok (.aload_n 0, 1) := by decide +kernel
theorem dX3_advance_24 : decode cX3_advance 24 = .ok (.getfield 22, 3) := by decide +kernel
theorem dX3_advance_27 : decode cX3_advance 27 = .ok (.iaload, 1) := by decide +kernel
theorem dX3_advance_28 : decode cX3_advance 28 = .ok (.bipush 32, 2) := by decide +kernel
theorem dX3_advance_30 : decode cX3_advance 30 = .ok (.if_icmp .ne 16, 3) := by decide +kernel
theorem dX3_advance_33 : decode cX3_advance 33 = .ok (.aload_n 0, 1) := by decide +kernel
theorem dX3_advance_34 : decode cX3_advance 34 = .ok (.dup, 1) := by decide +kernel
theorem dX3_advance_35 : decode cX3_advance 35 = .ok (.getfield 22, 3) := by decide +kernel
theorem dX3_advance_38 : decode cX3_advance 38 = .ok (.iconst 1, 1) := by decide +kernel
theorem dX3_advance_39 : decode cX3_advance 39 = .ok (.iadd, 1) := by decide +kernel
theorem dX3_advance_40 : decode cX3_advance 40 = .ok (.putfield 22, 3) := by decide +kernel
theorem dX3_advance_43 : decode cX3_advance 43 = .ok (.goto (-35), 3) := by decide +kernel
theorem dX3_advance_46 : decode cX3_advance 46 = .ok (.aload_n 0, 1) := by decide +kernel
theorem dX3_advance_47 : decode cX3_advance 47 = .ok (.aload_n 0, 1) := by decide +kernel
theorem dX3_advance_48 : decode cX3_advance 48 = .ok (.getfield 22, 3) := by decide +kernel
theorem dX3_advance_51 : decode cX3_advance 51 = .ok (.putfield 25, 3) := by decide +kernel
theorem dX3_advance_54 : decode cX3_advance 54 = .ok (.aload_n 0, 1) := by decide +kernel
theorem dX3_advance_55 : decode cX3_advance 55 = .ok (.getfield 22, 3) := by decide +kernel
theorem dX3_advance_58 : decode cX3_advance 58 = .ok (.aload_n 0, 1) := by decide +kernel
theorem dX3_advance_59 : decode cX3_advance 59 = .ok (.getfield 15, 3) := by decide +kernel
theorem dX3_advance_62 : decode cX3_advance 62 = .ok (.if_icmp .lt 11, 3) := by decide +kernel
theorem dX3_advance_65 : decode cX3_advance 65 = .ok (.aload_n 0, 1) := by decide +kernel
theorem dX3_advance_66 : decode cX3_advance 66 = .ok (.iconst 0, 1) := by decide +kernel
theorem dX3_advance_67 : decode cX3_advance 67 = .ok (.putfield 19, 3) := by decide +kernel
theorem dX3_advance_70 : decode cX3_advance 70 = .ok (.goto 80, 3) := by decide +kernel
theorem dX3_advance_73 : decode cX3_advance 73 = .ok (.aload_n 0, 1) := by decide +kernel
theorem dX3_advance_74 : decode cX3_advance 74 = .ok (.getfield 9, 3) := by decide +kernel
theorem dX3_advance_77 : decode cX3_advance 77 = .ok (.aload_n 0, 1) := by decide +kernel
theorem dX3_advance_78 : decode cX3_advance 78 = .ok (.getfield 22, 3) := by decide +kernel
theorem dX3_advance_81 : decode cX3_advance 81 = .ok (.iaload, 1) := by decide +kernel
theorem dX3_advance_82 : decode cX3_advance 82 = .ok (.invokestatic 34, 3) := by decide +kernel
theorem dX3_advance_85 : decode cX3_advance 85 = .ok (.ifCond .eq 10, 3) := by decide +kernel
theorem dX3_advance_88 : decode cX3_advance 88 = .ok (.aload_n 0, 1) := by decide +kernel
theorem dX3_advance_89 : decode cX3_advance 89 = .ok (.invokevirtual 38, 3) := by decide +kernel
theorem dX3_advance_92 : decode cX3_advance 92 = .ok (.goto 58, 3) := by decide +kernel
theorem dX3_advance_95 : decode cX3_advance 95 = .ok (.aload_n 0, 1) := by decide +kernel
theorem dX3_advance_96 : decode cX3_advance 96 = .ok (.getfield 9, 3) := by decide +kernel
theorem dX3_advance_99 : decode cX3_advance 99 = .ok (.aload_n 0, 1) := by decide +kernel
theorem dX3_advance_100 : decode cX3_advance 100 = .ok (.getfield 22, 3) := by decide +kernel
theorem dX3_advance_103 : decode cX3_advance 103 = .ok (.iaload, 1) := by decide +kernel
theorem dX3_advance_104 : decode cX3_advance 104 = .ok (.invokestatic 41, 3) := by decide +kernel
theorem dX3_advance_107 : decode cX3_advance 107 = .ok (.ifCond .eq 10, 3) := by decide +kernel
theorem dX3_advance_110 : decode cX3_advance 110 = .ok (.aload_n 0, 1) := by decide +kernel
theorem dX3_advance_111 : decode cX3_advance 111 = .ok (.invokevirtual 44, 3) := by decide +kernel
theorem dX3_advance_114 : decode cX3_advance 114 = .ok (.goto 36, 3) := by decide +kernel
theorem dX3_advance_117 : decode cX3_advance 117 = .ok (.aload_n 0, 1) := by decide +kernel
theorem dX3_advance_118 : decode cX3_advance 118 = .ok (.aload_n 0, 1) := by decide +kernel
theorem dX3_advance_119 : decode cX3_advance 119 = .ok (.getfield 9, 3) := by decide +kernel
theorem dX3_advance_122 : decode cX3_advance 122 = .ok (.aload_n 0, 1) := by decide +kernel
theorem dX3_advance_123 : decode cX3_advance 123 = .ok (.getfield 22, 3) := by decide +kernel
theorem dX3_advance_126 : decode cX3_advance 126 = .ok (.iaload, 1) := by decide +kernel
theorem dX3_advance_127 : decode cX3_advance 127 = .ok (.bipush 59, 2) := by decide +kernel
theorem dX3_advance_129 : decode cX3_advance 129 = .ok (.if_icmp .ne 7, 3) := by decide +kernel
theorem dX3_advance_132 : decode cX3_advance 132 = .ok (.iconst 3, 1) := by decide +kernel
theorem dX3_advance_133 : decode cX3_advance 133 = .ok (.goto 4, 3) := by decide +kernel
theorem dX3_advance_136 : decode cX3_advance 136 = .ok (.iconst 4, 1) := by decide +kernel
theorem dX3_advance_137 : decode cX3_advance 137 = .ok (.putfield 19, 3) := by decide +kernel
theorem dX3_advance_140 : decode cX3_advance 140 = .ok (.aload_n 0, 1) := by decide +kernel
theorem dX3_advance_141 : decode cX3_advance 141 = .ok (.dup, 1) := by decide +kernel
theorem dX3_advance_142 : decode cX3_advance 142 = .ok (.getfield 25, 3) := by decide +kernel
theorem dX3_advance_145 : decode cX3_advance 145 = .ok (.iconst 1, 1) := by decide +kernel
theorem dX3_advance_146 : decode cX3_advance 146 = .ok (.iadd, 1) := by decide +kernel
theorem dX3_advance_147 : decode cX3_advance 147 = .ok (.putfield 25, 3) := by decide +kernel
theorem dX3_advance_150 : decode cX3_advance 150 = .ok (.return_, 1) := by decide +kernel
set_option maxRecDepth 20000 in
theorem ggX3_takeWord_X3_isLetter : GoodIn wsX3_takeWord wsX3_isLetter := goodIn_r _ [8] (by decide +kernel) (by decide +kernel)
set_option maxRecDepth 20000 in
theorem gX3_takeWord_X3_isLetter : GoodIn wsX3_takeWord (va_wsS RX3 34 yX3_isLetter wsX3_isLetter) := goodIn_app (goodIn_of _ (by decide +kernel)) ggX3_takeWord_X3_isLetter
theorem dX3_takeWord_0 : decode cX3_takeWord 0 = .ok (.aload_n 0, 1) := by decide +kernel
theorem dX3_takeWord_1 : decode cX3_takeWord 1 = .ok (.iconst 1, 1) := by decide +kernel
theorem dX3_takeWord_2 : decode cX3_takeWord 2 = .ok (.putfield 19, 3) := by decide +kernel
theorem dX3_takeWord_5 : decode cX3_takeWord 5 = .ok (.aload_n 0, 1) := by decide +kernel
theorem dX3_takeWord_6 : decode cX3_takeWord 6 = .ok (.getfield 25, 3) := by decide +kernel
theorem dX3_takeWord_9 : decode cX3_takeWord 9 = .ok (.aload_n 0, 1) := by decide +kernel
theorem dX3_takeWord_10 : decode cX3_takeWord 10 = .ok (.getfield 15, 3) := by decide +kernel
theorem dX3_takeWord_13 : decode cX3_takeWord 13 = .ok (.if_icmp .ge 31, 3) := by decide +kernel
theorem dX3_takeWord_16 : decode cX3_takeWord 16 = .ok (.aload_n 0, 1) := by decide +kernel
theorem dX3_takeWord_17 : decode cX3_takeWord 17 = .ok (.getfield 9, 3) := by decide +kernel
theorem dX3_takeWord_20 : decode cX3_takeWord 20 = .ok (.aload_n 0, 1) := by decide +kernel
theorem dX3_takeWord_21 : decode cX3_takeWord 21 = .ok (.getfield 25, 3) := by decide +kernel
theorem dX3_takeWord_24 : decode cX3_takeWord 24 = .ok (.iaload, 1) := by decide +kernel
theorem dX3_takeWord_25 : decode cX3_takeWord 25 = .ok (.invokestatic 34, 3) := by decide +kernel
theorem dX3_takeWord_28 : decode cX3_takeWord 28 = .ok (.ifCond .eq 16, 3) := by decide +kernel
theorem dX3_takeWord_31 : decode cX3_takeWord 31 = .ok (.aload_n 0, 1) := by decide +kernel
theorem dX3_takeWord_32 : decode cX3_takeWord 32 = .ok (.dup, 1) := by decide +kernel
theorem dX3_takeWord_33 : decode cX3_takeWord 33 = .ok (.getfield 25, 3) := by decide +kernel
theorem dX3_takeWord_36 : decode cX3_takeWord 36 = .ok (.iconst 1, 1) := by decide +kernel
theorem dX3_takeWord_37 : decode cX3_takeWord 37 = .ok (.iadd, 1) := by decide +kernel
theorem dX3_takeWord_38 : decode cX3_takeWord 38 = .ok (.putfield 25, 3) := by decide +kernel
theorem dX3_takeWord_41 : decode cX3_takeWord 41 = .ok (.goto (-36), 3) := by decide +kernel
theorem dX3_takeWord_44 : decode cX3_takeWord 44 = .ok (.return_, 1) := by decide +kernel
set_option maxRecDepth 20000 in
theorem ggX3_takeNumber_X3_isDigit : GoodIn wsX3_takeNumber wsX3_isDigit := goodIn_r _ [9] (by decide +kernel) (by decide +kernel)
set_option maxRecDepth 20000 in
theorem gX3_takeNumber_X3_isDigit : GoodIn wsX3_takeNumber (va_wsS RX3 41 yX3_isDigit wsX3_isDigit) := goodIn_app (goodIn_of _ (by decide +kernel)) ggX3_takeNumber_X3_isDigit
theorem dX3_takeNumber_0 : decode cX3_takeNumber 0 = .ok (.aload_n 0, 1) := by decide +kernel
theorem dX3_takeNumber_1 : decode cX3_takeNumber 1 = .ok (.iconst 2, 1) := by decide +kernel
theorem dX3_takeNumber_2 : decode cX3_takeNumber 2 = .ok (.putfield 19, 3) := by decide +kernel
theorem dX3_takeNumber_5 : decode cX3_takeNumber 5 = .ok (.aload_n 0, 1) := by decide +kernel
theorem dX3_takeNumber_6 : decode cX3_takeNumber 6 = .ok (.iconst 0, 1) := by decide +kernel
theorem dX3_takeNumber_7 : decode cX3_takeNumber 7 = .ok (.putfield 28, 3) := by decide +kernel
theorem dX3_takeNumber_10 : decode cX3_takeNumber 10 = .ok (.aload_n 0, 1) := by decide +kernel
theorem dX3_takeNumber_11 : decode cX3_takeNumber 11 = .ok (.getfield 25, 3) := by decide +kernel
theorem dX3_takeNumber_14 : decode cX3_takeNumber 14 = .ok (.aload_n 0, 1) := by decide +kernel
theorem dX3_takeNumber_15 : decode cX3_takeNumber 15 = .ok (.getfield 15, 3) := by decide +kernel
theorem dX3_takeNumber_18 : decode cX3_takeNumber 18 = .ok (.if_icmp .ge 65, 3) := by decide +kernel
theorem dX3_takeNumber_21 : decode cX3_takeNumber 21 = .ok (.aload_n 0, 1) := by decide +kernel
theorem dX3_takeNumber_22 : decode cX3_takeNumber 22 = .ok (.getfield 9, 3) := by decide +kernel
theorem dX3_takeNumber_25 : decode cX3_takeNumber 25 = .ok (.aload_n 0, 1) := by decide +kernel
theorem dX3_takeNumber_26 : decode cX3_takeNumber 26 = .ok (.getfield 25, 3) := by decide +kernel
theorem dX3_takeNumber_29 : decode cX3_takeNumber 29 = .ok (.iaload, 1) := by decide +kernel
theorem dX3_takeNumber_30 : decode cX3_takeNumber 30 = .ok (.invokestatic 41, 3) := by decide +kernel
theorem dX3_takeNumber_33 : decode cX3_takeNumber 33 = .ok (.ifCond .eq 50, 3) := by decide +kernel
theorem dX3_takeNumber_36 : decode cX3_takeNumber 36 = .ok (.aload_n 0, 1) := by decide +kernel
theorem dX3_takeNumber_37 : decode cX3_takeNumber 37 = .ok (.getfield 28, 3) := by decide +kernel
theorem dX3_takeNumber_40 : decode cX3_takeNumber 40 = .ok (.sipush 999, 3) := by decide +kernel
theorem dX3_takeNumber_43 : decode cX3_takeNumber 43 = .ok (.if_icmp .gt 27, 3) := by decide +kernel
theorem dX3_takeNumber_46 : decode cX3_takeNumber 46 = .ok (.aload_n 0, 1) := by decide +kernel
theorem dX3_takeNumber_47 : decode cX3_takeNumber 47 = .ok (.bipush 10, 2) := by decide +kernel
theorem dX3_takeNumber_49 : decode cX3_takeNumber 49 = .ok (.aload_n 0, 1) := by decide +kernel
theorem dX3_takeNumber_50 : decode cX3_takeNumber 50 = .ok (.getfield 28, 3) := by decide +kernel
theorem dX3_takeNumber_53 : decode cX3_takeNumber 53 = .ok (.imul, 1) := by decide +kernel
theorem dX3_takeNumber_54 : decode cX3_takeNumber 54 = .ok (.aload_n 0, 1) := by decide +kernel
theorem dX3_takeNumber_55 : decode cX3_takeNumber 55 = .ok (.getfield 9, 3) := by decide +kernel
theorem dX3_takeNumber_58 : decode cX3_takeNumber 58 = .ok (.aload_n 0, 1) := by decide +kernel
theorem dX3_takeNumber_59 : decode cX3_takeNumber 59 = .ok (.getfield 25, 3) := by decide +kernel
theorem dX3_takeNumber_62 : decode cX3_takeNumber 62 = .ok (.iaload, 1) := by decide +kernel
theorem dX3_takeNumber_63 : decode cX3_takeNumber 63 = .ok (.iadd, 1) := by decide +kernel
theorem dX3_takeNumber_64 : decode cX3_takeNumber 64 = .ok (.bipush 48, 2) := by decide +kernel
theorem dX3_takeNumber_66 : decode cX3_takeNumber 66 = .ok (.isub, 1) := by decide +kernel
theorem dX3_takeNumber_67 : decode cX3_takeNumber 67 = .ok (.putfield 28, 3) := by decide +kernel
theorem dX3_takeNumber_70 : decode cX3_takeNumber 70 = .ok (.aload_n 0, 1) := by decide +kernel
theorem dX3_takeNumber_71 : decode cX3_takeNumber 71 = .ok (.dup, 1) := by decide +kernel
theorem dX3_takeNumber_72 : decode cX3_takeNumber 72 = .ok (.getfield 25, 3) := by decide +kernel
theorem dX3_takeNumber_75 : decode cX3_takeNumber 75 = .ok (.iconst 1, 1) := by decide +kernel
theorem dX3_takeNumber_76 : decode cX3_takeNumber 76 = .ok (.iadd, 1) := by decide +kernel
theorem dX3_takeNumber_77 : decode cX3_takeNumber 77 = .ok (.putfield 25, 3) := by decide +kernel
theorem dX3_takeNumber_80 : decode cX3_takeNumber 80 = .ok (.goto (-70), 3) := by decide +kernel
theorem dX3_takeNumber_83 : decode cX3_takeNumber 83 = .ok (.return_, 1) := by decide +kernel
theorem dX3_isNumberUpTo_0 : decode cX3_isNumberUpTo 0 = .ok (.aload_n 0, 1) := by decide +kernel
theorem dX3_isNumberUpTo_1 : decode cX3_isNumberUpTo 1 = .ok (.getfield 19, 3) := by decide +kernel
theorem dX3_isNumberUpTo_4 : decode cX3_isNumberUpTo 4 = .ok (.iconst 2, 1) := by decide +kernel
theorem dX3_isNumberUpTo_5 : decode cX3_isNumberUpTo 5 = .ok (.if_icmp .ne 15, 3) := by decide +kernel
theorem dX3_isNumberUpTo_8 : decode cX3_isNumberUpTo 8 = .ok (.aload_n 0, 1) := by decide +kernel
theorem dX3_isNumberUpTo_9 : decode cX3_isNumberUpTo 9 = .ok (.getfield 28, 3) := by decide +kernel
theorem dX3_isNumberUpTo_12 : decode cX3_isNumberUpTo 12 = .ok (.iload_n 1, 1) := by decide +kernel
theorem dX3_isNumberUpTo_13 : decode cX3_isNumberUpTo 13 = .ok (.if_icmp .gt 7, 3) := by decide +kernel
theorem dX3_isNumberUpTo_16 : decode cX3_isNumberUpTo 16 = .ok (.iconst 1, 1) := by decide +kernel
theorem dX3_isNumberUpTo_17 : decode cX3_isNumberUpTo 17 = .ok (.goto 4, 3) := by decide +kernel
theorem dX3_isNumberUpTo_20 : decode cX3_isNumberUpTo 20 = .ok (.iconst 0, 1) := by decide +kernel
theorem dX3_isNumberUpTo_21 : decode cX3_isNumberUpTo 21 = .ok (.ireturn, 1) := by decide +kernel
set_option maxRecDepth 20000 in
theorem ggX3_isWord_J0_length_8abf5 : GoodIn wsX3_isWord wsJ0_length_8abf5 := goodIn_r _ [9, 10, 11, 12, 13, 8, 14, 15, 16] (by decide +kernel) (by decide +kernel)
set_option maxRecDepth 20000 in
theorem gX3_isWord_J0_length_8abf5 : GoodIn wsX3_isWord (wsV RX3 47 RJ0 yJ0_length_8abf5 wsJ0_length_8abf5) := goodIn_app (goodIn_of _ (by decide +kernel)) ggX3_isWord_J0_length_8abf5
set_option maxRecDepth 20000 in
theorem ggX3_isWord_J0_charAt_5068e : GoodIn wsX3_isWord wsJ0_charAt_5068e := goodIn_r _ [20, 10, 21, 22, 23, 8, 24, 15, 16, 25, 26, 27, 28, 29, 30, 31, 32, 33, 34, 35, 36, 37, 38, 39, 40, 41, 42, 43, 44, 45, 46, 47, 48, 49, 50, 51, 52, 53] (by decide +kernel) (by decide +kernel)
set_option maxRecDepth 20000 in
theorem gX3_isWord_J0_charAt_5068e : GoodIn wsX3_isWord (wsV RX3 52 RJ0 yJ0_charAt_5068e wsJ0_charAt_5068e) := goodIn_app (goodIn_of _ (by decide +kernel)) ggX3_isWord_J0_charAt_5068e
theorem dX3_isWord_0 : decode cX3_isWord 0 = .ok (.aload_n 0, 1) := by decide +kernel
theorem dX3_isWord_1 : decode cX3_isWord 1 = .ok (.getfield 19, 3) := by decide +kernel
theorem dX3_isWord_4 : decode cX3_isWord 4 = .ok (.iconst 1, 1) := by decide +kernel
theorem dX3_isWord_5 : decode cX3_isWord 5 = .ok (.if_icmp .ne 19, 3) := by decide +kernel
theorem dX3_isWord_8 : decode cX3_isWord 8 = .ok (.aload_n 1, 1) := by decide +kernel
theorem dX3_isWord_9 : decode cX3_isWord 9 = .ok (.invokevirtual 47, 3) := by decide +kernel
theorem dX3_isWord_12 : decode cX3_isWord 12 = .ok (.aload_n 0, 1) := by decide +kernel
theorem dX3_isWord_13 : decode cX3_isWord 13 = .ok (.getfield 25, 3) := by decide +kernel
theorem dX3_isWord_16 : decode cX3_isWord 16 = .ok (.aload_n 0, 1) := by decide +kernel
theorem dX3_isWord_17 : decode cX3_isWord 17 = .ok (.getfield 22, 3) := by decide +kernel
theorem dX3_isWord_20 : decode cX3_isWord 20 = .ok (.isub, 1) := by decide +kernel
theorem dX3_isWord_21 : decode cX3_isWord 21 = .ok (.if_icmp .eq 5, 3) := by decide +kernel
theorem dX3_isWord_24 : decode cX3_isWord 24 = .ok (.iconst 0, 1) := by decide +kernel
theorem dX3_isWord_25 : decode cX3_isWord 25 = .ok (.ireturn, 1) := by decide +kernel
theorem dX3_isWord_26 : decode cX3_isWord 26 = .ok (.iconst 0, 1) := by decide +kernel
theorem dX3_isWord_27 : decode cX3_isWord 27 = .ok (.istore_n 2, 1) := by decide +kernel
theorem dX3_isWord_28 : decode cX3_isWord 28 = .ok (.iload_n 2, 1) := by decide +kernel
theorem dX3_isWord_29 : decode cX3_isWord 29 = .ok (.aload_n 1, 1) := by decide +kernel
theorem dX3_isWord_30 : decode cX3_isWord 30 = .ok (.invokevirtual 47, 3) := by decide +kernel
theorem dX3_isWord_33 : decode cX3_isWord 33 = .ok (.if_icmp .ge 30, 3) := by decide +kernel
theorem dX3_isWord_36 : decode cX3_isWord 36 = .ok (.aload_n 1, 1) := by decide +kernel
theorem dX3_isWord_37 : decode cX3_isWord 37 = .ok (.iload_n 2, 1) := by decide +kernel
theorem dX3_isWord_38 : decode cX3_isWord 38 = .ok (.invokevirtual 52, 3) := by decide +kernel
theorem dX3_isWord_41 : decode cX3_isWord 41 = .ok (.aload_n 0, 1) := by decide +kernel
theorem dX3_isWord_42 : decode cX3_isWord 42 = .ok (.getfield 9, 3) := by decide +kernel
theorem dX3_isWord_45 : decode cX3_isWord 45 = .ok (.aload_n 0, 1) := by decide +kernel
theorem dX3_isWord_46 : decode cX3_isWord 46 = .ok (.getfield 22, 3) := by decide +kernel
theorem dX3_isWord_49 : decode cX3_isWord 49 = .ok (.iload_n 2, 1) := by decide +kernel
theorem dX3_isWord_50 : decode cX3_isWord 50 = .ok (.iadd, 1) := by decide +kernel
theorem dX3_isWord_51 : decode cX3_isWord 51 = .ok (.iaload, 1) := by decide +kernel
theorem dX3_isWord_52 : decode cX3_isWord 52 = .ok (.if_icmp .eq 5, 3) := by decide +kernel
theorem dX3_isWord_55 : decode cX3_isWord 55 = .ok (.iconst 0, 1) := by decide +kernel
theorem dX3_isWord_56 : decode cX3_isWord 56 = .ok (.ireturn, 1) := by decide +kernel
theorem dX3_isWord_57 : decode cX3_isWord 57 = .ok (.iinc 2 1, 3) := by decide +kernel
theorem dX3_isWord_60 : decode cX3_isWord 60 = .ok (.goto (-32), 3) := by decide +kernel
theorem dX3_isWord_63 : decode cX3_isWord 63 = .ok (.iconst 1, 1) := by decide +kernel
theorem dX3_isWord_64 : decode cX3_isWord 64 = .ok (.ireturn, 1) := by decide +kernel
theorem dX3_isLetter_0 : decode cX3_isLetter 0 = .ok (.iload_n 0, 1) := by decide +kernel
theorem dX3_isLetter_1 : decode cX3_isLetter 1 = .ok (.bipush 97, 2) := by decide +kernel
theorem dX3_isLetter_3 : decode cX3_isLetter 3 = .ok (.if_icmp .lt 13, 3) := by decide +kernel
theorem dX3_isLetter_6 : decode cX3_isLetter 6 = .ok (.iload_n 0, 1) := by decide +kernel
theorem dX3_isLetter_7 : decode cX3_isLetter 7 = .ok (.bipush 122, 2) := by decide +kernel
theorem dX3_isLetter_9 : decode cX3_isLetter 9 = .ok (.if_icmp .gt 7, 3) := by decide +kernel
theorem dX3_isLetter_12 : decode cX3_isLetter 12 = .ok (.iconst 1, 1) := by decide +kernel
theorem dX3_isLetter_13 : decode cX3_isLetter 13 = .ok (.goto 4, 3) := by decide +kernel
theorem dX3_isLetter_16 : decode cX3_isLetter 16 = .ok (.iconst 0, 1) := by decide +kernel
theorem dX3_isLetter_17 : decode cX3_isLetter 17 = .ok (.ireturn, 1) := by decide +kernel
theorem dX3_isDigit_0 : decode cX3_isDigit 0 = .ok (.iload_n 0, 1) := by decide +kernel
theorem dX3_isDigit_1 : decode cX3_isDigit 1 = .ok (.bipush 48, 2) := by decide +kernel
theorem dX3_isDigit_3 : decode cX3_isDigit 3 = .ok (.if_icmp .lt 13, 3) := by decide +kernel
theorem dX3_isDigit_6 : decode cX3_isDigit 6 = .ok (.iload_n 0, 1) := by decide +kernel
theorem dX3_isDigit_7 : decode cX3_isDigit 7 = .ok (.bipush 57, 2) := by decide +kernel
theorem dX3_isDigit_9 : decode cX3_isDigit 9 = .ok (.if_icmp .gt 7, 3) := by decide +kernel
theorem dX3_isDigit_12 : decode cX3_isDigit 12 = .ok (.iconst 1, 1) := by decide +kernel
theorem dX3_isDigit_13 : decode cX3_isDigit 13 = .ok (.goto 4, 3) := by decide +kernel
theorem dX3_isDigit_16 : decode cX3_isDigit 16 = .ok (.iconst 0, 1) := by decide +kernel
theorem dX3_isDigit_17 : decode cX3_isDigit 17 = .ok (.ireturn, 1) := by decide +kernel
set_option maxRecDepth 20000 in
theorem ggX4_init_X0_init : GoodIn wsX4_init wsX0_init := goodIn_r _ [20, 21, 2, 3, 22, 23, 35, 36] (by decide +kernel) (by decide +kernel)
set_option maxRecDepth 20000 in
theorem gX4_init_X0_init_n42 : GoodIn wsX4_init (wsX0_init) := ggX4_init_X0_init
theorem dX4_init_0 : decode cX4_init 0 = .ok (.aload_n 0, 1) := by decide +kernel
theorem dX4_init_1 : decode cX4_init 1 = .ok (.invokespecial 3, 3) := by decide +kernel
theorem dX4_init_4 : decode cX4_init 4 = .ok (.aload_n 0, 1) := by decide +kernel
theorem dX4_init_5 : decode cX4_init 5 = .ok (.iconst 0, 1) := by decide +kernel
theorem dX4_init_6 : decode cX4_init 6 = .ok (.putfield 9, 3) := by decide +kernel
theorem dX4_init_9 : decode cX4_init 9 = .ok (.aload_n 0, 1) := by decide +kernel
theorem dX4_init_10 : decode cX4_init 10 = .ok (.iconst 0, 1) := by decide +kernel
theorem dX4_init_11 : decode cX4_init 11 = .ok (.putfield 15, 3) := by decide +kernel
theorem dX4_init_14 : decode cX4_init 14 = .ok (.aload_n 0, 1) := by decide +kernel
theorem dX4_init_15 : decode cX4_init 15 = .ok (.iconst 0, 1) := by decide +kernel
theorem dX4_init_16 : decode cX4_init 16 = .ok (.putfield 18, 3) := by decide +kernel
theorem dX4_init_19 : decode cX4_init 19 = .ok (.aload_n 0, 1) := by decide +kernel
theorem dX4_init_20 : decode cX4_init 20 = .ok (.bipush 8, 2) := by decide +kernel
theorem dX4_init_22 : decode cX4_init 22 = .ok (.newarray .int, 2) := by decide +kernel
theorem dX4_init_24 : decode cX4_init 24 = .ok (.putfield 21, 3) := by decide +kernel
theorem dX4_init_27 : decode cX4_init 27 = .ok (.aload_n 0, 1) := by decide +kernel
theorem dX4_init_28 : decode cX4_init 28 = .ok (.bipush 8, 2) := by decide +kernel
theorem dX4_init_30 : decode cX4_init 30 = .ok (.newarray .int, 2) := by decide +kernel
theorem dX4_init_32 : decode cX4_init 32 = .ok (.putfield 25, 3) := by decide +kernel
theorem dX4_init_35 : decode cX4_init 35 = .ok (.aload_n 0, 1) := by decide +kernel
theorem dX4_init_36 : decode cX4_init 36 = .ok (.bipush 8, 2) := by decide +kernel
theorem dX4_init_38 : decode cX4_init 38 = .ok (.newarray .int, 2) := by decide +kernel
theorem dX4_init_40 : decode cX4_init 40 = .ok (.putfield 28, 3) := by decide +kernel
theorem dX4_init_43 : decode cX4_init 43 = .ok (.aload_n 0, 1) := by decide +kernel
theorem dX4_init_44 : decode cX4_init 44 = .ok (.bipush 8, 2) := by decide +kernel
theorem dX4_init_46 : decode cX4_init 46 = .ok (.newarray .int, 2) := by decide +kernel
theorem dX4_init_48 : decode cX4_init 48 = .ok (.putfield 31, 3) := by decide +kernel
theorem dX4_init_51 : decode cX4_init 51 = .ok (.aload_n 0, 1) := by decide +kernel
theorem dX4_init_52 : decode cX4_init 52 = .ok (.bipush 80, 2) := by decide +kernel
theorem dX4_init_54 : decode cX4_init 54 = .ok (.newarray .int, 2) := by decide +kernel
theorem dX4_init_56 : decode cX4_init 56 = .ok (.putfield 34, 3) := by decide +kernel
theorem dX4_init_59 : decode cX4_init 59 = .ok (.aload_n 0, 1) := by decide +kernel
theorem dX4_init_60 : decode cX4_init 60 = .ok (.bipush 10, 2) := by decide +kernel
theorem dX4_init_62 : decode cX4_init 62 = .ok (.newarray .int, 2) := by decide +kernel
theorem dX4_init_64 : decode cX4_init 64 = .ok (.putfield 37, 3) := by decide +kernel
theorem dX4_init_67 : decode cX4_init 67 = .ok (.aload_n 0, 1) := by decide +kernel
theorem dX4_init_68 : decode cX4_init 68 = .ok (.new 40, 3) := by decide +kernel
theorem dX4_init_71 : decode cX4_init 71 = .ok (.dup, 1) := by decide +kernel
theorem dX4_init_72 : decode cX4_init 72 = .ok (.invokespecial 42, 3) := by decide +kernel
theorem dX4_init_75 : decode cX4_init 75 = .ok (.putfield 43, 3) := by decide +kernel
theorem dX4_init_78 : decode cX4_init 78 = .ok (.aload_n 0, 1) := by decide +kernel
theorem dX4_init_79 : decode cX4_init 79 = .ok (.iconst 0, 1) := by decide +kernel
theorem dX4_init_80 : decode cX4_init 80 = .ok (.putfield 47, 3) := by decide +kernel
theorem dX4_init_83 : decode cX4_init 83 = .ok (.return_, 1) := by decide +kernel
theorem dX4_isFull_0 : decode cX4_isFull 0 = .ok (.aload_n 0, 1) := by decide +kernel
theorem dX4_isFull_1 : decode cX4_isFull 1 = .ok (.getfield 18, 3) := by decide +kernel
theorem dX4_isFull_4 : decode cX4_isFull 4 = .ok (.bipush 8, 2) := by decide +kernel
theorem dX4_isFull_6 : decode cX4_isFull 6 = .ok (.if_icmp .lt 7, 3) := by decide +kernel
theorem dX4_isFull_9 : decode cX4_isFull 9 = .ok (.iconst 1, 1) := by decide +kernel
theorem dX4_isFull_10 : decode cX4_isFull 10 = .ok (.goto 4, 3) := by decide +kernel
theorem dX4_isFull_13 : decode cX4_isFull 13 = .ok (.iconst 0, 1) := by decide +kernel
theorem dX4_isFull_14 : decode cX4_isFull 14 = .ok (.ireturn, 1) := by decide +kernel
set_option maxRecDepth 20000 in
theorem ggX4_addOne_X4_makeLike : GoodIn wsX4_addOne wsX4_makeLike := goodIn_r _ [11, 12, 13, 14, 15, 16, 17, 18, 19, 20, 21, 22, 23] (by decide +kernel) (by decide +kernel)
set_option maxRecDepth 20000 in
theorem gX4_addOne_X4_makeLike : GoodIn wsX4_addOne (wsV RX4 50 RX4 yX4_makeLike wsX4_makeLike) := goodIn_app (goodIn_of _ (by decide +kernel)) ggX4_addOne_X4_makeLike
theorem dX4_addOne_0 : decode cX4_addOne 0 = .ok (.aload_n 0, 1) := by decide +kernel
theorem dX4_addOne_1 : decode cX4_addOne 1 = .ok (.getfield 18, 3) := by decide +kernel
theorem dX4_addOne_4 : decode cX4_addOne 4 = .ok (.istore_n 3, 1) := by decide +kernel
theorem dX4_addOne_5 : decode cX4_addOne 5 = .ok (.aload_n 0, 1) := by decide +kernel
theorem dX4_addOne_6 : decode cX4_addOne 6 = .ok (.iload_n 3, 1) := by decide +kernel
theorem dX4_addOne_7 : decode cX4_addOne 7 = .ok (.iconst 1, 1) := by decide +kernel
theorem dX4_addOne_8 : decode cX4_addOne 8 = .ok (.iadd, 1) := by decide +kernel
theorem dX4_addOne_9 : decode cX4_addOne 9 = .ok (.putfield 18, 3) := by decide +kernel
theorem dX4_addOne_12 : decode cX4_addOne 12 = .ok (.aload_n 0, 1) := by decide +kernel
theorem dX4_addOne_13 : decode cX4_addOne 13 = .ok (.getfield 21, 3) := by decide +kernel
theorem dX4_addOne_16 : decode cX4_addOne 16 = .ok (.iload_n 3, 1) := by decide +kernel
theorem dX4_addOne_17 : decode cX4_addOne 17 = .ok (.iload_n 1, 1) := by decide +kernel
theorem dX4_addOne_18 : decode cX4_addOne 18 = .ok (.iastore, 1) := by decide +kernel
theorem dX4_addOne_19 : decode cX4_addOne 19 = .ok (.aload_n 0, 1) := by decide +kernel
theorem dX4_addOne_20 : decode cX4_addOne 20 = .ok (.getfield 25, 3) := by decide +kernel
theorem dX4_addOne_23 : decode cX4_addOne 23 = .ok (.iload_n 3, 1) := by decide +kernel
theorem dX4_addOne_24 : decode cX4_addOne 24 = .ok (.iload_n 2, 1) := by decide +kernel
theorem dX4_addOne_25 : decode cX4_addOne 25 = .ok (.iastore, 1) := by decide +kernel
theorem dX4_addOne_26 : decode cX4_addOne 26 = .ok (.aload_n 0, 1) := by decide +kernel
theorem dX4_addOne_27 : decode cX4_addOne 27 = .ok (.getfield 37, 3) := by decide +kernel
theorem dX4_addOne_30 : decode cX4_addOne 30 = .ok (.iload_n 2, 1) := by decide +kernel
theorem dX4_addOne_31 : decode cX4_addOne 31 = .ok (.dup2, 1) := by decide +kernel
theorem dX4_addOne_32 : decode cX4_addOne 32 = .ok (.iaload, 1) := by decide +kernel
theorem dX4_addOne_33 : decode cX4_addOne 33 = .ok (.iconst 1, 1) := by decide +kernel
theorem dX4_addOne_34 : decode cX4_addOne 34 = .ok (.iadd, 1) := by decide +kernel
theorem dX4_addOne_35 : decode cX4_addOne 35 = .ok (.iastore, 1) := by decide +kernel
theorem dX4_addOne_36 : decode cX4_addOne 36 = .ok (.aload_n 0, 1) := by decide +kernel
theorem dX4_addOne_37 : decode cX4_addOne 37 = .ok (.getfield 28, 3) := by decide +kernel
theorem dX4_addOne_40 : decode cX4_addOne 40 = .ok (.iload_n 3, 1) := by decide +kernel
theorem dX4_addOne_41 : decode cX4_addOne 41 = .ok (.iconst 0, 1) := by decide +kernel
theorem dX4_addOne_42 : decode cX4_addOne 42 = .ok (.iastore, 1) := by decide +kernel
theorem dX4_addOne_43 : decode cX4_addOne 43 = .ok (.aload_n 0, 1) := by decide +kernel
theorem dX4_addOne_44 : decode cX4_addOne 44 = .ok (.getfield 31, 3) := by decide +kernel
theorem dX4_addOne_47 : decode cX4_addOne 47 = .ok (.iload_n 3, 1) := by decide +kernel
theorem dX4_addOne_48 : decode cX4_addOne 48 = .ok (.bipush 50, 2) := by decide +kernel
theorem dX4_addOne_50 : decode cX4_addOne 50 = .ok (.iastore, 1) := by decide +kernel
theorem dX4_addOne_51 : decode cX4_addOne 51 = .ok (.iconst 0, 1) := by decide +kernel
theorem dX4_addOne_52 : decode cX4_addOne 52 = .ok (.istore 4, 2) := by decide +kernel
theorem dX4_addOne_54 : decode cX4_addOne 54 = .ok (.iload 4, 2) := by decide +kernel
theorem dX4_addOne_56 : decode cX4_addOne 56 = .ok (.bipush 10, 2) := by decide +kernel
theorem dX4_addOne_58 : decode cX4_addOne 58 = .ok (.if_icmp .ge 24, 3) := by decide +kernel
theorem dX4_addOne_61 : decode cX4_addOne 61 = .ok (.aload_n 0, 1) := by decide +kernel
theorem dX4_addOne_62 : decode cX4_addOne 62 = .ok (.iload_n 3, 1) := by decide +kernel
theorem dX4_addOne_63 : decode cX4_addOne 63 = .ok (.iload 4, 2) := by decide +kernel
theorem dX4_addOne_65 : decode cX4_addOne 65 = .ok (.bipush 7, 2) := by decide +kernel
theorem dX4_addOne_67 : decode cX4_addOne 67 = .ok (.iload 4, 2) := by decide +kernel
theorem dX4_addOne_69 : decode cX4_addOne 69 = .ok (.imul, 1) := by decide +kernel
theorem dX4_addOne_70 : decode cX4_addOne 70 = .ok (.bipush 11, 2) := by decide +kernel
theorem dX4_addOne_72 : decode cX4_addOne 72 = .ok (.irem, 1) := by decide +kernel
theorem dX4_addOne_73 : decode cX4_addOne 73 = .ok (.invokevirtual 50, 3) := by decide +kernel
theorem dX4_addOne_76 : decode cX4_addOne 76 = .ok (.iinc 4 1, 3) := by decide +kernel
theorem dX4_addOne_79 : decode cX4_addOne 79 = .ok (.goto (-25), 3) := by decide +kernel
theorem dX4_addOne_82 : decode cX4_addOne 82 = .ok (.iload_n 3, 1) := by decide +kernel
theorem dX4_addOne_83 : decode cX4_addOne 83 = .ok (.ireturn, 1) := by decide +kernel
theorem dX4_become_0 : decode cX4_become 0 = .ok (.aload_n 0, 1) := by decide +kernel
theorem dX4_become_1 : decode cX4_become 1 = .ok (.aload_n 1, 1) := by decide +kernel
theorem dX4_become_2 : decode cX4_become 2 = .ok (.getfield 9, 3) := by decide +kernel
theorem dX4_become_5 : decode cX4_become 5 = .ok (.putfield 9, 3) := by decide +kernel
theorem dX4_become_8 : decode cX4_become 8 = .ok (.aload_n 0, 1) := by decide +kernel
theorem dX4_become_9 : decode cX4_become 9 = .ok (.aload_n 1, 1) := by decide +kernel
theorem dX4_become_10 : decode cX4_become 10 = .ok (.getfield 15, 3) := by decide +kernel
theorem dX4_become_13 : decode cX4_become 13 = .ok (.putfield 15, 3) := by decide +kernel
theorem dX4_become_16 : decode cX4_become 16 = .ok (.aload_n 0, 1) := by decide +kernel
theorem dX4_become_17 : decode cX4_become 17 = .ok (.aload_n 1, 1) := by decide +kernel
theorem dX4_become_18 : decode cX4_become 18 = .ok (.getfield 18, 3) := by decide +kernel
theorem dX4_become_21 : decode cX4_become 21 = .ok (.putfield 18, 3) := by decide +kernel
theorem dX4_become_24 : decode cX4_become 24 = .ok (.aload_n 1, 1) := by decide +kernel
theorem dX4_become_25 : decode cX4_become 25 = .ok (.getfield 21, 3) := by decide +kernel
theorem dX4_become_28 : decode cX4_become 28 = .ok (.iconst 0, 1) := by decide +kernel
theorem dX4_become_29 : decode cX4_become 29 = .ok (.aload_n 0, 1) := by decide +kernel
theorem dX4_become_30 : decode cX4_become 30 = .ok (.getfield 21, 3) := by decide +kernel
theorem dX4_become_33 : decode cX4_become 33 = .ok (.iconst 0, 1) := by decide +kernel
theorem dX4_become_34 : decode cX4_become 34 = .ok (.bipush 8, 2) := by decide +kernel
theorem dX4_become_36 : decode cX4_become 36 = .ok (.invokestatic 54, 3) := by decide +kernel
theorem dX4_become_39 : decode cX4_become 39 = .ok (.aload_n 1, 1) := by decide +kernel
theorem dX4_become_40 : decode cX4_become 40 = .ok (.getfield 25, 3) := by decide +kernel
theorem dX4_become_43 : decode cX4_become 43 = .ok (.iconst 0, 1) := by decide +kernel
theorem dX4_become_44 : decode cX4_become 44 = .ok (.aload_n 0, 1) := by decide +kernel
theorem dX4_become_45 : decode cX4_become 45 = .ok (.getfield 25, 3) := by decide +kernel
theorem dX4_become_48 : decode cX4_become 48 = .ok (.iconst 0, 1) := by decide +kernel
theorem dX4_become_49 : decode cX4_become 49 = .ok (.bipush 8, 2) := by decide +kernel
theorem dX4_become_51 : decode cX4_become 51 = .ok (.invokestatic 54, 3) := by decide +kernel
theorem dX4_become_54 : decode cX4_become 54 = .ok (.aload_n 1, 1) := by decide +kernel
theorem dX4_become_55 : decode cX4_become 55 = .ok (.getfield 28, 3) := by decide +kernel
theorem dX4_become_58 : decode cX4_become 58 = .ok (.iconst 0, 1) := by decide +kernel
theorem dX4_become_59 : decode cX4_become 59 = .ok (.aload_n 0, 1) := by decide +kernel
theorem dX4_become_60 : decode cX4_become 60 = .ok (.getfield 28, 3) := by decide +kernel
theorem dX4_become_63 : decode cX4_become 63 = .ok (.iconst 0, 1) := by decide +kernel
theorem dX4_become_64 : decode cX4_become 64 = .ok (.bipush 8, 2) := by decide +kernel
theorem dX4_become_66 : decode cX4_become 66 = .ok (.invokestatic 54, 3) := by decide +kernel
theorem dX4_become_69 : decode cX4_become 69 = .ok (.aload_n 1, 1) := by decide +kernel
theorem dX4_become_70 : decode cX4_become 70 = .ok (.getfield 31, 3) := by decide +kernel
theorem dX4_become_73 : decode cX4_become 73 = .ok (.iconst 0, 1) := by decide +kernel
theorem dX4_become_74 : decode cX4_become 74 = .ok (.aload_n 0, 1) := by decide +kernel
theorem dX4_become_75 : decode cX4_become 75 = .ok (.getfield 31, 3) := by decide +kernel
theorem dX4_become_78 : decode cX4_become 78 = .ok (.iconst 0, 1) := by decide +kernel
theorem dX4_become_79 : decode cX4_become 79 = .ok (.bipush 8, 2) := by decide +kernel
theorem dX4_become_81 : decode cX4_become 81 = .ok (.invokestatic 54, 3) := by decide +kernel
theorem dX4_become_84 : decode cX4_become 84 = .ok (.aload_n 1, 1) := by decide +kernel
theorem dX4_become_85 : decode cX4_become 85 = .ok (.getfield 34, 3) := by decide +kernel
theorem dX4_become_88 : decode cX4_become 88 = .ok (.iconst 0, 1) := by decide +kernel
theorem dX4_become_89 : decode cX4_become 89 = .ok (.aload_n 0, 1) := by decide +kernel
theorem dX4_become_90 : decode cX4_become 90 = .ok (.getfield 34, 3) := by decide +kernel
theorem dX4_become_93 : decode cX4_become 93 = .ok (.iconst 0, 1) := by decide +kernel
theorem dX4_become_94 : decode cX4_become 94 = .ok (.bipush 80, 2) := by decide +kernel
theorem dX4_become_96 : decode cX4_become 96 = .ok (.invokestatic 54, 3) := by decide +kernel
theorem dX4_become_99 : decode cX4_become 99 = .ok (.aload_n 1, 1) := by decide +kernel
theorem dX4_become_100 : decode cX4_become 100 = .ok (.getfield 37, 3) := by decide +kernel
theorem dX4_become_103 : decode cX4_become 103 = .ok (.iconst 0, 1) := by decide +kernel
theorem dX4_become_104 : decode cX4_become 104 = .ok (.aload_n 0, 1) := by decide +kernel
theorem dX4_become_105 : decode cX4_become 105 = .ok (.getfield 37, 3) := by decide +kernel
theorem dX4_become_108 : decode cX4_become 108 = .ok (.iconst 0, 1) := by decide +kernel
theorem dX4_become_109 : decode cX4_become 109 = .ok (.bipush 10, 2) := by decide +kernel
theorem dX4_become_111 : decode cX4_become 111 = .ok (.invokestatic 54, 3) := by decide +kernel
theorem dX4_become_114 : decode cX4_become 114 = .ok (.aload_n 0, 1) := by decide +kernel
theorem dX4_become_115 : decode cX4_become 115 = .ok (.iconst 0, 1) := by decide +kernel
theorem dX4_become_116 : decode cX4_become 116 = .ok (.putfield 47, 3) := by decide +kernel
theorem dX4_become_119 : decode cX4_become 119 = .ok (.return_, 1) := by decide +kernel
theorem dX4_give_0 : decode cX4_give 0 = .ok (.aload_n 0, 1) := by decide +kernel
theorem dX4_give_1 : decode cX4_give 1 = .ok (.getfield 37, 3) := by decide +kernel
theorem dX4_give_4 : decode cX4_give 4 = .ok (.aload_n 0, 1) := by decide +kernel
theorem dX4_give_5 : decode cX4_give 5 = .ok (.getfield 25, 3) := by decide +kernel
theorem dX4_give_8 : decode cX4_give 8 = .ok (.iload_n 1, 1) := by decide +kernel
theorem dX4_give_9 : decode cX4_give 9 = .ok (.iaload, 1) := by decide +kernel
theorem dX4_give_10 : decode cX4_give 10 = .ok (.dup2, 1) := by decide +kernel
theorem dX4_give_11 : decode cX4_give 11 = .ok (.iaload, 1) := by decide +kernel
theorem dX4_give_12 : decode cX4_give 12 = .ok (.iconst 1, 1) := by decide +kernel
theorem dX4_give_13 : decode cX4_give 13 = .ok (.isub, 1) := by decide +kernel
theorem dX4_give_14 : decode cX4_give 14 = .ok (.iastore, 1) := by decide +kernel
theorem dX4_give_15 : decode cX4_give 15 = .ok (.aload_n 0, 1) := by decide +kernel
theorem dX4_give_16 : decode cX4_give 16 = .ok (.getfield 37, 3) := by decide +kernel
theorem dX4_give_19 : decode cX4_give 19 = .ok (.iload_n 2, 1) := by decide +kernel
theorem dX4_give_20 : decode cX4_give 20 = .ok (.dup2, 1) := by decide +kernel
theorem dX4_give_21 : decode cX4_give 21 = .ok (.iaload, 1) := by decide +kernel
theorem dX4_give_22 : decode cX4_give 22 = .ok (.iconst 1, 1) := by decide +kernel
theorem dX4_give_23 : decode cX4_give 23 = .ok (.iadd, 1) := by decide +kernel
theorem dX4_give_24 : decode cX4_give 24 = .ok (.iastore, 1) := by decide +kernel
theorem dX4_give_25 : decode cX4_give 25 = .ok (.aload_n 0, 1) := by decide +kernel
theorem dX4_give_26 : decode cX4_give 26 = .ok (.getfield 25, 3) := by decide +kernel
theorem dX4_give_29 : decode cX4_give 29 = .ok (.iload_n 1, 1) := by decide +kernel
theorem dX4_give_30 : decode cX4_give 30 = .ok (.iload_n 2, 1) := by decide +kernel
theorem dX4_give_31 : decode cX4_give 31 = .ok (.iastore, 1) := by decide +kernel
theorem dX4_give_32 : decode cX4_give 32 = .ok (.return_, 1) := by decide +kernel
theorem dX4_likedBy_0 : decode cX4_likedBy 0 = .ok (.aload_n 0, 1) := by decide +kernel
theorem dX4_likedBy_1 : decode cX4_likedBy 1 = .ok (.getfield 34, 3) := by decide +kernel
theorem dX4_likedBy_4 : decode cX4_likedBy 4 = .ok (.iload_n 1, 1) := by decide +kernel
theorem dX4_likedBy_5 : decode cX4_likedBy 5 = .ok (.bipush 10, 2) := by decide +kernel
theorem dX4_likedBy_7 : decode cX4_likedBy 7 = .ok (.imul, 1) := by decide +kernel
theorem dX4_likedBy_8 : decode cX4_likedBy 8 = .ok (.iload_n 2, 1) := by decide +kernel
theorem dX4_likedBy_9 : decode cX4_likedBy 9 = .ok (.iadd, 1) := by decide +kernel
theorem dX4_likedBy_10 : decode cX4_likedBy 10 = .ok (.iaload, 1) := by decide +kernel
theorem dX4_likedBy_11 : decode cX4_likedBy 11 = .ok (.ireturn, 1) := by decide +kernel
theorem dX4_makeLike_0 : decode cX4_makeLike 0 = .ok (.aload_n 0, 1) := by decide +kernel
theorem dX4_makeLike_1 : decode cX4_makeLike 1 = .ok (.getfield 34, 3) := by decide +kernel
theorem dX4_makeLike_4 : decode cX4_makeLike 4 = .ok (.iload_n 1, 1) := by decide +kernel
theorem dX4_makeLike_5 : decode cX4_makeLike 5 = .ok (.bipush 10, 2) := by decide +kernel
theorem dX4_makeLike_7 : decode cX4_makeLike 7 = .ok (.imul, 1) := by decide +kernel
theorem dX4_makeLike_8 : decode cX4_makeLike 8 = .ok (.iload_n 2, 1) := by decide +kernel
theorem dX4_makeLike_9 : decode cX4_makeLike 9 = .ok (.iadd, 1) := by decide +kernel
theorem dX4_makeLike_10 : decode cX4_makeLike 10 = .ok (.iload_n 3, 1) := by decide +kernel
theorem dX4_makeLike_11 : decode cX4_makeLike 11 = .ok (.iastore, 1) := by decide +kernel
theorem dX4_makeLike_12 : decode cX4_makeLike 12 = .ok (.return_, 1) := by decide +kernel
theorem dX4_thingsHeld_0 : decode cX4_thingsHeld 0 = .ok (.iconst 0, 1) := by decide +kernel
theorem dX4_thingsHeld_1 : decode cX4_thingsHeld 1 = .ok (.istore_n 1, 1) := by decide +kernel
theorem dX4_thingsHeld_2 : decode cX4_thingsHeld 2 = .ok (.iconst 0, 1) := by decide +kernel
theorem dX4_thingsHeld_3 : decode cX4_thingsHeld 3 = .ok (.istore_n 2, 1) := by decide +kernel
theorem dX4_thingsHeld_4 : decode cX4_thingsHeld 4 = .ok (.iload_n 2, 1) := by decide +kernel
theorem dX4_thingsHeld_5 : decode cX4_thingsHeld 5 = .ok (.aload_n 0, 1) := by decide +kernel
theorem dX4_thingsHeld_6 : decode cX4_thingsHeld 6 = .ok (.getfield 18, 3) := by decide +kernel
theorem dX4_thingsHeld_9 : decode cX4_thingsHeld 9 = .ok (.if_icmp .ge 20, 3) := by decide +kernel
theorem dX4_thingsHeld_12 : decode cX4_thingsHeld 12 = .ok (.iload_n 1, 1) := by decide +kernel
theorem dX4_thingsHeld_13 : decode cX4_thingsHeld 13 = .ok (.iconst 1, 1) := by decide +kernel
theorem dX4_thingsHeld_14 : decode cX4_thingsHeld 14 = .ok (.aload_n 0, 1) := by decide +kernel
theorem dX4_thingsHeld_15 : decode cX4_thingsHeld 15 = .ok (.getfield 25, 3) := by decide +kernel
theorem dX4_thingsHeld_18 : decode cX4_thingsHeld 18 = .ok (.iload_n 2, 1) := by decide +kernel
theorem dX4_thingsHeld_19 : decode cX4_thingsHeld 19 = .ok (.iaload, 1) := by decide +kernel
theorem dX4_thingsHeld_20 : decode cX4_thingsHeld 20 = .ok (.ishl, 1) := by decide +kernel
theorem dX4_thingsHeld_21 : decode cX4_thingsHeld 21 = .ok (.ior, 1) := by decide +kernel
theorem dX4_thingsHeld_22 : decode cX4_thingsHeld 22 = .ok (.istore_n 1, 1) := by decide +kernel
theorem dX4_thingsHeld_23 : decode cX4_thingsHeld 23 = .ok (.iinc 2 1, 3) := by decide +kernel
theorem dX4_thingsHeld_26 : decode cX4_thingsHeld 26 = .ok (.goto (-22), 3) := by decide +kernel
theorem dX4_thingsHeld_29 : decode cX4_thingsHeld 29 = .ok (.iload_n 1, 1) := by decide +kernel
theorem dX4_thingsHeld_30 : decode cX4_thingsHeld 30 = .ok (.ireturn, 1) := by decide +kernel
theorem dX4_holdersOf_0 : decode cX4_holdersOf 0 = .ok (.iconst 0, 1) := by decide +kernel
theorem dX4_holdersOf_1 : decode cX4_holdersOf 1 = .ok (.istore_n 2, 1) := by decide +kernel
theorem dX4_holdersOf_2 : decode cX4_holdersOf 2 = .ok (.iconst 0, 1) := by decide +kernel
theorem dX4_holdersOf_3 : decode cX4_holdersOf 3 = .ok (.istore_n 3, 1) := by decide +kernel
theorem dX4_holdersOf_4 : decode cX4_holdersOf 4 = .ok (.iload_n 3, 1) := by decide +kernel
theorem dX4_holdersOf_5 : decode cX4_holdersOf 5 = .ok (.aload_n 0, 1) := by decide +kernel
theorem dX4_holdersOf_6 : decode cX4_holdersOf 6 = .ok (.getfield 18, 3) := by decide +kernel
theorem dX4_holdersOf_9 : decode cX4_holdersOf 9 = .ok (.if_icmp .ge 25, 3) := by decide +kernel
theorem dX4_holdersOf_12 : decode cX4_holdersOf 12 = .ok (.aload_n 0, 1) := by decide +kernel
theorem dX4_holdersOf_13 : decode cX4_holdersOf 13 = .ok (.getfield 25, 3) := by decide +kernel
theorem dX4_holdersOf_16 : decode cX4_holdersOf 16 = .ok (.iload_n 3, 1) := by decide +kernel
theorem dX4_holdersOf_17 : decode cX4_holdersOf 17 = .ok (.iaload, 1) := by decide +kernel
theorem dX4_holdersOf_18 : decode cX4_holdersOf 18 = .ok (.iload_n 1, 1) := by decide +kernel
theorem dX4_holdersOf_19 : decode cX4_holdersOf 19 = .ok (.if_icmp .ne 9, 3) := by decide +kernel
theorem dX4_holdersOf_22 : decode cX4_holdersOf 22 = .ok (.iload_n 2, 1) := by decide +kernel
theorem dX4_holdersOf_23 : decode cX4_holdersOf 23 = .ok (.iconst 1, 1) := by decide +kernel
theorem dX4_holdersOf_24 : decode cX4_holdersOf 24 = .ok (.iload_n 3, 1) := by decide +kernel
theorem dX4_holdersOf_25 : decode cX4_holdersOf 25 = .ok (.ishl, 1) := by decide +kernel
theorem dX4_holdersOf_26 : decode cX4_holdersOf 26 = .ok (.ior, 1) := by decide +kernel
theorem dX4_holdersOf_27 : decode cX4_holdersOf 27 = .ok (.istore_n 2, 1) := by decide +kernel
theorem dX4_holdersOf_28 : decode cX4_holdersOf 28 = .ok (.iinc 3 1, 3) := by decide +kernel
theorem dX4_holdersOf_31 : decode cX4_holdersOf 31 = .ok (.goto (-27), 3) := by decide +kernel
theorem dX4_holdersOf_34 : decode cX4_holdersOf 34 = .ok (.iload_n 2, 1) := by decide +kernel
theorem dX4_holdersOf_35 : decode cX4_holdersOf 35 = .ok (.ireturn, 1) := by decide +kernel
set_option maxRecDepth 20000 in
theorem ggX4_gladOfAll_X4_gladOf : GoodIn wsX4_gladOfAll wsX4_gladOf := goodIn_r _ [6, 7, 8, 9, 10, 5, 11, 12, 13, 14, 15, 16, 17, 18, 19, 20, 21, 22, 23, 24, 25, 26, 27, 28, 29, 30, 31, 32, 33] (by decide +kernel) (by decide +kernel)
set_option maxRecDepth 20000 in
theorem gX4_gladOfAll_X4_gladOf : GoodIn wsX4_gladOfAll (wsV RX4 60 RX4 yX4_gladOf wsX4_gladOf) := goodIn_app (goodIn_of _ (by decide +kernel)) ggX4_gladOfAll_X4_gladOf
theorem dX4_gladOfAll_0 : decode cX4_gladOfAll 0 = .ok (.iconst 0, 1) := by decide +kernel
theorem dX4_gladOfAll_1 : decode cX4_gladOfAll 1 = .ok (.istore_n 1, 1) := by decide +kernel
theorem dX4_gladOfAll_2 : decode cX4_gladOfAll 2 = .ok (.iconst 0, 1) := by decide +kernel
theorem dX4_gladOfAll_3 : decode cX4_gladOfAll 3 = .ok (.istore_n 2, 1) := by decide +kernel
theorem dX4_gladOfAll_4 : decode cX4_gladOfAll 4 = .ok (.iload_n 2, 1) := by decide +kernel
theorem dX4_gladOfAll_5 : decode cX4_gladOfAll 5 = .ok (.aload_n 0, 1) := by decide +kernel
theorem dX4_gladOfAll_6 : decode cX4_gladOfAll 6 = .ok (.getfield 18, 3) := by decide +kernel
theorem dX4_gladOfAll_9 : decode cX4_gladOfAll 9 = .ok (.if_icmp .ge 17, 3) := by decide +kernel
theorem dX4_gladOfAll_12 : decode cX4_gladOfAll 12 = .ok (.iload_n 1, 1) := by decide +kernel
theorem dX4_gladOfAll_13 : decode cX4_gladOfAll 13 = .ok (.aload_n 0, 1) := by decide +kernel
theorem dX4_gladOfAll_14 : decode cX4_gladOfAll 14 = .ok (.iload_n 2, 1) := by decide +kernel
theorem dX4_gladOfAll_15 : decode cX4_gladOfAll 15 = .ok (.invokevirtual 60, 3) := by decide +kernel
theorem dX4_gladOfAll_18 : decode cX4_gladOfAll 18 = .ok (.iadd, 1) := by decide +kernel
theorem dX4_gladOfAll_19 : decode cX4_gladOfAll 19 = .ok (.istore_n 1, 1) := by decide +kernel
theorem dX4_gladOfAll_20 : decode cX4_gladOfAll 20 = .ok (.iinc 2 1, 3) := by decide +kernel
theorem dX4_gladOfAll_23 : decode cX4_gladOfAll 23 = .ok (.goto (-19), 3) := by decide +kernel
theorem dX4_gladOfAll_26 : decode cX4_gladOfAll 26 = .ok (.iload_n 1, 1) := by decide +kernel
theorem dX4_gladOfAll_27 : decode cX4_gladOfAll 27 = .ok (.ireturn, 1) := by decide +kernel
theorem dX4_swappedOfAll_0 : decode cX4_swappedOfAll 0 = .ok (.iconst 0, 1) := by decide +kernel
theorem dX4_swappedOfAll_1 : decode cX4_swappedOfAll 1 = .ok (.istore_n 1, 1) := by decide +kernel
theorem dX4_swappedOfAll_2 : decode cX4_swappedOfAll 2 = .ok (.iconst 0, 1) := by decide +kernel
theorem dX4_swappedOfAll_3 : decode cX4_swappedOfAll 3 = .ok (.istore_n 2, 1) := by decide +kernel
theorem dX4_swappedOfAll_4 : decode cX4_swappedOfAll 4 = .ok (.iload_n 2, 1) := by decide +kernel
theorem dX4_swappedOfAll_5 : decode cX4_swappedOfAll 5 = .ok (.aload_n 0, 1) := by decide +kernel
theorem dX4_swappedOfAll_6 : decode cX4_swappedOfAll 6 = .ok (.getfield 18, 3) := by decide +kernel
theorem dX4_swappedOfAll_9 : decode cX4_swappedOfAll 9 = .ok (.if_icmp .ge 18, 3) := by decide +kernel
theorem dX4_swappedOfAll_12 : decode cX4_swappedOfAll 12 = .ok (.iload_n 1, 1) := by decide +kernel
theorem dX4_swappedOfAll_13 : decode cX4_swappedOfAll 13 = .ok (.aload_n 0, 1) := by decide +kernel
theorem dX4_swappedOfAll_14 : decode cX4_swappedOfAll 14 = .ok (.getfield 28, 3) := by decide +kernel
theorem dX4_swappedOfAll_17 : decode cX4_swappedOfAll 17 = .ok (.iload_n 2, 1) := by decide +kernel
theorem dX4_swappedOfAll_18 : decode cX4_swappedOfAll 18 = .ok (.iaload, 1) := by decide +kernel
theorem dX4_swappedOfAll_19 : decode cX4_swappedOfAll 19 = .ok (.iadd, 1) := by decide +kernel
theorem dX4_swappedOfAll_20 : decode cX4_swappedOfAll 20 = .ok (.istore_n 1, 1) := by decide +kernel
theorem dX4_swappedOfAll_21 : decode cX4_swappedOfAll 21 = .ok (.iinc 2 1, 3) := by decide +kernel
theorem dX4_swappedOfAll_24 : decode cX4_swappedOfAll 24 = .ok (.goto (-20), 3) := by decide +kernel
theorem dX4_swappedOfAll_27 : decode cX4_swappedOfAll 27 = .ok (.iload_n 1, 1) := by decide +kernel
theorem dX4_swappedOfAll_28 : decode cX4_swappedOfAll 28 = .ok (.ireturn, 1) := by decide +kernel
theorem dX4_trustOfAll_0 : decode cX4_trustOfAll 0 = .ok (.iconst 0, 1) := by decide +kernel
theorem dX4_trustOfAll_1 : decode cX4_trustOfAll 1 = .ok (.istore_n 1, 1) := by decide +kernel
theorem dX4_trustOfAll_2 : decode cX4_trustOfAll 2 = .ok (.iconst 0, 1) := by decide +kernel
theorem dX4_trustOfAll_3 : decode cX4_trustOfAll 3 = .ok (.istore_n 2, 1) := by decide +kernel
theorem dX4_trustOfAll_4 : decode cX4_trustOfAll 4 = .ok (.iload_n 2, 1) := by decide +kernel
theorem dX4_trustOfAll_5 : decode cX4_trustOfAll 5 = .ok (.aload_n 0, 1) := by decide +kernel
theorem dX4_trustOfAll_6 : decode cX4_trustOfAll 6 = .ok (.getfield 18, 3) := by decide +kernel
theorem dX4_trustOfAll_9 : decode cX4_trustOfAll 9 = .ok (.if_icmp .ge 18, 3) := by decide +kernel
theorem dX4_trustOfAll_12 : decode cX4_trustOfAll 12 = .ok (.iload_n 1, 1) := by decide +kernel
theorem dX4_trustOfAll_13 : decode cX4_trustOfAll 13 = .ok (.aload_n 0, 1) := by decide +kernel
theorem dX4_trustOfAll_14 : decode cX4_trustOfAll 14 = .ok (.getfield 31, 3) := by decide +kernel
theorem dX4_trustOfAll_17 : decode cX4_trustOfAll 17 = .ok (.iload_n 2, 1) := by decide +kernel
theorem dX4_trustOfAll_18 : decode cX4_trustOfAll 18 = .ok (.iaload, 1) := by decide +kernel
theorem dX4_trustOfAll_19 : decode cX4_trustOfAll 19 = .ok (.iadd, 1) := by decide +kernel
theorem dX4_trustOfAll_20 : decode cX4_trustOfAll 20 = .ok (.istore_n 1, 1) := by decide +kernel
theorem dX4_trustOfAll_21 : decode cX4_trustOfAll 21 = .ok (.iinc 2 1, 3) := by decide +kernel
theorem dX4_trustOfAll_24 : decode cX4_trustOfAll 24 = .ok (.goto (-20), 3) := by decide +kernel
theorem dX4_trustOfAll_27 : decode cX4_trustOfAll 27 = .ok (.iload_n 1, 1) := by decide +kernel
theorem dX4_trustOfAll_28 : decode cX4_trustOfAll 28 = .ok (.ireturn, 1) := by decide +kernel
set_option maxRecDepth 20000 in
theorem ggX4_worthTo_X4_likedBy : GoodIn wsX4_worthTo wsX4_likedBy := goodIn_r _ [7, 8, 13, 14, 15, 16, 17, 18, 19, 20, 21, 22, 23] (by decide +kernel) (by decide +kernel)
set_option maxRecDepth 20000 in
theorem gX4_worthTo_X4_likedBy : GoodIn wsX4_worthTo (wsV RX4 64 RX4 yX4_likedBy wsX4_likedBy) := goodIn_app (goodIn_of _ (by decide +kernel)) ggX4_worthTo_X4_likedBy
set_option maxRecDepth 20000 in
theorem ggX4_worthTo_X1_worthOf : GoodIn wsX4_worthTo wsX1_worthOf := goodIn_r _ [12] (by decide +kernel) (by decide +kernel)
set_option maxRecDepth 20000 in
theorem gX4_worthTo_X1_worthOf : GoodIn wsX4_worthTo (va_wsS RX4 68 yX1_worthOf wsX1_worthOf) := goodIn_app (goodIn_of _ (by decide +kernel)) ggX4_worthTo_X1_worthOf
theorem dX4_worthTo_0 : decode cX4_worthTo 0 = .ok (.aload_n 0, 1) := by decide +kernel
theorem dX4_worthTo_1 : decode cX4_worthTo 1 = .ok (.getfield 21, 3) := by decide +kernel
theorem dX4_worthTo_4 : decode cX4_worthTo 4 = .ok (.iload_n 1, 1) := by decide +kernel
theorem dX4_worthTo_5 : decode cX4_worthTo 5 = .ok (.iaload, 1) := by decide +kernel
theorem dX4_worthTo_6 : decode cX4_worthTo 6 = .ok (.iload_n 2, 1) := by decide +kernel
theorem dX4_worthTo_7 : decode cX4_worthTo 7 = .ok (.aload_n 0, 1) := by decide +kernel
theorem dX4_worthTo_8 : decode cX4_worthTo 8 = .ok (.iload_n 1, 1) := by decide +kernel
theorem dX4_worthTo_9 : decode cX4_worthTo 9 = .ok (.iload_n 2, 1) := by decide +kernel
theorem dX4_worthTo_10 : decode cX4_worthTo 10 = .ok (.invokevirtual 64, 3) := by decide +kernel
theorem dX4_worthTo_13 : decode cX4_worthTo 13 = .ok (.aload_n 0, 1) := by decide +kernel
theorem dX4_worthTo_14 : decode cX4_worthTo 14 = .ok (.getfield 37, 3) := by decide +kernel
theorem dX4_worthTo_17 : decode cX4_worthTo 17 = .ok (.iload_n 2, 1) := by decide +kernel
theorem dX4_worthTo_18 : decode cX4_worthTo 18 = .ok (.iaload, 1) := by decide +kernel
theorem dX4_worthTo_19 : decode cX4_worthTo 19 = .ok (.invokestatic 68, 3) := by decide +kernel
theorem dX4_worthTo_22 : decode cX4_worthTo 22 = .ok (.ireturn, 1) := by decide +kernel
set_option maxRecDepth 20000 in
theorem ggX4_gladOf_X4_worthTo : GoodIn wsX4_gladOf wsX4_worthTo := goodIn_r _ [6, 7, 8, 9, 10, 11, 5, 12, 13, 14, 15, 16, 17, 18, 19, 20, 21, 22, 23, 24, 25, 26, 27, 28] (by decide +kernel) (by decide +kernel)
set_option maxRecDepth 20000 in
theorem gX4_gladOf_X4_worthTo : GoodIn wsX4_gladOf (wsV RX4 74 RX4 yX4_worthTo wsX4_worthTo) := goodIn_app (goodIn_of _ (by decide +kernel)) ggX4_gladOf_X4_worthTo
theorem dX4_gladOf_0 : decode cX4_gladOf 0 = .ok (.aload_n 0, 1) := by decide +kernel
theorem dX4_gladOf_1 : decode cX4_gladOf 1 = .ok (.iload_n 1, 1) := by decide +kernel
theorem dX4_gladOf_2 : decode cX4_gladOf 2 = .ok (.aload_n 0, 1) := by decide +kernel
theorem dX4_gladOf_3 : decode cX4_gladOf 3 = .ok (.getfield 25, 3) := by decide +kernel
theorem dX4_gladOf_6 : decode cX4_gladOf 6 = .ok (.iload_n 1, 1) := by decide +kernel
theorem dX4_gladOf_7 : decode cX4_gladOf 7 = .ok (.iaload, 1) := by decide +kernel
theorem dX4_gladOf_8 : decode cX4_gladOf 8 = .ok (.invokevirtual 74, 3) := by decide +kernel
theorem dX4_gladOf_11 : decode cX4_gladOf 11 = .ok (.ireturn, 1) := by decide +kernel
set_option maxRecDepth 20000 in
theorem ggX4_agreesTo_X4_worthTo : GoodIn wsX4_agreesTo wsX4_worthTo := goodIn_r _ [9, 2, 10, 11, 12, 13, 8, 14, 15, 16, 17, 18, 19, 23, 24, 25, 26, 27, 28, 29, 30, 31, 32, 33] (by decide +kernel) (by decide +kernel)
set_option maxRecDepth 20000 in
theorem gX4_agreesTo_X4_worthTo : GoodIn wsX4_agreesTo (wsV RX4 74 RX4 yX4_worthTo wsX4_worthTo) := goodIn_app (goodIn_of _ (by decide +kernel)) ggX4_agreesTo_X4_worthTo
set_option maxRecDepth 20000 in
theorem ggX4_agreesTo_X1_agreesFor : GoodIn wsX4_agreesTo wsX1_agreesFor := goodIn_r _ [22] (by decide +kernel) (by decide +kernel)
set_option maxRecDepth 20000 in
theorem gX4_agreesTo_X1_agreesFor : GoodIn wsX4_agreesTo (va_wsS RX4 77 yX1_agreesFor wsX1_agreesFor) := goodIn_app (goodIn_of _ (by decide +kernel)) ggX4_agreesTo_X1_agreesFor
theorem dX4_agreesTo_0 : decode cX4_agreesTo 0 = .ok (.aload_n 0, 1) := by decide +kernel
theorem dX4_agreesTo_1 : decode cX4_agreesTo 1 = .ok (.iload_n 1, 1) := by decide +kernel
theorem dX4_agreesTo_2 : decode cX4_agreesTo 2 = .ok (.iload_n 2, 1) := by decide +kernel
theorem dX4_agreesTo_3 : decode cX4_agreesTo 3 = .ok (.invokevirtual 74, 3) := by decide +kernel
theorem dX4_agreesTo_6 : decode cX4_agreesTo 6 = .ok (.aload_n 0, 1) := by decide +kernel
theorem dX4_agreesTo_7 : decode cX4_agreesTo 7 = .ok (.iload_n 1, 1) := by decide +kernel
theorem dX4_agreesTo_8 : decode cX4_agreesTo 8 = .ok (.aload_n 0, 1) := by decide +kernel
theorem dX4_agreesTo_9 : decode cX4_agreesTo 9 = .ok (.getfield 25, 3) := by decide +kernel
theorem dX4_agreesTo_12 : decode cX4_agreesTo 12 = .ok (.iload_n 1, 1) := by decide +kernel
theorem dX4_agreesTo_13 : decode cX4_agreesTo 13 = .ok (.iaload, 1) := by decide +kernel
theorem dX4_agreesTo_14 : decode cX4_agreesTo 14 = .ok (.invokevirtual 74, 3) := by decide +kernel
theorem dX4_agreesTo_17 : decode cX4_agreesTo 17 = .ok (.isub, 1) := by decide +kernel
theorem dX4_agreesTo_18 : decode cX4_agreesTo 18 = .ok (.istore_n 3, 1) := by decide +kernel
theorem dX4_agreesTo_19 : decode cX4_agreesTo 19 = .ok (.aload_n 0, 1) := by decide +kernel
theorem dX4_agreesTo_20 : decode cX4_agreesTo 20 = .ok (.getfield 21, 3) := by decide +kernel
theorem dX4_agreesTo_23 : decode cX4_agreesTo 23 = .ok (.iload_n 1, 1) := by decide +kernel
theorem dX4_agreesTo_24 : decode cX4_agreesTo 24 = .ok (.iaload, 1) := by decide +kernel
theorem dX4_agreesTo_25 : decode cX4_agreesTo 25 = .ok (.iload_n 3, 1) := by decide +kernel
theorem dX4_agreesTo_26 : decode cX4_agreesTo 26 = .ok (.aload_n 0, 1) := by decide +kernel
theorem dX4_agreesTo_27 : decode cX4_agreesTo 27 = .ok (.getfield 28, 3) := by decide +kernel
theorem dX4_agreesTo_30 : decode cX4_agreesTo 30 = .ok (.iload_n 1, 1) := by decide +kernel
theorem dX4_agreesTo_31 : decode cX4_agreesTo 31 = .ok (.iaload, 1) := by decide +kernel
theorem dX4_agreesTo_32 : decode cX4_agreesTo 32 = .ok (.aload_n 0, 1) := by decide +kernel
theorem dX4_agreesTo_33 : decode cX4_agreesTo 33 = .ok (.getfield 15, 3) := by decide +kernel
theorem dX4_agreesTo_36 : decode cX4_agreesTo 36 = .ok (.invokestatic 77, 3) := by decide +kernel
theorem dX4_agreesTo_39 : decode cX4_agreesTo 39 = .ok (.ireturn, 1) := by decide +kernel
set_option maxRecDepth 20000 in
theorem ggX4_wants_X4_agreesTo : GoodIn wsX4_wants wsX4_agreesTo := goodIn_r _ [6, 1, 7, 8, 9, 10, 11, 12, 5, 13, 14, 15, 16, 17, 18, 19, 20, 21, 22, 23, 24, 25, 26, 27, 28, 29, 30, 31, 32, 33, 34, 35, 36, 37] (by decide +kernel) (by decide +kernel)
set_option maxRecDepth 20000 in
theorem gX4_wants_X4_agreesTo : GoodIn wsX4_wants (wsV RX4 81 RX4 yX4_agreesTo wsX4_agreesTo) := goodIn_app (goodIn_of _ (by decide +kernel)) ggX4_wants_X4_agreesTo
theorem dX4_wants_0 : decode cX4_wants 0 = .ok (.aload_n 0, 1) := by decide +kernel
theorem dX4_wants_1 : decode cX4_wants 1 = .ok (.getfield 25, 3) := by decide +kernel
theorem dX4_wants_4 : decode cX4_wants 4 = .ok (.iload_n 1, 1) := by decide +kernel
theorem dX4_wants_5 : decode cX4_wants 5 = .ok (.iaload, 1) := by decide +kernel
theorem dX4_wants_6 : decode cX4_wants 6 = .ok (.aload_n 0, 1) := by decide +kernel
theorem dX4_wants_7 : decode cX4_wants 7 = .ok (.getfield 25, 3) := by decide +kernel
theorem dX4_wants_10 : decode cX4_wants 10 = .ok (.iload_n 2, 1) := by decide +kernel
theorem dX4_wants_11 : decode cX4_wants 11 = .ok (.iaload, 1) := by decide +kernel
theorem dX4_wants_12 : decode cX4_wants 12 = .ok (.if_icmp .eq 21, 3) := by decide +kernel
theorem dX4_wants_15 : decode cX4_wants 15 = .ok (.aload_n 0, 1) := by decide +kernel
theorem dX4_wants_16 : decode cX4_wants 16 = .ok (.iload_n 1, 1) := by decide +kernel
theorem dX4_wants_17 : decode cX4_wants 17 = .ok (.aload_n 0, 1) := by decide +kernel
theorem dX4_wants_18 : decode cX4_wants 18 = .ok (.getfield 25, 3) := by decide +kernel
theorem dX4_wants_21 : decode cX4_wants 21 = .ok (.iload_n 2, 1) := by decide +kernel
theorem dX4_wants_22 : decode cX4_wants 22 = .ok (.iaload, 1) := by decide +kernel
theorem dX4_wants_23 : decode cX4_wants 23 = .ok (.invokevirtual 81, 3) := by decide +kernel
theorem dX4_wants_26 : decode cX4_wants 26 = .ok (.ifCond .eq 7, 3) := by decide +kernel
theorem dX4_wants_29 : decode cX4_wants 29 = .ok (.iconst 1, 1) := by decide +kernel
theorem dX4_wants_30 : decode cX4_wants 30 = .ok (.goto 4, 3) := by decide +kernel
theorem dX4_wants_33 : decode cX4_wants 33 = .ok (.iconst 0, 1) := by decide +kernel
theorem dX4_wants_34 : decode cX4_wants 34 = .ok (.ireturn, 1) := by decide +kernel
set_option maxRecDepth 20000 in
theorem ggX4_wouldSwap_X4_wants : GoodIn wsX4_wouldSwap wsX4_wants := goodIn_r _ [5, 6, 7, 8, 9, 4, 10, 11, 12, 13, 14, 15, 16, 17, 18, 19, 20, 21, 22, 23, 24, 25, 26, 27, 28, 29, 30, 31, 32, 33, 34, 35, 36, 37, 38, 39, 40, 41] (by decide +kernel) (by decide +kernel)
set_option maxRecDepth 20000 in
theorem gX4_wouldSwap_X4_wants : GoodIn wsX4_wouldSwap (wsV RX4 85 RX4 yX4_wants wsX4_wants) := goodIn_app (goodIn_of _ (by decide +kernel)) ggX4_wouldSwap_X4_wants
theorem dX4_wouldSwap_0 : decode cX4_wouldSwap 0 = .ok (.aload_n 0, 1) := by decide +kernel
theorem dX4_wouldSwap_1 : decode cX4_wouldSwap 1 = .ok (.iload_n 1, 1) := by decide +kernel
theorem dX4_wouldSwap_2 : decode cX4_wouldSwap 2 = .ok (.iload_n 2, 1) := by decide +kernel
theorem dX4_wouldSwap_3 : decode cX4_wouldSwap 3 = .ok (.invokevirtual 85, 3) := by decide +kernel
theorem dX4_wouldSwap_6 : decode cX4_wouldSwap 6 = .ok (.ifCond .eq 16, 3) := by decide +kernel
theorem dX4_wouldSwap_9 : decode cX4_wouldSwap 9 = .ok (.aload_n 0, 1) := by decide +kernel
theorem dX4_wouldSwap_10 : decode cX4_wouldSwap 10 = .ok (.iload_n 2, 1) := by decide +kernel
theorem dX4_wouldSwap_11 : decode cX4_wouldSwap 11 = .ok (.iload_n 1, 1) := by decide +kernel
theorem dX4_wouldSwap_12 : decode cX4_wouldSwap 12 = .ok (.invokevirtual 85, 3) := by decide +kernel
theorem dX4_wouldSwap_15 : decode cX4_wouldSwap 15 = .ok (.ifCond .eq 7, 3) := by decide +kernel
theorem dX4_wouldSwap_18 : decode cX4_wouldSwap 18 = .ok (.iconst 1, 1) := by decide +kernel
theorem dX4_wouldSwap_19 : decode cX4_wouldSwap 19 = .ok (.goto 4, 3) := by decide +kernel
theorem dX4_wouldSwap_22 : decode cX4_wouldSwap 22 = .ok (.iconst 0, 1) := by decide +kernel
theorem dX4_wouldSwap_23 : decode cX4_wouldSwap 23 = .ok (.ireturn, 1) := by decide +kernel
set_option maxRecDepth 20000 in
theorem ggX4_closesRing_X4_wants : GoodIn wsX4_closesRing wsX4_wants := goodIn_r _ [6, 7, 8, 9, 10, 5, 11, 12, 13, 14, 15, 16, 17, 18, 19, 20, 21, 22, 23, 24, 25, 26, 27, 28, 29, 30, 31, 32, 33, 34, 35, 36, 37, 38, 39, 40, 41, 42] (by decide +kernel) (by decide +kernel)
set_option maxRecDepth 20000 in
theorem gX4_closesRing_X4_wants : GoodIn wsX4_closesRing (wsV RX4 85 RX4 yX4_wants wsX4_wants) := goodIn_app (goodIn_of _ (by decide +kernel)) ggX4_closesRing_X4_wants
theorem dX4_closesRing_0 : decode cX4_closesRing 0 = .ok (.iconst 0, 1) := by decide +kernel
theorem dX4_closesRing_1 : decode cX4_closesRing 1 = .ok (.istore_n 3, 1) := by decide +kernel
theorem dX4_closesRing_2 : decode cX4_closesRing 2 = .ok (.iload_n 3, 1) := by decide +kernel
theorem dX4_closesRing_3 : decode cX4_closesRing 3 = .ok (.aload_n 0, 1) := by decide +kernel
theorem dX4_closesRing_4 : decode cX4_closesRing 4 = .ok (.getfield 18, 3) := by decide +kernel
theorem dX4_closesRing_7 : decode cX4_closesRing 7 = .ok (.if_icmp .ge 29, 3) := by decide +kernel
theorem dX4_closesRing_10 : decode cX4_closesRing 10 = .ok (.aload_n 0, 1) := by decide +kernel
theorem dX4_closesRing_11 : decode cX4_closesRing 11 = .ok (.iload_n 2, 1) := by decide +kernel
theorem dX4_closesRing_12 : decode cX4_closesRing 12 = .ok (.iload_n 3, 1) := by decide +kernel
theorem dX4_closesRing_13 : decode cX4_closesRing 13 = .ok (.invokevirtual 85, 3) := by decide +kernel
theorem dX4_closesRing_16 : decode cX4_closesRing 16 = .ok (.ifCond .eq 14, 3) := by decide +kernel
theorem dX4_closesRing_19 : decode cX4_closesRing 19 = .ok (.aload_n 0, 1) := by decide +kernel
theorem dX4_closesRing_20 : decode cX4_closesRing 20 = .ok (.iload_n 3, 1) := by decide +kernel
theorem dX4_closesRing_21 : decode cX4_closesRing 21 = .ok (.iload_n 1, 1) := by decide +kernel
theorem dX4_closesRing_22 : decode cX4_closesRing 22 = .ok (.invokevirtual 85, 3) := by decide +kernel
theorem dX4_closesRing_25 : decode cX4_closesRing 25 = .ok (.ifCond .eq 5, 3) := by decide +kernel
theorem dX4_closesRing_28 : decode cX4_closesRing 28 = .ok (.iload_n 3, 1) := by decide +kernel
theorem dX4_closesRing_29 : decode cX4_closesRing 29 = .ok (.ireturn, 1) := by decide +kernel
theorem dX4_closesRing_30 : decode cX4_closesRing 30 = .ok (.iinc 3 1, 3) := by decide +kernel
theorem dX4_closesRing_33 : decode cX4_closesRing 33 = .ok (.goto (-31), 3) := by decide +kernel
theorem dX4_closesRing_36 : decode cX4_closesRing 36 = .ok (.iconst (-1), 1) := by decide +kernel
theorem dX4_closesRing_37 : decode cX4_closesRing 37 = .ok (.ireturn, 1) := by decide +kernel
set_option maxRecDepth 20000 in
theorem ggX4_isOver_X4_wouldSwap : GoodIn wsX4_isOver wsX4_wouldSwap := goodIn_r _ [6, 7, 8, 9, 5, 10, 11, 12, 13, 14, 15, 16, 17, 18, 19, 20, 21, 22, 23, 24, 25, 26, 27, 28, 29, 30, 31, 32, 33, 34, 35, 36, 37, 38, 39, 40, 41, 42, 43, 44, 45, 46] (by decide +kernel) (by decide +kernel)
set_option maxRecDepth 20000 in
theorem gX4_isOver_X4_wouldSwap : GoodIn wsX4_isOver (wsV RX4 88 RX4 yX4_wouldSwap wsX4_wouldSwap) := goodIn_app (goodIn_of _ (by decide +kernel)) ggX4_isOver_X4_wouldSwap
theorem dX4_isOver_0 : decode cX4_isOver 0 = .ok (.iconst 0, 1) := by decide +kernel
theorem dX4_isOver_1 : decode cX4_isOver 1 = .ok (.istore_n 1, 1) := by decide +kernel
theorem dX4_isOver_2 : decode cX4_isOver 2 = .ok (.iload_n 1, 1) := by decide +kernel
theorem dX4_isOver_3 : decode cX4_isOver 3 = .ok (.aload_n 0, 1) := by decide +kernel
theorem dX4_isOver_4 : decode cX4_isOver 4 = .ok (.getfield 18, 3) := by decide +kernel
theorem dX4_isOver_7 : decode cX4_isOver 7 = .ok (.if_icmp .ge 33, 3) := by decide +kernel
theorem dX4_isOver_10 : decode cX4_isOver 10 = .ok (.iconst 0, 1) := by decide +kernel
theorem dX4_isOver_11 : decode cX4_isOver 11 = .ok (.istore_n 2, 1) := by decide +kernel
theorem dX4_isOver_12 : decode cX4_isOver 12 = .ok (.iload_n 2, 1) := by decide +kernel
theorem dX4_isOver_13 : decode cX4_isOver 13 = .ok (.iload_n 1, 1) := by decide +kernel
theorem dX4_isOver_14 : decode cX4_isOver 14 = .ok (.if_icmp .ge 20, 3) := by decide +kernel
theorem dX4_isOver_17 : decode cX4_isOver 17 = .ok (.aload_n 0, 1) := by decide +kernel
theorem dX4_isOver_18 : decode cX4_isOver 18 = .ok (.iload_n 1, 1) := by decide +kernel
theorem dX4_isOver_19 : decode cX4_isOver 19 = .ok (.iload_n 2, 1) := by decide +kernel
theorem dX4_isOver_20 : decode cX4_isOver 20 = .ok (.invokevirtual 88, 3) := by decide +kernel
theorem dX4_isOver_23 : decode cX4_isOver 23 = .ok (.ifCond .eq 5, 3) := by decide +kernel
theorem dX4_isOver_26 : decode cX4_isOver 26 = .ok (.iconst 0, 1) := by decide +kernel
theorem dX4_isOver_27 : decode cX4_isOver 27 = .ok (.ireturn, 1) := by decide +kernel
theorem dX4_isOver_28 : decode cX4_isOver 28 = .ok (.iinc 2 1, 3) := by decide +kernel
theorem dX4_isOver_31 : decode cX4_isOver 31 = .ok (.goto (-19), 3) := by decide +kernel
theorem dX4_isOver_34 : decode cX4_isOver 34 = .ok (.iinc 1 1, 3) := by decide +kernel
theorem dX4_isOver_37 : decode cX4_isOver 37 = .ok (.goto (-35), 3) := by decide +kernel
theorem dX4_isOver_40 : decode cX4_isOver 40 = .ok (.iconst 1, 1) := by decide +kernel
theorem dX4_isOver_41 : decode cX4_isOver 41 = .ok (.ireturn, 1) := by decide +kernel
set_option maxRecDepth 20000 in
theorem ggX4_exchange_X4_noteSwap : GoodIn wsX4_exchange wsX4_noteSwap := goodIn_r _ [6, 7, 8, 9, 10, 11, 12, 13, 14, 15, 16, 17, 18, 19, 20, 21, 22, 23, 24, 25, 26, 27, 28, 29, 30, 31] (by decide +kernel) (by decide +kernel)
set_option maxRecDepth 20000 in
theorem gX4_exchange_X4_noteSwap : GoodIn wsX4_exchange (wsV RX4 91 RX4 yX4_noteSwap wsX4_noteSwap) := goodIn_app (goodIn_of _ (by decide +kernel)) ggX4_exchange_X4_noteSwap
theorem dX4_exchange_0 : decode cX4_exchange 0 = .ok (.aload_n 0, 1) := by decide +kernel
theorem dX4_exchange_1 : decode cX4_exchange 1 = .ok (.getfield 25, 3) := by decide +kernel
theorem dX4_exchange_4 : decode cX4_exchange 4 = .ok (.iload_n 1, 1) := by decide +kernel
theorem dX4_exchange_5 : decode cX4_exchange 5 = .ok (.iaload, 1) := by decide +kernel
theorem dX4_exchange_6 : decode cX4_exchange 6 = .ok (.istore_n 3, 1) := by decide +kernel
theorem dX4_exchange_7 : decode cX4_exchange 7 = .ok (.aload_n 0, 1) := by decide +kernel
theorem dX4_exchange_8 : decode cX4_exchange 8 = .ok (.getfield 25, 3) := by decide +kernel
theorem dX4_exchange_11 : decode cX4_exchange 11 = .ok (.iload_n 1, 1) := by decide +kernel
theorem dX4_exchange_12 : decode cX4_exchange 12 = .ok (.aload_n 0, 1) := by decide +kernel
theorem dX4_exchange_13 : decode cX4_exchange 13 = .ok (.getfield 25, 3) := by decide +kernel
theorem dX4_exchange_16 : decode cX4_exchange 16 = .ok (.iload_n 2, 1) := by decide +kernel
theorem dX4_exchange_17 : decode cX4_exchange 17 = .ok (.iaload, 1) := by decide +kernel
theorem dX4_exchange_18 : decode cX4_exchange 18 = .ok (.iastore, 1) := by decide +kernel
theorem dX4_exchange_19 : decode cX4_exchange 19 = .ok (.aload_n 0, 1) := by decide +kernel
theorem dX4_exchange_20 : decode cX4_exchange 20 = .ok (.getfield 25, 3) := by decide +kernel
theorem dX4_exchange_23 : decode cX4_exchange 23 = .ok (.iload_n 2, 1) := by decide +kernel
theorem dX4_exchange_24 : decode cX4_exchange 24 = .ok (.iload_n 3, 1) := by decide +kernel
theorem dX4_exchange_25 : decode cX4_exchange 25 = .ok (.iastore, 1) := by decide +kernel
theorem dX4_exchange_26 : decode cX4_exchange 26 = .ok (.aload_n 0, 1) := by decide +kernel
theorem dX4_exchange_27 : decode cX4_exchange 27 = .ok (.iload_n 1, 1) := by decide +kernel
theorem dX4_exchange_28 : decode cX4_exchange 28 = .ok (.invokevirtual 91, 3) := by decide +kernel
theorem dX4_exchange_31 : decode cX4_exchange 31 = .ok (.aload_n 0, 1) := by decide +kernel
theorem dX4_exchange_32 : decode cX4_exchange 32 = .ok (.iload_n 2, 1) := by decide +kernel
theorem dX4_exchange_33 : decode cX4_exchange 33 = .ok (.invokevirtual 91, 3) := by decide +kernel
theorem dX4_exchange_36 : decode cX4_exchange 36 = .ok (.return_, 1) := by decide +kernel
set_option maxRecDepth 20000 in
theorem ggX4_noteSwap_X1_losesOf : GoodIn wsX4_noteSwap wsX1_losesOf := goodIn_r _ [14] (by decide +kernel) (by decide +kernel)
set_option maxRecDepth 20000 in
theorem gX4_noteSwap_X1_losesOf : GoodIn wsX4_noteSwap (va_wsS RX4 100 yX1_losesOf wsX1_losesOf) := goodIn_app (goodIn_of _ (by decide +kernel)) ggX4_noteSwap_X1_losesOf
theorem dX4_noteSwap_0 : decode cX4_noteSwap 0 = .ok (.aload_n 0, 1) := by decide +kernel
theorem dX4_noteSwap_1 : decode cX4_noteSwap 1 = .ok (.getfield 28, 3) := by decide +kernel
theorem dX4_noteSwap_4 : decode cX4_noteSwap 4 = .ok (.iload_n 1, 1) := by decide +kernel
theorem dX4_noteSwap_5 : decode cX4_noteSwap 5 = .ok (.sipush 9999, 3) := by decide +kernel
theorem dX4_noteSwap_8 : decode cX4_noteSwap 8 = .ok (.aload_n 0, 1) := by decide +kernel
theorem dX4_noteSwap_9 : decode cX4_noteSwap 9 = .ok (.getfield 28, 3) := by decide +kernel
theorem dX4_noteSwap_12 : decode cX4_noteSwap 12 = .ok (.iload_n 1, 1) := by decide +kernel
theorem dX4_noteSwap_13 : decode cX4_noteSwap 13 = .ok (.iaload, 1) := by decide +kernel
theorem dX4_noteSwap_14 : decode cX4_noteSwap 14 = .ok (.iconst 1, 1) := by decide +kernel
theorem dX4_noteSwap_15 : decode cX4_noteSwap 15 = .ok (.iadd, 1) := by decide +kernel
theorem dX4_noteSwap_16 : decode cX4_noteSwap 16 = .ok (.invokestatic 95, 3) := by decide +kernel
theorem dX4_noteSwap_19 : decode cX4_noteSwap 19 = .ok (.iastore, 1) := by decide +kernel
theorem dX4_noteSwap_20 : decode cX4_noteSwap 20 = .ok (.aload_n 0, 1) := by decide +kernel
theorem dX4_noteSwap_21 : decode cX4_noteSwap 21 = .ok (.getfield 31, 3) := by decide +kernel
theorem dX4_noteSwap_24 : decode cX4_noteSwap 24 = .ok (.iload_n 1, 1) := by decide +kernel
theorem dX4_noteSwap_25 : decode cX4_noteSwap 25 = .ok (.iconst 0, 1) := by decide +kernel
theorem dX4_noteSwap_26 : decode cX4_noteSwap 26 = .ok (.aload_n 0, 1) := by decide +kernel
theorem dX4_noteSwap_27 : decode cX4_noteSwap 27 = .ok (.getfield 31, 3) := by decide +kernel
theorem dX4_noteSwap_30 : decode cX4_noteSwap 30 = .ok (.iload_n 1, 1) := by decide +kernel
theorem dX4_noteSwap_31 : decode cX4_noteSwap 31 = .ok (.iaload, 1) := by decide +kernel
theorem dX4_noteSwap_32 : decode cX4_noteSwap 32 = .ok (.aload_n 0, 1) := by decide +kernel
theorem dX4_noteSwap_33 : decode cX4_noteSwap 33 = .ok (.getfield 21, 3) := by decide +kernel
theorem dX4_noteSwap_36 : decode cX4_noteSwap 36 = .ok (.iload_n 1, 1) := by decide +kernel
theorem dX4_noteSwap_37 : decode cX4_noteSwap 37 = .ok (.iaload, 1) := by decide +kernel
theorem dX4_noteSwap_38 : decode cX4_noteSwap 38 = .ok (.invokestatic 100, 3) := by decide +kernel
theorem dX4_noteSwap_41 : decode cX4_noteSwap 41 = .ok (.isub, 1) := by decide +kernel
theorem dX4_noteSwap_42 : decode cX4_noteSwap 42 = .ok (.invokestatic 103, 3) := by decide +kernel
theorem dX4_noteSwap_45 : decode cX4_noteSwap 45 = .ok (.iastore, 1) := by decide +kernel
theorem dX4_noteSwap_46 : decode cX4_noteSwap 46 = .ok (.return_, 1) := by decide +kernel
set_option maxRecDepth 20000 in
theorem ggX4_goOn_X4_playRound : GoodIn wsX4_goOn wsX4_playRound := goodIn_r _ [6, 1, 7, 8, 9, 10, 11, 5, 12, 13, 14, 15, 16, 17, 18, 19, 20, 21, 22, 23, 24, 25, 26, 27, 28, 29, 30, 31, 32, 33, 34, 35, 36, 37, 38, 39, 40, 41, 42, 43, 44, 45, 46, 47, 48, 49, 50, 51, 52, 53, 54, 55, 56, 57, 58, 59, 60, 61, 62, 63, 64, 65, 66, 67, 68, 69, 70, 71, 72, 73, 74, 75, 76, 77, 78, 79, 80, 81, 82, 83, 84, 85, 86, 87, 88, 89] (by decide +kernel) (by decide +kernel)
set_option maxRecDepth 20000 in
theorem gX4_goOn_X4_playRound : GoodIn wsX4_goOn (wsV RX4 106 RX4 yX4_playRound wsX4_playRound) := goodIn_app (goodIn_of _ (by decide +kernel)) ggX4_goOn_X4_playRound
theorem dX4_goOn_0 : decode cX4_goOn 0 = .ok (.aload_n 0, 1) := by decide +kernel
theorem dX4_goOn_1 : decode cX4_goOn 1 = .ok (.iconst 0, 1) := by decide +kernel
theorem dX4_goOn_2 : decode cX4_goOn 2 = .ok (.putfield 47, 3) := by decide +kernel
theorem dX4_goOn_5 : decode cX4_goOn 5 = .ok (.iconst 0, 1) := by decide +kernel
theorem dX4_goOn_6 : decode cX4_goOn 6 = .ok (.istore_n 2, 1) := by decide +kernel
theorem dX4_goOn_7 : decode cX4_goOn 7 = .ok (.iload_n 2, 1) := by decide +kernel
theorem dX4_goOn_8 : decode cX4_goOn 8 = .ok (.iload_n 1, 1) := by decide +kernel
theorem dX4_goOn_9 : decode cX4_goOn 9 = .ok (.if_icmp .ge 13, 3) := by decide +kernel
theorem dX4_goOn_12 : decode cX4_goOn 12 = .ok (.aload_n 0, 1) := by decide +kernel
theorem dX4_goOn_13 : decode cX4_goOn 13 = .ok (.invokevirtual 106, 3) := by decide +kernel
theorem dX4_goOn_16 : decode cX4_goOn 16 = .ok (.iinc 2 1, 3) := by decide +kernel
theorem dX4_goOn_19 : decode cX4_goOn 19 = .ok (.goto (-12), 3) := by decide +kernel
theorem dX4_goOn_22 : decode cX4_goOn 22 = .ok (.return_, 1) := by decide +kernel
set_option maxRecDepth 20000 in
theorem ggX4_playRound_X4_takeTurn : GoodIn wsX4_playRound wsX4_takeTurn := goodIn_r _ [8, 9, 3, 10, 11, 12, 13, 14, 15, 16, 17, 7, 18, 19, 2, 20, 21, 22, 23, 24, 25, 26, 27, 28, 29, 30, 31, 32, 33, 34, 35, 36, 37, 38, 39, 40, 41, 42, 43, 44, 45, 46, 47, 48, 49, 50, 51, 52, 53, 54, 55, 56, 57, 58, 59, 60, 61, 62, 63, 64, 65, 66, 67, 68, 69, 70, 71, 72, 73, 74, 75, 76, 77, 78, 79, 80, 81, 82, 83, 84, 85] (by decide +kernel) (by decide +kernel)
set_option maxRecDepth 20000 in
theorem gX4_playRound_X4_takeTurn : GoodIn wsX4_playRound (wsV RX4 109 RX4 yX4_takeTurn wsX4_takeTurn) := goodIn_app (goodIn_of _ (by decide +kernel)) ggX4_playRound_X4_takeTurn
theorem dX4_playRound_0 : decode cX4_playRound 0 = .ok (.aload_n 0, 1) := by decide +kernel
theorem dX4_playRound_1 : decode cX4_playRound 1 = .ok (.getfield 47, 3) := by decide +kernel
theorem dX4_playRound_4 : decode cX4_playRound 4 = .ok (.iconst 2, 1) := by decide +kernel
theorem dX4_playRound_5 : decode cX4_playRound 5 = .ok (.if_icmp .ge 49, 3) := by decide +kernel
theorem dX4_playRound_8 : decode cX4_playRound 8 = .ok (.iconst 1, 1) := by decide +kernel
theorem dX4_playRound_9 : decode cX4_playRound 9 = .ok (.istore_n 1, 1) := by decide +kernel
theorem dX4_playRound_10 : decode cX4_playRound 10 = .ok (.iconst 0, 1) := by decide +kernel
theorem dX4_playRound_11 : decode cX4_playRound 11 = .ok (.istore_n 2, 1) := by decide +kernel
theorem dX4_playRound_12 : decode cX4_playRound 12 = .ok (.iload_n 2, 1) := by decide +kernel
theorem dX4_playRound_13 : decode cX4_playRound 13 = .ok (.aload_n 0, 1) := by decide +kernel
theorem dX4_playRound_14 : decode cX4_playRound 14 = .ok (.getfield 18, 3) := by decide +kernel
theorem dX4_playRound_17 : decode cX4_playRound 17 = .ok (.if_icmp .ge 19, 3) := by decide +kernel
theorem dX4_playRound_20 : decode cX4_playRound 20 = .ok (.aload_n 0, 1) := by decide +kernel
theorem dX4_playRound_21 : decode cX4_playRound 21 = .ok (.iload_n 2, 1) := by decide +kernel
theorem dX4_playRound_22 : decode cX4_playRound 22 = .ok (.invokevirtual 109, 3) := by decide +kernel
theorem dX4_playRound_25 : decode cX4_playRound 25 = .ok (.ifCond .eq 5, 3) := by decide +kernel
theorem dX4_playRound_28 : decode cX4_playRound 28 = .ok (.iconst 0, 1) := by decide +kernel
theorem dX4_playRound_29 : decode cX4_playRound 29 = .ok (.istore_n 1, 1) := by decide +kernel
theorem dX4_playRound_30 : decode cX4_playRound 30 = .ok (.iinc 2 1, 3) := by decide +kernel
theorem dX4_playRound_33 : decode cX4_playRound 33 = .ok (.goto (-21), 3) := by decide +kernel
theorem dX4_playRound_36 : decode cX4_playRound 36 = .ok (.aload_n 0, 1) := by decide +kernel
theorem dX4_playRound_37 : decode cX4_playRound 37 = .ok (.iload_n 1, 1) := by decide +kernel
theorem dX4_playRound_38 : decode cX4_playRound 38 = .ok (.ifCond .eq 12, 3) := by decide +kernel
theorem dX4_playRound_41 : decode cX4_playRound 41 = .ok (.aload_n 0, 1) := by decide +kernel
theorem dX4_playRound_42 : decode cX4_playRound 42 = .ok (.getfield 47, 3) := by decide +kernel
theorem dX4_playRound_45 : decode cX4_playRound 45 = .ok (.iconst 1, 1) := by decide +kernel
theorem dX4_playRound_46 : decode cX4_playRound 46 = .ok (.iadd, 1) := by decide +kernel
theorem dX4_playRound_47 : decode cX4_playRound 47 = .ok (.goto 4, 3) := by decide +kernel
theorem dX4_playRound_50 : decode cX4_playRound 50 = .ok (.iconst 0, 1) := by decide +kernel
theorem dX4_playRound_51 : decode cX4_playRound 51 = .ok (.putfield 47, 3) := by decide +kernel
theorem dX4_playRound_54 : decode cX4_playRound 54 = .ok (.aload_n 0, 1) := by decide +kernel
theorem dX4_playRound_55 : decode cX4_playRound 55 = .ok (.dup, 1) := by decide +kernel
theorem dX4_playRound_56 : decode cX4_playRound 56 = .ok (.getfield 9, 3) := by decide +kernel
theorem dX4_playRound_59 : decode cX4_playRound 59 = .ok (.iconst 1, 1) := by decide +kernel
theorem dX4_playRound_60 : decode cX4_playRound 60 = .ok (.iadd, 1) := by decide +kernel
theorem dX4_playRound_61 : decode cX4_playRound 61 = .ok (.putfield 9, 3) := by decide +kernel
theorem dX4_playRound_64 : decode cX4_playRound 64 = .ok (.return_, 1) := by decide +kernel
set_option maxRecDepth 20000 in
theorem ggX4_takeTurn_X1_asksOf : GoodIn wsX4_takeTurn wsX1_asksOf := goodIn_r _ [7] (by decide +kernel) (by decide +kernel)
set_option maxRecDepth 20000 in
theorem gX4_takeTurn_X1_asksOf : GoodIn wsX4_takeTurn (va_wsS RX4 113 yX1_asksOf wsX1_asksOf) := goodIn_app (goodIn_of _ (by decide +kernel)) ggX4_takeTurn_X1_asksOf
set_option maxRecDepth 20000 in
theorem ggX4_takeTurn_X4_nextToAsk : GoodIn wsX4_takeTurn wsX4_nextToAsk := goodIn_r _ [12, 13, 14, 15, 3, 16, 17, 18, 19, 20, 21, 22, 23, 24, 25, 11, 26, 1, 27, 28, 29, 30, 31, 32, 33, 34, 6, 35, 36, 37, 38, 39, 40, 68, 69, 70, 71, 72, 73, 74, 75, 76, 77, 78, 79, 80] (by decide +kernel) (by decide +kernel)
set_option maxRecDepth 20000 in
theorem gX4_takeTurn_X4_nextToAsk : GoodIn wsX4_takeTurn (wsV RX4 116 RX4 yX4_nextToAsk wsX4_nextToAsk) := goodIn_app (goodIn_of _ (by decide +kernel)) ggX4_takeTurn_X4_nextToAsk
set_option maxRecDepth 20000 in
theorem ggX4_takeTurn_X4_agreesTo : GoodIn wsX4_takeTurn wsX4_agreesTo := goodIn_r _ [44, 3, 1, 45, 46, 23, 24, 25, 11, 26, 27, 28, 29, 30, 31, 32, 33, 34, 6, 35, 47, 48, 49, 68, 69, 70, 71, 72, 73, 74, 75, 76, 77, 78] (by decide +kernel) (by decide +kernel)
set_option maxRecDepth 20000 in
theorem gX4_takeTurn_X4_agreesTo : GoodIn wsX4_takeTurn (wsV RX4 81 RX4 yX4_agreesTo wsX4_agreesTo) := goodIn_app (goodIn_of _ (by decide +kernel)) ggX4_takeTurn_X4_agreesTo
set_option maxRecDepth 20000 in
theorem ggX4_takeTurn_X4_exchange : GoodIn wsX4_takeTurn wsX4_exchange := goodIn_r _ [53, 3, 54, 55, 56, 11, 57, 45, 58, 59, 60, 61, 15, 1, 62, 63, 64, 65, 66, 6, 67, 68, 69, 70, 71, 72, 73, 74, 75, 76, 77, 78] (by decide +kernel) (by decide +kernel)
set_option maxRecDepth 20000 in
theorem gX4_takeTurn_X4_exchange : GoodIn wsX4_takeTurn (wsV RX4 119 RX4 yX4_exchange wsX4_exchange) := goodIn_app (goodIn_of _ (by decide +kernel)) ggX4_takeTurn_X4_exchange
theorem dX4_takeTurn_0 : decode cX4_takeTurn 0 = .ok (.iconst 0, 1) := by decide +kernel
theorem dX4_takeTurn_1 : decode cX4_takeTurn 1 = .ok (.istore_n 2, 1) := by decide +kernel
theorem dX4_takeTurn_2 : decode cX4_takeTurn 2 = .ok (.aload_n 0, 1) := by decide +kernel
theorem dX4_takeTurn_3 : decode cX4_takeTurn 3 = .ok (.getfield 21, 3) := by decide +kernel
theorem dX4_takeTurn_6 : decode cX4_takeTurn 6 = .ok (.iload_n 1, 1) := by decide +kernel
theorem dX4_takeTurn_7 : decode cX4_takeTurn 7 = .ok (.iaload, 1) := by decide +kernel
theorem dX4_takeTurn_8 : decode cX4_takeTurn 8 = .ok (.aload_n 0, 1) := by decide +kernel
theorem dX4_takeTurn_9 : decode cX4_takeTurn 9 = .ok (.getfield 9, 3) := by decide +kernel
theorem dX4_takeTurn_12 : decode cX4_takeTurn 12 = .ok (.invokestatic 113, 3) := by decide +kernel
theorem dX4_takeTurn_15 : decode cX4_takeTurn 15 = .ok (.istore_n 3, 1) := by decide +kernel
theorem dX4_takeTurn_16 : decode cX4_takeTurn 16 = .ok (.iload_n 3, 1) := by decide +kernel
theorem dX4_takeTurn_17 : decode cX4_takeTurn 17 = .ok (.ifCond .le 70, 3) := by decide +kernel
theorem dX4_takeTurn_20 : decode cX4_takeTurn 20 = .ok (.aload_n 0, 1) := by decide +kernel
theorem dX4_takeTurn_21 : decode cX4_takeTurn 21 = .ok (.iload_n 1, 1) := by decide +kernel
theorem dX4_takeTurn_22 : decode cX4_takeTurn 22 = .ok (.iload_n 2, 1) := by decide +kernel
theorem dX4_takeTurn_23 : decode cX4_takeTurn 23 = .ok (.invokevirtual 116, 3) := by decide +kernel
theorem dX4_takeTurn_26 : decode cX4_takeTurn 26 = .ok (.istore 4, 2) := by decide +kernel
theorem dX4_takeTurn_28 : decode cX4_takeTurn 28 = .ok (.iload 4, 2) := by decide +kernel
theorem dX4_takeTurn_30 : decode cX4_takeTurn 30 = .ok (.ifCond .ge 5, 3) := by decide +kernel
theorem dX4_takeTurn_33 : decode cX4_takeTurn 33 = .ok (.iconst 0, 1) := by decide +kernel
theorem dX4_takeTurn_34 : decode cX4_takeTurn 34 = .ok (.ireturn, 1) := by decide +kernel
theorem dX4_takeTurn_35 : decode cX4_takeTurn 35 = .ok (.aload_n 0, 1) := by decide +kernel
theorem dX4_takeTurn_36 : decode cX4_takeTurn 36 = .ok (.iload_n 1, 1) := by decide +kernel
theorem dX4_takeTurn_37 : decode cX4_takeTurn 37 = .ok (.aload_n 0, 1) := by decide +kernel
theorem dX4_takeTurn_38 : decode cX4_takeTurn 38 = .ok (.getfield 25, 3) := by decide +kernel
theorem dX4_takeTurn_41 : decode cX4_takeTurn 41 = .ok (.iload 4, 2) := by decide +kernel
theorem dX4_takeTurn_43 : decode cX4_takeTurn 43 = .ok (.iaload, 1) := by decide +kernel
theorem dX4_takeTurn_44 : decode cX4_takeTurn 44 = .ok (.invokevirtual 81, 3) := by decide +kernel
theorem dX4_takeTurn_47 : decode cX4_takeTurn 47 = .ok (.ifCond .eq 27, 3) := by decide +kernel
theorem dX4_takeTurn_50 : decode cX4_takeTurn 50 = .ok (.aload_n 0, 1) := by decide +kernel
theorem dX4_takeTurn_51 : decode cX4_takeTurn 51 = .ok (.iload 4, 2) := by decide +kernel
theorem dX4_takeTurn_53 : decode cX4_takeTurn 53 = .ok (.aload_n 0, 1) := by decide +kernel
theorem dX4_takeTurn_54 : decode cX4_takeTurn 54 = .ok (.getfield 25, 3) := by decide +kernel
theorem dX4_takeTurn_57 : decode cX4_takeTurn 57 = .ok (.iload_n 1, 1) := by decide +kernel
theorem dX4_takeTurn_58 : decode cX4_takeTurn 58 = .ok (.iaload, 1) := by decide +kernel
theorem dX4_takeTurn_59 : decode cX4_takeTurn 59 = .ok (.invokevirtual 81, 3) := by decide +kernel
theorem dX4_takeTurn_62 : decode cX4_takeTurn 62 = .ok (.ifCond .eq 12, 3) := by decide +kernel
theorem dX4_takeTurn_65 : decode cX4_takeTurn 65 = .ok (.aload_n 0, 1) := by decide +kernel
theorem dX4_takeTurn_66 : decode cX4_takeTurn 66 = .ok (.iload_n 1, 1) := by decide +kernel
theorem dX4_takeTurn_67 : decode cX4_takeTurn 67 = .ok (.iload 4, 2) := by decide +kernel
theorem dX4_takeTurn_69 : decode cX4_takeTurn 69 = .ok (.invokevirtual 119, 3) := by decide +kernel
theorem dX4_takeTurn_72 : decode cX4_takeTurn 72 = .ok (.iconst 1, 1) := by decide +kernel
theorem dX4_takeTurn_73 : decode cX4_takeTurn 73 = .ok (.ireturn, 1) := by decide +kernel
theorem dX4_takeTurn_74 : decode cX4_takeTurn 74 = .ok (.iload_n 2, 1) := by decide +kernel
theorem dX4_takeTurn_75 : decode cX4_takeTurn 75 = .ok (.iconst 1, 1) := by decide +kernel
theorem dX4_takeTurn_76 : decode cX4_takeTurn 76 = .ok (.iload 4, 2) := by decide +kernel
theorem dX4_takeTurn_78 : decode cX4_takeTurn 78 = .ok (.ishl, 1) := by decide +kernel
theorem dX4_takeTurn_79 : decode cX4_takeTurn 79 = .ok (.ior, 1) := by decide +kernel
theorem dX4_takeTurn_80 : decode cX4_takeTurn 80 = .ok (.istore_n 2, 1) := by decide +kernel
theorem dX4_takeTurn_81 : decode cX4_takeTurn 81 = .ok (.iinc 3 (-1), 3) := by decide +kernel
theorem dX4_takeTurn_84 : decode cX4_takeTurn 84 = .ok (.goto (-68), 3) := by decide +kernel
theorem dX4_takeTurn_87 : decode cX4_takeTurn 87 = .ok (.iconst 0, 1) := by decide +kernel
theorem dX4_takeTurn_88 : decode cX4_takeTurn 88 = .ok (.ireturn, 1) := by decide +kernel
set_option maxRecDepth 20000 in
theorem ggX4_nextToAsk_X0_begin : GoodIn wsX4_nextToAsk wsX0_begin := goodIn_r _ [10, 11, 44, 45] (by decide +kernel) (by decide +kernel)
set_option maxRecDepth 20000 in
theorem gX4_nextToAsk_X0_begin : GoodIn wsX4_nextToAsk (wsV RX4 123 RX0 yX0_begin wsX0_begin) := goodIn_app (goodIn_of _ (by decide +kernel)) ggX4_nextToAsk_X0_begin
set_option maxRecDepth 20000 in
theorem ggX4_nextToAsk_X4_worthTo : GoodIn wsX4_nextToAsk wsX4_worthTo := goodIn_r _ [16, 17, 18, 19, 20, 21, 15, 22, 23, 24, 25, 26, 27, 33, 34, 35, 36, 37, 38, 39, 40, 41, 42, 43] (by decide +kernel) (by decide +kernel)
set_option maxRecDepth 20000 in
theorem gX4_nextToAsk_X4_worthTo : GoodIn wsX4_nextToAsk (wsV RX4 74 RX4 yX4_worthTo wsX4_worthTo) := goodIn_app (goodIn_of _ (by decide +kernel)) ggX4_nextToAsk_X4_worthTo
set_option maxRecDepth 20000 in
theorem ggX4_nextToAsk_X0_offer : GoodIn wsX4_nextToAsk wsX0_offer := goodIn_r _ [31, 11, 32, 44, 45] (by decide +kernel) (by decide +kernel)
set_option maxRecDepth 20000 in
theorem gX4_nextToAsk_X0_offer : GoodIn wsX4_nextToAsk (wsV RX4 126 RX0 yX0_offer wsX0_offer) := goodIn_app (goodIn_of _ (by decide +kernel)) ggX4_nextToAsk_X0_offer
theorem dX4_nextToAsk_0 : decode cX4_nextToAsk 0 = .ok (.aload_n 0, 1) := by decide +kernel
theorem dX4_nextToAsk_1 : decode cX4_nextToAsk 1 = .ok (.getfield 43, 3) := by decide +kernel
theorem dX4_nextToAsk_4 : decode cX4_nextToAsk 4 = .ok (.invokevirtual 123, 3) := by decide +kernel
theorem dX4_nextToAsk_7 : decode cX4_nextToAsk 7 = .ok (.iconst 0, 1) := by decide +kernel
theorem dX4_nextToAsk_8 : decode cX4_nextToAsk 8 = .ok (.istore_n 3, 1) := by decide +kernel
theorem dX4_nextToAsk_9 : decode cX4_nextToAsk 9 = .ok (.iload_n 3, 1) := by decide +kernel
theorem dX4_nextToAsk_10 : decode cX4_nextToAsk 10 = .ok (.aload_n 0, 1) := by decide +kernel
theorem dX4_nextToAsk_11 : decode cX4_nextToAsk 11 = .ok (.getfield 18, 3) := by decide +kernel
theorem dX4_nextToAsk_14 : decode cX4_nextToAsk 14 = .ok (.if_icmp .ge 74, 3) := by decide +kernel
theorem dX4_nextToAsk_17 : decode cX4_nextToAsk 17 = .ok (.iload_n 2, 1) := by decide +kernel
theorem dX4_nextToAsk_18 : decode cX4_nextToAsk 18 = .ok (.iload_n 3, 1) := by decide +kernel
theorem dX4_nextToAsk_19 : decode cX4_nextToAsk 19 = .ok (.ishr, 1) := by decide +kernel
theorem dX4_nextToAsk_20 : decode cX4_nextToAsk 20 = .ok (.iconst 1, 1) := by decide +kernel
theorem dX4_nextToAsk_21 : decode cX4_nextToAsk 21 = .ok (.iand, 1) := by decide +kernel
theorem dX4_nextToAsk_22 : decode cX4_nextToAsk 22 = .ok (.ifCond .ne 18, 3) := by decide +kernel
theorem dX4_nextToAsk_25 : decode cX4_nextToAsk 25 = .ok (.aload_n 0, 1) := by decide +kernel
theorem dX4_nextToAsk_26 : decode cX4_nextToAsk 26 = .ok (.getfield 31, 3) := by decide +kernel
theorem dX4_nextToAsk_29 : decode cX4_nextToAsk 29 = .ok (.iload_n 3, 1) := by decide +kernel
theorem dX4_nextToAsk_30 : decode cX4_nextToAsk 30 = .ok (.iaload, 1) := by decide +kernel
theorem dX4_nextToAsk_31 : decode cX4_nextToAsk 31 = .ok (.bipush 10, 2) := by decide +kernel
theorem dX4_nextToAsk_33 : decode cX4_nextToAsk 33 = .ok (.if_icmp .lt 7, 3) := by decide +kernel
theorem dX4_nextToAsk_36 : decode cX4_nextToAsk 36 = .ok (.iconst 1, 1) := by decide +kernel
theorem dX4_nextToAsk_37 : decode cX4_nextToAsk 37 = .ok (.goto 4, 3) := by decide +kernel
theorem dX4_nextToAsk_40 : decode cX4_nextToAsk 40 = .ok (.iconst 0, 1) := by decide +kernel
theorem dX4_nextToAsk_41 : decode cX4_nextToAsk 41 = .ok (.istore 4, 2) := by decide +kernel
theorem dX4_nextToAsk_43 : decode cX4_nextToAsk 43 = .ok (.iload 4, 2) := by decide +kernel
theorem dX4_nextToAsk_45 : decode cX4_nextToAsk 45 = .ok (.ifCond .eq 37, 3) := by decide +kernel
theorem dX4_nextToAsk_48 : decode cX4_nextToAsk 48 = .ok (.aload_n 0, 1) := by decide +kernel
theorem dX4_nextToAsk_49 : decode cX4_nextToAsk 49 = .ok (.getfield 25, 3) := by decide +kernel
theorem dX4_nextToAsk_52 : decode cX4_nextToAsk 52 = .ok (.iload_n 3, 1) := by decide +kernel
theorem dX4_nextToAsk_53 : decode cX4_nextToAsk 53 = .ok (.iaload, 1) := by decide +kernel
theorem dX4_nextToAsk_54 : decode cX4_nextToAsk 54 = .ok (.aload_n 0, 1) := by decide +kernel
theorem dX4_nextToAsk_55 : decode cX4_nextToAsk 55 = .ok (.getfield 25, 3) := by decide +kernel
theorem dX4_nextToAsk_58 : decode cX4_nextToAsk 58 = .ok (.iload_n 1, 1) := by decide +kernel
theorem dX4_nextToAsk_59 : decode cX4_nextToAsk 59 = .ok (.iaload, 1) := by decide +kernel
theorem dX4_nextToAsk_60 : decode cX4_nextToAsk 60 = .ok (.if_icmp .eq 22, 3) := by decide +kernel
theorem dX4_nextToAsk_63 : decode cX4_nextToAsk 63 = .ok (.aload_n 0, 1) := by decide +kernel
theorem dX4_nextToAsk_64 : decode cX4_nextToAsk 64 = .ok (.getfield 43, 3) := by decide +kernel
theorem dX4_nextToAsk_67 : decode cX4_nextToAsk 67 = .ok (.iload_n 3, 1) := by decide +kernel
theorem dX4_nextToAsk_68 : decode cX4_nextToAsk 68 = .ok (.aload_n 0, 1) := by decide +kernel
theorem dX4_nextToAsk_69 : decode cX4_nextToAsk 69 = .ok (.iload_n 1, 1) := by decide +kernel
theorem dX4_nextToAsk_70 : decode cX4_nextToAsk 70 = .ok (.aload_n 0, 1) := by decide +kernel
theorem dX4_nextToAsk_71 : decode cX4_nextToAsk 71 = .ok (.getfield 25, 3) := by decide +kernel
theorem dX4_nextToAsk_74 : decode cX4_nextToAsk 74 = .ok (.iload_n 3, 1) := by decide +kernel
theorem dX4_nextToAsk_75 : decode cX4_nextToAsk 75 = .ok (.iaload, 1) := by decide +kernel
theorem dX4_nextToAsk_76 : decode cX4_nextToAsk 76 = .ok (.invokevirtual 74, 3) := by decide +kernel
theorem dX4_nextToAsk_79 : decode cX4_nextToAsk 79 = .ok (.invokevirtual 126, 3) := by decide +kernel
theorem dX4_nextToAsk_82 : decode cX4_nextToAsk 82 = .ok (.iinc 3 1, 3) := by decide +kernel
theorem dX4_nextToAsk_85 : decode cX4_nextToAsk 85 = .ok (.goto (-76), 3) := by decide +kernel
theorem dX4_nextToAsk_88 : decode cX4_nextToAsk 88 = .ok (.aload_n 0, 1) := by decide +kernel
theorem dX4_nextToAsk_89 : decode cX4_nextToAsk 89 = .ok (.getfield 43, 3) := by decide +kernel
theorem dX4_nextToAsk_92 : decode cX4_nextToAsk 92 = .ok (.getfield 129, 3) := by decide +kernel
theorem dX4_nextToAsk_95 : decode cX4_nextToAsk 95 = .ok (.ireturn, 1) := by decide +kernel
set_option maxRecDepth 20000 in
theorem ggX4_goesAsBooked_X4_playRound : GoodIn wsX4_goesAsBooked wsX4_playRound := goodIn_r _ [8, 9, 10, 11, 12, 13, 14, 7, 15, 16, 3, 17, 18, 19, 20, 21, 22, 23, 24, 25, 26, 27, 28, 29, 30, 31, 32, 33, 34, 35, 36, 37, 38, 39, 40, 41, 42, 43, 44, 45, 46, 47, 48, 49, 50, 51, 52, 53, 54, 55, 56, 57, 58, 59, 60, 61, 62, 63, 64, 65, 66, 67, 68, 69, 70, 71, 72, 73, 74, 75, 76, 77, 78, 82, 83, 84, 85, 86, 87, 88, 89, 90, 91, 92, 93, 94] (by decide +kernel) (by decide +kernel)
set_option maxRecDepth 20000 in
theorem gX4_goesAsBooked_X4_playRound : GoodIn wsX4_goesAsBooked (wsV RX4 106 RX4 yX4_playRound wsX4_playRound) := goodIn_app (goodIn_of _ (by decide +kernel)) ggX4_goesAsBooked_X4_playRound
theorem dX4_goesAsBooked_0 : decode cX4_goesAsBooked 0 = .ok (.iconst 0, 1) := by decide +kernel
theorem dX4_goesAsBooked_1 : decode cX4_goesAsBooked 1 = .ok (.istore_n 3, 1) := by decide +kernel
theorem dX4_goesAsBooked_2 : decode cX4_goesAsBooked 2 = .ok (.iload_n 3, 1) := by decide +kernel
theorem dX4_goesAsBooked_3 : decode cX4_goesAsBooked 3 = .ok (.aload_n 2, 1) := by decide +kernel
theorem dX4_goesAsBooked_4 : decode cX4_goesAsBooked 4 = .ok (.getfield 132, 3) := by decide +kernel
theorem dX4_goesAsBooked_7 : decode cX4_goesAsBooked 7 = .ok (.if_icmp .ge 32, 3) := by decide +kernel
theorem dX4_goesAsBooked_10 : decode cX4_goesAsBooked 10 = .ok (.aload_n 2, 1) := by decide +kernel
theorem dX4_goesAsBooked_11 : decode cX4_goesAsBooked 11 = .ok (.getfield 137, 3) := by decide +kernel
theorem dX4_goesAsBooked_14 : decode cX4_goesAsBooked 14 = .ok (.iload_n 3, 1) := by decide +kernel
theorem dX4_goesAsBooked_15 : decode cX4_goesAsBooked 15 = .ok (.laload, 1) := by decide +kernel
theorem dX4_goesAsBooked_16 : decode cX4_goesAsBooked 16 = .ok (.aload_n 0, 1) := by decide +kernel
theorem dX4_goesAsBooked_17 : decode cX4_goesAsBooked 17 = .ok (.getfield 25, 3) := by decide +kernel
theorem dX4_goesAsBooked_20 : decode cX4_goesAsBooked 20 = .ok (.iload_n 1, 1) := by decide +kernel
theorem dX4_goesAsBooked_21 : decode cX4_goesAsBooked 21 = .ok (.iaload, 1) := by decide +kernel
theorem dX4_goesAsBooked_22 : decode cX4_goesAsBooked 22 = .ok (.i2l, 1) := by decide +kernel
theorem dX4_goesAsBooked_23 : decode cX4_goesAsBooked 23 = .ok (.lcmp, 1) := by decide +kernel
theorem dX4_goesAsBooked_24 : decode cX4_goesAsBooked 24 = .ok (.ifCond .eq 5, 3) := by decide +kernel
theorem dX4_goesAsBooked_27 : decode cX4_goesAsBooked 27 = .ok (.iconst 0, 1) := by decide +kernel
theorem dX4_goesAsBooked_28 : decode cX4_goesAsBooked 28 = .ok (.ireturn, 1) := by decide +kernel
theorem dX4_goesAsBooked_29 : decode cX4_goesAsBooked 29 = .ok (.aload_n 0, 1) := by decide +kernel
theorem dX4_goesAsBooked_30 : decode cX4_goesAsBooked 30 = .ok (.invokevirtual 106, 3) := by decide +kernel
theorem dX4_goesAsBooked_33 : decode cX4_goesAsBooked 33 = .ok (.iinc 3 1, 3) := by decide +kernel
theorem dX4_goesAsBooked_36 : decode cX4_goesAsBooked 36 = .ok (.goto (-34), 3) := by decide +kernel
theorem dX4_goesAsBooked_39 : decode cX4_goesAsBooked 39 = .ok (.iconst 1, 1) := by decide +kernel
theorem dX4_goesAsBooked_40 : decode cX4_goesAsBooked 40 = .ok (.ireturn, 1) := by decide +kernel
set_option maxRecDepth 20000 in
theorem ggX5_init_X3_init : GoodIn wsX5_init wsX3_init := goodIn_r _ [9, 10, 2, 3, 11, 12, 13, 14, 15, 16, 17, 18, 19, 20, 21, 22, 23] (by decide +kernel) (by decide +kernel)
set_option maxRecDepth 20000 in
theorem gX5_init_X3_init_n11 : GoodIn wsX5_init (wsX3_init) := ggX5_init_X3_init
theorem dX5_init_0 : decode cX5_init 0 = .ok (.aload_n 0, 1) := by decide +kernel
theorem dX5_init_1 : decode cX5_init 1 = .ok (.invokespecial 3, 3) := by decide +kernel
theorem dX5_init_4 : decode cX5_init 4 = .ok (.aload_n 0, 1) := by decide +kernel
theorem dX5_init_5 : decode cX5_init 5 = .ok (.new 9, 3) := by decide +kernel
theorem dX5_init_8 : decode cX5_init 8 = .ok (.dup, 1) := by decide +kernel
theorem dX5_init_9 : decode cX5_init 9 = .ok (.invokespecial 11, 3) := by decide +kernel
theorem dX5_init_12 : decode cX5_init 12 = .ok (.putfield 12, 3) := by decide +kernel
theorem dX5_init_15 : decode cX5_init 15 = .ok (.return_, 1) := by decide +kernel
set_option maxRecDepth 20000 in
theorem ggX5_readInto_X3_rewind : GoodIn wsX5_readInto wsX3_rewind := goodIn_r _ [8, 9, 10, 11, 12, 7, 13, 14, 15, 16, 17, 18, 19, 20, 21, 22, 23, 24, 25, 26, 27, 28, 29, 30, 31, 32, 164, 165, 166, 167, 168, 169] (by decide +kernel) (by decide +kernel)
set_option maxRecDepth 20000 in
theorem gX5_readInto_X3_rewind : GoodIn wsX5_readInto (wsV RX5 18 RX3 yX3_rewind wsX3_rewind) := goodIn_app (goodIn_of _ (by decide +kernel)) ggX5_readInto_X3_rewind
set_option maxRecDepth 20000 in
theorem ggX5_readInto_X5_readItem : GoodIn wsX5_readInto wsX5_readItem := goodIn_r _ [37, 1, 38, 39, 40, 41, 42, 7, 43, 17, 9, 14, 16, 44, 45, 46, 47, 48, 49, 50, 51, 52, 53, 54, 55, 56, 57, 58, 59, 60, 61, 62, 63, 64, 65, 66, 67, 68, 69, 70, 71, 72, 73, 74, 75, 76, 77, 78, 79, 80, 81, 82, 83, 84, 85, 86, 87, 88, 89, 90, 91, 92, 93, 11, 12, 13, 15, 18, 19, 20, 21, 22, 23, 24, 25, 26, 27, 28, 29, 30, 31, 32, 94, 95, 96, 36, 97, 98, 99, 100, 101, 102, 103, 104, 105, 106, 107, 108, 109, 110, 111, 112, 113, 114, 115, 116, 117, 118, 119, 120, 121, 122, 123, 124, 125, 126, 127, 128, 129, 130, 131, 132, 133, 134, 135, 136, 137, 138, 139, 140, 141, 142, 143, 144, 145, 146, 147, 148, 149, 150, 151, 152, 153, 154, 155, 156, 157, 158, 159, 160, 161, 2, 162, 163, 170, 171, 172, 173, 174, 175, 176, 177, 178, 179, 180, 164, 165, 166, 167, 168, 169] (by decide +kernel) (by decide +kernel)
set_option maxRecDepth 20000 in
theorem gX5_readInto_X5_readItem : GoodIn wsX5_readInto (wsV RX5 21 RX5 yX5_readItem wsX5_readItem) := goodIn_app (goodIn_of _ (by decide +kernel)) ggX5_readInto_X5_readItem
set_option maxRecDepth 20000 in
theorem ggX5_readInto_X3_advance : GoodIn wsX5_readInto wsX3_advance := goodIn_r _ [13, 9, 14, 15, 16, 17, 18, 19, 7, 20, 21, 22, 23, 24, 25, 26, 27, 28, 29, 30, 31, 32, 164, 165, 166, 167, 168, 169] (by decide +kernel) (by decide +kernel)
set_option maxRecDepth 20000 in
theorem gX5_readInto_X3_advance : GoodIn wsX5_readInto (wsV RX5 29 RX3 yX3_advance wsX3_advance) := goodIn_app (goodIn_of _ (by decide +kernel)) ggX5_readInto_X3_advance
theorem dX5_readInto_0 : decode cX5_readInto 0 = .ok (.aload_n 0, 1) := by decide +kernel
theorem dX5_readInto_1 : decode cX5_readInto 1 = .ok (.getfield 12, 3) := by decide +kernel
theorem dX5_readInto_4 : decode cX5_readInto 4 = .ok (.invokevirtual 18, 3) := by decide +kernel
theorem dX5_readInto_7 : decode cX5_readInto 7 = .ok (.iconst 1, 1) := by decide +kernel
theorem dX5_readInto_8 : decode cX5_readInto 8 = .ok (.istore_n 2, 1) := by decide +kernel
theorem dX5_readInto_9 : decode cX5_readInto 9 = .ok (.iload_n 2, 1) := by decide +kernel
theorem dX5_readInto_10 : decode cX5_readInto 10 = .ok (.bipush 120, 2) := by decide +kernel
theorem dX5_readInto_12 : decode cX5_readInto 12 = .ok (.if_icmp .gt 53, 3) := by decide +kernel
theorem dX5_readInto_15 : decode cX5_readInto 15 = .ok (.aload_n 0, 1) := by decide +kernel
theorem dX5_readInto_16 : decode cX5_readInto 16 = .ok (.aload_n 1, 1) := by decide +kernel
theorem dX5_readInto_17 : decode cX5_readInto 17 = .ok (.invokevirtual 21, 3) := by decide +kernel
theorem dX5_readInto_20 : decode cX5_readInto 20 = .ok (.ifCond .ne 6, 3) := by decide +kernel
theorem dX5_readInto_23 : decode cX5_readInto 23 = .ok (.goto 42, 3) := by decide +kernel
theorem dX5_readInto_26 : decode cX5_readInto 26 = .ok (.aload_n 0, 1) := by decide +kernel
theorem dX5_readInto_27 : decode cX5_readInto 27 = .ok (.getfield 12, 3) := by decide +kernel
theorem dX5_readInto_30 : decode cX5_readInto 30 = .ok (.getfield 25, 3) := by decide +kernel
theorem dX5_readInto_33 : decode cX5_readInto 33 = .ok (.ifCond .ne 5, 3) := by decide +kernel
theorem dX5_readInto_36 : decode cX5_readInto 36 = .ok (.iload_n 2, 1) := by decide +kernel
theorem dX5_readInto_37 : decode cX5_readInto 37 = .ok (.ireturn, 1) := by decide +kernel
theorem dX5_readInto_38 : decode cX5_readInto 38 = .ok (.aload_n 0, 1) := by decide +kernel
theorem dX5_readInto_39 : decode cX5_readInto 39 = .ok (.getfield 12, 3) := by decide +kernel
theorem dX5_readInto_42 : decode cX5_readInto 42 = .ok (.getfield 25, 3) := by decide +kernel
theorem dX5_readInto_45 : decode cX5_readInto 45 = .ok (.iconst 3, 1) := by decide +kernel
theorem dX5_readInto_46 : decode cX5_readInto 46 = .ok (.if_icmp .eq 6, 3) := by decide +kernel
theorem dX5_readInto_49 : decode cX5_readInto 49 = .ok (.goto 16, 3) := by decide +kernel
theorem dX5_readInto_52 : decode cX5_readInto 52 = .ok (.aload_n 0, 1) := by decide +kernel
theorem dX5_readInto_53 : decode cX5_readInto 53 = .ok (.getfield 12, 3) := by decide +kernel
theorem dX5_readInto_56 : decode cX5_readInto 56 = .ok (.invokevirtual 29, 3) := by decide +kernel
theorem dX5_readInto_59 : decode cX5_readInto 59 = .ok (.iinc 2 1, 3) := by decide +kernel
theorem dX5_readInto_62 : decode cX5_readInto 62 = .ok (.goto (-53), 3) := by decide +kernel
theorem dX5_readInto_65 : decode cX5_readInto 65 = .ok (.iconst (-1), 1) := by decide +kernel
theorem dX5_readInto_66 : decode cX5_readInto 66 = .ok (.aload_n 0, 1) := by decide +kernel
theorem dX5_readInto_67 : decode cX5_readInto 67 = .ok (.getfield 12, 3) := by decide +kernel
theorem dX5_readInto_70 : decode cX5_readInto 70 = .ok (.getfield 32, 3) := by decide +kernel
theorem dX5_readInto_73 : decode cX5_readInto 73 = .ok (.isub, 1) := by decide +kernel
theorem dX5_readInto_74 : decode cX5_readInto 74 = .ok (.ireturn, 1) := by decide +kernel
set_option maxRecDepth 20000 in
theorem ggX5_readItem_X3_isWord : GoodIn wsX5_readItem wsX3_isWord := goodIn_r _ [8, 9, 10, 11, 12, 13, 14, 15, 16, 17, 18, 19, 20, 21, 22, 23, 24, 25, 26, 27, 28, 29, 30, 31, 32, 33, 34, 35, 36, 37, 38, 39, 40, 41, 42, 43, 44, 45, 46, 47, 48, 49, 50, 51, 52, 53, 54, 55, 56, 57, 58, 59, 60, 61, 165, 166, 167, 168, 169, 170] (by decide +kernel) (by decide +kernel)
set_option maxRecDepth 20000 in
theorem gX5_readItem_X3_isWord : GoodIn wsX5_readItem (wsV RX5 37 RX3 yX3_isWord wsX3_isWord) := goodIn_app (goodIn_of _ (by decide +kernel)) ggX5_readItem_X3_isWord
set_option maxRecDepth 20000 in
theorem ggX5_readItem_X3_advance : GoodIn wsX5_readItem wsX3_advance := goodIn_r _ [65, 10, 11, 66, 12, 9, 67, 68, 7, 69, 70, 71, 72, 73, 74, 75, 76, 77, 78, 79, 80, 81, 165, 166, 167, 168, 169, 170] (by decide +kernel) (by decide +kernel)
set_option maxRecDepth 20000 in
theorem gX5_readItem_X3_advance : GoodIn wsX5_readItem (wsV RX5 29 RX3 yX3_advance wsX3_advance) := goodIn_app (goodIn_of _ (by decide +kernel)) ggX5_readItem_X3_advance
set_option maxRecDepth 20000 in
theorem ggX5_readItem_X5_readSwap : GoodIn wsX5_readItem wsX5_readSwap := goodIn_r _ [86, 1, 3, 87, 62, 63, 64, 7, 65, 10, 11, 66, 12, 9, 67, 68, 69, 70, 71, 72, 73, 74, 75, 76, 77, 78, 79, 80, 81, 88, 89, 90, 91, 92, 93, 94, 95, 96, 97, 98, 99, 100, 101, 102, 103, 104, 105, 106, 107, 108, 109, 110, 111, 112, 113, 114, 115, 153, 154, 155, 156, 157, 158, 159, 160, 161, 162, 163, 164, 165, 166, 167, 168, 169, 170] (by decide +kernel) (by decide +kernel)
set_option maxRecDepth 20000 in
theorem gX5_readItem_X5_readSwap : GoodIn wsX5_readItem (wsV RX5 49 RX5 yX5_readSwap wsX5_readSwap) := goodIn_app (goodIn_of _ (by decide +kernel)) ggX5_readItem_X5_readSwap
set_option maxRecDepth 20000 in
theorem ggX5_readItem_X5_kindNamed : GoodIn wsX5_readItem wsX5_kindNamed := goodIn_r _ [119, 1, 120, 121, 85, 122, 4, 5, 6, 7, 8, 9, 10, 11, 12, 13, 14, 15, 16, 17, 18, 19, 20, 21, 22, 23, 24, 25, 26, 27, 28, 29, 30, 31, 32, 33, 34, 35, 36, 37, 38, 39, 40, 41, 42, 43, 44, 45, 46, 47, 48, 49, 50, 51, 52, 53, 54, 55, 56, 57, 58, 59, 60, 61, 153, 165, 166, 167, 168, 169, 170] (by decide +kernel) (by decide +kernel)
set_option maxRecDepth 20000 in
theorem gX5_readItem_X5_kindNamed : GoodIn wsX5_readItem (wsV RX5 52 RX5 yX5_kindNamed wsX5_kindNamed) := goodIn_app (goodIn_of _ (by decide +kernel)) ggX5_readItem_X5_kindNamed
set_option maxRecDepth 20000 in
theorem ggX5_readItem_X4_isFull : GoodIn wsX5_readItem wsX4_isFull := goodIn_r _ [126, 127, 154, 155, 156, 157, 158, 159, 160, 161, 162, 163, 164] (by decide +kernel) (by decide +kernel)
set_option maxRecDepth 20000 in
theorem gX5_readItem_X4_isFull : GoodIn wsX5_readItem (wsV RX5 56 RX4 yX4_isFull wsX4_isFull) := goodIn_app (goodIn_of _ (by decide +kernel)) ggX5_readItem_X4_isFull
set_option maxRecDepth 20000 in
theorem ggX5_readItem_X5_readChild : GoodIn wsX5_readItem wsX5_readChild := goodIn_r _ [131, 1, 87, 62, 63, 64, 7, 65, 10, 11, 66, 12, 9, 67, 68, 69, 70, 71, 72, 73, 74, 75, 76, 77, 78, 79, 80, 81, 88, 89, 90, 91, 132, 133, 134, 95, 135, 127, 108, 97, 136, 102, 107, 137, 138, 139, 140, 141, 153, 165, 166, 167, 168, 169, 170, 154, 155, 156, 157, 158, 159, 160, 161, 162, 163, 164] (by decide +kernel) (by decide +kernel)
set_option maxRecDepth 20000 in
theorem gX5_readItem_X5_readChild : GoodIn wsX5_readItem (wsV RX5 60 RX5 yX5_readChild wsX5_readChild) := goodIn_app (goodIn_of _ (by decide +kernel)) ggX5_readItem_X5_readChild
