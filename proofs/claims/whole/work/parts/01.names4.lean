theorem dX7_init_48 : decode cX7_init 48 = .ok (.putfield 25, 3) := by decide +kernel
theorem dX7_init_51 : decode cX7_init 51 = .ok (.aload_n 0, 1) := by decide +kernel
theorem dX7_init_52 : decode cX7_init 52 = .ok (.iconst 4, 1) := by decide +kernel
theorem dX7_init_53 : decode cX7_init 53 = .ok (.newarray .int, 2) := by decide +kernel
theorem dX7_init_55 : decode cX7_init 55 = .ok (.putfield 28, 3) := by decide +kernel
theorem dX7_init_58 : decode cX7_init 58 = .ok (.aload_n 0, 1) := by decide +kernel
theorem dX7_init_59 : decode cX7_init 59 = .ok (.sipush 160, 3) := by decide +kernel
theorem dX7_init_62 : decode cX7_init 62 = .ok (.newarray .long, 2) := by decide +kernel
theorem dX7_init_64 : decode cX7_init 64 = .ok (.putfield 31, 3) := by decide +kernel
theorem dX7_init_67 : decode cX7_init 67 = .ok (.aload_n 0, 1) := by decide +kernel
theorem dX7_init_68 : decode cX7_init 68 = .ok (.getfield 9, 3) := by decide +kernel
theorem dX7_init_71 : decode cX7_init 71 = .ok (.iconst 0, 1) := by decide +kernel
theorem dX7_init_72 : decode cX7_init 72 = .ok (.iconst 0, 1) := by decide +kernel
theorem dX7_init_73 : decode cX7_init 73 = .ok (.iastore, 1) := by decide +kernel
theorem dX7_init_74 : decode cX7_init 74 = .ok (.return_, 1) := by decide +kernel
theorem dX7_finds_0 : decode cX7_finds 0 = .ok (.aload_n 0, 1) := by decide +kernel
theorem dX7_finds_1 : decode cX7_finds 1 = .ok (.getfield 19, 3) := by decide +kernel
theorem dX7_finds_4 : decode cX7_finds 4 = .ok (.ldc 35, 2) := by decide +kernel
theorem dX7_finds_6 : decode cX7_finds 6 = .ok (.iload_n 1, 1) := by decide +kernel
theorem dX7_finds_7 : decode cX7_finds 7 = .ok (.isub, 1) := by decide +kernel
theorem dX7_finds_8 : decode cX7_finds 8 = .ok (.dup2, 1) := by decide +kernel
theorem dX7_finds_9 : decode cX7_finds 9 = .ok (.iaload, 1) := by decide +kernel
theorem dX7_finds_10 : decode cX7_finds 10 = .ok (.iconst 1, 1) := by decide +kernel
theorem dX7_finds_11 : decode cX7_finds 11 = .ok (.iadd, 1) := by decide +kernel
theorem dX7_finds_12 : decode cX7_finds 12 = .ok (.iastore, 1) := by decide +kernel
theorem dX7_finds_13 : decode cX7_finds 13 = .ok (.iload_n 1, 1) := by decide +kernel
theorem dX7_finds_14 : decode cX7_finds 14 = .ok (.ireturn, 1) := by decide +kernel
set_option maxRecDepth 20000 in
theorem ggX7_orNone_X7_finds : GoodIn wsX7_orNone wsX7_finds := goodIn_r _ [6, 7, 8, 9, 10, 11, 12, 13, 14, 15, 16, 17, 18, 19, 20, 21, 22, 23] (by decide +kernel) (by decide +kernel)
set_option maxRecDepth 20000 in
theorem gX7_orNone_X7_finds : GoodIn wsX7_orNone (wsV RX7 37 RX7 yX7_finds wsX7_finds) := goodIn_app (goodIn_of _ (by decide +kernel)) ggX7_orNone_X7_finds
theorem dX7_orNone_0 : decode cX7_orNone 0 = .ok (.iload_n 1, 1) := by decide +kernel
theorem dX7_orNone_1 : decode cX7_orNone 1 = .ok (.ifCond .ge 12, 3) := by decide +kernel
theorem dX7_orNone_4 : decode cX7_orNone 4 = .ok (.aload_n 0, 1) := by decide +kernel
theorem dX7_orNone_5 : decode cX7_orNone 5 = .ok (.ldc 36, 2) := by decide +kernel
theorem dX7_orNone_7 : decode cX7_orNone 7 = .ok (.invokevirtual 37, 3) := by decide +kernel
theorem dX7_orNone_10 : decode cX7_orNone 10 = .ok (.goto 4, 3) := by decide +kernel
theorem dX7_orNone_13 : decode cX7_orNone 13 = .ok (.iload_n 1, 1) := by decide +kernel
theorem dX7_orNone_14 : decode cX7_orNone 14 = .ok (.ireturn, 1) := by decide +kernel
theorem dX7_in_0 : decode cX7_in 0 = .ok (.lload_n 0, 1) := by decide +kernel
theorem dX7_in_1 : decode cX7_in 1 = .ok (.iload_n 2, 1) := by decide +kernel
theorem dX7_in_2 : decode cX7_in 2 = .ok (.i2l, 1) := by decide +kernel
theorem dX7_in_3 : decode cX7_in 3 = .ok (.lcmp, 1) := by decide +kernel
theorem dX7_in_4 : decode cX7_in 4 = .ok (.ifCond .lt 14, 3) := by decide +kernel
theorem dX7_in_7 : decode cX7_in 7 = .ok (.lload_n 0, 1) := by decide +kernel
theorem dX7_in_8 : decode cX7_in 8 = .ok (.iload_n 3, 1) := by decide +kernel
theorem dX7_in_9 : decode cX7_in 9 = .ok (.i2l, 1) := by decide +kernel
theorem dX7_in_10 : decode cX7_in 10 = .ok (.lcmp, 1) := by decide +kernel
theorem dX7_in_11 : decode cX7_in 11 = .ok (.ifCond .gt 7, 3) := by decide +kernel
theorem dX7_in_14 : decode cX7_in 14 = .ok (.iconst 1, 1) := by decide +kernel
theorem dX7_in_15 : decode cX7_in 15 = .ok (.goto 4, 3) := by decide +kernel
theorem dX7_in_18 : decode cX7_in 18 = .ok (.iconst 0, 1) := by decide +kernel
theorem dX7_in_19 : decode cX7_in 19 = .ok (.ireturn, 1) := by decide +kernel
theorem dX7_held_0 : decode cX7_held 0 = .ok (.iload_n 0, 1) := by decide +kernel
theorem dX7_held_1 : decode cX7_held 1 = .ok (.iload_n 1, 1) := by decide +kernel
theorem dX7_held_2 : decode cX7_held 2 = .ok (.if_icmp .ge 7, 3) := by decide +kernel
theorem dX7_held_5 : decode cX7_held 5 = .ok (.iload_n 1, 1) := by decide +kernel
theorem dX7_held_6 : decode cX7_held 6 = .ok (.goto 13, 3) := by decide +kernel
theorem dX7_held_9 : decode cX7_held 9 = .ok (.iload_n 0, 1) := by decide +kernel
theorem dX7_held_10 : decode cX7_held 10 = .ok (.iload_n 2, 1) := by decide +kernel
theorem dX7_held_11 : decode cX7_held 11 = .ok (.if_icmp .le 7, 3) := by decide +kernel
theorem dX7_held_14 : decode cX7_held 14 = .ok (.iload_n 2, 1) := by decide +kernel
theorem dX7_held_15 : decode cX7_held 15 = .ok (.goto 4, 3) := by decide +kernel
theorem dX7_held_18 : decode cX7_held 18 = .ok (.iload_n 0, 1) := by decide +kernel
theorem dX7_held_19 : decode cX7_held 19 = .ok (.ireturn, 1) := by decide +kernel
theorem dX7_copyAll_0 : decode cX7_copyAll 0 = .ok (.iconst 0, 1) := by decide +kernel
theorem dX7_copyAll_1 : decode cX7_copyAll 1 = .ok (.istore_n 2, 1) := by decide +kernel
theorem dX7_copyAll_2 : decode cX7_copyAll 2 = .ok (.iload_n 2, 1) := by decide +kernel
theorem dX7_copyAll_3 : decode cX7_copyAll 3 = .ok (.bipush 115, 2) := by decide +kernel
theorem dX7_copyAll_5 : decode cX7_copyAll 5 = .ok (.if_icmp .ge 15, 3) := by decide +kernel
theorem dX7_copyAll_8 : decode cX7_copyAll 8 = .ok (.aload_n 1, 1) := by decide +kernel
theorem dX7_copyAll_9 : decode cX7_copyAll 9 = .ok (.iload_n 2, 1) := by decide +kernel
theorem dX7_copyAll_10 : decode cX7_copyAll 10 = .ok (.aload_n 0, 1) := by decide +kernel
theorem dX7_copyAll_11 : decode cX7_copyAll 11 = .ok (.iload_n 2, 1) := by decide +kernel
theorem dX7_copyAll_12 : decode cX7_copyAll 12 = .ok (.iaload, 1) := by decide +kernel
theorem dX7_copyAll_13 : decode cX7_copyAll 13 = .ok (.iastore, 1) := by decide +kernel
theorem dX7_copyAll_14 : decode cX7_copyAll 14 = .ok (.iinc 2 1, 3) := by decide +kernel
theorem dX7_copyAll_17 : decode cX7_copyAll 17 = .ok (.goto (-15), 3) := by decide +kernel
theorem dX7_copyAll_20 : decode cX7_copyAll 20 = .ok (.return_, 1) := by decide +kernel
theorem dX7_bits_0 : decode cX7_bits 0 = .ok (.iconst 0, 1) := by decide +kernel
theorem dX7_bits_1 : decode cX7_bits 1 = .ok (.istore_n 1, 1) := by decide +kernel
theorem dX7_bits_2 : decode cX7_bits 2 = .ok (.iload_n 0, 1) := by decide +kernel
theorem dX7_bits_3 : decode cX7_bits 3 = .ok (.istore_n 2, 1) := by decide +kernel
theorem dX7_bits_4 : decode cX7_bits 4 = .ok (.iload_n 2, 1) := by decide +kernel
theorem dX7_bits_5 : decode cX7_bits 5 = .ok (.ifCond .eq 15, 3) := by decide +kernel
theorem dX7_bits_8 : decode cX7_bits 8 = .ok (.iinc 1 1, 3) := by decide +kernel
theorem dX7_bits_11 : decode cX7_bits 11 = .ok (.iload_n 2, 1) := by decide +kernel
theorem dX7_bits_12 : decode cX7_bits 12 = .ok (.iload_n 2, 1) := by decide +kernel
theorem dX7_bits_13 : decode cX7_bits 13 = .ok (.iconst 1, 1) := by decide +kernel
theorem dX7_bits_14 : decode cX7_bits 14 = .ok (.isub, 1) := by decide +kernel
theorem dX7_bits_15 : decode cX7_bits 15 = .ok (.iand, 1) := by decide +kernel
theorem dX7_bits_16 : decode cX7_bits 16 = .ok (.istore_n 2, 1) := by decide +kernel
theorem dX7_bits_17 : decode cX7_bits 17 = .ok (.goto (-13), 3) := by decide +kernel
theorem dX7_bits_20 : decode cX7_bits 20 = .ok (.iload_n 1, 1) := by decide +kernel
theorem dX7_bits_21 : decode cX7_bits 21 = .ok (.ireturn, 1) := by decide +kernel
theorem dX7_becomes_0 : decode cX7_becomes 0 = .ok (.aload_n 0, 1) := by decide +kernel
theorem dX7_becomes_1 : decode cX7_becomes 1 = .ok (.getfield 9, 3) := by decide +kernel
theorem dX7_becomes_4 : decode cX7_becomes 4 = .ok (.iload_n 1, 1) := by decide +kernel
theorem dX7_becomes_5 : decode cX7_becomes 5 = .ok (.iaload, 1) := by decide +kernel
theorem dX7_becomes_6 : decode cX7_becomes 6 = .ok (.istore_n 3, 1) := by decide +kernel
theorem dX7_becomes_7 : decode cX7_becomes 7 = .ok (.aload_n 0, 1) := by decide +kernel
theorem dX7_becomes_8 : decode cX7_becomes 8 = .ok (.getfield 9, 3) := by decide +kernel
theorem dX7_becomes_11 : decode cX7_becomes 11 = .ok (.iload_n 1, 1) := by decide +kernel
theorem dX7_becomes_12 : decode cX7_becomes 12 = .ok (.iload_n 2, 1) := by decide +kernel
theorem dX7_becomes_13 : decode cX7_becomes 13 = .ok (.iastore, 1) := by decide +kernel
theorem dX7_becomes_14 : decode cX7_becomes 14 = .ok (.iload_n 3, 1) := by decide +kernel
theorem dX7_becomes_15 : decode cX7_becomes 15 = .ok (.ireturn, 1) := by decide +kernel
set_option maxRecDepth 20000 in
theorem ggX7_isChild_X7_in : GoodIn wsX7_isChild wsX7_in := goodIn_r _ [5] (by decide +kernel) (by decide +kernel)
set_option maxRecDepth 20000 in
theorem gX7_isChild_X7_in : GoodIn wsX7_isChild (va_wsS RX7 41 yX7_in wsX7_in) := goodIn_app (goodIn_of _ (by decide +kernel)) ggX7_isChild_X7_in
theorem dX7_isChild_0 : decode cX7_isChild 0 = .ok (.iload_n 1, 1) := by decide +kernel
theorem dX7_isChild_1 : decode cX7_isChild 1 = .ok (.i2l, 1) := by decide +kernel
theorem dX7_isChild_2 : decode cX7_isChild 2 = .ok (.iconst 0, 1) := by decide +kernel
theorem dX7_isChild_3 : decode cX7_isChild 3 = .ok (.aload_n 0, 1) := by decide +kernel
theorem dX7_isChild_4 : decode cX7_isChild 4 = .ok (.getfield 9, 3) := by decide +kernel
theorem dX7_isChild_7 : decode cX7_isChild 7 = .ok (.iconst 2, 1) := by decide +kernel
theorem dX7_isChild_8 : decode cX7_isChild 8 = .ok (.iaload, 1) := by decide +kernel
theorem dX7_isChild_9 : decode cX7_isChild 9 = .ok (.iconst 1, 1) := by decide +kernel
theorem dX7_isChild_10 : decode cX7_isChild 10 = .ok (.isub, 1) := by decide +kernel
theorem dX7_isChild_11 : decode cX7_isChild 11 = .ok (.invokestatic 41, 3) := by decide +kernel
theorem dX7_isChild_14 : decode cX7_isChild 14 = .ok (.ireturn, 1) := by decide +kernel
set_option maxRecDepth 20000 in
theorem ggX7_areTwo_X7_isChild : GoodIn wsX7_areTwo wsX7_isChild := goodIn_r _ [5, 6, 7, 8, 4, 9, 10, 11, 12, 13, 14, 15, 16, 17, 18, 19, 20, 21, 22, 23, 24] (by decide +kernel) (by decide +kernel)
set_option maxRecDepth 20000 in
theorem gX7_areTwo_X7_isChild : GoodIn wsX7_areTwo (wsV RX7 45 RX7 yX7_isChild wsX7_isChild) := goodIn_app (goodIn_of _ (by decide +kernel)) ggX7_areTwo_X7_isChild
theorem dX7_areTwo_0 : decode cX7_areTwo 0 = .ok (.aload_n 0, 1) := by decide +kernel
theorem dX7_areTwo_1 : decode cX7_areTwo 1 = .ok (.iload_n 1, 1) := by decide +kernel
theorem dX7_areTwo_2 : decode cX7_areTwo 2 = .ok (.invokevirtual 45, 3) := by decide +kernel
theorem dX7_areTwo_5 : decode cX7_areTwo 5 = .ok (.ifCond .eq 20, 3) := by decide +kernel
theorem dX7_areTwo_8 : decode cX7_areTwo 8 = .ok (.aload_n 0, 1) := by decide +kernel
theorem dX7_areTwo_9 : decode cX7_areTwo 9 = .ok (.iload_n 2, 1) := by decide +kernel
theorem dX7_areTwo_10 : decode cX7_areTwo 10 = .ok (.invokevirtual 45, 3) := by decide +kernel
theorem dX7_areTwo_13 : decode cX7_areTwo 13 = .ok (.ifCond .eq 12, 3) := by decide +kernel
theorem dX7_areTwo_16 : decode cX7_areTwo 16 = .ok (.iload_n 1, 1) := by decide +kernel
theorem dX7_areTwo_17 : decode cX7_areTwo 17 = .ok (.iload_n 2, 1) := by decide +kernel
theorem dX7_areTwo_18 : decode cX7_areTwo 18 = .ok (.if_icmp .eq 7, 3) := by decide +kernel
theorem dX7_areTwo_21 : decode cX7_areTwo 21 = .ok (.iconst 1, 1) := by decide +kernel
theorem dX7_areTwo_22 : decode cX7_areTwo 22 = .ok (.goto 4, 3) := by decide +kernel
theorem dX7_areTwo_25 : decode cX7_areTwo 25 = .ok (.iconst 0, 1) := by decide +kernel
theorem dX7_areTwo_26 : decode cX7_areTwo 26 = .ok (.ireturn, 1) := by decide +kernel
set_option maxRecDepth 20000 in
theorem ggX7_isThing_X7_in : GoodIn wsX7_isThing wsX7_in := goodIn_r _ [4] (by decide +kernel) (by decide +kernel)
set_option maxRecDepth 20000 in
theorem gX7_isThing_X7_in : GoodIn wsX7_isThing (va_wsS RX7 41 yX7_in wsX7_in) := goodIn_app (goodIn_of _ (by decide +kernel)) ggX7_isThing_X7_in
theorem dX7_isThing_0 : decode cX7_isThing 0 = .ok (.iload_n 0, 1) := by decide +kernel
theorem dX7_isThing_1 : decode cX7_isThing 1 = .ok (.i2l, 1) := by decide +kernel
theorem dX7_isThing_2 : decode cX7_isThing 2 = .ok (.iconst 0, 1) := by decide +kernel
theorem dX7_isThing_3 : decode cX7_isThing 3 = .ok (.bipush 9, 2) := by decide +kernel
theorem dX7_isThing_5 : decode cX7_isThing 5 = .ok (.invokestatic 41, 3) := by decide +kernel
theorem dX7_isThing_8 : decode cX7_isThing 8 = .ok (.ireturn, 1) := by decide +kernel
theorem dX7_it_0 : decode cX7_it 0 = .ok (.aload_n 0, 1) := by decide +kernel
theorem dX7_it_1 : decode cX7_it 1 = .ok (.getfield 9, 3) := by decide +kernel
theorem dX7_it_4 : decode cX7_it 4 = .ok (.iconst 3, 1) := by decide +kernel
theorem dX7_it_5 : decode cX7_it 5 = .ok (.bipush 14, 2) := by decide +kernel
theorem dX7_it_7 : decode cX7_it 7 = .ok (.iload_n 1, 1) := by decide +kernel
theorem dX7_it_8 : decode cX7_it 8 = .ok (.imul, 1) := by decide +kernel
theorem dX7_it_9 : decode cX7_it 9 = .ok (.iadd, 1) := by decide +kernel
theorem dX7_it_10 : decode cX7_it 10 = .ok (.iload_n 2, 1) := by decide +kernel
theorem dX7_it_11 : decode cX7_it 11 = .ok (.iadd, 1) := by decide +kernel
theorem dX7_it_12 : decode cX7_it 12 = .ok (.iaload, 1) := by decide +kernel
theorem dX7_it_13 : decode cX7_it 13 = .ok (.ireturn, 1) := by decide +kernel
theorem dX7_put_0 : decode cX7_put 0 = .ok (.aload_n 0, 1) := by decide +kernel
theorem dX7_put_1 : decode cX7_put 1 = .ok (.getfield 9, 3) := by decide +kernel
theorem dX7_put_4 : decode cX7_put 4 = .ok (.iconst 3, 1) := by decide +kernel
theorem dX7_put_5 : decode cX7_put 5 = .ok (.bipush 14, 2) := by decide +kernel
theorem dX7_put_7 : decode cX7_put 7 = .ok (.iload_n 1, 1) := by decide +kernel
theorem dX7_put_8 : decode cX7_put 8 = .ok (.imul, 1) := by decide +kernel
theorem dX7_put_9 : decode cX7_put 9 = .ok (.iadd, 1) := by decide +kernel
theorem dX7_put_10 : decode cX7_put 10 = .ok (.iload_n 2, 1) := by decide +kernel
theorem dX7_put_11 : decode cX7_put 11 = .ok (.iadd, 1) := by decide +kernel
theorem dX7_put_12 : decode cX7_put 12 = .ok (.iload_n 3, 1) := by decide +kernel
theorem dX7_put_13 : decode cX7_put 13 = .ok (.iastore, 1) := by decide +kernel
theorem dX7_put_14 : decode cX7_put 14 = .ok (.return_, 1) := by decide +kernel
set_option maxRecDepth 20000 in
theorem ggX7_whoHas_X7_it : GoodIn wsX7_whoHas wsX7_it := goodIn_r _ [6, 1, 7, 8, 9, 10, 11, 12, 13, 14, 15, 16, 17, 18, 19, 20, 21] (by decide +kernel) (by decide +kernel)
set_option maxRecDepth 20000 in
theorem gX7_whoHas_X7_it : GoodIn wsX7_whoHas (wsV RX7 49 RX7 yX7_it wsX7_it) := goodIn_app (goodIn_of _ (by decide +kernel)) ggX7_whoHas_X7_it
theorem dX7_whoHas_0 : decode cX7_whoHas 0 = .ok (.iconst 0, 1) := by decide +kernel
theorem dX7_whoHas_1 : decode cX7_whoHas 1 = .ok (.istore_n 2, 1) := by decide +kernel
theorem dX7_whoHas_2 : decode cX7_whoHas 2 = .ok (.iconst 0, 1) := by decide +kernel
theorem dX7_whoHas_3 : decode cX7_whoHas 3 = .ok (.istore_n 3, 1) := by decide +kernel
theorem dX7_whoHas_4 : decode cX7_whoHas 4 = .ok (.iload_n 3, 1) := by decide +kernel
theorem dX7_whoHas_5 : decode cX7_whoHas 5 = .ok (.aload_n 0, 1) := by decide +kernel
theorem dX7_whoHas_6 : decode cX7_whoHas 6 = .ok (.getfield 9, 3) := by decide +kernel
theorem dX7_whoHas_9 : decode cX7_whoHas 9 = .ok (.iconst 2, 1) := by decide +kernel
theorem dX7_whoHas_10 : decode cX7_whoHas 10 = .ok (.iaload, 1) := by decide +kernel
theorem dX7_whoHas_11 : decode cX7_whoHas 11 = .ok (.if_icmp .ge 29, 3) := by decide +kernel
theorem dX7_whoHas_14 : decode cX7_whoHas 14 = .ok (.iload_n 2, 1) := by decide +kernel
theorem dX7_whoHas_15 : decode cX7_whoHas 15 = .ok (.aload_n 0, 1) := by decide +kernel
theorem dX7_whoHas_16 : decode cX7_whoHas 16 = .ok (.iload_n 3, 1) := by decide +kernel
theorem dX7_whoHas_17 : decode cX7_whoHas 17 = .ok (.iconst 1, 1) := by decide +kernel
theorem dX7_whoHas_18 : decode cX7_whoHas 18 = .ok (.invokevirtual 49, 3) := by decide +kernel
theorem dX7_whoHas_21 : decode cX7_whoHas 21 = .ok (.iload_n 1, 1) := by decide +kernel
theorem dX7_whoHas_22 : decode cX7_whoHas 22 = .ok (.if_icmp .ne 9, 3) := by decide +kernel
theorem dX7_whoHas_25 : decode cX7_whoHas 25 = .ok (.iconst 1, 1) := by decide +kernel
theorem dX7_whoHas_26 : decode cX7_whoHas 26 = .ok (.iload_n 3, 1) := by decide +kernel
theorem dX7_whoHas_27 : decode cX7_whoHas 27 = .ok (.ishl, 1) := by decide +kernel
theorem dX7_whoHas_28 : decode cX7_whoHas 28 = .ok (.goto 4, 3) := by decide +kernel
theorem dX7_whoHas_31 : decode cX7_whoHas 31 = .ok (.iconst 0, 1) := by decide +kernel
theorem dX7_whoHas_32 : decode cX7_whoHas 32 = .ok (.ior, 1) := by decide +kernel
theorem dX7_whoHas_33 : decode cX7_whoHas 33 = .ok (.istore_n 2, 1) := by decide +kernel
theorem dX7_whoHas_34 : decode cX7_whoHas 34 = .ok (.iinc 3 1, 3) := by decide +kernel
theorem dX7_whoHas_37 : decode cX7_whoHas 37 = .ok (.goto (-33), 3) := by decide +kernel
theorem dX7_whoHas_40 : decode cX7_whoHas 40 = .ok (.iload_n 2, 1) := by decide +kernel
theorem dX7_whoHas_41 : decode cX7_whoHas 41 = .ok (.ireturn, 1) := by decide +kernel
set_option maxRecDepth 20000 in
theorem ggX7_worthTo_X7_it : GoodIn wsX7_worthTo wsX7_it := goodIn_r _ [5, 6, 14, 15, 16, 17, 18, 19, 20, 21, 22, 23, 24, 25, 26, 27, 28] (by decide +kernel) (by decide +kernel)
set_option maxRecDepth 20000 in
theorem gX7_worthTo_X7_it : GoodIn wsX7_worthTo (wsV RX7 49 RX7 yX7_it wsX7_it) := goodIn_app (goodIn_of _ (by decide +kernel)) ggX7_worthTo_X7_it
set_option maxRecDepth 20000 in
theorem ggX7_worthTo_X7_whoHas : GoodIn wsX7_worthTo wsX7_whoHas := goodIn_r _ [10, 6, 1, 2, 3, 4, 5, 14, 15, 16, 17, 18, 19, 20, 21, 22, 23, 24, 25, 26, 27, 28] (by decide +kernel) (by decide +kernel)
set_option maxRecDepth 20000 in
theorem gX7_worthTo_X7_whoHas : GoodIn wsX7_worthTo (wsV RX7 53 RX7 yX7_whoHas wsX7_whoHas) := goodIn_app (goodIn_of _ (by decide +kernel)) ggX7_worthTo_X7_whoHas
set_option maxRecDepth 20000 in
theorem ggX7_worthTo_X7_bits : GoodIn wsX7_worthTo wsX7_bits := goodIn_r _ [13] (by decide +kernel) (by decide +kernel)
set_option maxRecDepth 20000 in
theorem gX7_worthTo_X7_bits : GoodIn wsX7_worthTo (va_wsS RX7 56 yX7_bits wsX7_bits) := goodIn_app (goodIn_of _ (by decide +kernel)) ggX7_worthTo_X7_bits
theorem dX7_worthTo_0 : decode cX7_worthTo 0 = .ok (.aload_n 0, 1) := by decide +kernel
theorem dX7_worthTo_1 : decode cX7_worthTo 1 = .ok (.iload_n 1, 1) := by decide +kernel
theorem dX7_worthTo_2 : decode cX7_worthTo 2 = .ok (.iconst 4, 1) := by decide +kernel
theorem dX7_worthTo_3 : decode cX7_worthTo 3 = .ok (.iload_n 2, 1) := by decide +kernel
theorem dX7_worthTo_4 : decode cX7_worthTo 4 = .ok (.iadd, 1) := by decide +kernel
theorem dX7_worthTo_5 : decode cX7_worthTo 5 = .ok (.invokevirtual 49, 3) := by decide +kernel
theorem dX7_worthTo_8 : decode cX7_worthTo 8 = .ok (.istore_n 3, 1) := by decide +kernel
theorem dX7_worthTo_9 : decode cX7_worthTo 9 = .ok (.aload_n 0, 1) := by decide +kernel
theorem dX7_worthTo_10 : decode cX7_worthTo 10 = .ok (.iload_n 1, 1) := by decide +kernel
theorem dX7_worthTo_11 : decode cX7_worthTo 11 = .ok (.iconst 0, 1) := by decide +kernel
theorem dX7_worthTo_12 : decode cX7_worthTo 12 = .ok (.invokevirtual 49, 3) := by decide +kernel
theorem dX7_worthTo_15 : decode cX7_worthTo 15 = .ok (.tableswitch 77 1 5 #[33, 77, 53, 33, 66], 33) := by decide +kernel
theorem dX7_worthTo_48 : decode cX7_worthTo 48 = .ok (.aload_n 0, 1) := by decide +kernel
theorem dX7_worthTo_49 : decode cX7_worthTo 49 = .ok (.iload_n 2, 1) := by decide +kernel
theorem dX7_worthTo_50 : decode cX7_worthTo 50 = .ok (.invokevirtual 53, 3) := by decide +kernel
theorem dX7_worthTo_53 : decode cX7_worthTo 53 = .ok (.invokestatic 56, 3) := by decide +kernel
theorem dX7_worthTo_56 : decode cX7_worthTo 56 = .ok (.iconst 1, 1) := by decide +kernel
theorem dX7_worthTo_57 : decode cX7_worthTo 57 = .ok (.if_icmp .ne 9, 3) := by decide +kernel
theorem dX7_worthTo_60 : decode cX7_worthTo 60 = .ok (.iload_n 3, 1) := by decide +kernel
theorem dX7_worthTo_61 : decode cX7_worthTo 61 = .ok (.iconst 3, 1) := by decide +kernel
theorem dX7_worthTo_62 : decode cX7_worthTo 62 = .ok (.iadd, 1) := by decide +kernel
theorem dX7_worthTo_63 : decode cX7_worthTo 63 = .ok (.goto 4, 3) := by decide +kernel
theorem dX7_worthTo_66 : decode cX7_worthTo 66 = .ok (.iload_n 3, 1) := by decide +kernel
theorem dX7_worthTo_67 : decode cX7_worthTo 67 = .ok (.ireturn, 1) := by decide +kernel
theorem dX7_worthTo_68 : decode cX7_worthTo 68 = .ok (.iload_n 2, 1) := by decide +kernel
theorem dX7_worthTo_69 : decode cX7_worthTo 69 = .ok (.bipush 9, 2) := by decide +kernel
theorem dX7_worthTo_71 : decode cX7_worthTo 71 = .ok (.if_icmp .ne 8, 3) := by decide +kernel
theorem dX7_worthTo_74 : decode cX7_worthTo 74 = .ok (.bipush (-20), 2) := by decide +kernel
theorem dX7_worthTo_76 : decode cX7_worthTo 76 = .ok (.goto 4, 3) := by decide +kernel
theorem dX7_worthTo_79 : decode cX7_worthTo 79 = .ok (.iload_n 3, 1) := by decide +kernel
theorem dX7_worthTo_80 : decode cX7_worthTo 80 = .ok (.ireturn, 1) := by decide +kernel
theorem dX7_worthTo_81 : decode cX7_worthTo 81 = .ok (.iload_n 3, 1) := by decide +kernel
theorem dX7_worthTo_82 : decode cX7_worthTo 82 = .ok (.aload_n 0, 1) := by decide +kernel
theorem dX7_worthTo_83 : decode cX7_worthTo 83 = .ok (.iload_n 2, 1) := by decide +kernel
theorem dX7_worthTo_84 : decode cX7_worthTo 84 = .ok (.invokevirtual 53, 3) := by decide +kernel
theorem dX7_worthTo_87 : decode cX7_worthTo 87 = .ok (.invokestatic 56, 3) := by decide +kernel
theorem dX7_worthTo_90 : decode cX7_worthTo 90 = .ok (.iadd, 1) := by decide +kernel
theorem dX7_worthTo_91 : decode cX7_worthTo 91 = .ok (.ireturn, 1) := by decide +kernel
theorem dX7_worthTo_92 : decode cX7_worthTo 92 = .ok (.iload_n 3, 1) := by decide +kernel
theorem dX7_worthTo_93 : decode cX7_worthTo 93 = .ok (.ireturn, 1) := by decide +kernel
set_option maxRecDepth 20000 in
theorem ggX7_gladness_X7_it : GoodIn wsX7_gladness wsX7_it := goodIn_r _ [5, 6, 18, 19, 20, 21, 22, 23, 24, 25, 26, 27, 28, 29, 30, 31, 32] (by decide +kernel) (by decide +kernel)
set_option maxRecDepth 20000 in
theorem gX7_gladness_X7_it : GoodIn wsX7_gladness (wsV RX7 49 RX7 yX7_it wsX7_it) := goodIn_app (goodIn_of _ (by decide +kernel)) ggX7_gladness_X7_it
set_option maxRecDepth 20000 in
theorem ggX7_gladness_X7_worthTo : GoodIn wsX7_gladness wsX7_worthTo := goodIn_r _ [10, 1, 2, 3, 4, 5, 6, 11, 12, 13, 14, 15, 16, 17, 18, 19, 20, 21, 22, 23, 24, 25, 26, 27, 28, 29, 30, 31, 32] (by decide +kernel) (by decide +kernel)
set_option maxRecDepth 20000 in
theorem gX7_gladness_X7_worthTo : GoodIn wsX7_gladness (wsV RX7 59 RX7 yX7_worthTo wsX7_worthTo) := goodIn_app (goodIn_of _ (by decide +kernel)) ggX7_gladness_X7_worthTo
theorem dX7_gladness_0 : decode cX7_gladness 0 = .ok (.aload_n 0, 1) := by decide +kernel
theorem dX7_gladness_1 : decode cX7_gladness 1 = .ok (.iload_n 1, 1) := by decide +kernel
theorem dX7_gladness_2 : decode cX7_gladness 2 = .ok (.aload_n 0, 1) := by decide +kernel
theorem dX7_gladness_3 : decode cX7_gladness 3 = .ok (.iload_n 1, 1) := by decide +kernel
theorem dX7_gladness_4 : decode cX7_gladness 4 = .ok (.iconst 1, 1) := by decide +kernel
theorem dX7_gladness_5 : decode cX7_gladness 5 = .ok (.invokevirtual 49, 3) := by decide +kernel
theorem dX7_gladness_8 : decode cX7_gladness 8 = .ok (.invokevirtual 59, 3) := by decide +kernel
theorem dX7_gladness_11 : decode cX7_gladness 11 = .ok (.ireturn, 1) := by decide +kernel
set_option maxRecDepth 20000 in
theorem ggX7_doesAgree_X7_worthTo : GoodIn wsX7_doesAgree wsX7_worthTo := goodIn_r _ [6, 7, 8, 9, 5, 10, 1, 11, 12, 13, 14, 15, 16, 17, 22, 23, 24, 25, 26, 27, 28, 29, 30, 31, 32, 33, 34, 35, 36] (by decide +kernel) (by decide +kernel)
set_option maxRecDepth 20000 in
theorem gX7_doesAgree_X7_worthTo : GoodIn wsX7_doesAgree (wsV RX7 59 RX7 yX7_worthTo wsX7_worthTo) := goodIn_app (goodIn_of _ (by decide +kernel)) ggX7_doesAgree_X7_worthTo
set_option maxRecDepth 20000 in
theorem ggX7_doesAgree_X7_gladness : GoodIn wsX7_doesAgree wsX7_gladness := goodIn_r _ [21, 7, 8, 9, 5, 10, 1, 2, 3, 4, 6, 11, 12, 13, 14, 15, 16, 17, 22, 23, 24, 25, 26, 27, 28, 29, 30, 31, 32, 33, 34, 35, 36] (by decide +kernel) (by decide +kernel)
set_option maxRecDepth 20000 in
theorem gX7_doesAgree_X7_gladness : GoodIn wsX7_doesAgree (wsV RX7 62 RX7 yX7_gladness wsX7_gladness) := goodIn_app (goodIn_of _ (by decide +kernel)) ggX7_doesAgree_X7_gladness
set_option maxRecDepth 20000 in
theorem ggX7_doesAgree_X7_it : GoodIn wsX7_doesAgree wsX7_it := goodIn_r _ [10, 1, 22, 23, 24, 25, 26, 27, 28, 29, 30, 31, 32, 33, 34, 35, 36] (by decide +kernel) (by decide +kernel)
set_option maxRecDepth 20000 in
theorem gX7_doesAgree_X7_it : GoodIn wsX7_doesAgree (wsV RX7 49 RX7 yX7_it wsX7_it) := goodIn_app (goodIn_of _ (by decide +kernel)) ggX7_doesAgree_X7_it
theorem dX7_doesAgree_0 : decode cX7_doesAgree 0 = .ok (.aload_n 0, 1) := by decide +kernel
theorem dX7_doesAgree_1 : decode cX7_doesAgree 1 = .ok (.iload_n 1, 1) := by decide +kernel
theorem dX7_doesAgree_2 : decode cX7_doesAgree 2 = .ok (.iload_n 2, 1) := by decide +kernel
theorem dX7_doesAgree_3 : decode cX7_doesAgree 3 = .ok (.invokevirtual 59, 3) := by decide +kernel
theorem dX7_doesAgree_6 : decode cX7_doesAgree 6 = .ok (.aload_n 0, 1) := by decide +kernel
theorem dX7_doesAgree_7 : decode cX7_doesAgree 7 = .ok (.iload_n 1, 1) := by decide +kernel
theorem dX7_doesAgree_8 : decode cX7_doesAgree 8 = .ok (.invokevirtual 62, 3) := by decide +kernel
theorem dX7_doesAgree_11 : decode cX7_doesAgree 11 = .ok (.isub, 1) := by decide +kernel
theorem dX7_doesAgree_12 : decode cX7_doesAgree 12 = .ok (.istore_n 3, 1) := by decide +kernel
theorem dX7_doesAgree_13 : decode cX7_doesAgree 13 = .ok (.aload_n 0, 1) := by decide +kernel
theorem dX7_doesAgree_14 : decode cX7_doesAgree 14 = .ok (.getfield 9, 3) := by decide +kernel
theorem dX7_doesAgree_17 : decode cX7_doesAgree 17 = .ok (.iconst 1, 1) := by decide +kernel
theorem dX7_doesAgree_18 : decode cX7_doesAgree 18 = .ok (.iaload, 1) := by decide +kernel
theorem dX7_doesAgree_19 : decode cX7_doesAgree 19 = .ok (.iconst 1, 1) := by decide +kernel
theorem dX7_doesAgree_20 : decode cX7_doesAgree 20 = .ok (.if_icmp .ne 7, 3) := by decide +kernel
theorem dX7_doesAgree_23 : decode cX7_doesAgree 23 = .ok (.iconst 1, 1) := by decide +kernel
theorem dX7_doesAgree_24 : decode cX7_doesAgree 24 = .ok (.goto 4, 3) := by decide +kernel
theorem dX7_doesAgree_27 : decode cX7_doesAgree 27 = .ok (.iconst 0, 1) := by decide +kernel
theorem dX7_doesAgree_28 : decode cX7_doesAgree 28 = .ok (.istore 4, 2) := by decide +kernel
theorem dX7_doesAgree_30 : decode cX7_doesAgree 30 = .ok (.aload_n 0, 1) := by decide +kernel
theorem dX7_doesAgree_31 : decode cX7_doesAgree 31 = .ok (.iload_n 1, 1) := by decide +kernel
theorem dX7_doesAgree_32 : decode cX7_doesAgree 32 = .ok (.iconst 0, 1) := by decide +kernel
theorem dX7_doesAgree_33 : decode cX7_doesAgree 33 = .ok (.invokevirtual 49, 3) := by decide +kernel
theorem dX7_doesAgree_36 : decode cX7_doesAgree 36 = .ok (.tableswitch 112 1 5 #[36, 47, 112, 62, 83], 36) := by decide +kernel
theorem dX7_doesAgree_72 : decode cX7_doesAgree 72 = .ok (.iload_n 3, 1) := by decide +kernel
theorem dX7_doesAgree_73 : decode cX7_doesAgree 73 = .ok (.iconst 3, 1) := by decide +kernel
theorem dX7_doesAgree_74 : decode cX7_doesAgree 74 = .ok (.if_icmp .lt 7, 3) := by decide +kernel
theorem dX7_doesAgree_77 : decode cX7_doesAgree 77 = .ok (.iconst 1, 1) := by decide +kernel
theorem dX7_doesAgree_78 : decode cX7_doesAgree 78 = .ok (.goto 4, 3) := by decide +kernel
theorem dX7_doesAgree_81 : decode cX7_doesAgree 81 = .ok (.iconst 0, 1) := by decide +kernel
theorem dX7_doesAgree_82 : decode cX7_doesAgree 82 = .ok (.ireturn, 1) := by decide +kernel
theorem dX7_doesAgree_83 : decode cX7_doesAgree 83 = .ok (.iload_n 3, 1) := by decide +kernel
theorem dX7_doesAgree_84 : decode cX7_doesAgree 84 = .ok (.ifCond .le 12, 3) := by decide +kernel
theorem dX7_doesAgree_87 : decode cX7_doesAgree 87 = .ok (.iload 4, 2) := by decide +kernel
theorem dX7_doesAgree_89 : decode cX7_doesAgree 89 = .ok (.ifCond .ne 7, 3) := by decide +kernel
theorem dX7_doesAgree_92 : decode cX7_doesAgree 92 = .ok (.iconst 1, 1) := by decide +kernel
theorem dX7_doesAgree_93 : decode cX7_doesAgree 93 = .ok (.goto 4, 3) := by decide +kernel
theorem dX7_doesAgree_96 : decode cX7_doesAgree 96 = .ok (.iconst 0, 1) := by decide +kernel
theorem dX7_doesAgree_97 : decode cX7_doesAgree 97 = .ok (.ireturn, 1) := by decide +kernel
theorem dX7_doesAgree_98 : decode cX7_doesAgree 98 = .ok (.iload_n 3, 1) := by decide +kernel
theorem dX7_doesAgree_99 : decode cX7_doesAgree 99 = .ok (.ifCond .lt 18, 3) := by decide +kernel
theorem dX7_doesAgree_102 : decode cX7_doesAgree 102 = .ok (.aload_n 0, 1) := by decide +kernel
theorem dX7_doesAgree_103 : decode cX7_doesAgree 103 = .ok (.iload_n 1, 1) := by decide +kernel
theorem dX7_doesAgree_104 : decode cX7_doesAgree 104 = .ok (.iconst 2, 1) := by decide +kernel
theorem dX7_doesAgree_105 : decode cX7_doesAgree 105 = .ok (.invokevirtual 49, 3) := by decide +kernel
theorem dX7_doesAgree_108 : decode cX7_doesAgree 108 = .ok (.bipush 20, 2) := by decide +kernel
theorem dX7_doesAgree_110 : decode cX7_doesAgree 110 = .ok (.if_icmp .ge 7, 3) := by decide +kernel
theorem dX7_doesAgree_113 : decode cX7_doesAgree 113 = .ok (.iconst 1, 1) := by decide +kernel
theorem dX7_doesAgree_114 : decode cX7_doesAgree 114 = .ok (.goto 4, 3) := by decide +kernel
theorem dX7_doesAgree_117 : decode cX7_doesAgree 117 = .ok (.iconst 0, 1) := by decide +kernel
theorem dX7_doesAgree_118 : decode cX7_doesAgree 118 = .ok (.ireturn, 1) := by decide +kernel
theorem dX7_doesAgree_119 : decode cX7_doesAgree 119 = .ok (.iload_n 3, 1) := by decide +kernel
theorem dX7_doesAgree_120 : decode cX7_doesAgree 120 = .ok (.aload_n 0, 1) := by decide +kernel
theorem dX7_doesAgree_121 : decode cX7_doesAgree 121 = .ok (.iload_n 1, 1) := by decide +kernel
theorem dX7_doesAgree_122 : decode cX7_doesAgree 122 = .ok (.iconst 2, 1) := by decide +kernel
theorem dX7_doesAgree_123 : decode cX7_doesAgree 123 = .ok (.invokevirtual 49, 3) := by decide +kernel
theorem dX7_doesAgree_126 : decode cX7_doesAgree 126 = .ok (.ifCond .ne 7, 3) := by decide +kernel
theorem dX7_doesAgree_129 : decode cX7_doesAgree 129 = .ok (.iconst 2, 1) := by decide +kernel
theorem dX7_doesAgree_130 : decode cX7_doesAgree 130 = .ok (.goto 4, 3) := by decide +kernel
theorem dX7_doesAgree_133 : decode cX7_doesAgree 133 = .ok (.iconst 1, 1) := by decide +kernel
theorem dX7_doesAgree_134 : decode cX7_doesAgree 134 = .ok (.if_icmp .lt 12, 3) := by decide +kernel
theorem dX7_doesAgree_137 : decode cX7_doesAgree 137 = .ok (.iload 4, 2) := by decide +kernel
theorem dX7_doesAgree_139 : decode cX7_doesAgree 139 = .ok (.ifCond .ne 7, 3) := by decide +kernel
theorem dX7_doesAgree_142 : decode cX7_doesAgree 142 = .ok (.iconst 1, 1) := by decide +kernel
theorem dX7_doesAgree_143 : decode cX7_doesAgree 143 = .ok (.goto 4, 3) := by decide +kernel
theorem dX7_doesAgree_146 : decode cX7_doesAgree 146 = .ok (.iconst 0, 1) := by decide +kernel
theorem dX7_doesAgree_147 : decode cX7_doesAgree 147 = .ok (.ireturn, 1) := by decide +kernel
theorem dX7_doesAgree_148 : decode cX7_doesAgree 148 = .ok (.iload_n 3, 1) := by decide +kernel
theorem dX7_doesAgree_149 : decode cX7_doesAgree 149 = .ok (.ifCond .le 7, 3) := by decide +kernel
theorem dX7_doesAgree_152 : decode cX7_doesAgree 152 = .ok (.iconst 1, 1) := by decide +kernel
theorem dX7_doesAgree_153 : decode cX7_doesAgree 153 = .ok (.goto 4, 3) := by decide +kernel
theorem dX7_doesAgree_156 : decode cX7_doesAgree 156 = .ok (.iconst 0, 1) := by decide +kernel
theorem dX7_doesAgree_157 : decode cX7_doesAgree 157 = .ok (.ireturn, 1) := by decide +kernel
set_option maxRecDepth 20000 in
theorem ggX7_asksOf_X7_it : GoodIn wsX7_asksOf wsX7_it := goodIn_r _ [6, 1, 7, 8, 9, 10, 11, 12, 13, 14, 15, 16, 17, 18, 19, 20, 21] (by decide +kernel) (by decide +kernel)
set_option maxRecDepth 20000 in
theorem gX7_asksOf_X7_it : GoodIn wsX7_asksOf (wsV RX7 49 RX7 yX7_it wsX7_it) := goodIn_app (goodIn_of _ (by decide +kernel)) ggX7_asksOf_X7_it
theorem dX7_asksOf_0 : decode cX7_asksOf 0 = .ok (.aload_n 0, 1) := by decide +kernel
theorem dX7_asksOf_1 : decode cX7_asksOf 1 = .ok (.getfield 9, 3) := by decide +kernel
theorem dX7_asksOf_4 : decode cX7_asksOf 4 = .ok (.iconst 0, 1) := by decide +kernel
theorem dX7_asksOf_5 : decode cX7_asksOf 5 = .ok (.iaload, 1) := by decide +kernel
theorem dX7_asksOf_6 : decode cX7_asksOf 6 = .ok (.iconst 2, 1) := by decide +kernel
theorem dX7_asksOf_7 : decode cX7_asksOf 7 = .ok (.irem, 1) := by decide +kernel
theorem dX7_asksOf_8 : decode cX7_asksOf 8 = .ok (.ifCond .ne 7, 3) := by decide +kernel
theorem dX7_asksOf_11 : decode cX7_asksOf 11 = .ok (.iconst 1, 1) := by decide +kernel
theorem dX7_asksOf_12 : decode cX7_asksOf 12 = .ok (.goto 4, 3) := by decide +kernel
theorem dX7_asksOf_15 : decode cX7_asksOf 15 = .ok (.iconst 0, 1) := by decide +kernel
theorem dX7_asksOf_16 : decode cX7_asksOf 16 = .ok (.istore_n 2, 1) := by decide +kernel
theorem dX7_asksOf_17 : decode cX7_asksOf 17 = .ok (.aload_n 0, 1) := by decide +kernel
theorem dX7_asksOf_18 : decode cX7_asksOf 18 = .ok (.iload_n 1, 1) := by decide +kernel
theorem dX7_asksOf_19 : decode cX7_asksOf 19 = .ok (.iconst 0, 1) := by decide +kernel
theorem dX7_asksOf_20 : decode cX7_asksOf 20 = .ok (.invokevirtual 49, 3) := by decide +kernel
theorem dX7_asksOf_23 : decode cX7_asksOf 23 = .ok (.tableswitch 42 1 5 #[33, 36, 42, 33, 38], 33) := by decide +kernel
theorem dX7_asksOf_56 : decode cX7_asksOf 56 = .ok (.bipush 7, 2) := by decide +kernel
theorem dX7_asksOf_58 : decode cX7_asksOf 58 = .ok (.ireturn, 1) := by decide +kernel
theorem dX7_asksOf_59 : decode cX7_asksOf 59 = .ok (.iload_n 2, 1) := by decide +kernel
theorem dX7_asksOf_60 : decode cX7_asksOf 60 = .ok (.ireturn, 1) := by decide +kernel
theorem dX7_asksOf_61 : decode cX7_asksOf 61 = .ok (.iload_n 2, 1) := by decide +kernel
theorem dX7_asksOf_62 : decode cX7_asksOf 62 = .ok (.iconst 1, 1) := by decide +kernel
theorem dX7_asksOf_63 : decode cX7_asksOf 63 = .ok (.iadd, 1) := by decide +kernel
theorem dX7_asksOf_64 : decode cX7_asksOf 64 = .ok (.ireturn, 1) := by decide +kernel
theorem dX7_asksOf_65 : decode cX7_asksOf 65 = .ok (.iconst 2, 1) := by decide +kernel
theorem dX7_asksOf_66 : decode cX7_asksOf 66 = .ok (.ireturn, 1) := by decide +kernel
set_option maxRecDepth 20000 in
theorem ggX7_losesOf_X7_it : GoodIn wsX7_losesOf wsX7_it := goodIn_r _ [5, 6, 7, 8, 9, 10, 11, 12, 13, 14, 15, 16, 17, 18, 19, 20, 21] (by decide +kernel) (by decide +kernel)
set_option maxRecDepth 20000 in
theorem gX7_losesOf_X7_it : GoodIn wsX7_losesOf (wsV RX7 49 RX7 yX7_it wsX7_it) := goodIn_app (goodIn_of _ (by decide +kernel)) ggX7_losesOf_X7_it
theorem dX7_losesOf_0 : decode cX7_losesOf 0 = .ok (.aload_n 0, 1) := by decide +kernel
theorem dX7_losesOf_1 : decode cX7_losesOf 1 = .ok (.iload_n 1, 1) := by decide +kernel
theorem dX7_losesOf_2 : decode cX7_losesOf 2 = .ok (.iconst 0, 1) := by decide +kernel
theorem dX7_losesOf_3 : decode cX7_losesOf 3 = .ok (.invokevirtual 49, 3) := by decide +kernel
theorem dX7_losesOf_6 : decode cX7_losesOf 6 = .ok (.iconst 1, 1) := by decide +kernel
theorem dX7_losesOf_7 : decode cX7_losesOf 7 = .ok (.if_icmp .ne 7, 3) := by decide +kernel
theorem dX7_losesOf_10 : decode cX7_losesOf 10 = .ok (.iconst 1, 1) := by decide +kernel
theorem dX7_losesOf_11 : decode cX7_losesOf 11 = .ok (.goto 19, 3) := by decide +kernel
theorem dX7_losesOf_14 : decode cX7_losesOf 14 = .ok (.aload_n 0, 1) := by decide +kernel
theorem dX7_losesOf_15 : decode cX7_losesOf 15 = .ok (.iload_n 1, 1) := by decide +kernel
theorem dX7_losesOf_16 : decode cX7_losesOf 16 = .ok (.iconst 0, 1) := by decide +kernel
theorem dX7_losesOf_17 : decode cX7_losesOf 17 = .ok (.invokevirtual 49, 3) := by decide +kernel
theorem dX7_losesOf_20 : decode cX7_losesOf 20 = .ok (.iconst 4, 1) := by decide +kernel
theorem dX7_losesOf_21 : decode cX7_losesOf 21 = .ok (.if_icmp .ne 8, 3) := by decide +kernel
theorem dX7_losesOf_24 : decode cX7_losesOf 24 = .ok (.bipush 10, 2) := by decide +kernel
theorem dX7_losesOf_26 : decode cX7_losesOf 26 = .ok (.goto 4, 3) := by decide +kernel
theorem dX7_losesOf_29 : decode cX7_losesOf 29 = .ok (.iconst 0, 1) := by decide +kernel
theorem dX7_losesOf_30 : decode cX7_losesOf 30 = .ok (.ireturn, 1) := by decide +kernel
set_option maxRecDepth 20000 in
theorem ggX7_wouldSwap_X7_it : GoodIn wsX7_wouldSwap wsX7_it := goodIn_r _ [5, 6, 26, 27, 28, 29, 30, 31, 32, 33, 34, 35, 36, 37, 38, 39, 40] (by decide +kernel) (by decide +kernel)
set_option maxRecDepth 20000 in
theorem gX7_wouldSwap_X7_it : GoodIn wsX7_wouldSwap (wsV RX7 49 RX7 yX7_it wsX7_it) := goodIn_app (goodIn_of _ (by decide +kernel)) ggX7_wouldSwap_X7_it
set_option maxRecDepth 20000 in
theorem ggX7_wouldSwap_X7_doesAgree : GoodIn wsX7_wouldSwap wsX7_doesAgree := goodIn_r _ [10, 6, 11, 12, 13, 4, 14, 1, 2, 3, 5, 15, 16, 17, 18, 19, 20, 21, 22, 23, 24, 25, 26, 27, 28, 29, 30, 31, 32, 33, 34, 35, 36, 37, 38, 39, 40] (by decide +kernel) (by decide +kernel)
set_option maxRecDepth 20000 in
theorem gX7_wouldSwap_X7_doesAgree : GoodIn wsX7_wouldSwap (wsV RX7 65 RX7 yX7_doesAgree wsX7_doesAgree) := goodIn_app (goodIn_of _ (by decide +kernel)) ggX7_wouldSwap_X7_doesAgree
theorem dX7_wouldSwap_0 : decode cX7_wouldSwap 0 = .ok (.aload_n 0, 1) := by decide +kernel
theorem dX7_wouldSwap_1 : decode cX7_wouldSwap 1 = .ok (.iload_n 1, 1) := by decide +kernel
theorem dX7_wouldSwap_2 : decode cX7_wouldSwap 2 = .ok (.iconst 1, 1) := by decide +kernel
theorem dX7_wouldSwap_3 : decode cX7_wouldSwap 3 = .ok (.invokevirtual 49, 3) := by decide +kernel
theorem dX7_wouldSwap_6 : decode cX7_wouldSwap 6 = .ok (.aload_n 0, 1) := by decide +kernel
theorem dX7_wouldSwap_7 : decode cX7_wouldSwap 7 = .ok (.iload_n 2, 1) := by decide +kernel
theorem dX7_wouldSwap_8 : decode cX7_wouldSwap 8 = .ok (.iconst 1, 1) := by decide +kernel
theorem dX7_wouldSwap_9 : decode cX7_wouldSwap 9 = .ok (.invokevirtual 49, 3) := by decide +kernel
theorem dX7_wouldSwap_12 : decode cX7_wouldSwap 12 = .ok (.if_icmp .eq 35, 3) := by decide +kernel
theorem dX7_wouldSwap_15 : decode cX7_wouldSwap 15 = .ok (.aload_n 0, 1) := by decide +kernel
theorem dX7_wouldSwap_16 : decode cX7_wouldSwap 16 = .ok (.iload_n 1, 1) := by decide +kernel
theorem dX7_wouldSwap_17 : decode cX7_wouldSwap 17 = .ok (.aload_n 0, 1) := by decide +kernel
theorem dX7_wouldSwap_18 : decode cX7_wouldSwap 18 = .ok (.iload_n 2, 1) := by decide +kernel
theorem dX7_wouldSwap_19 : decode cX7_wouldSwap 19 = .ok (.iconst 1, 1) := by decide +kernel
theorem dX7_wouldSwap_20 : decode cX7_wouldSwap 20 = .ok (.invokevirtual 49, 3) := by decide +kernel
theorem dX7_wouldSwap_23 : decode cX7_wouldSwap 23 = .ok (.invokevirtual 65, 3) := by decide +kernel
theorem dX7_wouldSwap_26 : decode cX7_wouldSwap 26 = .ok (.ifCond .eq 21, 3) := by decide +kernel
theorem dX7_wouldSwap_29 : decode cX7_wouldSwap 29 = .ok (.aload_n 0, 1) := by decide +kernel
theorem dX7_wouldSwap_30 : decode cX7_wouldSwap 30 = .ok (.iload_n 2, 1) := by decide +kernel
theorem dX7_wouldSwap_31 : decode cX7_wouldSwap 31 = .ok (.aload_n 0, 1) := by decide +kernel
theorem dX7_wouldSwap_32 : decode cX7_wouldSwap 32 = .ok (.iload_n 1, 1) := by decide +kernel
theorem dX7_wouldSwap_33 : decode cX7_wouldSwap 33 = .ok (.iconst 1, 1) := by decide +kernel
theorem dX7_wouldSwap_34 : decode cX7_wouldSwap 34 = .ok (.invokevirtual 49, 3) := by decide +kernel
theorem dX7_wouldSwap_37 : decode cX7_wouldSwap 37 = .ok (.invokevirtual 65, 3) := by decide +kernel
theorem dX7_wouldSwap_40 : decode cX7_wouldSwap 40 = .ok (.ifCond .eq 7, 3) := by decide +kernel
theorem dX7_wouldSwap_43 : decode cX7_wouldSwap 43 = .ok (.iconst 1, 1) := by decide +kernel
theorem dX7_wouldSwap_44 : decode cX7_wouldSwap 44 = .ok (.goto 4, 3) := by decide +kernel
theorem dX7_wouldSwap_47 : decode cX7_wouldSwap 47 = .ok (.iconst 0, 1) := by decide +kernel
theorem dX7_wouldSwap_48 : decode cX7_wouldSwap 48 = .ok (.ireturn, 1) := by decide +kernel
set_option maxRecDepth 20000 in
theorem ggX7_matesOf_X7_wouldSwap : GoodIn wsX7_matesOf wsX7_wouldSwap := goodIn_r _ [6, 7, 8, 9, 5, 10, 1, 11, 12, 13, 14, 15, 16, 17, 18, 19, 20, 21, 22, 23, 24, 25, 26, 27, 28, 29, 30, 31, 32, 33, 34, 35, 36, 37, 38, 39, 40, 41, 42, 43, 44] (by decide +kernel) (by decide +kernel)
set_option maxRecDepth 20000 in
theorem gX7_matesOf_X7_wouldSwap : GoodIn wsX7_matesOf (wsV RX7 69 RX7 yX7_wouldSwap wsX7_wouldSwap) := goodIn_app (goodIn_of _ (by decide +kernel)) ggX7_matesOf_X7_wouldSwap
theorem dX7_matesOf_0 : decode cX7_matesOf 0 = .ok (.iconst 0, 1) := by decide +kernel
theorem dX7_matesOf_1 : decode cX7_matesOf 1 = .ok (.istore_n 2, 1) := by decide +kernel
theorem dX7_matesOf_2 : decode cX7_matesOf 2 = .ok (.iconst 0, 1) := by decide +kernel
theorem dX7_matesOf_3 : decode cX7_matesOf 3 = .ok (.istore_n 3, 1) := by decide +kernel
theorem dX7_matesOf_4 : decode cX7_matesOf 4 = .ok (.iload_n 3, 1) := by decide +kernel
theorem dX7_matesOf_5 : decode cX7_matesOf 5 = .ok (.aload_n 0, 1) := by decide +kernel
theorem dX7_matesOf_6 : decode cX7_matesOf 6 = .ok (.getfield 9, 3) := by decide +kernel
theorem dX7_matesOf_9 : decode cX7_matesOf 9 = .ok (.iconst 2, 1) := by decide +kernel
theorem dX7_matesOf_10 : decode cX7_matesOf 10 = .ok (.iaload, 1) := by decide +kernel
theorem dX7_matesOf_11 : decode cX7_matesOf 11 = .ok (.if_icmp .ge 33, 3) := by decide +kernel
theorem dX7_matesOf_14 : decode cX7_matesOf 14 = .ok (.iload_n 2, 1) := by decide +kernel
theorem dX7_matesOf_15 : decode cX7_matesOf 15 = .ok (.iload_n 3, 1) := by decide +kernel
theorem dX7_matesOf_16 : decode cX7_matesOf 16 = .ok (.iload_n 1, 1) := by decide +kernel
theorem dX7_matesOf_17 : decode cX7_matesOf 17 = .ok (.if_icmp .eq 18, 3) := by decide +kernel
theorem dX7_matesOf_20 : decode cX7_matesOf 20 = .ok (.aload_n 0, 1) := by decide +kernel
theorem dX7_matesOf_21 : decode cX7_matesOf 21 = .ok (.iload_n 1, 1) := by decide +kernel
theorem dX7_matesOf_22 : decode cX7_matesOf 22 = .ok (.iload_n 3, 1) := by decide +kernel
theorem dX7_matesOf_23 : decode cX7_matesOf 23 = .ok (.invokevirtual 69, 3) := by decide +kernel
theorem dX7_matesOf_26 : decode cX7_matesOf 26 = .ok (.ifCond .eq 9, 3) := by decide +kernel
theorem dX7_matesOf_29 : decode cX7_matesOf 29 = .ok (.iconst 1, 1) := by decide +kernel
theorem dX7_matesOf_30 : decode cX7_matesOf 30 = .ok (.iload_n 3, 1) := by decide +kernel
theorem dX7_matesOf_31 : decode cX7_matesOf 31 = .ok (.ishl, 1) := by decide +kernel
theorem dX7_matesOf_32 : decode cX7_matesOf 32 = .ok (.goto 4, 3) := by decide +kernel
theorem dX7_matesOf_35 : decode cX7_matesOf 35 = .ok (.iconst 0, 1) := by decide +kernel
theorem dX7_matesOf_36 : decode cX7_matesOf 36 = .ok (.ior, 1) := by decide +kernel
theorem dX7_matesOf_37 : decode cX7_matesOf 37 = .ok (.istore_n 2, 1) := by decide +kernel
theorem dX7_matesOf_38 : decode cX7_matesOf 38 = .ok (.iinc 3 1, 3) := by decide +kernel
theorem dX7_matesOf_41 : decode cX7_matesOf 41 = .ok (.goto (-37), 3) := by decide +kernel
theorem dX7_matesOf_44 : decode cX7_matesOf 44 = .ok (.iload_n 2, 1) := by decide +kernel
theorem dX7_matesOf_45 : decode cX7_matesOf 45 = .ok (.ireturn, 1) := by decide +kernel
set_option maxRecDepth 20000 in
theorem ggX7_isOver_X7_matesOf : GoodIn wsX7_isOver wsX7_matesOf := goodIn_r _ [6, 1, 7, 8, 9, 5, 10, 11, 12, 13, 14, 15, 16, 17, 18, 19, 20, 21, 22, 23, 24, 25, 26, 27, 28, 29, 30, 31, 32, 33, 34, 35, 36, 37, 38, 39, 40, 41, 42, 43, 44, 45, 46, 47, 48] (by decide +kernel) (by decide +kernel)
set_option maxRecDepth 20000 in
theorem gX7_isOver_X7_matesOf : GoodIn wsX7_isOver (wsV RX7 72 RX7 yX7_matesOf wsX7_matesOf) := goodIn_app (goodIn_of _ (by decide +kernel)) ggX7_isOver_X7_matesOf
theorem dX7_isOver_0 : decode cX7_isOver 0 = .ok (.iconst 0, 1) := by decide +kernel
theorem dX7_isOver_1 : decode cX7_isOver 1 = .ok (.istore_n 1, 1) := by decide +kernel
theorem dX7_isOver_2 : decode cX7_isOver 2 = .ok (.iconst 0, 1) := by decide +kernel
theorem dX7_isOver_3 : decode cX7_isOver 3 = .ok (.istore_n 2, 1) := by decide +kernel
theorem dX7_isOver_4 : decode cX7_isOver 4 = .ok (.iload_n 2, 1) := by decide +kernel
theorem dX7_isOver_5 : decode cX7_isOver 5 = .ok (.aload_n 0, 1) := by decide +kernel
theorem dX7_isOver_6 : decode cX7_isOver 6 = .ok (.getfield 9, 3) := by decide +kernel
theorem dX7_isOver_9 : decode cX7_isOver 9 = .ok (.iconst 2, 1) := by decide +kernel
theorem dX7_isOver_10 : decode cX7_isOver 10 = .ok (.iaload, 1) := by decide +kernel
theorem dX7_isOver_11 : decode cX7_isOver 11 = .ok (.if_icmp .ge 17, 3) := by decide +kernel
theorem dX7_isOver_14 : decode cX7_isOver 14 = .ok (.iload_n 1, 1) := by decide +kernel
theorem dX7_isOver_15 : decode cX7_isOver 15 = .ok (.aload_n 0, 1) := by decide +kernel
theorem dX7_isOver_16 : decode cX7_isOver 16 = .ok (.iload_n 2, 1) := by decide +kernel
theorem dX7_isOver_17 : decode cX7_isOver 17 = .ok (.invokevirtual 72, 3) := by decide +kernel
theorem dX7_isOver_20 : decode cX7_isOver 20 = .ok (.ior, 1) := by decide +kernel
theorem dX7_isOver_21 : decode cX7_isOver 21 = .ok (.istore_n 1, 1) := by decide +kernel
theorem dX7_isOver_22 : decode cX7_isOver 22 = .ok (.iinc 2 1, 3) := by decide +kernel
theorem dX7_isOver_25 : decode cX7_isOver 25 = .ok (.goto (-21), 3) := by decide +kernel
theorem dX7_isOver_28 : decode cX7_isOver 28 = .ok (.iload_n 1, 1) := by decide +kernel
theorem dX7_isOver_29 : decode cX7_isOver 29 = .ok (.ifCond .ne 7, 3) := by decide +kernel
theorem dX7_isOver_32 : decode cX7_isOver 32 = .ok (.iconst 1, 1) := by decide +kernel
theorem dX7_isOver_33 : decode cX7_isOver 33 = .ok (.goto 4, 3) := by decide +kernel
theorem dX7_isOver_36 : decode cX7_isOver 36 = .ok (.iconst 0, 1) := by decide +kernel
theorem dX7_isOver_37 : decode cX7_isOver 37 = .ok (.ireturn, 1) := by decide +kernel
set_option maxRecDepth 20000 in
theorem ggX7_teacher_X7_in : GoodIn wsX7_teacher wsX7_in := goodIn_r _ [5] (by decide +kernel) (by decide +kernel)
set_option maxRecDepth 20000 in
theorem gX7_teacher_X7_in : GoodIn wsX7_teacher (va_wsS RX7 41 yX7_in wsX7_in) := goodIn_app (goodIn_of _ (by decide +kernel)) ggX7_teacher_X7_in
set_option maxRecDepth 20000 in
theorem ggX7_teacher_X7_becomes : GoodIn wsX7_teacher wsX7_becomes := goodIn_r _ [9, 10, 16, 17, 18, 19, 20, 21, 22, 23, 24, 25, 26, 27, 28, 29, 30] (by decide +kernel) (by decide +kernel)
set_option maxRecDepth 20000 in
theorem gX7_teacher_X7_becomes : GoodIn wsX7_teacher (wsV RX7 75 RX7 yX7_becomes wsX7_becomes) := goodIn_app (goodIn_of _ (by decide +kernel)) ggX7_teacher_X7_becomes
set_option maxRecDepth 20000 in
theorem ggX7_teacher_X7_finds : GoodIn wsX7_teacher wsX7_finds := goodIn_r _ [14, 15, 1, 16, 17, 18, 19, 20, 21, 22, 23, 24, 25, 26, 27, 28, 29, 30] (by decide +kernel) (by decide +kernel)
set_option maxRecDepth 20000 in
theorem gX7_teacher_X7_finds : GoodIn wsX7_teacher (wsV RX7 37 RX7 yX7_finds wsX7_finds) := goodIn_app (goodIn_of _ (by decide +kernel)) ggX7_teacher_X7_finds
theorem dX7_teacher_0 : decode cX7_teacher 0 = .ok (.iload_n 1, 1) := by decide +kernel
theorem dX7_teacher_1 : decode cX7_teacher 1 = .ok (.i2l, 1) := by decide +kernel
theorem dX7_teacher_2 : decode cX7_teacher 2 = .ok (.iconst 0, 1) := by decide +kernel
theorem dX7_teacher_3 : decode cX7_teacher 3 = .ok (.iconst 1, 1) := by decide +kernel
theorem dX7_teacher_4 : decode cX7_teacher 4 = .ok (.invokestatic 41, 3) := by decide +kernel
theorem dX7_teacher_7 : decode cX7_teacher 7 = .ok (.ifCond .eq 12, 3) := by decide +kernel
theorem dX7_teacher_10 : decode cX7_teacher 10 = .ok (.aload_n 0, 1) := by decide +kernel
theorem dX7_teacher_11 : decode cX7_teacher 11 = .ok (.iconst 1, 1) := by decide +kernel
theorem dX7_teacher_12 : decode cX7_teacher 12 = .ok (.iload_n 1, 1) := by decide +kernel
theorem dX7_teacher_13 : decode cX7_teacher 13 = .ok (.invokevirtual 75, 3) := by decide +kernel
theorem dX7_teacher_16 : decode cX7_teacher 16 = .ok (.goto 9, 3) := by decide +kernel
theorem dX7_teacher_19 : decode cX7_teacher 19 = .ok (.aload_n 0, 1) := by decide +kernel
theorem dX7_teacher_20 : decode cX7_teacher 20 = .ok (.ldc 35, 2) := by decide +kernel
theorem dX7_teacher_22 : decode cX7_teacher 22 = .ok (.invokevirtual 37, 3) := by decide +kernel
theorem dX7_teacher_25 : decode cX7_teacher 25 = .ok (.ireturn, 1) := by decide +kernel
set_option maxRecDepth 20000 in
theorem ggX7_thingsHad_X7_it : GoodIn wsX7_thingsHad wsX7_it := goodIn_r _ [6, 1, 7, 8, 9, 10, 11, 12, 13, 14, 15, 16, 17, 18, 19, 20, 21] (by decide +kernel) (by decide +kernel)
set_option maxRecDepth 20000 in
theorem gX7_thingsHad_X7_it : GoodIn wsX7_thingsHad (wsV RX7 49 RX7 yX7_it wsX7_it) := goodIn_app (goodIn_of _ (by decide +kernel)) ggX7_thingsHad_X7_it
theorem dX7_thingsHad_0 : decode cX7_thingsHad 0 = .ok (.iconst 0, 1) := by decide +kernel
theorem dX7_thingsHad_1 : decode cX7_thingsHad 1 = .ok (.istore_n 1, 1) := by decide +kernel
theorem dX7_thingsHad_2 : decode cX7_thingsHad 2 = .ok (.iconst 0, 1) := by decide +kernel
theorem dX7_thingsHad_3 : decode cX7_thingsHad 3 = .ok (.istore_n 2, 1) := by decide +kernel
theorem dX7_thingsHad_4 : decode cX7_thingsHad 4 = .ok (.iload_n 2, 1) := by decide +kernel
theorem dX7_thingsHad_5 : decode cX7_thingsHad 5 = .ok (.aload_n 0, 1) := by decide +kernel
theorem dX7_thingsHad_6 : decode cX7_thingsHad 6 = .ok (.getfield 9, 3) := by decide +kernel
theorem dX7_thingsHad_9 : decode cX7_thingsHad 9 = .ok (.iconst 2, 1) := by decide +kernel
theorem dX7_thingsHad_10 : decode cX7_thingsHad 10 = .ok (.iaload, 1) := by decide +kernel
theorem dX7_thingsHad_11 : decode cX7_thingsHad 11 = .ok (.if_icmp .ge 20, 3) := by decide +kernel
theorem dX7_thingsHad_14 : decode cX7_thingsHad 14 = .ok (.iload_n 1, 1) := by decide +kernel
theorem dX7_thingsHad_15 : decode cX7_thingsHad 15 = .ok (.iconst 1, 1) := by decide +kernel
theorem dX7_thingsHad_16 : decode cX7_thingsHad 16 = .ok (.aload_n 0, 1) := by decide +kernel
theorem dX7_thingsHad_17 : decode cX7_thingsHad 17 = .ok (.iload_n 2, 1) := by decide +kernel
theorem dX7_thingsHad_18 : decode cX7_thingsHad 18 = .ok (.iconst 1, 1) := by decide +kernel
theorem dX7_thingsHad_19 : decode cX7_thingsHad 19 = .ok (.invokevirtual 49, 3) := by decide +kernel
theorem dX7_thingsHad_22 : decode cX7_thingsHad 22 = .ok (.ishl, 1) := by decide +kernel
theorem dX7_thingsHad_23 : decode cX7_thingsHad 23 = .ok (.ior, 1) := by decide +kernel
theorem dX7_thingsHad_24 : decode cX7_thingsHad 24 = .ok (.istore_n 1, 1) := by decide +kernel
theorem dX7_thingsHad_25 : decode cX7_thingsHad 25 = .ok (.iinc 2 1, 3) := by decide +kernel
theorem dX7_thingsHad_28 : decode cX7_thingsHad 28 = .ok (.goto (-24), 3) := by decide +kernel
theorem dX7_thingsHad_31 : decode cX7_thingsHad 31 = .ok (.iload_n 1, 1) := by decide +kernel
theorem dX7_thingsHad_32 : decode cX7_thingsHad 32 = .ok (.ireturn, 1) := by decide +kernel
set_option maxRecDepth 20000 in
theorem ggX7_allGlad_X7_gladness : GoodIn wsX7_allGlad wsX7_gladness := goodIn_r _ [6, 7, 8, 9, 5, 10, 1, 11, 12, 13, 14, 15, 16, 17, 18, 19, 20, 21, 22, 23, 24, 25, 26, 27, 28, 29, 30, 31, 32, 33, 34, 35, 36] (by decide +kernel) (by decide +kernel)
set_option maxRecDepth 20000 in
theorem gX7_allGlad_X7_gladness : GoodIn wsX7_allGlad (wsV RX7 62 RX7 yX7_gladness wsX7_gladness) := goodIn_app (goodIn_of _ (by decide +kernel)) ggX7_allGlad_X7_gladness
theorem dX7_allGlad_0 : decode cX7_allGlad 0 = .ok (.iconst 0, 1) := by decide +kernel
theorem dX7_allGlad_1 : decode cX7_allGlad 1 = .ok (.istore_n 1, 1) := by decide +kernel
theorem dX7_allGlad_2 : decode cX7_allGlad 2 = .ok (.iconst 0, 1) := by decide +kernel
theorem dX7_allGlad_3 : decode cX7_allGlad 3 = .ok (.istore_n 2, 1) := by decide +kernel
theorem dX7_allGlad_4 : decode cX7_allGlad 4 = .ok (.iload_n 2, 1) := by decide +kernel
theorem dX7_allGlad_5 : decode cX7_allGlad 5 = .ok (.aload_n 0, 1) := by decide +kernel
theorem dX7_allGlad_6 : decode cX7_allGlad 6 = .ok (.getfield 9, 3) := by decide +kernel
theorem dX7_allGlad_9 : decode cX7_allGlad 9 = .ok (.iconst 2, 1) := by decide +kernel
theorem dX7_allGlad_10 : decode cX7_allGlad 10 = .ok (.iaload, 1) := by decide +kernel
theorem dX7_allGlad_11 : decode cX7_allGlad 11 = .ok (.if_icmp .ge 17, 3) := by decide +kernel
theorem dX7_allGlad_14 : decode cX7_allGlad 14 = .ok (.iload_n 1, 1) := by decide +kernel
theorem dX7_allGlad_15 : decode cX7_allGlad 15 = .ok (.aload_n 0, 1) := by decide +kernel
theorem dX7_allGlad_16 : decode cX7_allGlad 16 = .ok (.iload_n 2, 1) := by decide +kernel
theorem dX7_allGlad_17 : decode cX7_allGlad 17 = .ok (.invokevirtual 62, 3) := by decide +kernel
theorem dX7_allGlad_20 : decode cX7_allGlad 20 = .ok (.iadd, 1) := by decide +kernel
theorem dX7_allGlad_21 : decode cX7_allGlad 21 = .ok (.istore_n 1, 1) := by decide +kernel
theorem dX7_allGlad_22 : decode cX7_allGlad 22 = .ok (.iinc 2 1, 3) := by decide +kernel
theorem dX7_allGlad_25 : decode cX7_allGlad 25 = .ok (.goto (-21), 3) := by decide +kernel
theorem dX7_allGlad_28 : decode cX7_allGlad 28 = .ok (.iload_n 1, 1) := by decide +kernel
theorem dX7_allGlad_29 : decode cX7_allGlad 29 = .ok (.ireturn, 1) := by decide +kernel
set_option maxRecDepth 20000 in
theorem ggX7_sums_X7_it : GoodIn wsX7_sums wsX7_it := goodIn_r _ [6, 1, 7, 8, 9, 10, 11, 12, 13, 14, 15, 16, 17, 18, 19, 20, 21] (by decide +kernel) (by decide +kernel)
set_option maxRecDepth 20000 in
theorem gX7_sums_X7_it : GoodIn wsX7_sums (wsV RX7 49 RX7 yX7_it wsX7_it) := goodIn_app (goodIn_of _ (by decide +kernel)) ggX7_sums_X7_it
theorem dX7_sums_0 : decode cX7_sums 0 = .ok (.iconst 0, 1) := by decide +kernel
theorem dX7_sums_1 : decode cX7_sums 1 = .ok (.istore_n 2, 1) := by decide +kernel
theorem dX7_sums_2 : decode cX7_sums 2 = .ok (.iconst 0, 1) := by decide +kernel
theorem dX7_sums_3 : decode cX7_sums 3 = .ok (.istore_n 3, 1) := by decide +kernel
theorem dX7_sums_4 : decode cX7_sums 4 = .ok (.iload_n 3, 1) := by decide +kernel
theorem dX7_sums_5 : decode cX7_sums 5 = .ok (.aload_n 0, 1) := by decide +kernel
theorem dX7_sums_6 : decode cX7_sums 6 = .ok (.getfield 9, 3) := by decide +kernel
theorem dX7_sums_9 : decode cX7_sums 9 = .ok (.iconst 2, 1) := by decide +kernel
theorem dX7_sums_10 : decode cX7_sums 10 = .ok (.iaload, 1) := by decide +kernel
theorem dX7_sums_11 : decode cX7_sums 11 = .ok (.if_icmp .ge 18, 3) := by decide +kernel
theorem dX7_sums_14 : decode cX7_sums 14 = .ok (.iload_n 2, 1) := by decide +kernel
theorem dX7_sums_15 : decode cX7_sums 15 = .ok (.aload_n 0, 1) := by decide +kernel
theorem dX7_sums_16 : decode cX7_sums 16 = .ok (.iload_n 3, 1) := by decide +kernel
theorem dX7_sums_17 : decode cX7_sums 17 = .ok (.iload_n 1, 1) := by decide +kernel
theorem dX7_sums_18 : decode cX7_sums 18 = .ok (.invokevirtual 49, 3) := by decide +kernel
theorem dX7_sums_21 : decode cX7_sums 21 = .ok (.iadd, 1) := by decide +kernel
theorem dX7_sums_22 : decode cX7_sums 22 = .ok (.istore_n 2, 1) := by decide +kernel
theorem dX7_sums_23 : decode cX7_sums 23 = .ok (.iinc 3 1, 3) := by decide +kernel
theorem dX7_sums_26 : decode cX7_sums 26 = .ok (.goto (-22), 3) := by decide +kernel
theorem dX7_sums_29 : decode cX7_sums 29 = .ok (.iload_n 2, 1) := by decide +kernel
theorem dX7_sums_30 : decode cX7_sums 30 = .ok (.ireturn, 1) := by decide +kernel
set_option maxRecDepth 20000 in
theorem ggX7_now_X7_thingsHad : GoodIn wsX7_now wsX7_thingsHad := goodIn_r _ [7, 1, 8, 9, 10, 6, 11, 56, 57, 58, 59, 60, 61, 62, 63, 64, 65, 66, 67, 68, 69, 70] (by decide +kernel) (by decide +kernel)
set_option maxRecDepth 20000 in
theorem gX7_now_X7_thingsHad : GoodIn wsX7_now (wsV RX7 78 RX7 yX7_thingsHad wsX7_thingsHad) := goodIn_app (goodIn_of _ (by decide +kernel)) ggX7_now_X7_thingsHad
set_option maxRecDepth 20000 in
theorem ggX7_now_X7_allGlad : GoodIn wsX7_now wsX7_allGlad := goodIn_r _ [15, 1, 16, 17, 18, 6, 19, 8, 9, 10, 11, 20, 21, 22, 23, 24, 25, 26, 27, 28, 29, 30, 56, 57, 58, 59, 60, 61, 62, 63, 64, 65, 66, 67, 68, 69, 70] (by decide +kernel) (by decide +kernel)
set_option maxRecDepth 20000 in
theorem gX7_now_X7_allGlad : GoodIn wsX7_now (wsV RX7 82 RX7 yX7_allGlad wsX7_allGlad) := goodIn_app (goodIn_of _ (by decide +kernel)) ggX7_now_X7_allGlad
set_option maxRecDepth 20000 in
theorem ggX7_now_X7_isOver : GoodIn wsX7_now wsX7_isOver := goodIn_r _ [34, 1, 35, 36, 37, 6, 38, 39, 40, 41, 42, 8, 9, 10, 11, 43, 44, 45, 46, 20, 21, 22, 23, 24, 25, 26, 27, 28, 29, 30, 16, 17, 18, 19, 56, 57, 58, 59, 60, 61, 62, 63, 64, 65, 66, 67, 68, 69, 70] (by decide +kernel) (by decide +kernel)
set_option maxRecDepth 20000 in
theorem gX7_now_X7_isOver : GoodIn wsX7_now (wsV RX7 85 RX7 yX7_isOver wsX7_isOver) := goodIn_app (goodIn_of _ (by decide +kernel)) ggX7_now_X7_isOver
set_option maxRecDepth 20000 in
theorem ggX7_now_X7_sums : GoodIn wsX7_now wsX7_sums := goodIn_r _ [50, 1, 8, 9, 10, 6, 11, 56, 57, 58, 59, 60, 61, 62, 63, 64, 65, 66, 67, 68, 69, 70] (by decide +kernel) (by decide +kernel)
set_option maxRecDepth 20000 in
theorem gX7_now_X7_sums : GoodIn wsX7_now (wsV RX7 89 RX7 yX7_sums wsX7_sums) := goodIn_app (goodIn_of _ (by decide +kernel)) ggX7_now_X7_sums
set_option maxRecDepth 20000 in
theorem ggX7_now_X7_finds : GoodIn wsX7_now wsX7_finds := goodIn_r _ [54, 55, 2, 56, 57, 58, 59, 60, 61, 62, 63, 64, 65, 66, 67, 68, 69, 70] (by decide +kernel) (by decide +kernel)
set_option maxRecDepth 20000 in
theorem gX7_now_X7_finds : GoodIn wsX7_now (wsV RX7 37 RX7 yX7_finds wsX7_finds) := goodIn_app (goodIn_of _ (by decide +kernel)) ggX7_now_X7_finds
theorem dX7_now_0 : decode cX7_now 0 = .ok (.iload_n 1, 1) := by decide +kernel
theorem dX7_now_1 : decode cX7_now 1 = .ok (.tableswitch 77 0 5 #[39, 39, 48, 53, 58, 71], 39) := by decide +kernel
theorem dX7_now_40 : decode cX7_now 40 = .ok (.aload_n 0, 1) := by decide +kernel
theorem dX7_now_41 : decode cX7_now 41 = .ok (.getfield 9, 3) := by decide +kernel
theorem dX7_now_44 : decode cX7_now 44 = .ok (.iconst 0, 1) := by decide +kernel
theorem dX7_now_45 : decode cX7_now 45 = .ok (.iload_n 1, 1) := by decide +kernel
theorem dX7_now_46 : decode cX7_now 46 = .ok (.iadd, 1) := by decide +kernel
theorem dX7_now_47 : decode cX7_now 47 = .ok (.iaload, 1) := by decide +kernel
theorem dX7_now_48 : decode cX7_now 48 = .ok (.ireturn, 1) := by decide +kernel
theorem dX7_now_49 : decode cX7_now 49 = .ok (.aload_n 0, 1) := by decide +kernel
theorem dX7_now_50 : decode cX7_now 50 = .ok (.invokevirtual 78, 3) := by decide +kernel
theorem dX7_now_53 : decode cX7_now 53 = .ok (.ireturn, 1) := by decide +kernel
theorem dX7_now_54 : decode cX7_now 54 = .ok (.aload_n 0, 1) := by decide +kernel
theorem dX7_now_55 : decode cX7_now 55 = .ok (.invokevirtual 82, 3) := by decide +kernel
theorem dX7_now_58 : decode cX7_now 58 = .ok (.ireturn, 1) := by decide +kernel
theorem dX7_now_59 : decode cX7_now 59 = .ok (.aload_n 0, 1) := by decide +kernel
theorem dX7_now_60 : decode cX7_now 60 = .ok (.invokevirtual 85, 3) := by decide +kernel
theorem dX7_now_63 : decode cX7_now 63 = .ok (.ifCond .eq 7, 3) := by decide +kernel
theorem dX7_now_66 : decode cX7_now 66 = .ok (.iconst 1, 1) := by decide +kernel
theorem dX7_now_67 : decode cX7_now 67 = .ok (.goto 4, 3) := by decide +kernel
theorem dX7_now_70 : decode cX7_now 70 = .ok (.iconst 0, 1) := by decide +kernel
theorem dX7_now_71 : decode cX7_now 71 = .ok (.ireturn, 1) := by decide +kernel
theorem dX7_now_72 : decode cX7_now 72 = .ok (.aload_n 0, 1) := by decide +kernel
theorem dX7_now_73 : decode cX7_now 73 = .ok (.iconst 2, 1) := by decide +kernel
theorem dX7_now_74 : decode cX7_now 74 = .ok (.invokevirtual 89, 3) := by decide +kernel
theorem dX7_now_77 : decode cX7_now 77 = .ok (.ireturn, 1) := by decide +kernel
theorem dX7_now_78 : decode cX7_now 78 = .ok (.aload_n 0, 1) := by decide +kernel
theorem dX7_now_79 : decode cX7_now 79 = .ok (.ldc 35, 2) := by decide +kernel
theorem dX7_now_81 : decode cX7_now 81 = .ok (.invokevirtual 37, 3) := by decide +kernel
theorem dX7_now_84 : decode cX7_now 84 = .ok (.ireturn, 1) := by decide +kernel
set_option maxRecDepth 20000 in
theorem ggX7_who_X7_isThing : GoodIn wsX7_who wsX7_isThing := goodIn_r _ [5, 6, 7, 4, 8] (by decide +kernel) (by decide +kernel)
set_option maxRecDepth 20000 in
theorem gX7_who_X7_isThing : GoodIn wsX7_who (va_wsS RX7 92 yX7_isThing wsX7_isThing) := goodIn_app (goodIn_of _ (by decide +kernel)) ggX7_who_X7_isThing
set_option maxRecDepth 20000 in
theorem ggX7_who_X7_whoHas : GoodIn wsX7_who wsX7_whoHas := goodIn_r _ [12, 13, 14, 15, 16, 4, 17, 23, 24, 25, 26, 27, 28, 29, 30, 31, 32, 33, 34, 35, 36, 37] (by decide +kernel) (by decide +kernel)
set_option maxRecDepth 20000 in
theorem gX7_who_X7_whoHas : GoodIn wsX7_who (wsV RX7 53 RX7 yX7_whoHas wsX7_whoHas) := goodIn_app (goodIn_of _ (by decide +kernel)) ggX7_who_X7_whoHas
set_option maxRecDepth 20000 in
theorem ggX7_who_X7_finds : GoodIn wsX7_who wsX7_finds := goodIn_r _ [21, 22, 1, 23, 24, 25, 26, 27, 28, 29, 30, 31, 32, 33, 34, 35, 36, 37] (by decide +kernel) (by decide +kernel)
set_option maxRecDepth 20000 in
theorem gX7_who_X7_finds : GoodIn wsX7_who (wsV RX7 37 RX7 yX7_finds wsX7_finds) := goodIn_app (goodIn_of _ (by decide +kernel)) ggX7_who_X7_finds
theorem dX7_who_0 : decode cX7_who 0 = .ok (.iload_n 1, 1) := by decide +kernel
theorem dX7_who_1 : decode cX7_who 1 = .ok (.invokestatic 92, 3) := by decide +kernel
theorem dX7_who_4 : decode cX7_who 4 = .ok (.ifCond .eq 11, 3) := by decide +kernel
theorem dX7_who_7 : decode cX7_who 7 = .ok (.aload_n 0, 1) := by decide +kernel
theorem dX7_who_8 : decode cX7_who 8 = .ok (.iload_n 1, 1) := by decide +kernel
theorem dX7_who_9 : decode cX7_who 9 = .ok (.invokevirtual 53, 3) := by decide +kernel
theorem dX7_who_12 : decode cX7_who 12 = .ok (.goto 9, 3) := by decide +kernel
theorem dX7_who_15 : decode cX7_who 15 = .ok (.aload_n 0, 1) := by decide +kernel
theorem dX7_who_16 : decode cX7_who 16 = .ok (.ldc 35, 2) := by decide +kernel
theorem dX7_who_18 : decode cX7_who 18 = .ok (.invokevirtual 37, 3) := by decide +kernel
theorem dX7_who_21 : decode cX7_who 21 = .ok (.ireturn, 1) := by decide +kernel
set_option maxRecDepth 20000 in
theorem ggX7_comesAs_X7_put : GoodIn wsX7_comesAs wsX7_put := goodIn_r _ [6, 1, 7, 8, 9, 10, 11, 12, 13, 14, 15, 16, 17, 18, 19, 20, 21] (by decide +kernel) (by decide +kernel)
set_option maxRecDepth 20000 in
theorem gX7_comesAs_X7_put : GoodIn wsX7_comesAs (wsV RX7 95 RX7 yX7_put wsX7_put) := goodIn_app (goodIn_of _ (by decide +kernel)) ggX7_comesAs_X7_put
theorem dX7_comesAs_0 : decode cX7_comesAs 0 = .ok (.aload_n 0, 1) := by decide +kernel
theorem dX7_comesAs_1 : decode cX7_comesAs 1 = .ok (.getfield 9, 3) := by decide +kernel
theorem dX7_comesAs_4 : decode cX7_comesAs 4 = .ok (.iconst 2, 1) := by decide +kernel
theorem dX7_comesAs_5 : decode cX7_comesAs 5 = .ok (.iaload, 1) := by decide +kernel
theorem dX7_comesAs_6 : decode cX7_comesAs 6 = .ok (.istore 4, 2) := by decide +kernel
theorem dX7_comesAs_8 : decode cX7_comesAs 8 = .ok (.aload_n 0, 1) := by decide +kernel
theorem dX7_comesAs_9 : decode cX7_comesAs 9 = .ok (.getfield 9, 3) := by decide +kernel
theorem dX7_comesAs_12 : decode cX7_comesAs 12 = .ok (.iconst 2, 1) := by decide +kernel
theorem dX7_comesAs_13 : decode cX7_comesAs 13 = .ok (.dup2, 1) := by decide +kernel
theorem dX7_comesAs_14 : decode cX7_comesAs 14 = .ok (.iaload, 1) := by decide +kernel
theorem dX7_comesAs_15 : decode cX7_comesAs 15 = .ok (.iconst 1, 1) := by decide +kernel
theorem dX7_comesAs_16 : decode cX7_comesAs 16 = .ok (.iadd, 1) := by decide +kernel
theorem dX7_comesAs_17 : decode cX7_comesAs 17 = .ok (.iastore, 1) := by decide +kernel
theorem dX7_comesAs_18 : decode cX7_comesAs 18 = .ok (.aload_n 0, 1) := by decide +kernel
theorem dX7_comesAs_19 : decode cX7_comesAs 19 = .ok (.iload 4, 2) := by decide +kernel
theorem dX7_comesAs_21 : decode cX7_comesAs 21 = .ok (.iconst 0, 1) := by decide +kernel
theorem dX7_comesAs_22 : decode cX7_comesAs 22 = .ok (.iload_n 1, 1) := by decide +kernel
theorem dX7_comesAs_23 : decode cX7_comesAs 23 = .ok (.invokevirtual 95, 3) := by decide +kernel
theorem dX7_comesAs_26 : decode cX7_comesAs 26 = .ok (.aload_n 0, 1) := by decide +kernel
theorem dX7_comesAs_27 : decode cX7_comesAs 27 = .ok (.iload 4, 2) := by decide +kernel
theorem dX7_comesAs_29 : decode cX7_comesAs 29 = .ok (.iconst 1, 1) := by decide +kernel
theorem dX7_comesAs_30 : decode cX7_comesAs 30 = .ok (.iload_n 2, 1) := by decide +kernel
theorem dX7_comesAs_31 : decode cX7_comesAs 31 = .ok (.invokevirtual 95, 3) := by decide +kernel
theorem dX7_comesAs_34 : decode cX7_comesAs 34 = .ok (.aload_n 0, 1) := by decide +kernel
theorem dX7_comesAs_35 : decode cX7_comesAs 35 = .ok (.iload 4, 2) := by decide +kernel
theorem dX7_comesAs_37 : decode cX7_comesAs 37 = .ok (.iconst 2, 1) := by decide +kernel
theorem dX7_comesAs_38 : decode cX7_comesAs 38 = .ok (.iconst 0, 1) := by decide +kernel
theorem dX7_comesAs_39 : decode cX7_comesAs 39 = .ok (.invokevirtual 95, 3) := by decide +kernel
theorem dX7_comesAs_42 : decode cX7_comesAs 42 = .ok (.aload_n 0, 1) := by decide +kernel
theorem dX7_comesAs_43 : decode cX7_comesAs 43 = .ok (.iload 4, 2) := by decide +kernel
theorem dX7_comesAs_45 : decode cX7_comesAs 45 = .ok (.iconst 3, 1) := by decide +kernel
theorem dX7_comesAs_46 : decode cX7_comesAs 46 = .ok (.iload_n 3, 1) := by decide +kernel
theorem dX7_comesAs_47 : decode cX7_comesAs 47 = .ok (.invokevirtual 95, 3) := by decide +kernel
theorem dX7_comesAs_50 : decode cX7_comesAs 50 = .ok (.iconst 0, 1) := by decide +kernel
theorem dX7_comesAs_51 : decode cX7_comesAs 51 = .ok (.istore 5, 2) := by decide +kernel
theorem dX7_comesAs_53 : decode cX7_comesAs 53 = .ok (.iload 5, 2) := by decide +kernel
theorem dX7_comesAs_55 : decode cX7_comesAs 55 = .ok (.bipush 10, 2) := by decide +kernel
theorem dX7_comesAs_57 : decode cX7_comesAs 57 = .ok (.if_icmp .ge 27, 3) := by decide +kernel
theorem dX7_comesAs_60 : decode cX7_comesAs 60 = .ok (.aload_n 0, 1) := by decide +kernel
theorem dX7_comesAs_61 : decode cX7_comesAs 61 = .ok (.iload 4, 2) := by decide +kernel
theorem dX7_comesAs_63 : decode cX7_comesAs 63 = .ok (.iconst 4, 1) := by decide +kernel
theorem dX7_comesAs_64 : decode cX7_comesAs 64 = .ok (.iload 5, 2) := by decide +kernel
theorem dX7_comesAs_66 : decode cX7_comesAs 66 = .ok (.iadd, 1) := by decide +kernel
theorem dX7_comesAs_67 : decode cX7_comesAs 67 = .ok (.bipush 7, 2) := by decide +kernel
theorem dX7_comesAs_69 : decode cX7_comesAs 69 = .ok (.iload 5, 2) := by decide +kernel
theorem dX7_comesAs_71 : decode cX7_comesAs 71 = .ok (.imul, 1) := by decide +kernel
theorem dX7_comesAs_72 : decode cX7_comesAs 72 = .ok (.bipush 11, 2) := by decide +kernel
theorem dX7_comesAs_74 : decode cX7_comesAs 74 = .ok (.irem, 1) := by decide +kernel
theorem dX7_comesAs_75 : decode cX7_comesAs 75 = .ok (.invokevirtual 95, 3) := by decide +kernel
theorem dX7_comesAs_78 : decode cX7_comesAs 78 = .ok (.iinc 5 1, 3) := by decide +kernel
theorem dX7_comesAs_81 : decode cX7_comesAs 81 = .ok (.goto (-28), 3) := by decide +kernel
theorem dX7_comesAs_84 : decode cX7_comesAs 84 = .ok (.iload 4, 2) := by decide +kernel
theorem dX7_comesAs_86 : decode cX7_comesAs 86 = .ok (.ireturn, 1) := by decide +kernel
set_option maxRecDepth 20000 in
theorem ggX7_child_X7_in : GoodIn wsX7_child wsX7_in := goodIn_r _ [7] (by decide +kernel) (by decide +kernel)
set_option maxRecDepth 20000 in
theorem gX7_child_X7_in : GoodIn wsX7_child (va_wsS RX7 41 yX7_in wsX7_in) := goodIn_app (goodIn_of _ (by decide +kernel)) ggX7_child_X7_in
set_option maxRecDepth 20000 in
theorem ggX7_child_X7_isThing : GoodIn wsX7_child wsX7_isThing := goodIn_r _ [10, 4, 5, 6, 7] (by decide +kernel) (by decide +kernel)
set_option maxRecDepth 20000 in
theorem gX7_child_X7_isThing : GoodIn wsX7_child (va_wsS RX7 92 yX7_isThing wsX7_isThing) := goodIn_app (goodIn_of _ (by decide +kernel)) ggX7_child_X7_isThing
set_option maxRecDepth 20000 in
theorem ggX7_child_X7_finds : GoodIn wsX7_child wsX7_finds := goodIn_r _ [14, 15, 1, 24, 25, 26, 27, 28, 29, 30, 31, 32, 33, 34, 35, 36, 37, 38] (by decide +kernel) (by decide +kernel)
set_option maxRecDepth 20000 in
theorem gX7_child_X7_finds : GoodIn wsX7_child (wsV RX7 37 RX7 yX7_finds wsX7_finds) := goodIn_app (goodIn_of _ (by decide +kernel)) ggX7_child_X7_finds
set_option maxRecDepth 20000 in
theorem ggX7_child_X7_comesAs : GoodIn wsX7_child wsX7_comesAs := goodIn_r _ [19, 2, 20, 21, 22, 6, 23, 24, 25, 26, 27, 28, 29, 30, 31, 32, 33, 34, 35, 36, 37, 38] (by decide +kernel) (by decide +kernel)
set_option maxRecDepth 20000 in
theorem gX7_child_X7_comesAs : GoodIn wsX7_child (wsV RX7 100 RX7 yX7_comesAs wsX7_comesAs) := goodIn_app (goodIn_of _ (by decide +kernel)) ggX7_child_X7_comesAs
theorem dX7_child_0 : decode cX7_child 0 = .ok (.iload_n 1, 1) := by decide +kernel
theorem dX7_child_1 : decode cX7_child 1 = .ok (.i2l, 1) := by decide +kernel
theorem dX7_child_2 : decode cX7_child 2 = .ok (.iconst 0, 1) := by decide +kernel
theorem dX7_child_3 : decode cX7_child 3 = .ok (.iconst 5, 1) := by decide +kernel
theorem dX7_child_4 : decode cX7_child 4 = .ok (.invokestatic 41, 3) := by decide +kernel
theorem dX7_child_7 : decode cX7_child 7 = .ok (.ifCond .eq 10, 3) := by decide +kernel
theorem dX7_child_10 : decode cX7_child 10 = .ok (.iload_n 2, 1) := by decide +kernel
theorem dX7_child_11 : decode cX7_child 11 = .ok (.invokestatic 92, 3) := by decide +kernel
theorem dX7_child_14 : decode cX7_child 14 = .ok (.ifCond .ne 10, 3) := by decide +kernel
theorem dX7_child_17 : decode cX7_child 17 = .ok (.aload_n 0, 1) := by decide +kernel
theorem dX7_child_18 : decode cX7_child 18 = .ok (.ldc 35, 2) := by decide +kernel
theorem dX7_child_20 : decode cX7_child 20 = .ok (.invokevirtual 37, 3) := by decide +kernel
theorem dX7_child_23 : decode cX7_child 23 = .ok (.ireturn, 1) := by decide +kernel
theorem dX7_child_24 : decode cX7_child 24 = .ok (.aload_n 0, 1) := by decide +kernel
theorem dX7_child_25 : decode cX7_child 25 = .ok (.getfield 9, 3) := by decide +kernel
theorem dX7_child_28 : decode cX7_child 28 = .ok (.iconst 2, 1) := by decide +kernel
theorem dX7_child_29 : decode cX7_child 29 = .ok (.iaload, 1) := by decide +kernel
theorem dX7_child_30 : decode cX7_child 30 = .ok (.bipush 8, 2) := by decide +kernel
theorem dX7_child_32 : decode cX7_child 32 = .ok (.if_icmp .ne 12, 3) := by decide +kernel
theorem dX7_child_35 : decode cX7_child 35 = .ok (.aload_n 0, 1) := by decide +kernel
theorem dX7_child_36 : decode cX7_child 36 = .ok (.ldc 99, 2) := by decide +kernel
theorem dX7_child_38 : decode cX7_child 38 = .ok (.invokevirtual 37, 3) := by decide +kernel
theorem dX7_child_41 : decode cX7_child 41 = .ok (.goto 11, 3) := by decide +kernel
theorem dX7_child_44 : decode cX7_child 44 = .ok (.aload_n 0, 1) := by decide +kernel
theorem dX7_child_45 : decode cX7_child 45 = .ok (.iload_n 1, 1) := by decide +kernel
theorem dX7_child_46 : decode cX7_child 46 = .ok (.iload_n 2, 1) := by decide +kernel
theorem dX7_child_47 : decode cX7_child 47 = .ok (.bipush 50, 2) := by decide +kernel
theorem dX7_child_49 : decode cX7_child 49 = .ok (.invokevirtual 100, 3) := by decide +kernel
theorem dX7_child_52 : decode cX7_child 52 = .ok (.ireturn, 1) := by decide +kernel
set_option maxRecDepth 20000 in
theorem ggX7_of_X7_isChild : GoodIn wsX7_of wsX7_isChild := goodIn_r _ [6, 7, 8, 9, 5, 10, 43, 44, 45, 46, 47, 48, 49, 50, 51, 52, 53, 54, 55, 56, 57] (by decide +kernel) (by decide +kernel)
set_option maxRecDepth 20000 in
theorem gX7_of_X7_isChild : GoodIn wsX7_of (wsV RX7 45 RX7 yX7_isChild wsX7_isChild) := goodIn_app (goodIn_of _ (by decide +kernel)) ggX7_of_X7_isChild
set_option maxRecDepth 20000 in
theorem ggX7_of_X7_in : GoodIn wsX7_of wsX7_in := goodIn_r _ [10] (by decide +kernel) (by decide +kernel)
set_option maxRecDepth 20000 in
theorem gX7_of_X7_in : GoodIn wsX7_of (va_wsS RX7 41 yX7_in wsX7_in) := goodIn_app (goodIn_of _ (by decide +kernel)) ggX7_of_X7_in
set_option maxRecDepth 20000 in
theorem ggX7_of_X7_finds : GoodIn wsX7_of wsX7_finds := goodIn_r _ [14, 15, 1, 43, 44, 45, 46, 47, 48, 49, 50, 51, 52, 53, 54, 55, 56, 57] (by decide +kernel) (by decide +kernel)
set_option maxRecDepth 20000 in
theorem gX7_of_X7_finds : GoodIn wsX7_of (wsV RX7 37 RX7 yX7_finds wsX7_finds) := goodIn_app (goodIn_of _ (by decide +kernel)) ggX7_of_X7_finds
set_option maxRecDepth 20000 in
theorem ggX7_of_X7_it : GoodIn wsX7_of wsX7_it := goodIn_r _ [19, 7, 43, 44, 45, 46, 47, 48, 49, 50, 51, 52, 53, 54, 55, 56, 57] (by decide +kernel) (by decide +kernel)
set_option maxRecDepth 20000 in
theorem gX7_of_X7_it : GoodIn wsX7_of (wsV RX7 49 RX7 yX7_it wsX7_it) := goodIn_app (goodIn_of _ (by decide +kernel)) ggX7_of_X7_it
set_option maxRecDepth 20000 in
theorem ggX7_of_X7_gladness : GoodIn wsX7_of wsX7_gladness := goodIn_r _ [23, 16, 17, 18, 5, 19, 7, 24, 25, 26, 27, 28, 29, 30, 31, 32, 33, 34, 43, 44, 45, 46, 47, 48, 49, 50, 51, 52, 53, 54, 55, 56, 57] (by decide +kernel) (by decide +kernel)
set_option maxRecDepth 20000 in
theorem gX7_of_X7_gladness : GoodIn wsX7_of (wsV RX7 62 RX7 yX7_gladness wsX7_gladness) := goodIn_app (goodIn_of _ (by decide +kernel)) ggX7_of_X7_gladness
set_option maxRecDepth 20000 in
theorem ggX7_of_X7_asksOf : GoodIn wsX7_of wsX7_asksOf := goodIn_r _ [38, 7, 16, 17, 18, 5, 19, 43, 44, 45, 46, 47, 48, 49, 50, 51, 52, 53, 54, 55, 56, 57] (by decide +kernel) (by decide +kernel)
set_option maxRecDepth 20000 in
theorem gX7_of_X7_asksOf : GoodIn wsX7_of (wsV RX7 104 RX7 yX7_asksOf wsX7_asksOf) := goodIn_app (goodIn_of _ (by decide +kernel)) ggX7_of_X7_asksOf
set_option maxRecDepth 20000 in
theorem ggX7_of_X7_losesOf : GoodIn wsX7_of wsX7_losesOf := goodIn_r _ [42, 16, 17, 18, 5, 19, 7, 43, 44, 45, 46, 47, 48, 49, 50, 51, 52, 53, 54, 55, 56, 57] (by decide +kernel) (by decide +kernel)
set_option maxRecDepth 20000 in
theorem gX7_of_X7_losesOf : GoodIn wsX7_of (wsV RX7 107 RX7 yX7_losesOf wsX7_losesOf) := goodIn_app (goodIn_of _ (by decide +kernel)) ggX7_of_X7_losesOf
theorem dX7_of_0 : decode cX7_of 0 = .ok (.aload_n 0, 1) := by decide +kernel
theorem dX7_of_1 : decode cX7_of 1 = .ok (.iload_n 1, 1) := by decide +kernel
theorem dX7_of_2 : decode cX7_of 2 = .ok (.invokevirtual 45, 3) := by decide +kernel
theorem dX7_of_5 : decode cX7_of 5 = .ok (.ifCond .eq 14, 3) := by decide +kernel
theorem dX7_of_8 : decode cX7_of 8 = .ok (.iload_n 2, 1) := by decide +kernel
theorem dX7_of_9 : decode cX7_of 9 = .ok (.i2l, 1) := by decide +kernel
theorem dX7_of_10 : decode cX7_of 10 = .ok (.iconst 0, 1) := by decide +kernel
theorem dX7_of_11 : decode cX7_of 11 = .ok (.bipush 6, 2) := by decide +kernel
theorem dX7_of_13 : decode cX7_of 13 = .ok (.invokestatic 41, 3) := by decide +kernel
theorem dX7_of_16 : decode cX7_of 16 = .ok (.ifCond .ne 10, 3) := by decide +kernel
theorem dX7_of_19 : decode cX7_of 19 = .ok (.aload_n 0, 1) := by decide +kernel
theorem dX7_of_20 : decode cX7_of 20 = .ok (.ldc 35, 2) := by decide +kernel
theorem dX7_of_22 : decode cX7_of 22 = .ok (.invokevirtual 37, 3) := by decide +kernel
theorem dX7_of_25 : decode cX7_of 25 = .ok (.ireturn, 1) := by decide +kernel
theorem dX7_of_26 : decode cX7_of 26 = .ok (.iload_n 2, 1) := by decide +kernel
theorem dX7_of_27 : decode cX7_of 27 = .ok (.iconst 4, 1) := by decide +kernel
theorem dX7_of_28 : decode cX7_of 28 = .ok (.if_icmp .ge 10, 3) := by decide +kernel
theorem dX7_of_31 : decode cX7_of 31 = .ok (.aload_n 0, 1) := by decide +kernel
theorem dX7_of_32 : decode cX7_of 32 = .ok (.iload_n 1, 1) := by decide +kernel
theorem dX7_of_33 : decode cX7_of 33 = .ok (.iload_n 2, 1) := by decide +kernel
theorem dX7_of_34 : decode cX7_of 34 = .ok (.invokevirtual 49, 3) := by decide +kernel
theorem dX7_of_37 : decode cX7_of 37 = .ok (.ireturn, 1) := by decide +kernel
theorem dX7_of_38 : decode cX7_of 38 = .ok (.iload_n 2, 1) := by decide +kernel
theorem dX7_of_39 : decode cX7_of 39 = .ok (.iconst 4, 1) := by decide +kernel
theorem dX7_of_40 : decode cX7_of 40 = .ok (.if_icmp .ne 11, 3) := by decide +kernel
theorem dX7_of_43 : decode cX7_of 43 = .ok (.aload_n 0, 1) := by decide +kernel
theorem dX7_of_44 : decode cX7_of 44 = .ok (.iload_n 1, 1) := by decide +kernel
theorem dX7_of_45 : decode cX7_of 45 = .ok (.invokevirtual 62, 3) := by decide +kernel
theorem dX7_of_48 : decode cX7_of 48 = .ok (.goto 21, 3) := by decide +kernel
theorem dX7_of_51 : decode cX7_of 51 = .ok (.iload_n 2, 1) := by decide +kernel
theorem dX7_of_52 : decode cX7_of 52 = .ok (.iconst 5, 1) := by decide +kernel
theorem dX7_of_53 : decode cX7_of 53 = .ok (.if_icmp .ne 11, 3) := by decide +kernel
theorem dX7_of_56 : decode cX7_of 56 = .ok (.aload_n 0, 1) := by decide +kernel
theorem dX7_of_57 : decode cX7_of 57 = .ok (.iload_n 1, 1) := by decide +kernel
theorem dX7_of_58 : decode cX7_of 58 = .ok (.invokevirtual 104, 3) := by decide +kernel
theorem dX7_of_61 : decode cX7_of 61 = .ok (.goto 8, 3) := by decide +kernel
theorem dX7_of_64 : decode cX7_of 64 = .ok (.aload_n 0, 1) := by decide +kernel
theorem dX7_of_65 : decode cX7_of 65 = .ok (.iload_n 1, 1) := by decide +kernel
theorem dX7_of_66 : decode cX7_of 66 = .ok (.invokevirtual 107, 3) := by decide +kernel
theorem dX7_of_69 : decode cX7_of 69 = .ok (.ireturn, 1) := by decide +kernel
set_option maxRecDepth 20000 in
theorem ggX7_set_X7_isChild : GoodIn wsX7_set wsX7_isChild := goodIn_r _ [6, 7, 8, 9, 5, 10, 20, 21, 22, 23, 24, 25, 26, 27, 28, 29, 30, 31, 32, 33, 34] (by decide +kernel) (by decide +kernel)
set_option maxRecDepth 20000 in
theorem gX7_set_X7_isChild : GoodIn wsX7_set (wsV RX7 45 RX7 yX7_isChild wsX7_isChild) := goodIn_app (goodIn_of _ (by decide +kernel)) ggX7_set_X7_isChild
set_option maxRecDepth 20000 in
theorem ggX7_set_X7_in : GoodIn wsX7_set wsX7_in := goodIn_r _ [10] (by decide +kernel) (by decide +kernel)
set_option maxRecDepth 20000 in
theorem gX7_set_X7_in : GoodIn wsX7_set (va_wsS RX7 41 yX7_in wsX7_in) := goodIn_app (goodIn_of _ (by decide +kernel)) ggX7_set_X7_in
set_option maxRecDepth 20000 in
theorem ggX7_set_X7_becomes : GoodIn wsX7_set wsX7_becomes := goodIn_r _ [14, 7, 20, 21, 22, 23, 24, 25, 26, 27, 28, 29, 30, 31, 32, 33, 34] (by decide +kernel) (by decide +kernel)
set_option maxRecDepth 20000 in
theorem gX7_set_X7_becomes : GoodIn wsX7_set (wsV RX7 75 RX7 yX7_becomes wsX7_becomes) := goodIn_app (goodIn_of _ (by decide +kernel)) ggX7_set_X7_becomes
set_option maxRecDepth 20000 in
theorem ggX7_set_X7_finds : GoodIn wsX7_set wsX7_finds := goodIn_r _ [18, 19, 1, 20, 21, 22, 23, 24, 25, 26, 27, 28, 29, 30, 31, 32, 33, 34] (by decide +kernel) (by decide +kernel)
set_option maxRecDepth 20000 in
theorem gX7_set_X7_finds : GoodIn wsX7_set (wsV RX7 37 RX7 yX7_finds wsX7_finds) := goodIn_app (goodIn_of _ (by decide +kernel)) ggX7_set_X7_finds
theorem dX7_set_0 : decode cX7_set 0 = .ok (.aload_n 0, 1) := by decide +kernel
theorem dX7_set_1 : decode cX7_set 1 = .ok (.iload_n 1, 1) := by decide +kernel
theorem dX7_set_2 : decode cX7_set 2 = .ok (.invokevirtual 45, 3) := by decide +kernel
theorem dX7_set_5 : decode cX7_set 5 = .ok (.ifCond .eq 49, 3) := by decide +kernel
theorem dX7_set_8 : decode cX7_set 8 = .ok (.iload_n 2, 1) := by decide +kernel
theorem dX7_set_9 : decode cX7_set 9 = .ok (.i2l, 1) := by decide +kernel
theorem dX7_set_10 : decode cX7_set 10 = .ok (.iconst 1, 1) := by decide +kernel
theorem dX7_set_11 : decode cX7_set 11 = .ok (.iconst 3, 1) := by decide +kernel
theorem dX7_set_12 : decode cX7_set 12 = .ok (.invokestatic 41, 3) := by decide +kernel
theorem dX7_set_15 : decode cX7_set 15 = .ok (.ifCond .eq 39, 3) := by decide +kernel
theorem dX7_set_18 : decode cX7_set 18 = .ok (.iload_n 3, 1) := by decide +kernel
theorem dX7_set_19 : decode cX7_set 19 = .ok (.i2l, 1) := by decide +kernel
theorem dX7_set_20 : decode cX7_set 20 = .ok (.iconst 0, 1) := by decide +kernel
theorem dX7_set_21 : decode cX7_set 21 = .ok (.iload_n 2, 1) := by decide +kernel
theorem dX7_set_22 : decode cX7_set 22 = .ok (.iconst 1, 1) := by decide +kernel
theorem dX7_set_23 : decode cX7_set 23 = .ok (.if_icmp .ne 8, 3) := by decide +kernel
theorem dX7_set_26 : decode cX7_set 26 = .ok (.bipush 9, 2) := by decide +kernel
theorem dX7_set_28 : decode cX7_set 28 = .ok (.goto 16, 3) := by decide +kernel
theorem dX7_set_31 : decode cX7_set 31 = .ok (.iload_n 2, 1) := by decide +kernel
theorem dX7_set_32 : decode cX7_set 32 = .ok (.iconst 3, 1) := by decide +kernel
theorem dX7_set_33 : decode cX7_set 33 = .ok (.if_icmp .ne 8, 3) := by decide +kernel
theorem dX7_set_36 : decode cX7_set 36 = .ok (.bipush 99, 2) := by decide +kernel
theorem dX7_set_38 : decode cX7_set 38 = .ok (.goto 6, 3) := by decide +kernel
theorem dX7_set_41 : decode cX7_set 41 = .ok (.sipush 9999, 3) := by decide +kernel
theorem dX7_set_44 : decode cX7_set 44 = .ok (.invokestatic 41, 3) := by decide +kernel
theorem dX7_set_47 : decode cX7_set 47 = .ok (.ifCond .eq 7, 3) := by decide +kernel
theorem dX7_set_50 : decode cX7_set 50 = .ok (.iconst 1, 1) := by decide +kernel
theorem dX7_set_51 : decode cX7_set 51 = .ok (.goto 4, 3) := by decide +kernel
theorem dX7_set_54 : decode cX7_set 54 = .ok (.iconst 0, 1) := by decide +kernel
theorem dX7_set_55 : decode cX7_set 55 = .ok (.istore 4, 2) := by decide +kernel
theorem dX7_set_57 : decode cX7_set 57 = .ok (.iload 4, 2) := by decide +kernel
theorem dX7_set_59 : decode cX7_set 59 = .ok (.ifCond .eq 19, 3) := by decide +kernel
theorem dX7_set_62 : decode cX7_set 62 = .ok (.aload_n 0, 1) := by decide +kernel
theorem dX7_set_63 : decode cX7_set 63 = .ok (.iconst 3, 1) := by decide +kernel
theorem dX7_set_64 : decode cX7_set 64 = .ok (.bipush 14, 2) := by decide +kernel
theorem dX7_set_66 : decode cX7_set 66 = .ok (.iload_n 1, 1) := by decide +kernel
theorem dX7_set_67 : decode cX7_set 67 = .ok (.imul, 1) := by decide +kernel
theorem dX7_set_68 : decode cX7_set 68 = .ok (.iadd, 1) := by decide +kernel
theorem dX7_set_69 : decode cX7_set 69 = .ok (.iload_n 2, 1) := by decide +kernel
theorem dX7_set_70 : decode cX7_set 70 = .ok (.iadd, 1) := by decide +kernel
theorem dX7_set_71 : decode cX7_set 71 = .ok (.iload_n 3, 1) := by decide +kernel
theorem dX7_set_72 : decode cX7_set 72 = .ok (.invokevirtual 75, 3) := by decide +kernel
theorem dX7_set_75 : decode cX7_set 75 = .ok (.goto 9, 3) := by decide +kernel
theorem dX7_set_78 : decode cX7_set 78 = .ok (.aload_n 0, 1) := by decide +kernel
theorem dX7_set_79 : decode cX7_set 79 = .ok (.ldc 35, 2) := by decide +kernel
theorem dX7_set_81 : decode cX7_set 81 = .ok (.invokevirtual 37, 3) := by decide +kernel
theorem dX7_set_84 : decode cX7_set 84 = .ok (.ireturn, 1) := by decide +kernel
set_option maxRecDepth 20000 in
theorem ggX7_likes_X7_isChild : GoodIn wsX7_likes wsX7_isChild := goodIn_r _ [6, 7, 8, 9, 5, 10, 23, 24, 25, 26, 27, 28, 29, 30, 31, 32, 33, 34, 35, 36, 37] (by decide +kernel) (by decide +kernel)
set_option maxRecDepth 20000 in
theorem gX7_likes_X7_isChild : GoodIn wsX7_likes (wsV RX7 45 RX7 yX7_isChild wsX7_isChild) := goodIn_app (goodIn_of _ (by decide +kernel)) ggX7_likes_X7_isChild
set_option maxRecDepth 20000 in
theorem ggX7_likes_X7_isThing : GoodIn wsX7_likes wsX7_isThing := goodIn_r _ [13, 8, 9, 5, 10] (by decide +kernel) (by decide +kernel)
set_option maxRecDepth 20000 in
theorem gX7_likes_X7_isThing : GoodIn wsX7_likes (va_wsS RX7 92 yX7_isThing wsX7_isThing) := goodIn_app (goodIn_of _ (by decide +kernel)) ggX7_likes_X7_isThing
set_option maxRecDepth 20000 in
theorem ggX7_likes_X7_in : GoodIn wsX7_likes wsX7_in := goodIn_r _ [10] (by decide +kernel) (by decide +kernel)
set_option maxRecDepth 20000 in
theorem gX7_likes_X7_in : GoodIn wsX7_likes (va_wsS RX7 41 yX7_in wsX7_in) := goodIn_app (goodIn_of _ (by decide +kernel)) ggX7_likes_X7_in
set_option maxRecDepth 20000 in
theorem ggX7_likes_X7_becomes : GoodIn wsX7_likes wsX7_becomes := goodIn_r _ [17, 7, 23, 24, 25, 26, 27, 28, 29, 30, 31, 32, 33, 34, 35, 36, 37] (by decide +kernel) (by decide +kernel)
set_option maxRecDepth 20000 in
theorem gX7_likes_X7_becomes : GoodIn wsX7_likes (wsV RX7 75 RX7 yX7_becomes wsX7_becomes) := goodIn_app (goodIn_of _ (by decide +kernel)) ggX7_likes_X7_becomes
set_option maxRecDepth 20000 in
theorem ggX7_likes_X7_finds : GoodIn wsX7_likes wsX7_finds := goodIn_r _ [21, 22, 1, 23, 24, 25, 26, 27, 28, 29, 30, 31, 32, 33, 34, 35, 36, 37] (by decide +kernel) (by decide +kernel)
set_option maxRecDepth 20000 in
theorem gX7_likes_X7_finds : GoodIn wsX7_likes (wsV RX7 37 RX7 yX7_finds wsX7_finds) := goodIn_app (goodIn_of _ (by decide +kernel)) ggX7_likes_X7_finds
theorem dX7_likes_0 : decode cX7_likes 0 = .ok (.aload_n 0, 1) := by decide +kernel
theorem dX7_likes_1 : decode cX7_likes 1 = .ok (.iload_n 1, 1) := by decide +kernel
theorem dX7_likes_2 : decode cX7_likes 2 = .ok (.invokevirtual 45, 3) := by decide +kernel
theorem dX7_likes_5 : decode cX7_likes 5 = .ok (.ifCond .eq 25, 3) := by decide +kernel
theorem dX7_likes_8 : decode cX7_likes 8 = .ok (.iload_n 2, 1) := by decide +kernel
theorem dX7_likes_9 : decode cX7_likes 9 = .ok (.invokestatic 92, 3) := by decide +kernel
theorem dX7_likes_12 : decode cX7_likes 12 = .ok (.ifCond .eq 18, 3) := by decide +kernel
theorem dX7_likes_15 : decode cX7_likes 15 = .ok (.iload_n 3, 1) := by decide +kernel
theorem dX7_likes_16 : decode cX7_likes 16 = .ok (.i2l, 1) := by decide +kernel
theorem dX7_likes_17 : decode cX7_likes 17 = .ok (.iconst 0, 1) := by decide +kernel
theorem dX7_likes_18 : decode cX7_likes 18 = .ok (.bipush 20, 2) := by decide +kernel
theorem dX7_likes_20 : decode cX7_likes 20 = .ok (.invokestatic 41, 3) := by decide +kernel
theorem dX7_likes_23 : decode cX7_likes 23 = .ok (.ifCond .eq 7, 3) := by decide +kernel
theorem dX7_likes_26 : decode cX7_likes 26 = .ok (.iconst 1, 1) := by decide +kernel
theorem dX7_likes_27 : decode cX7_likes 27 = .ok (.goto 4, 3) := by decide +kernel
theorem dX7_likes_30 : decode cX7_likes 30 = .ok (.iconst 0, 1) := by decide +kernel
theorem dX7_likes_31 : decode cX7_likes 31 = .ok (.istore 4, 2) := by decide +kernel
theorem dX7_likes_33 : decode cX7_likes 33 = .ok (.iload 4, 2) := by decide +kernel
theorem dX7_likes_35 : decode cX7_likes 35 = .ok (.ifCond .eq 21, 3) := by decide +kernel
theorem dX7_likes_38 : decode cX7_likes 38 = .ok (.aload_n 0, 1) := by decide +kernel
theorem dX7_likes_39 : decode cX7_likes 39 = .ok (.iconst 3, 1) := by decide +kernel
theorem dX7_likes_40 : decode cX7_likes 40 = .ok (.bipush 14, 2) := by decide +kernel
theorem dX7_likes_42 : decode cX7_likes 42 = .ok (.iload_n 1, 1) := by decide +kernel
theorem dX7_likes_43 : decode cX7_likes 43 = .ok (.imul, 1) := by decide +kernel
theorem dX7_likes_44 : decode cX7_likes 44 = .ok (.iadd, 1) := by decide +kernel
theorem dX7_likes_45 : decode cX7_likes 45 = .ok (.iconst 4, 1) := by decide +kernel
theorem dX7_likes_46 : decode cX7_likes 46 = .ok (.iadd, 1) := by decide +kernel
theorem dX7_likes_47 : decode cX7_likes 47 = .ok (.iload_n 2, 1) := by decide +kernel
theorem dX7_likes_48 : decode cX7_likes 48 = .ok (.iadd, 1) := by decide +kernel
theorem dX7_likes_49 : decode cX7_likes 49 = .ok (.iload_n 3, 1) := by decide +kernel
theorem dX7_likes_50 : decode cX7_likes 50 = .ok (.invokevirtual 75, 3) := by decide +kernel
theorem dX7_likes_53 : decode cX7_likes 53 = .ok (.goto 9, 3) := by decide +kernel
theorem dX7_likes_56 : decode cX7_likes 56 = .ok (.aload_n 0, 1) := by decide +kernel
theorem dX7_likes_57 : decode cX7_likes 57 = .ok (.ldc 35, 2) := by decide +kernel
theorem dX7_likes_59 : decode cX7_likes 59 = .ok (.invokevirtual 37, 3) := by decide +kernel
theorem dX7_likes_62 : decode cX7_likes 62 = .ok (.ireturn, 1) := by decide +kernel
set_option maxRecDepth 20000 in
theorem ggX7_worth_X7_isChild : GoodIn wsX7_worth wsX7_isChild := goodIn_r _ [6, 7, 8, 9, 5, 10, 34, 35, 36, 37, 38, 39, 40, 41, 42, 43, 44, 45, 46, 47, 48] (by decide +kernel) (by decide +kernel)
set_option maxRecDepth 20000 in
theorem gX7_worth_X7_isChild : GoodIn wsX7_worth (wsV RX7 45 RX7 yX7_isChild wsX7_isChild) := goodIn_app (goodIn_of _ (by decide +kernel)) ggX7_worth_X7_isChild
set_option maxRecDepth 20000 in
theorem ggX7_worth_X7_isThing : GoodIn wsX7_worth wsX7_isThing := goodIn_r _ [13, 8, 9, 5, 10] (by decide +kernel) (by decide +kernel)
set_option maxRecDepth 20000 in
theorem gX7_worth_X7_isThing : GoodIn wsX7_worth (va_wsS RX7 92 yX7_isThing wsX7_isThing) := goodIn_app (goodIn_of _ (by decide +kernel)) ggX7_worth_X7_isThing
set_option maxRecDepth 20000 in
theorem ggX7_worth_X7_worthTo : GoodIn wsX7_worth wsX7_worthTo := goodIn_r _ [17, 18, 19, 20, 5, 21, 7, 22, 23, 24, 25, 26, 27, 28, 34, 35, 36, 37, 38, 39, 40, 41, 42, 43, 44, 45, 46, 47, 48] (by decide +kernel) (by decide +kernel)
set_option maxRecDepth 20000 in
theorem gX7_worth_X7_worthTo : GoodIn wsX7_worth (wsV RX7 59 RX7 yX7_worthTo wsX7_worthTo) := goodIn_app (goodIn_of _ (by decide +kernel)) ggX7_worth_X7_worthTo
set_option maxRecDepth 20000 in
theorem ggX7_worth_X7_finds : GoodIn wsX7_worth wsX7_finds := goodIn_r _ [32, 33, 1, 34, 35, 36, 37, 38, 39, 40, 41, 42, 43, 44, 45, 46, 47, 48] (by decide +kernel) (by decide +kernel)
set_option maxRecDepth 20000 in
theorem gX7_worth_X7_finds : GoodIn wsX7_worth (wsV RX7 37 RX7 yX7_finds wsX7_finds) := goodIn_app (goodIn_of _ (by decide +kernel)) ggX7_worth_X7_finds
theorem dX7_worth_0 : decode cX7_worth 0 = .ok (.aload_n 0, 1) := by decide +kernel
theorem dX7_worth_1 : decode cX7_worth 1 = .ok (.iload_n 1, 1) := by decide +kernel
theorem dX7_worth_2 : decode cX7_worth 2 = .ok (.invokevirtual 45, 3) := by decide +kernel
theorem dX7_worth_5 : decode cX7_worth 5 = .ok (.ifCond .eq 19, 3) := by decide +kernel
theorem dX7_worth_8 : decode cX7_worth 8 = .ok (.iload_n 2, 1) := by decide +kernel
theorem dX7_worth_9 : decode cX7_worth 9 = .ok (.invokestatic 92, 3) := by decide +kernel
theorem dX7_worth_12 : decode cX7_worth 12 = .ok (.ifCond .eq 12, 3) := by decide +kernel
theorem dX7_worth_15 : decode cX7_worth 15 = .ok (.aload_n 0, 1) := by decide +kernel
theorem dX7_worth_16 : decode cX7_worth 16 = .ok (.iload_n 1, 1) := by decide +kernel
theorem dX7_worth_17 : decode cX7_worth 17 = .ok (.iload_n 2, 1) := by decide +kernel
theorem dX7_worth_18 : decode cX7_worth 18 = .ok (.invokevirtual 59, 3) := by decide +kernel
theorem dX7_worth_21 : decode cX7_worth 21 = .ok (.goto 9, 3) := by decide +kernel
theorem dX7_worth_24 : decode cX7_worth 24 = .ok (.aload_n 0, 1) := by decide +kernel
theorem dX7_worth_25 : decode cX7_worth 25 = .ok (.ldc 35, 2) := by decide +kernel
theorem dX7_worth_27 : decode cX7_worth 27 = .ok (.invokevirtual 37, 3) := by decide +kernel
theorem dX7_worth_30 : decode cX7_worth 30 = .ok (.ireturn, 1) := by decide +kernel
set_option maxRecDepth 20000 in
theorem ggX7_agrees_X7_isChild : GoodIn wsX7_agrees wsX7_isChild := goodIn_r _ [6, 7, 8, 9, 5, 10, 42, 43, 44, 45, 46, 47, 48, 49, 50, 51, 52, 53, 54, 55, 56] (by decide +kernel) (by decide +kernel)
set_option maxRecDepth 20000 in
theorem gX7_agrees_X7_isChild : GoodIn wsX7_agrees (wsV RX7 45 RX7 yX7_isChild wsX7_isChild) := goodIn_app (goodIn_of _ (by decide +kernel)) ggX7_agrees_X7_isChild
set_option maxRecDepth 20000 in
theorem ggX7_agrees_X7_isThing : GoodIn wsX7_agrees wsX7_isThing := goodIn_r _ [13, 8, 9, 5, 10] (by decide +kernel) (by decide +kernel)
set_option maxRecDepth 20000 in
theorem gX7_agrees_X7_isThing : GoodIn wsX7_agrees (va_wsS RX7 92 yX7_isThing wsX7_isThing) := goodIn_app (goodIn_of _ (by decide +kernel)) ggX7_agrees_X7_isThing
set_option maxRecDepth 20000 in
theorem ggX7_agrees_X7_doesAgree : GoodIn wsX7_agrees wsX7_doesAgree := goodIn_r _ [17, 7, 18, 19, 20, 5, 21, 22, 23, 24, 25, 26, 27, 28, 29, 30, 31, 32, 33, 34, 35, 36, 42, 43, 44, 45, 46, 47, 48, 49, 50, 51, 52, 53, 54, 55, 56] (by decide +kernel) (by decide +kernel)
set_option maxRecDepth 20000 in
theorem gX7_agrees_X7_doesAgree : GoodIn wsX7_agrees (wsV RX7 65 RX7 yX7_doesAgree wsX7_doesAgree) := goodIn_app (goodIn_of _ (by decide +kernel)) ggX7_agrees_X7_doesAgree
set_option maxRecDepth 20000 in
theorem ggX7_agrees_X7_finds : GoodIn wsX7_agrees wsX7_finds := goodIn_r _ [40, 41, 1, 42, 43, 44, 45, 46, 47, 48, 49, 50, 51, 52, 53, 54, 55, 56] (by decide +kernel) (by decide +kernel)
set_option maxRecDepth 20000 in
theorem gX7_agrees_X7_finds : GoodIn wsX7_agrees (wsV RX7 37 RX7 yX7_finds wsX7_finds) := goodIn_app (goodIn_of _ (by decide +kernel)) ggX7_agrees_X7_finds
theorem dX7_agrees_0 : decode cX7_agrees 0 = .ok (.aload_n 0, 1) := by decide +kernel
theorem dX7_agrees_1 : decode cX7_agrees 1 = .ok (.iload_n 1, 1) := by decide +kernel
theorem dX7_agrees_2 : decode cX7_agrees 2 = .ok (.invokevirtual 45, 3) := by decide +kernel
theorem dX7_agrees_5 : decode cX7_agrees 5 = .ok (.ifCond .eq 27, 3) := by decide +kernel
theorem dX7_agrees_8 : decode cX7_agrees 8 = .ok (.iload_n 2, 1) := by decide +kernel
theorem dX7_agrees_9 : decode cX7_agrees 9 = .ok (.invokestatic 92, 3) := by decide +kernel
theorem dX7_agrees_12 : decode cX7_agrees 12 = .ok (.ifCond .eq 20, 3) := by decide +kernel
theorem dX7_agrees_15 : decode cX7_agrees 15 = .ok (.aload_n 0, 1) := by decide +kernel
theorem dX7_agrees_16 : decode cX7_agrees 16 = .ok (.iload_n 1, 1) := by decide +kernel
theorem dX7_agrees_17 : decode cX7_agrees 17 = .ok (.iload_n 2, 1) := by decide +kernel
theorem dX7_agrees_18 : decode cX7_agrees 18 = .ok (.invokevirtual 65, 3) := by decide +kernel
theorem dX7_agrees_21 : decode cX7_agrees 21 = .ok (.ifCond .eq 7, 3) := by decide +kernel
theorem dX7_agrees_24 : decode cX7_agrees 24 = .ok (.iconst 1, 1) := by decide +kernel
theorem dX7_agrees_25 : decode cX7_agrees 25 = .ok (.goto 13, 3) := by decide +kernel
theorem dX7_agrees_28 : decode cX7_agrees 28 = .ok (.iconst 0, 1) := by decide +kernel
theorem dX7_agrees_29 : decode cX7_agrees 29 = .ok (.goto 9, 3) := by decide +kernel
theorem dX7_agrees_32 : decode cX7_agrees 32 = .ok (.aload_n 0, 1) := by decide +kernel
theorem dX7_agrees_33 : decode cX7_agrees 33 = .ok (.ldc 35, 2) := by decide +kernel
theorem dX7_agrees_35 : decode cX7_agrees 35 = .ok (.invokevirtual 37, 3) := by decide +kernel
theorem dX7_agrees_38 : decode cX7_agrees 38 = .ok (.ireturn, 1) := by decide +kernel
set_option maxRecDepth 20000 in
theorem ggX7_turn_X7_isChild : GoodIn wsX7_turn wsX7_isChild := goodIn_r _ [6, 7, 8, 9, 5, 10, 20, 21, 22, 23, 24, 25, 26, 27, 28, 29, 30, 31, 32, 33, 34] (by decide +kernel) (by decide +kernel)
set_option maxRecDepth 20000 in
theorem gX7_turn_X7_isChild : GoodIn wsX7_turn (wsV RX7 45 RX7 yX7_isChild wsX7_isChild) := goodIn_app (goodIn_of _ (by decide +kernel)) ggX7_turn_X7_isChild
set_option maxRecDepth 20000 in
theorem ggX7_turn_X7_in : GoodIn wsX7_turn wsX7_in := goodIn_r _ [10] (by decide +kernel) (by decide +kernel)
set_option maxRecDepth 20000 in
theorem gX7_turn_X7_in : GoodIn wsX7_turn (va_wsS RX7 41 yX7_in wsX7_in) := goodIn_app (goodIn_of _ (by decide +kernel)) ggX7_turn_X7_in
set_option maxRecDepth 20000 in
theorem ggX7_turn_X7_becomes : GoodIn wsX7_turn wsX7_becomes := goodIn_r _ [14, 7, 20, 21, 22, 23, 24, 25, 26, 27, 28, 29, 30, 31, 32, 33, 34] (by decide +kernel) (by decide +kernel)
set_option maxRecDepth 20000 in
theorem gX7_turn_X7_becomes : GoodIn wsX7_turn (wsV RX7 75 RX7 yX7_becomes wsX7_becomes) := goodIn_app (goodIn_of _ (by decide +kernel)) ggX7_turn_X7_becomes
set_option maxRecDepth 20000 in
theorem ggX7_turn_X7_finds : GoodIn wsX7_turn wsX7_finds := goodIn_r _ [18, 19, 1, 20, 21, 22, 23, 24, 25, 26, 27, 28, 29, 30, 31, 32, 33, 34] (by decide +kernel) (by decide +kernel)
set_option maxRecDepth 20000 in
theorem gX7_turn_X7_finds : GoodIn wsX7_turn (wsV RX7 37 RX7 yX7_finds wsX7_finds) := goodIn_app (goodIn_of _ (by decide +kernel)) ggX7_turn_X7_finds
theorem dX7_turn_0 : decode cX7_turn 0 = .ok (.aload_n 0, 1) := by decide +kernel
theorem dX7_turn_1 : decode cX7_turn 1 = .ok (.iload_n 1, 1) := by decide +kernel
theorem dX7_turn_2 : decode cX7_turn 2 = .ok (.invokevirtual 45, 3) := by decide +kernel
theorem dX7_turn_5 : decode cX7_turn 5 = .ok (.ifCond .eq 27, 3) := by decide +kernel
theorem dX7_turn_8 : decode cX7_turn 8 = .ok (.iload_n 2, 1) := by decide +kernel
theorem dX7_turn_9 : decode cX7_turn 9 = .ok (.i2l, 1) := by decide +kernel
theorem dX7_turn_10 : decode cX7_turn 10 = .ok (.iconst 0, 1) := by decide +kernel
theorem dX7_turn_11 : decode cX7_turn 11 = .ok (.iconst 5, 1) := by decide +kernel
theorem dX7_turn_12 : decode cX7_turn 12 = .ok (.invokestatic 41, 3) := by decide +kernel
theorem dX7_turn_15 : decode cX7_turn 15 = .ok (.ifCond .eq 17, 3) := by decide +kernel
theorem dX7_turn_18 : decode cX7_turn 18 = .ok (.aload_n 0, 1) := by decide +kernel
theorem dX7_turn_19 : decode cX7_turn 19 = .ok (.iconst 3, 1) := by decide +kernel
theorem dX7_turn_20 : decode cX7_turn 20 = .ok (.bipush 14, 2) := by decide +kernel
theorem dX7_turn_22 : decode cX7_turn 22 = .ok (.iload_n 1, 1) := by decide +kernel
theorem dX7_turn_23 : decode cX7_turn 23 = .ok (.imul, 1) := by decide +kernel
theorem dX7_turn_24 : decode cX7_turn 24 = .ok (.iadd, 1) := by decide +kernel
theorem dX7_turn_25 : decode cX7_turn 25 = .ok (.iload_n 2, 1) := by decide +kernel
theorem dX7_turn_26 : decode cX7_turn 26 = .ok (.invokevirtual 75, 3) := by decide +kernel
theorem dX7_turn_29 : decode cX7_turn 29 = .ok (.goto 9, 3) := by decide +kernel
theorem dX7_turn_32 : decode cX7_turn 32 = .ok (.aload_n 0, 1) := by decide +kernel
theorem dX7_turn_33 : decode cX7_turn 33 = .ok (.ldc 35, 2) := by decide +kernel
theorem dX7_turn_35 : decode cX7_turn 35 = .ok (.invokevirtual 37, 3) := by decide +kernel
theorem dX7_turn_38 : decode cX7_turn 38 = .ok (.ireturn, 1) := by decide +kernel
set_option maxRecDepth 20000 in
theorem ggX7_as_X7_isChild : GoodIn wsX7_as wsX7_isChild := goodIn_r _ [7, 8, 9, 10, 6, 11, 21, 22, 23, 24, 25, 26, 27, 28, 29, 30, 31, 32, 33, 34, 35] (by decide +kernel) (by decide +kernel)
set_option maxRecDepth 20000 in
theorem gX7_as_X7_isChild : GoodIn wsX7_as (wsV RX7 45 RX7 yX7_isChild wsX7_isChild) := goodIn_app (goodIn_of _ (by decide +kernel)) ggX7_as_X7_isChild
set_option maxRecDepth 20000 in
theorem ggX7_as_X7_in : GoodIn wsX7_as wsX7_in := goodIn_r _ [11] (by decide +kernel) (by decide +kernel)
set_option maxRecDepth 20000 in
theorem gX7_as_X7_in : GoodIn wsX7_as (va_wsS RX7 41 yX7_in wsX7_in) := goodIn_app (goodIn_of _ (by decide +kernel)) ggX7_as_X7_in
set_option maxRecDepth 20000 in
theorem ggX7_as_X7_finds : GoodIn wsX7_as wsX7_finds := goodIn_r _ [15, 16, 1, 21, 22, 23, 24, 25, 26, 27, 28, 29, 30, 31, 32, 33, 34, 35] (by decide +kernel) (by decide +kernel)
set_option maxRecDepth 20000 in
theorem gX7_as_X7_finds : GoodIn wsX7_as (wsV RX7 37 RX7 yX7_finds wsX7_finds) := goodIn_app (goodIn_of _ (by decide +kernel)) ggX7_as_X7_finds
set_option maxRecDepth 20000 in
theorem ggX7_as_X7_it : GoodIn wsX7_as wsX7_it := goodIn_r _ [20, 8, 21, 22, 23, 24, 25, 26, 27, 28, 29, 30, 31, 32, 33, 34, 35] (by decide +kernel) (by decide +kernel)
set_option maxRecDepth 20000 in
theorem gX7_as_X7_it : GoodIn wsX7_as (wsV RX7 49 RX7 yX7_it wsX7_it) := goodIn_app (goodIn_of _ (by decide +kernel)) ggX7_as_X7_it
theorem dX7_as_0 : decode cX7_as 0 = .ok (.aload_n 0, 1) := by decide +kernel
theorem dX7_as_1 : decode cX7_as 1 = .ok (.iload_n 1, 1) := by decide +kernel
theorem dX7_as_2 : decode cX7_as 2 = .ok (.invokevirtual 45, 3) := by decide +kernel
theorem dX7_as_5 : decode cX7_as 5 = .ok (.ifCond .eq 13, 3) := by decide +kernel
theorem dX7_as_8 : decode cX7_as 8 = .ok (.iload_n 2, 1) := by decide +kernel
theorem dX7_as_9 : decode cX7_as 9 = .ok (.i2l, 1) := by decide +kernel
theorem dX7_as_10 : decode cX7_as 10 = .ok (.iconst 0, 1) := by decide +kernel
theorem dX7_as_11 : decode cX7_as 11 = .ok (.iconst 5, 1) := by decide +kernel
theorem dX7_as_12 : decode cX7_as 12 = .ok (.invokestatic 41, 3) := by decide +kernel
theorem dX7_as_15 : decode cX7_as 15 = .ok (.ifCond .ne 10, 3) := by decide +kernel
theorem dX7_as_18 : decode cX7_as 18 = .ok (.aload_n 0, 1) := by decide +kernel
theorem dX7_as_19 : decode cX7_as 19 = .ok (.ldc 35, 2) := by decide +kernel
theorem dX7_as_21 : decode cX7_as 21 = .ok (.invokevirtual 37, 3) := by decide +kernel
theorem dX7_as_24 : decode cX7_as 24 = .ok (.ireturn, 1) := by decide +kernel
theorem dX7_as_25 : decode cX7_as 25 = .ok (.aload_n 0, 1) := by decide +kernel
theorem dX7_as_26 : decode cX7_as 26 = .ok (.iload_n 1, 1) := by decide +kernel
theorem dX7_as_27 : decode cX7_as 27 = .ok (.iconst 0, 1) := by decide +kernel
theorem dX7_as_28 : decode cX7_as 28 = .ok (.invokevirtual 49, 3) := by decide +kernel
theorem dX7_as_31 : decode cX7_as 31 = .ok (.istore_n 3, 1) := by decide +kernel
theorem dX7_as_32 : decode cX7_as 32 = .ok (.iload_n 2, 1) := by decide +kernel
theorem dX7_as_33 : decode cX7_as 33 = .ok (.ifCond .eq 28, 3) := by decide +kernel
theorem dX7_as_36 : decode cX7_as 36 = .ok (.iload_n 2, 1) := by decide +kernel
theorem dX7_as_37 : decode cX7_as 37 = .ok (.iload_n 3, 1) := by decide +kernel
theorem dX7_as_38 : decode cX7_as 38 = .ok (.if_icmp .eq 23, 3) := by decide +kernel
theorem dX7_as_41 : decode cX7_as 41 = .ok (.iload_n 2, 1) := by decide +kernel
theorem dX7_as_42 : decode cX7_as 42 = .ok (.iconst 1, 1) := by decide +kernel
theorem dX7_as_43 : decode cX7_as 43 = .ok (.if_icmp .ne 8, 3) := by decide +kernel
theorem dX7_as_46 : decode cX7_as 46 = .ok (.iload_n 3, 1) := by decide +kernel
theorem dX7_as_47 : decode cX7_as 47 = .ok (.iconst 4, 1) := by decide +kernel
theorem dX7_as_48 : decode cX7_as 48 = .ok (.if_icmp .eq 13, 3) := by decide +kernel
theorem dX7_as_51 : decode cX7_as 51 = .ok (.iload_n 2, 1) := by decide +kernel
theorem dX7_as_52 : decode cX7_as 52 = .ok (.iconst 2, 1) := by decide +kernel
theorem dX7_as_53 : decode cX7_as 53 = .ok (.if_icmp .ne 12, 3) := by decide +kernel
theorem dX7_as_56 : decode cX7_as 56 = .ok (.iload_n 3, 1) := by decide +kernel
theorem dX7_as_57 : decode cX7_as 57 = .ok (.iconst 5, 1) := by decide +kernel
theorem dX7_as_58 : decode cX7_as 58 = .ok (.if_icmp .ne 7, 3) := by decide +kernel
theorem dX7_as_61 : decode cX7_as 61 = .ok (.iconst 1, 1) := by decide +kernel
theorem dX7_as_62 : decode cX7_as 62 = .ok (.goto 4, 3) := by decide +kernel
theorem dX7_as_65 : decode cX7_as 65 = .ok (.iconst 0, 1) := by decide +kernel
theorem dX7_as_66 : decode cX7_as 66 = .ok (.istore 4, 2) := by decide +kernel
theorem dX7_as_68 : decode cX7_as 68 = .ok (.iload 4, 2) := by decide +kernel
theorem dX7_as_70 : decode cX7_as 70 = .ok (.ifCond .eq 12, 3) := by decide +kernel
theorem dX7_as_73 : decode cX7_as 73 = .ok (.aload_n 0, 1) := by decide +kernel
theorem dX7_as_74 : decode cX7_as 74 = .ok (.iload_n 1, 1) := by decide +kernel
theorem dX7_as_75 : decode cX7_as 75 = .ok (.iconst 3, 1) := by decide +kernel
theorem dX7_as_76 : decode cX7_as 76 = .ok (.invokevirtual 49, 3) := by decide +kernel
theorem dX7_as_79 : decode cX7_as 79 = .ok (.goto 9, 3) := by decide +kernel
theorem dX7_as_82 : decode cX7_as 82 = .ok (.aload_n 0, 1) := by decide +kernel
theorem dX7_as_83 : decode cX7_as 83 = .ok (.ldc 110, 2) := by decide +kernel
theorem dX7_as_85 : decode cX7_as 85 = .ok (.invokevirtual 37, 3) := by decide +kernel
theorem dX7_as_88 : decode cX7_as 88 = .ok (.ireturn, 1) := by decide +kernel
set_option maxRecDepth 20000 in
theorem ggX7_hasSwapped_X7_put : GoodIn wsX7_hasSwapped wsX7_put := goodIn_r _ [5, 6, 18, 19, 20, 21, 22, 23, 24, 25, 26, 27, 28, 29, 30, 31, 32] (by decide +kernel) (by decide +kernel)
set_option maxRecDepth 20000 in
theorem gX7_hasSwapped_X7_put : GoodIn wsX7_hasSwapped (wsV RX7 95 RX7 yX7_put wsX7_put) := goodIn_app (goodIn_of _ (by decide +kernel)) ggX7_hasSwapped_X7_put
set_option maxRecDepth 20000 in
theorem ggX7_hasSwapped_X7_it : GoodIn wsX7_hasSwapped wsX7_it := goodIn_r _ [10, 6, 18, 19, 20, 21, 22, 23, 24, 25, 26, 27, 28, 29, 30, 31, 32] (by decide +kernel) (by decide +kernel)
set_option maxRecDepth 20000 in
theorem gX7_hasSwapped_X7_it : GoodIn wsX7_hasSwapped (wsV RX7 49 RX7 yX7_it wsX7_it) := goodIn_app (goodIn_of _ (by decide +kernel)) ggX7_hasSwapped_X7_it
set_option maxRecDepth 20000 in
theorem ggX7_hasSwapped_X7_held : GoodIn wsX7_hasSwapped wsX7_held := goodIn_r _ [13] (by decide +kernel) (by decide +kernel)
set_option maxRecDepth 20000 in
theorem gX7_hasSwapped_X7_held : GoodIn wsX7_hasSwapped (va_wsS RX7 111 yX7_held wsX7_held) := goodIn_app (goodIn_of _ (by decide +kernel)) ggX7_hasSwapped_X7_held
set_option maxRecDepth 20000 in
theorem ggX7_hasSwapped_X7_losesOf : GoodIn wsX7_hasSwapped wsX7_losesOf := goodIn_r _ [17, 7, 8, 9, 4, 10, 6, 18, 19, 20, 21, 22, 23, 24, 25, 26, 27, 28, 29, 30, 31, 32] (by decide +kernel) (by decide +kernel)
set_option maxRecDepth 20000 in
theorem gX7_hasSwapped_X7_losesOf : GoodIn wsX7_hasSwapped (wsV RX7 107 RX7 yX7_losesOf wsX7_losesOf) := goodIn_app (goodIn_of _ (by decide +kernel)) ggX7_hasSwapped_X7_losesOf
theorem dX7_hasSwapped_0 : decode cX7_hasSwapped 0 = .ok (.aload_n 0, 1) := by decide +kernel
theorem dX7_hasSwapped_1 : decode cX7_hasSwapped 1 = .ok (.iload_n 1, 1) := by decide +kernel
theorem dX7_hasSwapped_2 : decode cX7_hasSwapped 2 = .ok (.iconst 1, 1) := by decide +kernel
theorem dX7_hasSwapped_3 : decode cX7_hasSwapped 3 = .ok (.iload_n 2, 1) := by decide +kernel
theorem dX7_hasSwapped_4 : decode cX7_hasSwapped 4 = .ok (.invokevirtual 95, 3) := by decide +kernel
theorem dX7_hasSwapped_7 : decode cX7_hasSwapped 7 = .ok (.aload_n 0, 1) := by decide +kernel
theorem dX7_hasSwapped_8 : decode cX7_hasSwapped 8 = .ok (.iload_n 1, 1) := by decide +kernel
theorem dX7_hasSwapped_9 : decode cX7_hasSwapped 9 = .ok (.iconst 2, 1) := by decide +kernel
theorem dX7_hasSwapped_10 : decode cX7_hasSwapped 10 = .ok (.aload_n 0, 1) := by decide +kernel
theorem dX7_hasSwapped_11 : decode cX7_hasSwapped 11 = .ok (.iload_n 1, 1) := by decide +kernel
theorem dX7_hasSwapped_12 : decode cX7_hasSwapped 12 = .ok (.iconst 2, 1) := by decide +kernel
theorem dX7_hasSwapped_13 : decode cX7_hasSwapped 13 = .ok (.invokevirtual 49, 3) := by decide +kernel
theorem dX7_hasSwapped_16 : decode cX7_hasSwapped 16 = .ok (.iconst 1, 1) := by decide +kernel
theorem dX7_hasSwapped_17 : decode cX7_hasSwapped 17 = .ok (.iadd, 1) := by decide +kernel
theorem dX7_hasSwapped_18 : decode cX7_hasSwapped 18 = .ok (.iconst 0, 1) := by decide +kernel
theorem dX7_hasSwapped_19 : decode cX7_hasSwapped 19 = .ok (.sipush 9999, 3) := by decide +kernel
theorem dX7_hasSwapped_22 : decode cX7_hasSwapped 22 = .ok (.invokestatic 111, 3) := by decide +kernel
theorem dX7_hasSwapped_25 : decode cX7_hasSwapped 25 = .ok (.invokevirtual 95, 3) := by decide +kernel
theorem dX7_hasSwapped_28 : decode cX7_hasSwapped 28 = .ok (.aload_n 0, 1) := by decide +kernel
theorem dX7_hasSwapped_29 : decode cX7_hasSwapped 29 = .ok (.iload_n 1, 1) := by decide +kernel
theorem dX7_hasSwapped_30 : decode cX7_hasSwapped 30 = .ok (.iconst 3, 1) := by decide +kernel
theorem dX7_hasSwapped_31 : decode cX7_hasSwapped 31 = .ok (.aload_n 0, 1) := by decide +kernel
theorem dX7_hasSwapped_32 : decode cX7_hasSwapped 32 = .ok (.iload_n 1, 1) := by decide +kernel
theorem dX7_hasSwapped_33 : decode cX7_hasSwapped 33 = .ok (.iconst 3, 1) := by decide +kernel
theorem dX7_hasSwapped_34 : decode cX7_hasSwapped 34 = .ok (.invokevirtual 49, 3) := by decide +kernel
theorem dX7_hasSwapped_37 : decode cX7_hasSwapped 37 = .ok (.aload_n 0, 1) := by decide +kernel
theorem dX7_hasSwapped_38 : decode cX7_hasSwapped 38 = .ok (.iload_n 1, 1) := by decide +kernel
theorem dX7_hasSwapped_39 : decode cX7_hasSwapped 39 = .ok (.invokevirtual 107, 3) := by decide +kernel
theorem dX7_hasSwapped_42 : decode cX7_hasSwapped 42 = .ok (.isub, 1) := by decide +kernel
theorem dX7_hasSwapped_43 : decode cX7_hasSwapped 43 = .ok (.iconst 0, 1) := by decide +kernel
theorem dX7_hasSwapped_44 : decode cX7_hasSwapped 44 = .ok (.bipush 99, 2) := by decide +kernel
theorem dX7_hasSwapped_46 : decode cX7_hasSwapped 46 = .ok (.invokestatic 111, 3) := by decide +kernel
theorem dX7_hasSwapped_49 : decode cX7_hasSwapped 49 = .ok (.invokevirtual 95, 3) := by decide +kernel
theorem dX7_hasSwapped_52 : decode cX7_hasSwapped 52 = .ok (.return_, 1) := by decide +kernel
set_option maxRecDepth 20000 in
theorem ggX7_swaps_X7_it : GoodIn wsX7_swaps wsX7_it := goodIn_r _ [5, 6, 22, 23, 24, 25, 26, 27, 28, 29, 30, 31, 32, 33, 34, 35, 36] (by decide +kernel) (by decide +kernel)
set_option maxRecDepth 20000 in
theorem gX7_swaps_X7_it : GoodIn wsX7_swaps (wsV RX7 49 RX7 yX7_it wsX7_it) := goodIn_app (goodIn_of _ (by decide +kernel)) ggX7_swaps_X7_it
set_option maxRecDepth 20000 in
theorem ggX7_swaps_X7_hasSwapped : GoodIn wsX7_swaps wsX7_hasSwapped := goodIn_r _ [10, 11, 12, 13, 4, 14, 6, 1, 2, 3, 5, 15, 16, 17, 18, 19, 20, 21, 22, 23, 24, 25, 26, 27, 28, 29, 30, 31, 32, 33, 34, 35, 36] (by decide +kernel) (by decide +kernel)
set_option maxRecDepth 20000 in
theorem gX7_swaps_X7_hasSwapped : GoodIn wsX7_swaps (wsV RX7 114 RX7 yX7_hasSwapped wsX7_hasSwapped) := goodIn_app (goodIn_of _ (by decide +kernel)) ggX7_swaps_X7_hasSwapped
theorem dX7_swaps_0 : decode cX7_swaps 0 = .ok (.aload_n 0, 1) := by decide +kernel
theorem dX7_swaps_1 : decode cX7_swaps 1 = .ok (.iload_n 1, 1) := by decide +kernel
theorem dX7_swaps_2 : decode cX7_swaps 2 = .ok (.iconst 1, 1) := by decide +kernel
theorem dX7_swaps_3 : decode cX7_swaps 3 = .ok (.invokevirtual 49, 3) := by decide +kernel
theorem dX7_swaps_6 : decode cX7_swaps 6 = .ok (.istore_n 3, 1) := by decide +kernel
theorem dX7_swaps_7 : decode cX7_swaps 7 = .ok (.aload_n 0, 1) := by decide +kernel
theorem dX7_swaps_8 : decode cX7_swaps 8 = .ok (.iload_n 1, 1) := by decide +kernel
theorem dX7_swaps_9 : decode cX7_swaps 9 = .ok (.aload_n 0, 1) := by decide +kernel
theorem dX7_swaps_10 : decode cX7_swaps 10 = .ok (.iload_n 2, 1) := by decide +kernel
theorem dX7_swaps_11 : decode cX7_swaps 11 = .ok (.iconst 1, 1) := by decide +kernel
theorem dX7_swaps_12 : decode cX7_swaps 12 = .ok (.invokevirtual 49, 3) := by decide +kernel
theorem dX7_swaps_15 : decode cX7_swaps 15 = .ok (.invokevirtual 114, 3) := by decide +kernel
theorem dX7_swaps_18 : decode cX7_swaps 18 = .ok (.aload_n 0, 1) := by decide +kernel
theorem dX7_swaps_19 : decode cX7_swaps 19 = .ok (.iload_n 2, 1) := by decide +kernel
theorem dX7_swaps_20 : decode cX7_swaps 20 = .ok (.iload_n 3, 1) := by decide +kernel
theorem dX7_swaps_21 : decode cX7_swaps 21 = .ok (.invokevirtual 114, 3) := by decide +kernel
theorem dX7_swaps_24 : decode cX7_swaps 24 = .ok (.return_, 1) := by decide +kernel
set_option maxRecDepth 20000 in
theorem ggX7_swap_X7_areTwo : GoodIn wsX7_swap wsX7_areTwo := goodIn_r _ [6, 7, 8, 9, 5, 10, 11, 12, 13, 14, 58, 59, 60, 61, 62, 63, 64, 65, 66, 67, 68, 69, 70, 71, 72] (by decide +kernel) (by decide +kernel)
set_option maxRecDepth 20000 in
theorem gX7_swap_X7_areTwo : GoodIn wsX7_swap (wsV RX7 118 RX7 yX7_areTwo wsX7_areTwo) := goodIn_app (goodIn_of _ (by decide +kernel)) ggX7_swap_X7_areTwo
set_option maxRecDepth 20000 in
theorem ggX7_swap_X7_finds : GoodIn wsX7_swap wsX7_finds := goodIn_r _ [18, 19, 1, 58, 59, 60, 61, 62, 63, 64, 65, 66, 67, 68, 69, 70, 71, 72] (by decide +kernel) (by decide +kernel)
set_option maxRecDepth 20000 in
theorem gX7_swap_X7_finds : GoodIn wsX7_swap (wsV RX7 37 RX7 yX7_finds wsX7_finds) := goodIn_app (goodIn_of _ (by decide +kernel)) ggX7_swap_X7_finds
set_option maxRecDepth 20000 in
theorem ggX7_swap_X7_swaps : GoodIn wsX7_swap wsX7_swaps := goodIn_r _ [23, 24, 25, 26, 5, 27, 11, 28, 29, 30, 31, 32, 33, 34, 35, 36, 37, 38, 39, 40, 41, 42, 58, 59, 60, 61, 62, 63, 64, 65, 66, 67, 68, 69, 70, 71, 72] (by decide +kernel) (by decide +kernel)
set_option maxRecDepth 20000 in
theorem gX7_swap_X7_swaps : GoodIn wsX7_swap (wsV RX7 121 RX7 yX7_swaps wsX7_swaps) := goodIn_app (goodIn_of _ (by decide +kernel)) ggX7_swap_X7_swaps
set_option maxRecDepth 20000 in
theorem ggX7_swap_X7_gladness : GoodIn wsX7_swap wsX7_gladness := goodIn_r _ [46, 24, 25, 26, 5, 27, 11, 47, 48, 49, 50, 51, 52, 53, 54, 55, 56, 57, 58, 59, 60, 61, 62, 63, 64, 65, 66, 67, 68, 69, 70, 71, 72] (by decide +kernel) (by decide +kernel)
set_option maxRecDepth 20000 in
theorem gX7_swap_X7_gladness : GoodIn wsX7_swap (wsV RX7 62 RX7 yX7_gladness wsX7_gladness) := goodIn_app (goodIn_of _ (by decide +kernel)) ggX7_swap_X7_gladness
theorem dX7_swap_0 : decode cX7_swap 0 = .ok (.aload_n 0, 1) := by decide +kernel
theorem dX7_swap_1 : decode cX7_swap 1 = .ok (.iload_n 1, 1) := by decide +kernel
theorem dX7_swap_2 : decode cX7_swap 2 = .ok (.iload_n 2, 1) := by decide +kernel
theorem dX7_swap_3 : decode cX7_swap 3 = .ok (.invokevirtual 118, 3) := by decide +kernel
theorem dX7_swap_6 : decode cX7_swap 6 = .ok (.ifCond .ne 10, 3) := by decide +kernel
theorem dX7_swap_9 : decode cX7_swap 9 = .ok (.aload_n 0, 1) := by decide +kernel
theorem dX7_swap_10 : decode cX7_swap 10 = .ok (.ldc 35, 2) := by decide +kernel
theorem dX7_swap_12 : decode cX7_swap 12 = .ok (.invokevirtual 37, 3) := by decide +kernel
theorem dX7_swap_15 : decode cX7_swap 15 = .ok (.ireturn, 1) := by decide +kernel
theorem dX7_swap_16 : decode cX7_swap 16 = .ok (.aload_n 0, 1) := by decide +kernel
theorem dX7_swap_17 : decode cX7_swap 17 = .ok (.iload_n 1, 1) := by decide +kernel
theorem dX7_swap_18 : decode cX7_swap 18 = .ok (.iload_n 2, 1) := by decide +kernel
theorem dX7_swap_19 : decode cX7_swap 19 = .ok (.invokevirtual 121, 3) := by decide +kernel
theorem dX7_swap_22 : decode cX7_swap 22 = .ok (.aload_n 0, 1) := by decide +kernel
theorem dX7_swap_23 : decode cX7_swap 23 = .ok (.iload_n 1, 1) := by decide +kernel
theorem dX7_swap_24 : decode cX7_swap 24 = .ok (.invokevirtual 62, 3) := by decide +kernel
theorem dX7_swap_27 : decode cX7_swap 27 = .ok (.ireturn, 1) := by decide +kernel
set_option maxRecDepth 20000 in
theorem ggX7_mates_X7_isChild : GoodIn wsX7_mates wsX7_isChild := goodIn_r _ [6, 7, 8, 9, 5, 10, 47, 48, 49, 50, 51, 52, 53, 54, 55, 56, 57, 58, 59, 60, 61] (by decide +kernel) (by decide +kernel)
set_option maxRecDepth 20000 in
theorem gX7_mates_X7_isChild : GoodIn wsX7_mates (wsV RX7 45 RX7 yX7_isChild wsX7_isChild) := goodIn_app (goodIn_of _ (by decide +kernel)) ggX7_mates_X7_isChild
set_option maxRecDepth 20000 in
theorem ggX7_mates_X7_matesOf : GoodIn wsX7_mates wsX7_matesOf := goodIn_r _ [14, 7, 15, 16, 17, 5, 18, 19, 20, 21, 22, 23, 24, 25, 26, 27, 28, 29, 30, 31, 32, 33, 34, 35, 36, 37, 38, 39, 40, 41, 47, 48, 49, 50, 51, 52, 53, 54, 55, 56, 57, 58, 59, 60, 61] (by decide +kernel) (by decide +kernel)
set_option maxRecDepth 20000 in
theorem gX7_mates_X7_matesOf : GoodIn wsX7_mates (wsV RX7 72 RX7 yX7_matesOf wsX7_matesOf) := goodIn_app (goodIn_of _ (by decide +kernel)) ggX7_mates_X7_matesOf
set_option maxRecDepth 20000 in
theorem ggX7_mates_X7_finds : GoodIn wsX7_mates wsX7_finds := goodIn_r _ [45, 46, 1, 47, 48, 49, 50, 51, 52, 53, 54, 55, 56, 57, 58, 59, 60, 61] (by decide +kernel) (by decide +kernel)
set_option maxRecDepth 20000 in
theorem gX7_mates_X7_finds : GoodIn wsX7_mates (wsV RX7 37 RX7 yX7_finds wsX7_finds) := goodIn_app (goodIn_of _ (by decide +kernel)) ggX7_mates_X7_finds
theorem dX7_mates_0 : decode cX7_mates 0 = .ok (.aload_n 0, 1) := by decide +kernel
theorem dX7_mates_1 : decode cX7_mates 1 = .ok (.iload_n 1, 1) := by decide +kernel
theorem dX7_mates_2 : decode cX7_mates 2 = .ok (.invokevirtual 45, 3) := by decide +kernel
theorem dX7_mates_5 : decode cX7_mates 5 = .ok (.ifCond .eq 11, 3) := by decide +kernel
theorem dX7_mates_8 : decode cX7_mates 8 = .ok (.aload_n 0, 1) := by decide +kernel
theorem dX7_mates_9 : decode cX7_mates 9 = .ok (.iload_n 1, 1) := by decide +kernel
theorem dX7_mates_10 : decode cX7_mates 10 = .ok (.invokevirtual 72, 3) := by decide +kernel
theorem dX7_mates_13 : decode cX7_mates 13 = .ok (.goto 9, 3) := by decide +kernel
theorem dX7_mates_16 : decode cX7_mates 16 = .ok (.aload_n 0, 1) := by decide +kernel
theorem dX7_mates_17 : decode cX7_mates 17 = .ok (.ldc 35, 2) := by decide +kernel
theorem dX7_mates_19 : decode cX7_mates 19 = .ok (.invokevirtual 37, 3) := by decide +kernel
theorem dX7_mates_22 : decode cX7_mates 22 = .ok (.ireturn, 1) := by decide +kernel
set_option maxRecDepth 20000 in
theorem ggX7_isRing_X7_it : GoodIn wsX7_isRing wsX7_it := goodIn_r _ [5, 6, 26, 27, 28, 29, 30, 31, 32, 33, 34, 35, 36, 37, 38, 39, 40] (by decide +kernel) (by decide +kernel)
set_option maxRecDepth 20000 in
theorem gX7_isRing_X7_it : GoodIn wsX7_isRing (wsV RX7 49 RX7 yX7_it wsX7_it) := goodIn_app (goodIn_of _ (by decide +kernel)) ggX7_isRing_X7_it
set_option maxRecDepth 20000 in
theorem ggX7_isRing_X7_doesAgree : GoodIn wsX7_isRing wsX7_doesAgree := goodIn_r _ [10, 6, 11, 12, 13, 4, 14, 1, 2, 3, 5, 15, 16, 17, 18, 19, 20, 21, 22, 23, 24, 25, 26, 27, 28, 29, 30, 31, 32, 33, 34, 35, 36, 37, 38, 39, 40] (by decide +kernel) (by decide +kernel)
set_option maxRecDepth 20000 in
theorem gX7_isRing_X7_doesAgree : GoodIn wsX7_isRing (wsV RX7 65 RX7 yX7_doesAgree wsX7_doesAgree) := goodIn_app (goodIn_of _ (by decide +kernel)) ggX7_isRing_X7_doesAgree
theorem dX7_isRing_0 : decode cX7_isRing 0 = .ok (.aload_n 0, 1) := by decide +kernel
theorem dX7_isRing_1 : decode cX7_isRing 1 = .ok (.iload_n 1, 1) := by decide +kernel
theorem dX7_isRing_2 : decode cX7_isRing 2 = .ok (.iconst 1, 1) := by decide +kernel
theorem dX7_isRing_3 : decode cX7_isRing 3 = .ok (.invokevirtual 49, 3) := by decide +kernel
theorem dX7_isRing_6 : decode cX7_isRing 6 = .ok (.istore 4, 2) := by decide +kernel
theorem dX7_isRing_8 : decode cX7_isRing 8 = .ok (.aload_n 0, 1) := by decide +kernel
theorem dX7_isRing_9 : decode cX7_isRing 9 = .ok (.iload_n 2, 1) := by decide +kernel
theorem dX7_isRing_10 : decode cX7_isRing 10 = .ok (.iconst 1, 1) := by decide +kernel
theorem dX7_isRing_11 : decode cX7_isRing 11 = .ok (.invokevirtual 49, 3) := by decide +kernel
theorem dX7_isRing_14 : decode cX7_isRing 14 = .ok (.istore 5, 2) := by decide +kernel
theorem dX7_isRing_16 : decode cX7_isRing 16 = .ok (.aload_n 0, 1) := by decide +kernel
