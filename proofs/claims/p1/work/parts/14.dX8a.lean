theorem dX8_init_0 : decode cX8_init 0 = .ok (.aload_n 0, 1) := by decide +kernel
theorem dX8_init_1 : decode cX8_init 1 = .ok (.invokespecial 1, 3) := by decide +kernel
theorem dX8_init_4 : decode cX8_init 4 = .ok (.aload_n 0, 1) := by decide +kernel
theorem dX8_init_5 : decode cX8_init 5 = .ok (.sipush 172, 3) := by decide +kernel
theorem dX8_init_8 : decode cX8_init 8 = .ok (.newarray .int, 2) := by decide +kernel
theorem dX8_init_10 : decode cX8_init 10 = .ok (.putfield 7, 3) := by decide +kernel
theorem dX8_init_13 : decode cX8_init 13 = .ok (.aload_n 0, 1) := by decide +kernel
theorem dX8_init_14 : decode cX8_init 14 = .ok (.sipush 1376, 3) := by decide +kernel
theorem dX8_init_17 : decode cX8_init 17 = .ok (.newarray .int, 2) := by decide +kernel
theorem dX8_init_19 : decode cX8_init 19 = .ok (.putfield 13, 3) := by decide +kernel
theorem dX8_init_22 : decode cX8_init 22 = .ok (.aload_n 0, 1) := by decide +kernel
theorem dX8_init_23 : decode cX8_init 23 = .ok (.sipush 344, 3) := by decide +kernel
theorem dX8_init_26 : decode cX8_init 26 = .ok (.newarray .int, 2) := by decide +kernel
theorem dX8_init_28 : decode cX8_init 28 = .ok (.putfield 16, 3) := by decide +kernel
theorem dX8_init_31 : decode cX8_init 31 = .ok (.aload_n 0, 1) := by decide +kernel
theorem dX8_init_32 : decode cX8_init 32 = .ok (.iconst 2, 1) := by decide +kernel
theorem dX8_init_33 : decode cX8_init 33 = .ok (.newarray .boolean, 2) := by decide +kernel
theorem dX8_init_35 : decode cX8_init 35 = .ok (.putfield 19, 3) := by decide +kernel
theorem dX8_init_38 : decode cX8_init 38 = .ok (.aload_n 0, 1) := by decide +kernel
theorem dX8_init_39 : decode cX8_init 39 = .ok (.getfield 7, 3) := by decide +kernel
theorem dX8_init_42 : decode cX8_init 42 = .ok (.iconst 1, 1) := by decide +kernel
theorem dX8_init_43 : decode cX8_init 43 = .ok (.bipush 14, 2) := by decide +kernel
theorem dX8_init_45 : decode cX8_init 45 = .ok (.iastore, 1) := by decide +kernel
theorem dX8_init_46 : decode cX8_init 46 = .ok (.aload_n 0, 1) := by decide +kernel
theorem dX8_init_47 : decode cX8_init 47 = .ok (.getfield 7, 3) := by decide +kernel
theorem dX8_init_50 : decode cX8_init 50 = .ok (.iconst 2, 1) := by decide +kernel
theorem dX8_init_51 : decode cX8_init 51 = .ok (.iconst 3, 1) := by decide +kernel
theorem dX8_init_52 : decode cX8_init 52 = .ok (.iastore, 1) := by decide +kernel
theorem dX8_init_53 : decode cX8_init 53 = .ok (.aload_n 0, 1) := by decide +kernel
theorem dX8_init_54 : decode cX8_init 54 = .ok (.getfield 7, 3) := by decide +kernel
theorem dX8_init_57 : decode cX8_init 57 = .ok (.iconst 3, 1) := by decide +kernel
theorem dX8_init_58 : decode cX8_init 58 = .ok (.bipush 64, 2) := by decide +kernel
theorem dX8_init_60 : decode cX8_init 60 = .ok (.iastore, 1) := by decide +kernel
theorem dX8_init_61 : decode cX8_init 61 = .ok (.return_, 1) := by decide +kernel
theorem dX8_in_0 : decode cX8_in 0 = .ok (.lload_n 0, 1) := by decide +kernel
theorem dX8_in_1 : decode cX8_in 1 = .ok (.lload_n 2, 1) := by decide +kernel
theorem dX8_in_2 : decode cX8_in 2 = .ok (.lcmp, 1) := by decide +kernel
theorem dX8_in_3 : decode cX8_in 3 = .ok (.ifCond .lt 14, 3) := by decide +kernel
theorem dX8_in_6 : decode cX8_in 6 = .ok (.lload_n 0, 1) := by decide +kernel
theorem dX8_in_7 : decode cX8_in 7 = .ok (.lload 4, 2) := by decide +kernel
theorem dX8_in_9 : decode cX8_in 9 = .ok (.lcmp, 1) := by decide +kernel
theorem dX8_in_10 : decode cX8_in 10 = .ok (.ifCond .gt 7, 3) := by decide +kernel
theorem dX8_in_13 : decode cX8_in 13 = .ok (.iconst 1, 1) := by decide +kernel
theorem dX8_in_14 : decode cX8_in 14 = .ok (.goto 4, 3) := by decide +kernel
theorem dX8_in_17 : decode cX8_in 17 = .ok (.iconst 0, 1) := by decide +kernel
theorem dX8_in_18 : decode cX8_in 18 = .ok (.ireturn, 1) := by decide +kernel
theorem dX8_has_0 : decode cX8_has 0 = .ok (.iload_n 0, 1) := by decide +kernel
theorem dX8_has_1 : decode cX8_has 1 = .ok (.iload_n 1, 1) := by decide +kernel
theorem dX8_has_2 : decode cX8_has 2 = .ok (.ishr, 1) := by decide +kernel
theorem dX8_has_3 : decode cX8_has 3 = .ok (.iconst 1, 1) := by decide +kernel
theorem dX8_has_4 : decode cX8_has 4 = .ok (.iand, 1) := by decide +kernel
theorem dX8_has_5 : decode cX8_has 5 = .ok (.iconst 1, 1) := by decide +kernel
theorem dX8_has_6 : decode cX8_has 6 = .ok (.if_icmp .ne 7, 3) := by decide +kernel
theorem dX8_has_9 : decode cX8_has 9 = .ok (.iconst 1, 1) := by decide +kernel
theorem dX8_has_10 : decode cX8_has 10 = .ok (.goto 4, 3) := by decide +kernel
theorem dX8_has_13 : decode cX8_has 13 = .ok (.iconst 0, 1) := by decide +kernel
theorem dX8_has_14 : decode cX8_has 14 = .ok (.ireturn, 1) := by decide +kernel
theorem dX8_holdAt_0 : decode cX8_holdAt 0 = .ok (.aload_n 0, 1) := by decide +kernel
theorem dX8_holdAt_1 : decode cX8_holdAt 1 = .ok (.getfield 7, 3) := by decide +kernel
theorem dX8_holdAt_4 : decode cX8_holdAt 4 = .ok (.bipush 88, 2) := by decide +kernel
theorem dX8_holdAt_6 : decode cX8_holdAt 6 = .ok (.bipush 7, 2) := by decide +kernel
theorem dX8_holdAt_8 : decode cX8_holdAt 8 = .ok (.iload_n 1, 1) := by decide +kernel
theorem dX8_holdAt_9 : decode cX8_holdAt 9 = .ok (.imul, 1) := by decide +kernel
theorem dX8_holdAt_10 : decode cX8_holdAt 10 = .ok (.iadd, 1) := by decide +kernel
theorem dX8_holdAt_11 : decode cX8_holdAt 11 = .ok (.iload_n 2, 1) := by decide +kernel
theorem dX8_holdAt_12 : decode cX8_holdAt 12 = .ok (.iadd, 1) := by decide +kernel
theorem dX8_holdAt_13 : decode cX8_holdAt 13 = .ok (.iaload, 1) := by decide +kernel
theorem dX8_holdAt_14 : decode cX8_holdAt 14 = .ok (.ireturn, 1) := by decide +kernel
theorem dX8_setCopy_0 : decode cX8_setCopy 0 = .ok (.aload_n 0, 1) := by decide +kernel
theorem dX8_setCopy_1 : decode cX8_setCopy 1 = .ok (.getfield 7, 3) := by decide +kernel
theorem dX8_setCopy_4 : decode cX8_setCopy 4 = .ok (.bipush 8, 2) := by decide +kernel
theorem dX8_setCopy_6 : decode cX8_setCopy 6 = .ok (.iconst 5, 1) := by decide +kernel
theorem dX8_setCopy_7 : decode cX8_setCopy 7 = .ok (.iload_n 1, 1) := by decide +kernel
theorem dX8_setCopy_8 : decode cX8_setCopy 8 = .ok (.imul, 1) := by decide +kernel
theorem dX8_setCopy_9 : decode cX8_setCopy 9 = .ok (.iadd, 1) := by decide +kernel
theorem dX8_setCopy_10 : decode cX8_setCopy 10 = .ok (.iconst 2, 1) := by decide +kernel
theorem dX8_setCopy_11 : decode cX8_setCopy 11 = .ok (.iadd, 1) := by decide +kernel
theorem dX8_setCopy_12 : decode cX8_setCopy 12 = .ok (.iload_n 2, 1) := by decide +kernel
theorem dX8_setCopy_13 : decode cX8_setCopy 13 = .ok (.iastore, 1) := by decide +kernel
theorem dX8_setCopy_14 : decode cX8_setCopy 14 = .ok (.aload_n 0, 1) := by decide +kernel
theorem dX8_setCopy_15 : decode cX8_setCopy 15 = .ok (.getfield 7, 3) := by decide +kernel
theorem dX8_setCopy_18 : decode cX8_setCopy 18 = .ok (.bipush 8, 2) := by decide +kernel
theorem dX8_setCopy_20 : decode cX8_setCopy 20 = .ok (.iconst 5, 1) := by decide +kernel
theorem dX8_setCopy_21 : decode cX8_setCopy 21 = .ok (.iload_n 1, 1) := by decide +kernel
theorem dX8_setCopy_22 : decode cX8_setCopy 22 = .ok (.imul, 1) := by decide +kernel
theorem dX8_setCopy_23 : decode cX8_setCopy 23 = .ok (.iadd, 1) := by decide +kernel
theorem dX8_setCopy_24 : decode cX8_setCopy 24 = .ok (.iconst 3, 1) := by decide +kernel
theorem dX8_setCopy_25 : decode cX8_setCopy 25 = .ok (.iadd, 1) := by decide +kernel
theorem dX8_setCopy_26 : decode cX8_setCopy 26 = .ok (.iload_n 3, 1) := by decide +kernel
theorem dX8_setCopy_27 : decode cX8_setCopy 27 = .ok (.iastore, 1) := by decide +kernel
theorem dX8_setCopy_28 : decode cX8_setCopy 28 = .ok (.aload_n 0, 1) := by decide +kernel
theorem dX8_setCopy_29 : decode cX8_setCopy 29 = .ok (.getfield 7, 3) := by decide +kernel
theorem dX8_setCopy_32 : decode cX8_setCopy 32 = .ok (.bipush 8, 2) := by decide +kernel
theorem dX8_setCopy_34 : decode cX8_setCopy 34 = .ok (.iconst 5, 1) := by decide +kernel
theorem dX8_setCopy_35 : decode cX8_setCopy 35 = .ok (.iload_n 1, 1) := by decide +kernel
theorem dX8_setCopy_36 : decode cX8_setCopy 36 = .ok (.imul, 1) := by decide +kernel
theorem dX8_setCopy_37 : decode cX8_setCopy 37 = .ok (.iadd, 1) := by decide +kernel
theorem dX8_setCopy_38 : decode cX8_setCopy 38 = .ok (.iconst 4, 1) := by decide +kernel
theorem dX8_setCopy_39 : decode cX8_setCopy 39 = .ok (.iadd, 1) := by decide +kernel
theorem dX8_setCopy_40 : decode cX8_setCopy 40 = .ok (.iload 4, 2) := by decide +kernel
theorem dX8_setCopy_42 : decode cX8_setCopy 42 = .ok (.iastore, 1) := by decide +kernel
theorem dX8_setCopy_43 : decode cX8_setCopy 43 = .ok (.return_, 1) := by decide +kernel
set_option maxRecDepth 20000 in
theorem ggX8_isCopy_X8_in : GoodIn wsX8_isCopy wsX8_in := goodIn_r _ [5] (by decide +kernel) (by decide +kernel)
set_option maxRecDepth 20000 in
theorem gX8_isCopy_X8_in : GoodIn wsX8_isCopy (va_wsS RX8 23 yX8_in wsX8_in) := goodIn_app (goodIn_of _ (by decide +kernel)) ggX8_isCopy_X8_in
theorem dX8_isCopy_0 : decode cX8_isCopy 0 = .ok (.iload_n 1, 1) := by decide +kernel
theorem dX8_isCopy_1 : decode cX8_isCopy 1 = .ok (.i2l, 1) := by decide +kernel
theorem dX8_isCopy_2 : decode cX8_isCopy 2 = .ok (.lconst 0, 1) := by decide +kernel
theorem dX8_isCopy_3 : decode cX8_isCopy 3 = .ok (.aload_n 0, 1) := by decide +kernel
theorem dX8_isCopy_4 : decode cX8_isCopy 4 = .ok (.getfield 7, 3) := by decide +kernel
theorem dX8_isCopy_7 : decode cX8_isCopy 7 = .ok (.iconst 4, 1) := by decide +kernel
theorem dX8_isCopy_8 : decode cX8_isCopy 8 = .ok (.iaload, 1) := by decide +kernel
theorem dX8_isCopy_9 : decode cX8_isCopy 9 = .ok (.iconst 1, 1) := by decide +kernel
theorem dX8_isCopy_10 : decode cX8_isCopy 10 = .ok (.isub, 1) := by decide +kernel
theorem dX8_isCopy_11 : decode cX8_isCopy 11 = .ok (.i2l, 1) := by decide +kernel
theorem dX8_isCopy_12 : decode cX8_isCopy 12 = .ok (.invokestatic 23, 3) := by decide +kernel
theorem dX8_isCopy_15 : decode cX8_isCopy 15 = .ok (.ireturn, 1) := by decide +kernel
set_option maxRecDepth 20000 in
theorem ggX8_isBranch_X8_in : GoodIn wsX8_isBranch wsX8_in := goodIn_r _ [5] (by decide +kernel) (by decide +kernel)
set_option maxRecDepth 20000 in
theorem gX8_isBranch_X8_in : GoodIn wsX8_isBranch (va_wsS RX8 23 yX8_in wsX8_in) := goodIn_app (goodIn_of _ (by decide +kernel)) ggX8_isBranch_X8_in
theorem dX8_isBranch_0 : decode cX8_isBranch 0 = .ok (.iload_n 0, 1) := by decide +kernel
theorem dX8_isBranch_1 : decode cX8_isBranch 1 = .ok (.i2l, 1) := by decide +kernel
theorem dX8_isBranch_2 : decode cX8_isBranch 2 = .ok (.lconst 0, 1) := by decide +kernel
theorem dX8_isBranch_3 : decode cX8_isBranch 3 = .ok (.ldc2_w 27, 3) := by decide +kernel
theorem dX8_isBranch_6 : decode cX8_isBranch 6 = .ok (.invokestatic 23, 3) := by decide +kernel
theorem dX8_isBranch_9 : decode cX8_isBranch 9 = .ok (.ireturn, 1) := by decide +kernel
set_option maxRecDepth 20000 in
theorem ggX8_isTitle_X8_in : GoodIn wsX8_isTitle wsX8_in := goodIn_r _ [5] (by decide +kernel) (by decide +kernel)
set_option maxRecDepth 20000 in
theorem gX8_isTitle_X8_in : GoodIn wsX8_isTitle (va_wsS RX8 23 yX8_in wsX8_in) := goodIn_app (goodIn_of _ (by decide +kernel)) ggX8_isTitle_X8_in
theorem dX8_isTitle_0 : decode cX8_isTitle 0 = .ok (.iload_n 0, 1) := by decide +kernel
theorem dX8_isTitle_1 : decode cX8_isTitle 1 = .ok (.i2l, 1) := by decide +kernel
theorem dX8_isTitle_2 : decode cX8_isTitle 2 = .ok (.lconst 0, 1) := by decide +kernel
theorem dX8_isTitle_3 : decode cX8_isTitle 3 = .ok (.ldc2_w 29, 3) := by decide +kernel
theorem dX8_isTitle_6 : decode cX8_isTitle 6 = .ok (.invokestatic 23, 3) := by decide +kernel
theorem dX8_isTitle_9 : decode cX8_isTitle 9 = .ok (.ireturn, 1) := by decide +kernel
set_option maxRecDepth 20000 in
theorem ggX8_isReader_X8_in : GoodIn wsX8_isReader wsX8_in := goodIn_r _ [5] (by decide +kernel) (by decide +kernel)
set_option maxRecDepth 20000 in
theorem gX8_isReader_X8_in : GoodIn wsX8_isReader (va_wsS RX8 23 yX8_in wsX8_in) := goodIn_app (goodIn_of _ (by decide +kernel)) ggX8_isReader_X8_in
theorem dX8_isReader_0 : decode cX8_isReader 0 = .ok (.iload_n 0, 1) := by decide +kernel
theorem dX8_isReader_1 : decode cX8_isReader 1 = .ok (.i2l, 1) := by decide +kernel
theorem dX8_isReader_2 : decode cX8_isReader 2 = .ok (.lconst 0, 1) := by decide +kernel
theorem dX8_isReader_3 : decode cX8_isReader 3 = .ok (.ldc2_w 31, 3) := by decide +kernel
theorem dX8_isReader_6 : decode cX8_isReader 6 = .ok (.invokestatic 23, 3) := by decide +kernel
theorem dX8_isReader_9 : decode cX8_isReader 9 = .ok (.ireturn, 1) := by decide +kernel
set_option maxRecDepth 20000 in
theorem ggX8_isClosed_X8_has : GoodIn wsX8_isClosed wsX8_has := goodIn_r _ [5] (by decide +kernel) (by decide +kernel)
set_option maxRecDepth 20000 in
theorem gX8_isClosed_X8_has : GoodIn wsX8_isClosed (va_wsS RX8 33 yX8_has wsX8_has) := goodIn_app (goodIn_of _ (by decide +kernel)) ggX8_isClosed_X8_has
theorem dX8_isClosed_0 : decode cX8_isClosed 0 = .ok (.aload_n 0, 1) := by decide +kernel
theorem dX8_isClosed_1 : decode cX8_isClosed 1 = .ok (.getfield 7, 3) := by decide +kernel
theorem dX8_isClosed_4 : decode cX8_isClosed 4 = .ok (.iconst 3, 1) := by decide +kernel
theorem dX8_isClosed_5 : decode cX8_isClosed 5 = .ok (.iaload, 1) := by decide +kernel
theorem dX8_isClosed_6 : decode cX8_isClosed 6 = .ok (.iload_n 1, 1) := by decide +kernel
theorem dX8_isClosed_7 : decode cX8_isClosed 7 = .ok (.bipush 7, 2) := by decide +kernel
theorem dX8_isClosed_9 : decode cX8_isClosed 9 = .ok (.irem, 1) := by decide +kernel
theorem dX8_isClosed_10 : decode cX8_isClosed 10 = .ok (.invokestatic 33, 3) := by decide +kernel
theorem dX8_isClosed_13 : decode cX8_isClosed 13 = .ok (.ireturn, 1) := by decide +kernel
set_option maxRecDepth 20000 in
theorem ggX8_findHold_X8_holdAt : GoodIn wsX8_findHold wsX8_holdAt := goodIn_r _ [6, 1, 7, 8, 9, 10, 11, 12] (by decide +kernel) (by decide +kernel)
set_option maxRecDepth 20000 in
theorem gX8_findHold_X8_holdAt : GoodIn wsX8_findHold (wsV RX8 41 RX8 yX8_holdAt wsX8_holdAt) := goodIn_app (goodIn_of _ (by decide +kernel)) ggX8_findHold_X8_holdAt
theorem dX8_findHold_0 : decode cX8_findHold 0 = .ok (.iconst (-1), 1) := by decide +kernel
theorem dX8_findHold_1 : decode cX8_findHold 1 = .ok (.istore_n 2, 1) := by decide +kernel
theorem dX8_findHold_2 : decode cX8_findHold 2 = .ok (.iconst 0, 1) := by decide +kernel
theorem dX8_findHold_3 : decode cX8_findHold 3 = .ok (.istore_n 3, 1) := by decide +kernel
theorem dX8_findHold_4 : decode cX8_findHold 4 = .ok (.iload_n 3, 1) := by decide +kernel
theorem dX8_findHold_5 : decode cX8_findHold 5 = .ok (.aload_n 0, 1) := by decide +kernel
theorem dX8_findHold_6 : decode cX8_findHold 6 = .ok (.getfield 7, 3) := by decide +kernel
theorem dX8_findHold_9 : decode cX8_findHold 9 = .ok (.iconst 5, 1) := by decide +kernel
theorem dX8_findHold_10 : decode cX8_findHold 10 = .ok (.iaload, 1) := by decide +kernel
theorem dX8_findHold_11 : decode cX8_findHold 11 = .ok (.if_icmp .ge 25, 3) := by decide +kernel
theorem dX8_findHold_14 : decode cX8_findHold 14 = .ok (.aload_n 0, 1) := by decide +kernel
theorem dX8_findHold_15 : decode cX8_findHold 15 = .ok (.iload_n 3, 1) := by decide +kernel
theorem dX8_findHold_16 : decode cX8_findHold 16 = .ok (.iconst 0, 1) := by decide +kernel
theorem dX8_findHold_17 : decode cX8_findHold 17 = .ok (.invokevirtual 41, 3) := by decide +kernel
theorem dX8_findHold_20 : decode cX8_findHold 20 = .ok (.iload_n 1, 1) := by decide +kernel
theorem dX8_findHold_21 : decode cX8_findHold 21 = .ok (.if_icmp .ne 7, 3) := by decide +kernel
theorem dX8_findHold_24 : decode cX8_findHold 24 = .ok (.iload_n 3, 1) := by decide +kernel
theorem dX8_findHold_25 : decode cX8_findHold 25 = .ok (.goto 4, 3) := by decide +kernel
theorem dX8_findHold_28 : decode cX8_findHold 28 = .ok (.iload_n 2, 1) := by decide +kernel
theorem dX8_findHold_29 : decode cX8_findHold 29 = .ok (.istore_n 2, 1) := by decide +kernel
theorem dX8_findHold_30 : decode cX8_findHold 30 = .ok (.iinc 3 1, 3) := by decide +kernel
theorem dX8_findHold_33 : decode cX8_findHold 33 = .ok (.goto (-29), 3) := by decide +kernel
theorem dX8_findHold_36 : decode cX8_findHold 36 = .ok (.iload_n 2, 1) := by decide +kernel
theorem dX8_findHold_37 : decode cX8_findHold 37 = .ok (.ireturn, 1) := by decide +kernel
set_option maxRecDepth 20000 in
theorem ggX8_isAhead_X8_holdAt : GoodIn wsX8_isAhead wsX8_holdAt := goodIn_r _ [5, 6, 7, 8, 9, 10, 11, 12] (by decide +kernel) (by decide +kernel)
set_option maxRecDepth 20000 in
theorem gX8_isAhead_X8_holdAt : GoodIn wsX8_isAhead (wsV RX8 41 RX8 yX8_holdAt wsX8_holdAt) := goodIn_app (goodIn_of _ (by decide +kernel)) ggX8_isAhead_X8_holdAt
theorem dX8_isAhead_0 : decode cX8_isAhead 0 = .ok (.aload_n 0, 1) := by decide +kernel
theorem dX8_isAhead_1 : decode cX8_isAhead 1 = .ok (.iload_n 1, 1) := by decide +kernel
theorem dX8_isAhead_2 : decode cX8_isAhead 2 = .ok (.iconst 4, 1) := by decide +kernel
theorem dX8_isAhead_3 : decode cX8_isAhead 3 = .ok (.invokevirtual 41, 3) := by decide +kernel
theorem dX8_isAhead_6 : decode cX8_isAhead 6 = .ok (.aload_n 0, 1) := by decide +kernel
theorem dX8_isAhead_7 : decode cX8_isAhead 7 = .ok (.iload_n 2, 1) := by decide +kernel
theorem dX8_isAhead_8 : decode cX8_isAhead 8 = .ok (.iconst 4, 1) := by decide +kernel
theorem dX8_isAhead_9 : decode cX8_isAhead 9 = .ok (.invokevirtual 41, 3) := by decide +kernel
theorem dX8_isAhead_12 : decode cX8_isAhead 12 = .ok (.if_icmp .gt 33, 3) := by decide +kernel
theorem dX8_isAhead_15 : decode cX8_isAhead 15 = .ok (.aload_n 0, 1) := by decide +kernel
theorem dX8_isAhead_16 : decode cX8_isAhead 16 = .ok (.iload_n 1, 1) := by decide +kernel
theorem dX8_isAhead_17 : decode cX8_isAhead 17 = .ok (.iconst 4, 1) := by decide +kernel
theorem dX8_isAhead_18 : decode cX8_isAhead 18 = .ok (.invokevirtual 41, 3) := by decide +kernel
theorem dX8_isAhead_21 : decode cX8_isAhead 21 = .ok (.aload_n 0, 1) := by decide +kernel
theorem dX8_isAhead_22 : decode cX8_isAhead 22 = .ok (.iload_n 2, 1) := by decide +kernel
theorem dX8_isAhead_23 : decode cX8_isAhead 23 = .ok (.iconst 4, 1) := by decide +kernel
theorem dX8_isAhead_24 : decode cX8_isAhead 24 = .ok (.invokevirtual 41, 3) := by decide +kernel
theorem dX8_isAhead_27 : decode cX8_isAhead 27 = .ok (.if_icmp .ne 22, 3) := by decide +kernel
theorem dX8_isAhead_30 : decode cX8_isAhead 30 = .ok (.aload_n 0, 1) := by decide +kernel
theorem dX8_isAhead_31 : decode cX8_isAhead 31 = .ok (.iload_n 1, 1) := by decide +kernel
theorem dX8_isAhead_32 : decode cX8_isAhead 32 = .ok (.iconst 0, 1) := by decide +kernel
theorem dX8_isAhead_33 : decode cX8_isAhead 33 = .ok (.invokevirtual 41, 3) := by decide +kernel
theorem dX8_isAhead_36 : decode cX8_isAhead 36 = .ok (.aload_n 0, 1) := by decide +kernel
theorem dX8_isAhead_37 : decode cX8_isAhead 37 = .ok (.iload_n 2, 1) := by decide +kernel
theorem dX8_isAhead_38 : decode cX8_isAhead 38 = .ok (.iconst 0, 1) := by decide +kernel
theorem dX8_isAhead_39 : decode cX8_isAhead 39 = .ok (.invokevirtual 41, 3) := by decide +kernel
theorem dX8_isAhead_42 : decode cX8_isAhead 42 = .ok (.if_icmp .ge 7, 3) := by decide +kernel
theorem dX8_isAhead_45 : decode cX8_isAhead 45 = .ok (.iconst 1, 1) := by decide +kernel
theorem dX8_isAhead_46 : decode cX8_isAhead 46 = .ok (.goto 4, 3) := by decide +kernel
theorem dX8_isAhead_49 : decode cX8_isAhead 49 = .ok (.iconst 0, 1) := by decide +kernel
theorem dX8_isAhead_50 : decode cX8_isAhead 50 = .ok (.ireturn, 1) := by decide +kernel
set_option maxRecDepth 20000 in
theorem ggX8_waitsFor_X8_holdAt : GoodIn wsX8_waitsFor wsX8_holdAt := goodIn_r _ [5, 6, 7, 8, 9, 10, 11, 12] (by decide +kernel) (by decide +kernel)
set_option maxRecDepth 20000 in
theorem gX8_waitsFor_X8_holdAt : GoodIn wsX8_waitsFor (wsV RX8 41 RX8 yX8_holdAt wsX8_holdAt) := goodIn_app (goodIn_of _ (by decide +kernel)) ggX8_waitsFor_X8_holdAt
theorem dX8_waitsFor_0 : decode cX8_waitsFor 0 = .ok (.aload_n 0, 1) := by decide +kernel
theorem dX8_waitsFor_1 : decode cX8_waitsFor 1 = .ok (.iload_n 1, 1) := by decide +kernel
theorem dX8_waitsFor_2 : decode cX8_waitsFor 2 = .ok (.iconst 2, 1) := by decide +kernel
theorem dX8_waitsFor_3 : decode cX8_waitsFor 3 = .ok (.invokevirtual 41, 3) := by decide +kernel
theorem dX8_waitsFor_6 : decode cX8_waitsFor 6 = .ok (.iload_n 2, 1) := by decide +kernel
theorem dX8_waitsFor_7 : decode cX8_waitsFor 7 = .ok (.if_icmp .ne 17, 3) := by decide +kernel
theorem dX8_waitsFor_10 : decode cX8_waitsFor 10 = .ok (.aload_n 0, 1) := by decide +kernel
theorem dX8_waitsFor_11 : decode cX8_waitsFor 11 = .ok (.iload_n 1, 1) := by decide +kernel
theorem dX8_waitsFor_12 : decode cX8_waitsFor 12 = .ok (.bipush 6, 2) := by decide +kernel
theorem dX8_waitsFor_14 : decode cX8_waitsFor 14 = .ok (.invokevirtual 41, 3) := by decide +kernel
theorem dX8_waitsFor_17 : decode cX8_waitsFor 17 = .ok (.ifCond .ne 7, 3) := by decide +kernel
theorem dX8_waitsFor_20 : decode cX8_waitsFor 20 = .ok (.iconst 1, 1) := by decide +kernel
theorem dX8_waitsFor_21 : decode cX8_waitsFor 21 = .ok (.goto 4, 3) := by decide +kernel
theorem dX8_waitsFor_24 : decode cX8_waitsFor 24 = .ok (.iconst 0, 1) := by decide +kernel
theorem dX8_waitsFor_25 : decode cX8_waitsFor 25 = .ok (.ireturn, 1) := by decide +kernel
set_option maxRecDepth 20000 in
theorem ggX8_firstOf_X8_waitsFor : GoodIn wsX8_firstOf wsX8_waitsFor := goodIn_r _ [6, 7, 8, 9, 5, 10, 1, 15, 16, 17, 18, 19, 20] (by decide +kernel) (by decide +kernel)
set_option maxRecDepth 20000 in
theorem gX8_firstOf_X8_waitsFor : GoodIn wsX8_firstOf (wsV RX8 45 RX8 yX8_waitsFor wsX8_waitsFor) := goodIn_app (goodIn_of _ (by decide +kernel)) ggX8_firstOf_X8_waitsFor
set_option maxRecDepth 20000 in
theorem ggX8_firstOf_X8_isAhead : GoodIn wsX8_firstOf wsX8_isAhead := goodIn_r _ [14, 7, 8, 9, 5, 10, 1, 15, 16, 17, 18, 19, 20] (by decide +kernel) (by decide +kernel)
set_option maxRecDepth 20000 in
theorem gX8_firstOf_X8_isAhead : GoodIn wsX8_firstOf (wsV RX8 48 RX8 yX8_isAhead wsX8_isAhead) := goodIn_app (goodIn_of _ (by decide +kernel)) ggX8_firstOf_X8_isAhead
theorem dX8_firstOf_0 : decode cX8_firstOf 0 = .ok (.iconst (-1), 1) := by decide +kernel
theorem dX8_firstOf_1 : decode cX8_firstOf 1 = .ok (.istore_n 2, 1) := by decide +kernel
theorem dX8_firstOf_2 : decode cX8_firstOf 2 = .ok (.iconst 0, 1) := by decide +kernel
theorem dX8_firstOf_3 : decode cX8_firstOf 3 = .ok (.istore_n 3, 1) := by decide +kernel
theorem dX8_firstOf_4 : decode cX8_firstOf 4 = .ok (.iload_n 3, 1) := by decide +kernel
theorem dX8_firstOf_5 : decode cX8_firstOf 5 = .ok (.aload_n 0, 1) := by decide +kernel
theorem dX8_firstOf_6 : decode cX8_firstOf 6 = .ok (.getfield 7, 3) := by decide +kernel
theorem dX8_firstOf_9 : decode cX8_firstOf 9 = .ok (.iconst 5, 1) := by decide +kernel
theorem dX8_firstOf_10 : decode cX8_firstOf 10 = .ok (.iaload, 1) := by decide +kernel
theorem dX8_firstOf_11 : decode cX8_firstOf 11 = .ok (.if_icmp .ge 37, 3) := by decide +kernel
theorem dX8_firstOf_14 : decode cX8_firstOf 14 = .ok (.aload_n 0, 1) := by decide +kernel
theorem dX8_firstOf_15 : decode cX8_firstOf 15 = .ok (.iload_n 3, 1) := by decide +kernel
theorem dX8_firstOf_16 : decode cX8_firstOf 16 = .ok (.iload_n 1, 1) := by decide +kernel
theorem dX8_firstOf_17 : decode cX8_firstOf 17 = .ok (.invokevirtual 45, 3) := by decide +kernel
theorem dX8_firstOf_20 : decode cX8_firstOf 20 = .ok (.ifCond .eq 20, 3) := by decide +kernel
theorem dX8_firstOf_23 : decode cX8_firstOf 23 = .ok (.iload_n 2, 1) := by decide +kernel
theorem dX8_firstOf_24 : decode cX8_firstOf 24 = .ok (.ifCond .lt 12, 3) := by decide +kernel
theorem dX8_firstOf_27 : decode cX8_firstOf 27 = .ok (.aload_n 0, 1) := by decide +kernel
theorem dX8_firstOf_28 : decode cX8_firstOf 28 = .ok (.iload_n 3, 1) := by decide +kernel
theorem dX8_firstOf_29 : decode cX8_firstOf 29 = .ok (.iload_n 2, 1) := by decide +kernel
theorem dX8_firstOf_30 : decode cX8_firstOf 30 = .ok (.invokevirtual 48, 3) := by decide +kernel
theorem dX8_firstOf_33 : decode cX8_firstOf 33 = .ok (.ifCond .eq 7, 3) := by decide +kernel
theorem dX8_firstOf_36 : decode cX8_firstOf 36 = .ok (.iload_n 3, 1) := by decide +kernel
theorem dX8_firstOf_37 : decode cX8_firstOf 37 = .ok (.goto 4, 3) := by decide +kernel
theorem dX8_firstOf_40 : decode cX8_firstOf 40 = .ok (.iload_n 2, 1) := by decide +kernel
theorem dX8_firstOf_41 : decode cX8_firstOf 41 = .ok (.istore_n 2, 1) := by decide +kernel
theorem dX8_firstOf_42 : decode cX8_firstOf 42 = .ok (.iinc 3 1, 3) := by decide +kernel
theorem dX8_firstOf_45 : decode cX8_firstOf 45 = .ok (.goto (-41), 3) := by decide +kernel
theorem dX8_firstOf_48 : decode cX8_firstOf 48 = .ok (.iload_n 2, 1) := by decide +kernel
theorem dX8_firstOf_49 : decode cX8_firstOf 49 = .ok (.ireturn, 1) := by decide +kernel
set_option maxRecDepth 20000 in
theorem ggX8_rowOf_X8_waitsFor : GoodIn wsX8_rowOf wsX8_waitsFor := goodIn_r _ [6, 7, 8, 9, 5, 10, 1, 11, 12, 13, 14, 15, 16] (by decide +kernel) (by decide +kernel)
set_option maxRecDepth 20000 in
theorem gX8_rowOf_X8_waitsFor : GoodIn wsX8_rowOf (wsV RX8 45 RX8 yX8_waitsFor wsX8_waitsFor) := goodIn_app (goodIn_of _ (by decide +kernel)) ggX8_rowOf_X8_waitsFor
theorem dX8_rowOf_0 : decode cX8_rowOf 0 = .ok (.iconst 0, 1) := by decide +kernel
theorem dX8_rowOf_1 : decode cX8_rowOf 1 = .ok (.istore_n 2, 1) := by decide +kernel
theorem dX8_rowOf_2 : decode cX8_rowOf 2 = .ok (.iconst 0, 1) := by decide +kernel
theorem dX8_rowOf_3 : decode cX8_rowOf 3 = .ok (.istore_n 3, 1) := by decide +kernel
theorem dX8_rowOf_4 : decode cX8_rowOf 4 = .ok (.iload_n 3, 1) := by decide +kernel
theorem dX8_rowOf_5 : decode cX8_rowOf 5 = .ok (.aload_n 0, 1) := by decide +kernel
theorem dX8_rowOf_6 : decode cX8_rowOf 6 = .ok (.getfield 7, 3) := by decide +kernel
theorem dX8_rowOf_9 : decode cX8_rowOf 9 = .ok (.iconst 5, 1) := by decide +kernel
theorem dX8_rowOf_10 : decode cX8_rowOf 10 = .ok (.iaload, 1) := by decide +kernel
theorem dX8_rowOf_11 : decode cX8_rowOf 11 = .ok (.if_icmp .ge 26, 3) := by decide +kernel
theorem dX8_rowOf_14 : decode cX8_rowOf 14 = .ok (.iload_n 2, 1) := by decide +kernel
theorem dX8_rowOf_15 : decode cX8_rowOf 15 = .ok (.aload_n 0, 1) := by decide +kernel
theorem dX8_rowOf_16 : decode cX8_rowOf 16 = .ok (.iload_n 3, 1) := by decide +kernel
theorem dX8_rowOf_17 : decode cX8_rowOf 17 = .ok (.iload_n 1, 1) := by decide +kernel
theorem dX8_rowOf_18 : decode cX8_rowOf 18 = .ok (.invokevirtual 45, 3) := by decide +kernel
theorem dX8_rowOf_21 : decode cX8_rowOf 21 = .ok (.ifCond .eq 7, 3) := by decide +kernel
theorem dX8_rowOf_24 : decode cX8_rowOf 24 = .ok (.iconst 1, 1) := by decide +kernel
theorem dX8_rowOf_25 : decode cX8_rowOf 25 = .ok (.goto 4, 3) := by decide +kernel
theorem dX8_rowOf_28 : decode cX8_rowOf 28 = .ok (.iconst 0, 1) := by decide +kernel
theorem dX8_rowOf_29 : decode cX8_rowOf 29 = .ok (.iadd, 1) := by decide +kernel
theorem dX8_rowOf_30 : decode cX8_rowOf 30 = .ok (.istore_n 2, 1) := by decide +kernel
theorem dX8_rowOf_31 : decode cX8_rowOf 31 = .ok (.iinc 3 1, 3) := by decide +kernel
theorem dX8_rowOf_34 : decode cX8_rowOf 34 = .ok (.goto (-30), 3) := by decide +kernel
theorem dX8_rowOf_37 : decode cX8_rowOf 37 = .ok (.iload_n 2, 1) := by decide +kernel
theorem dX8_rowOf_38 : decode cX8_rowOf 38 = .ok (.ireturn, 1) := by decide +kernel
theorem dX8_nearest_0 : decode cX8_nearest 0 = .ok (.iconst (-1), 1) := by decide +kernel
theorem dX8_nearest_1 : decode cX8_nearest 1 = .ok (.istore_n 3, 1) := by decide +kernel
theorem dX8_nearest_2 : decode cX8_nearest 2 = .ok (.iconst 0, 1) := by decide +kernel
theorem dX8_nearest_3 : decode cX8_nearest 3 = .ok (.istore 4, 2) := by decide +kernel
theorem dX8_nearest_5 : decode cX8_nearest 5 = .ok (.iload 4, 2) := by decide +kernel
theorem dX8_nearest_7 : decode cX8_nearest 7 = .ok (.aload_n 0, 1) := by decide +kernel
theorem dX8_nearest_8 : decode cX8_nearest 8 = .ok (.getfield 7, 3) := by decide +kernel
theorem dX8_nearest_11 : decode cX8_nearest 11 = .ok (.iconst 4, 1) := by decide +kernel
theorem dX8_nearest_12 : decode cX8_nearest 12 = .ok (.iaload, 1) := by decide +kernel
theorem dX8_nearest_13 : decode cX8_nearest 13 = .ok (.if_icmp .ge 89, 3) := by decide +kernel
theorem dX8_nearest_16 : decode cX8_nearest 16 = .ok (.aload_n 0, 1) := by decide +kernel
theorem dX8_nearest_17 : decode cX8_nearest 17 = .ok (.iload 4, 2) := by decide +kernel
theorem dX8_nearest_19 : decode cX8_nearest 19 = .ok (.iconst 0, 1) := by decide +kernel
theorem dX8_nearest_20 : decode cX8_nearest 20 = .ok (.invokevirtual 51, 3) := by decide +kernel
theorem dX8_nearest_23 : decode cX8_nearest 23 = .ok (.iload_n 1, 1) := by decide +kernel
theorem dX8_nearest_24 : decode cX8_nearest 24 = .ok (.if_icmp .ne 17, 3) := by decide +kernel
theorem dX8_nearest_27 : decode cX8_nearest 27 = .ok (.aload_n 0, 1) := by decide +kernel
theorem dX8_nearest_28 : decode cX8_nearest 28 = .ok (.iload 4, 2) := by decide +kernel
theorem dX8_nearest_30 : decode cX8_nearest 30 = .ok (.iconst 2, 1) := by decide +kernel
theorem dX8_nearest_31 : decode cX8_nearest 31 = .ok (.invokevirtual 51, 3) := by decide +kernel
theorem dX8_nearest_34 : decode cX8_nearest 34 = .ok (.ifCond .ne 7, 3) := by decide +kernel
theorem dX8_nearest_37 : decode cX8_nearest 37 = .ok (.iconst 1, 1) := by decide +kernel
theorem dX8_nearest_38 : decode cX8_nearest 38 = .ok (.goto 4, 3) := by decide +kernel
theorem dX8_nearest_41 : decode cX8_nearest 41 = .ok (.iconst 0, 1) := by decide +kernel
theorem dX8_nearest_42 : decode cX8_nearest 42 = .ok (.istore 5, 2) := by decide +kernel
theorem dX8_nearest_44 : decode cX8_nearest 44 = .ok (.iload_n 3, 1) := by decide +kernel
theorem dX8_nearest_45 : decode cX8_nearest 45 = .ok (.ifCond .lt 27, 3) := by decide +kernel
theorem dX8_nearest_48 : decode cX8_nearest 48 = .ok (.aload_n 0, 1) := by decide +kernel
theorem dX8_nearest_49 : decode cX8_nearest 49 = .ok (.iload 4, 2) := by decide +kernel
theorem dX8_nearest_51 : decode cX8_nearest 51 = .ok (.iconst 1, 1) := by decide +kernel
theorem dX8_nearest_52 : decode cX8_nearest 52 = .ok (.invokevirtual 51, 3) := by decide +kernel
theorem dX8_nearest_55 : decode cX8_nearest 55 = .ok (.iload_n 2, 1) := by decide +kernel
theorem dX8_nearest_56 : decode cX8_nearest 56 = .ok (.invokestatic 54, 3) := by decide +kernel
theorem dX8_nearest_59 : decode cX8_nearest 59 = .ok (.aload_n 0, 1) := by decide +kernel
theorem dX8_nearest_60 : decode cX8_nearest 60 = .ok (.iload_n 3, 1) := by decide +kernel
theorem dX8_nearest_61 : decode cX8_nearest 61 = .ok (.iconst 1, 1) := by decide +kernel
theorem dX8_nearest_62 : decode cX8_nearest 62 = .ok (.invokevirtual 51, 3) := by decide +kernel
theorem dX8_nearest_65 : decode cX8_nearest 65 = .ok (.iload_n 2, 1) := by decide +kernel
theorem dX8_nearest_66 : decode cX8_nearest 66 = .ok (.invokestatic 54, 3) := by decide +kernel
theorem dX8_nearest_69 : decode cX8_nearest 69 = .ok (.if_icmp .ge 7, 3) := by decide +kernel
theorem dX8_nearest_72 : decode cX8_nearest 72 = .ok (.iconst 1, 1) := by decide +kernel
theorem dX8_nearest_73 : decode cX8_nearest 73 = .ok (.goto 4, 3) := by decide +kernel
theorem dX8_nearest_76 : decode cX8_nearest 76 = .ok (.iconst 0, 1) := by decide +kernel
theorem dX8_nearest_77 : decode cX8_nearest 77 = .ok (.istore 6, 2) := by decide +kernel
theorem dX8_nearest_79 : decode cX8_nearest 79 = .ok (.iload 5, 2) := by decide +kernel
theorem dX8_nearest_81 : decode cX8_nearest 81 = .ok (.ifCond .eq 13, 3) := by decide +kernel
theorem dX8_nearest_84 : decode cX8_nearest 84 = .ok (.iload 6, 2) := by decide +kernel
theorem dX8_nearest_86 : decode cX8_nearest 86 = .ok (.ifCond .eq 8, 3) := by decide +kernel
theorem dX8_nearest_89 : decode cX8_nearest 89 = .ok (.iload 4, 2) := by decide +kernel
theorem dX8_nearest_91 : decode cX8_nearest 91 = .ok (.goto 4, 3) := by decide +kernel
theorem dX8_nearest_94 : decode cX8_nearest 94 = .ok (.iload_n 3, 1) := by decide +kernel
theorem dX8_nearest_95 : decode cX8_nearest 95 = .ok (.istore_n 3, 1) := by decide +kernel
theorem dX8_nearest_96 : decode cX8_nearest 96 = .ok (.iinc 4 1, 3) := by decide +kernel
theorem dX8_nearest_99 : decode cX8_nearest 99 = .ok (.goto (-94), 3) := by decide +kernel
theorem dX8_nearest_102 : decode cX8_nearest 102 = .ok (.iload_n 3, 1) := by decide +kernel
theorem dX8_nearest_103 : decode cX8_nearest 103 = .ok (.ireturn, 1) := by decide +kernel
set_option maxRecDepth 20000 in
theorem ggX8_serve_X8_firstOf : GoodIn wsX8_serve wsX8_firstOf := goodIn_r _ [5, 6, 7, 8, 9, 4, 10, 11, 12, 13, 14, 15, 16, 17, 18, 38, 39, 40, 41, 42, 43] (by decide +kernel) (by decide +kernel)
set_option maxRecDepth 20000 in
theorem gX8_serve_X8_firstOf : GoodIn wsX8_serve (wsV RX8 61 RX8 yX8_firstOf wsX8_firstOf) := goodIn_app (goodIn_of _ (by decide +kernel)) ggX8_serve_X8_firstOf
set_option maxRecDepth 20000 in
theorem ggX8_serve_X8_holdAt : GoodIn wsX8_serve wsX8_holdAt := goodIn_r _ [14, 6, 38, 39, 40, 41, 42, 43] (by decide +kernel) (by decide +kernel)
set_option maxRecDepth 20000 in
theorem gX8_serve_X8_holdAt : GoodIn wsX8_serve (wsV RX8 41 RX8 yX8_holdAt wsX8_holdAt) := goodIn_app (goodIn_of _ (by decide +kernel)) ggX8_serve_X8_holdAt
set_option maxRecDepth 20000 in
theorem ggX8_serve_X8_nearest : GoodIn wsX8_serve wsX8_nearest := goodIn_r _ [22, 6, 23, 24, 25, 4, 26, 27, 28, 29, 38, 39, 40, 41, 42, 43] (by decide +kernel) (by decide +kernel)
set_option maxRecDepth 20000 in
theorem gX8_serve_X8_nearest : GoodIn wsX8_serve (wsV RX8 65 RX8 yX8_nearest wsX8_nearest) := goodIn_app (goodIn_of _ (by decide +kernel)) ggX8_serve_X8_nearest
theorem dX8_serve_0 : decode cX8_serve 0 = .ok (.iconst 0, 1) := by decide +kernel
theorem dX8_serve_1 : decode cX8_serve 1 = .ok (.istore_n 1, 1) := by decide +kernel
theorem dX8_serve_2 : decode cX8_serve 2 = .ok (.iload_n 1, 1) := by decide +kernel
theorem dX8_serve_3 : decode cX8_serve 3 = .ok (.bipush 6, 2) := by decide +kernel
theorem dX8_serve_5 : decode cX8_serve 5 = .ok (.if_icmp .ge 67, 3) := by decide +kernel
theorem dX8_serve_8 : decode cX8_serve 8 = .ok (.iconst 1, 1) := by decide +kernel
theorem dX8_serve_9 : decode cX8_serve 9 = .ok (.istore_n 2, 1) := by decide +kernel
theorem dX8_serve_10 : decode cX8_serve 10 = .ok (.iload_n 2, 1) := by decide +kernel
theorem dX8_serve_11 : decode cX8_serve 11 = .ok (.ifCond .eq 55, 3) := by decide +kernel
theorem dX8_serve_14 : decode cX8_serve 14 = .ok (.aload_n 0, 1) := by decide +kernel
theorem dX8_serve_15 : decode cX8_serve 15 = .ok (.iload_n 1, 1) := by decide +kernel
theorem dX8_serve_16 : decode cX8_serve 16 = .ok (.invokevirtual 61, 3) := by decide +kernel
theorem dX8_serve_19 : decode cX8_serve 19 = .ok (.istore_n 3, 1) := by decide +kernel
theorem dX8_serve_20 : decode cX8_serve 20 = .ok (.iload_n 3, 1) := by decide +kernel
theorem dX8_serve_21 : decode cX8_serve 21 = .ok (.ifCond .ge 7, 3) := by decide +kernel
theorem dX8_serve_24 : decode cX8_serve 24 = .ok (.iconst (-1), 1) := by decide +kernel
theorem dX8_serve_25 : decode cX8_serve 25 = .ok (.goto 14, 3) := by decide +kernel
theorem dX8_serve_28 : decode cX8_serve 28 = .ok (.aload_n 0, 1) := by decide +kernel
theorem dX8_serve_29 : decode cX8_serve 29 = .ok (.iload_n 1, 1) := by decide +kernel
theorem dX8_serve_30 : decode cX8_serve 30 = .ok (.aload_n 0, 1) := by decide +kernel
theorem dX8_serve_31 : decode cX8_serve 31 = .ok (.iload_n 3, 1) := by decide +kernel
theorem dX8_serve_32 : decode cX8_serve 32 = .ok (.iconst 3, 1) := by decide +kernel
theorem dX8_serve_33 : decode cX8_serve 33 = .ok (.invokevirtual 41, 3) := by decide +kernel
theorem dX8_serve_36 : decode cX8_serve 36 = .ok (.invokevirtual 65, 3) := by decide +kernel
theorem dX8_serve_39 : decode cX8_serve 39 = .ok (.istore 4, 2) := by decide +kernel
theorem dX8_serve_41 : decode cX8_serve 41 = .ok (.iload 4, 2) := by decide +kernel
theorem dX8_serve_43 : decode cX8_serve 43 = .ok (.ifCond .lt 7, 3) := by decide +kernel
theorem dX8_serve_46 : decode cX8_serve 46 = .ok (.iconst 1, 1) := by decide +kernel
theorem dX8_serve_47 : decode cX8_serve 47 = .ok (.goto 4, 3) := by decide +kernel
theorem dX8_serve_50 : decode cX8_serve 50 = .ok (.iconst 0, 1) := by decide +kernel
theorem dX8_serve_51 : decode cX8_serve 51 = .ok (.istore_n 2, 1) := by decide +kernel
theorem dX8_serve_52 : decode cX8_serve 52 = .ok (.iload_n 2, 1) := by decide +kernel
theorem dX8_serve_53 : decode cX8_serve 53 = .ok (.ifCond .eq 10, 3) := by decide +kernel
theorem dX8_serve_56 : decode cX8_serve 56 = .ok (.aload_n 0, 1) := by decide +kernel
theorem dX8_serve_57 : decode cX8_serve 57 = .ok (.iload_n 3, 1) := by decide +kernel
theorem dX8_serve_58 : decode cX8_serve 58 = .ok (.iload 4, 2) := by decide +kernel
theorem dX8_serve_60 : decode cX8_serve 60 = .ok (.invokevirtual 68, 3) := by decide +kernel
theorem dX8_serve_63 : decode cX8_serve 63 = .ok (.goto (-53), 3) := by decide +kernel
theorem dX8_serve_66 : decode cX8_serve 66 = .ok (.iinc 1 1, 3) := by decide +kernel
theorem dX8_serve_69 : decode cX8_serve 69 = .ok (.goto (-67), 3) := by decide +kernel
theorem dX8_serve_72 : decode cX8_serve 72 = .ok (.return_, 1) := by decide +kernel
set_option maxRecDepth 20000 in
theorem ggX8_passDay_X8_findHold : GoodIn wsX8_passDay wsX8_findHold := goodIn_r _ [10, 1, 11, 12, 13, 5, 14, 50, 51, 52, 53, 54, 55] (by decide +kernel) (by decide +kernel)
set_option maxRecDepth 20000 in
theorem gX8_passDay_X8_findHold : GoodIn wsX8_passDay (wsV RX8 72 RX8 yX8_findHold wsX8_findHold) := goodIn_app (goodIn_of _ (by decide +kernel)) ggX8_passDay_X8_findHold
set_option maxRecDepth 20000 in
theorem ggX8_passDay_X8_setCopy : GoodIn wsX8_passDay wsX8_setCopy := goodIn_r _ [18, 1, 50, 51, 52, 53, 54, 55] (by decide +kernel) (by decide +kernel)
set_option maxRecDepth 20000 in
theorem gX8_passDay_X8_setCopy : GoodIn wsX8_passDay (wsV RX8 57 RX8 yX8_setCopy wsX8_setCopy) := goodIn_app (goodIn_of _ (by decide +kernel)) ggX8_passDay_X8_setCopy
set_option maxRecDepth 20000 in
theorem ggX8_passDay_X8_serve : GoodIn wsX8_passDay wsX8_serve := goodIn_r _ [26, 27, 28, 29, 5, 30, 1, 31, 32, 33, 34, 11, 12, 13, 14, 35, 36, 37, 38, 39, 40, 41, 42, 2, 3, 4, 6, 43, 44, 45, 46, 47, 48, 49, 15, 16, 17, 18, 50, 51, 52, 53, 54, 55] (by decide +kernel) (by decide +kernel)
set_option maxRecDepth 20000 in
theorem gX8_passDay_X8_serve : GoodIn wsX8_passDay (wsV RX8 79 RX8 yX8_serve wsX8_serve) := goodIn_app (goodIn_of _ (by decide +kernel)) ggX8_passDay_X8_serve
theorem dX8_passDay_0 : decode cX8_passDay 0 = .ok (.aload_n 0, 1) := by decide +kernel
theorem dX8_passDay_1 : decode cX8_passDay 1 = .ok (.getfield 7, 3) := by decide +kernel
theorem dX8_passDay_4 : decode cX8_passDay 4 = .ok (.iconst 0, 1) := by decide +kernel
theorem dX8_passDay_5 : decode cX8_passDay 5 = .ok (.dup2, 1) := by decide +kernel
theorem dX8_passDay_6 : decode cX8_passDay 6 = .ok (.iaload, 1) := by decide +kernel
theorem dX8_passDay_7 : decode cX8_passDay 7 = .ok (.iconst 1, 1) := by decide +kernel
theorem dX8_passDay_8 : decode cX8_passDay 8 = .ok (.iadd, 1) := by decide +kernel
theorem dX8_passDay_9 : decode cX8_passDay 9 = .ok (.iastore, 1) := by decide +kernel
theorem dX8_passDay_10 : decode cX8_passDay 10 = .ok (.aload_n 0, 1) := by decide +kernel
theorem dX8_passDay_11 : decode cX8_passDay 11 = .ok (.getfield 7, 3) := by decide +kernel
theorem dX8_passDay_14 : decode cX8_passDay 14 = .ok (.bipush 7, 2) := by decide +kernel
theorem dX8_passDay_16 : decode cX8_passDay 16 = .ok (.iconst 0, 1) := by decide +kernel
theorem dX8_passDay_17 : decode cX8_passDay 17 = .ok (.iastore, 1) := by decide +kernel
theorem dX8_passDay_18 : decode cX8_passDay 18 = .ok (.iconst 0, 1) := by decide +kernel
theorem dX8_passDay_19 : decode cX8_passDay 19 = .ok (.istore_n 1, 1) := by decide +kernel
theorem dX8_passDay_20 : decode cX8_passDay 20 = .ok (.iload_n 1, 1) := by decide +kernel
theorem dX8_passDay_21 : decode cX8_passDay 21 = .ok (.aload_n 0, 1) := by decide +kernel
theorem dX8_passDay_22 : decode cX8_passDay 22 = .ok (.getfield 7, 3) := by decide +kernel
theorem dX8_passDay_25 : decode cX8_passDay 25 = .ok (.iconst 4, 1) := by decide +kernel
theorem dX8_passDay_26 : decode cX8_passDay 26 = .ok (.iaload, 1) := by decide +kernel
theorem dX8_passDay_27 : decode cX8_passDay 27 = .ok (.if_icmp .ge 134, 3) := by decide +kernel
theorem dX8_passDay_30 : decode cX8_passDay 30 = .ok (.aload_n 0, 1) := by decide +kernel
theorem dX8_passDay_31 : decode cX8_passDay 31 = .ok (.iload_n 1, 1) := by decide +kernel
theorem dX8_passDay_32 : decode cX8_passDay 32 = .ok (.iconst 2, 1) := by decide +kernel
theorem dX8_passDay_33 : decode cX8_passDay 33 = .ok (.invokevirtual 51, 3) := by decide +kernel
theorem dX8_passDay_36 : decode cX8_passDay 36 = .ok (.iconst 3, 1) := by decide +kernel
theorem dX8_passDay_37 : decode cX8_passDay 37 = .ok (.if_icmp .ne 71, 3) := by decide +kernel
theorem dX8_passDay_40 : decode cX8_passDay 40 = .ok (.aload_n 0, 1) := by decide +kernel
theorem dX8_passDay_41 : decode cX8_passDay 41 = .ok (.iload_n 1, 1) := by decide +kernel
theorem dX8_passDay_42 : decode cX8_passDay 42 = .ok (.iconst 4, 1) := by decide +kernel
theorem dX8_passDay_43 : decode cX8_passDay 43 = .ok (.invokevirtual 51, 3) := by decide +kernel
theorem dX8_passDay_46 : decode cX8_passDay 46 = .ok (.aload_n 0, 1) := by decide +kernel
theorem dX8_passDay_47 : decode cX8_passDay 47 = .ok (.getfield 7, 3) := by decide +kernel
theorem dX8_passDay_50 : decode cX8_passDay 50 = .ok (.iconst 0, 1) := by decide +kernel
theorem dX8_passDay_51 : decode cX8_passDay 51 = .ok (.iaload, 1) := by decide +kernel
theorem dX8_passDay_52 : decode cX8_passDay 52 = .ok (.if_icmp .gt 56, 3) := by decide +kernel
theorem dX8_passDay_55 : decode cX8_passDay 55 = .ok (.aload_n 0, 1) := by decide +kernel
theorem dX8_passDay_56 : decode cX8_passDay 56 = .ok (.getfield 7, 3) := by decide +kernel
theorem dX8_passDay_59 : decode cX8_passDay 59 = .ok (.bipush 88, 2) := by decide +kernel
theorem dX8_passDay_61 : decode cX8_passDay 61 = .ok (.bipush 7, 2) := by decide +kernel
theorem dX8_passDay_63 : decode cX8_passDay 63 = .ok (.aload_n 0, 1) := by decide +kernel
theorem dX8_passDay_64 : decode cX8_passDay 64 = .ok (.aload_n 0, 1) := by decide +kernel
theorem dX8_passDay_65 : decode cX8_passDay 65 = .ok (.iload_n 1, 1) := by decide +kernel
theorem dX8_passDay_66 : decode cX8_passDay 66 = .ok (.iconst 3, 1) := by decide +kernel
theorem dX8_passDay_67 : decode cX8_passDay 67 = .ok (.invokevirtual 51, 3) := by decide +kernel
theorem dX8_passDay_70 : decode cX8_passDay 70 = .ok (.invokevirtual 72, 3) := by decide +kernel
theorem dX8_passDay_73 : decode cX8_passDay 73 = .ok (.imul, 1) := by decide +kernel
theorem dX8_passDay_74 : decode cX8_passDay 74 = .ok (.iadd, 1) := by decide +kernel
theorem dX8_passDay_75 : decode cX8_passDay 75 = .ok (.bipush 6, 2) := by decide +kernel
theorem dX8_passDay_77 : decode cX8_passDay 77 = .ok (.iadd, 1) := by decide +kernel
theorem dX8_passDay_78 : decode cX8_passDay 78 = .ok (.iconst 2, 1) := by decide +kernel
theorem dX8_passDay_79 : decode cX8_passDay 79 = .ok (.iastore, 1) := by decide +kernel
theorem dX8_passDay_80 : decode cX8_passDay 80 = .ok (.aload_n 0, 1) := by decide +kernel
