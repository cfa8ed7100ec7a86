theorem dX8_greatestStep_57 : decode cX8_greatestStep 57 = .ok (.ireturn, 1) := by decide +kernel
set_option maxRecDepth 20000 in
theorem ggX8_holdsOf_X8_holdAt : GoodIn wsX8_holdsOf wsX8_holdAt := goodIn_r _ [6, 1, 7, 8, 9, 10, 11, 12] (by decide +kernel) (by decide +kernel)
set_option maxRecDepth 20000 in
theorem gX8_holdsOf_X8_holdAt : GoodIn wsX8_holdsOf (wsV RX8 41 RX8 yX8_holdAt wsX8_holdAt) := goodIn_app (goodIn_of _ (by decide +kernel)) ggX8_holdsOf_X8_holdAt
theorem dX8_holdsOf_0 : decode cX8_holdsOf 0 = .ok (.iconst 0, 1) := by decide +kernel
theorem dX8_holdsOf_1 : decode cX8_holdsOf 1 = .ok (.istore_n 2, 1) := by decide +kernel
theorem dX8_holdsOf_2 : decode cX8_holdsOf 2 = .ok (.iconst 0, 1) := by decide +kernel
theorem dX8_holdsOf_3 : decode cX8_holdsOf 3 = .ok (.istore_n 3, 1) := by decide +kernel
theorem dX8_holdsOf_4 : decode cX8_holdsOf 4 = .ok (.iload_n 3, 1) := by decide +kernel
theorem dX8_holdsOf_5 : decode cX8_holdsOf 5 = .ok (.aload_n 0, 1) := by decide +kernel
theorem dX8_holdsOf_6 : decode cX8_holdsOf 6 = .ok (.getfield 7, 3) := by decide +kernel
theorem dX8_holdsOf_9 : decode cX8_holdsOf 9 = .ok (.iconst 5, 1) := by decide +kernel
theorem dX8_holdsOf_10 : decode cX8_holdsOf 10 = .ok (.iaload, 1) := by decide +kernel
theorem dX8_holdsOf_11 : decode cX8_holdsOf 11 = .ok (.if_icmp .ge 27, 3) := by decide +kernel
theorem dX8_holdsOf_14 : decode cX8_holdsOf 14 = .ok (.iload_n 2, 1) := by decide +kernel
theorem dX8_holdsOf_15 : decode cX8_holdsOf 15 = .ok (.aload_n 0, 1) := by decide +kernel
theorem dX8_holdsOf_16 : decode cX8_holdsOf 16 = .ok (.iload_n 3, 1) := by decide +kernel
theorem dX8_holdsOf_17 : decode cX8_holdsOf 17 = .ok (.iconst 1, 1) := by decide +kernel
theorem dX8_holdsOf_18 : decode cX8_holdsOf 18 = .ok (.invokevirtual 41, 3) := by decide +kernel
theorem dX8_holdsOf_21 : decode cX8_holdsOf 21 = .ok (.iload_n 1, 1) := by decide +kernel
theorem dX8_holdsOf_22 : decode cX8_holdsOf 22 = .ok (.if_icmp .ne 7, 3) := by decide +kernel
theorem dX8_holdsOf_25 : decode cX8_holdsOf 25 = .ok (.iconst 1, 1) := by decide +kernel
theorem dX8_holdsOf_26 : decode cX8_holdsOf 26 = .ok (.goto 4, 3) := by decide +kernel
theorem dX8_holdsOf_29 : decode cX8_holdsOf 29 = .ok (.iconst 0, 1) := by decide +kernel
theorem dX8_holdsOf_30 : decode cX8_holdsOf 30 = .ok (.iadd, 1) := by decide +kernel
theorem dX8_holdsOf_31 : decode cX8_holdsOf 31 = .ok (.istore_n 2, 1) := by decide +kernel
theorem dX8_holdsOf_32 : decode cX8_holdsOf 32 = .ok (.iinc 3 1, 3) := by decide +kernel
theorem dX8_holdsOf_35 : decode cX8_holdsOf 35 = .ok (.goto (-31), 3) := by decide +kernel
theorem dX8_holdsOf_38 : decode cX8_holdsOf 38 = .ok (.iload_n 2, 1) := by decide +kernel
theorem dX8_holdsOf_39 : decode cX8_holdsOf 39 = .ok (.ireturn, 1) := by decide +kernel
set_option maxRecDepth 20000 in
theorem ggX8_readerOf_X8_isReader : GoodIn wsX8_readerOf wsX8_isReader := goodIn_r _ [6, 7, 8, 9, 5, 10] (by decide +kernel) (by decide +kernel)
set_option maxRecDepth 20000 in
theorem gX8_readerOf_X8_isReader : GoodIn wsX8_readerOf (va_wsS RX8 109 yX8_isReader wsX8_isReader) := goodIn_app (goodIn_of _ (by decide +kernel)) ggX8_readerOf_X8_isReader
set_option maxRecDepth 20000 in
theorem ggX8_readerOf_X8_outsOf : GoodIn wsX8_readerOf wsX8_outsOf := goodIn_r _ [14, 15, 16, 17, 18, 5, 19, 43, 44, 45, 46, 47, 48] (by decide +kernel) (by decide +kernel)
set_option maxRecDepth 20000 in
theorem gX8_readerOf_X8_outsOf : GoodIn wsX8_readerOf (wsV RX8 97 RX8 yX8_outsOf wsX8_outsOf) := goodIn_app (goodIn_of _ (by decide +kernel)) ggX8_readerOf_X8_outsOf
set_option maxRecDepth 20000 in
theorem ggX8_readerOf_X8_holdsOf : GoodIn wsX8_readerOf wsX8_holdsOf := goodIn_r _ [23, 15, 24, 25, 26, 5, 27, 43, 44, 45, 46, 47, 48] (by decide +kernel) (by decide +kernel)
set_option maxRecDepth 20000 in
theorem gX8_readerOf_X8_holdsOf : GoodIn wsX8_readerOf (wsV RX8 202 RX8 yX8_holdsOf wsX8_holdsOf) := goodIn_app (goodIn_of _ (by decide +kernel)) ggX8_readerOf_X8_holdsOf
set_option maxRecDepth 20000 in
theorem ggX8_readerOf_X8_owedBy : GoodIn wsX8_readerOf wsX8_owedBy := goodIn_r _ [31, 15, 11, 12, 13, 5, 14, 16, 17, 18, 19, 32, 33, 34, 43, 44, 45, 46, 47, 48] (by decide +kernel) (by decide +kernel)
set_option maxRecDepth 20000 in
theorem gX8_readerOf_X8_owedBy : GoodIn wsX8_readerOf (wsV RX8 205 RX8 yX8_owedBy wsX8_owedBy) := goodIn_app (goodIn_of _ (by decide +kernel)) ggX8_readerOf_X8_owedBy
set_option maxRecDepth 20000 in
theorem ggX8_readerOf_X8_greatestStep : GoodIn wsX8_readerOf wsX8_greatestStep := goodIn_r _ [38, 15, 11, 12, 13, 5, 14, 16, 17, 18, 19, 32, 33, 34, 39, 40, 41, 42, 43, 44, 45, 46, 47, 48] (by decide +kernel) (by decide +kernel)
set_option maxRecDepth 20000 in
theorem gX8_readerOf_X8_greatestStep : GoodIn wsX8_readerOf (wsV RX8 208 RX8 yX8_greatestStep wsX8_greatestStep) := goodIn_app (goodIn_of _ (by decide +kernel)) ggX8_readerOf_X8_greatestStep
theorem dX8_readerOf_0 : decode cX8_readerOf 0 = .ok (.iload_n 1, 1) := by decide +kernel
theorem dX8_readerOf_1 : decode cX8_readerOf 1 = .ok (.invokestatic 109, 3) := by decide +kernel
theorem dX8_readerOf_4 : decode cX8_readerOf 4 = .ok (.ifCond .ne 6, 3) := by decide +kernel
theorem dX8_readerOf_7 : decode cX8_readerOf 7 = .ok (.ldc 92, 2) := by decide +kernel
theorem dX8_readerOf_9 : decode cX8_readerOf 9 = .ok (.ireturn, 1) := by decide +kernel
theorem dX8_readerOf_10 : decode cX8_readerOf 10 = .ok (.iload_n 2, 1) := by decide +kernel
theorem dX8_readerOf_11 : decode cX8_readerOf 11 = .ok (.tableswitch 61 0 4 #[33, 39, 45, 51, 57], 33) := by decide +kernel
theorem dX8_readerOf_44 : decode cX8_readerOf 44 = .ok (.aload_n 0, 1) := by decide +kernel
theorem dX8_readerOf_45 : decode cX8_readerOf 45 = .ok (.iload_n 1, 1) := by decide +kernel
theorem dX8_readerOf_46 : decode cX8_readerOf 46 = .ok (.invokevirtual 97, 3) := by decide +kernel
theorem dX8_readerOf_49 : decode cX8_readerOf 49 = .ok (.ireturn, 1) := by decide +kernel
theorem dX8_readerOf_50 : decode cX8_readerOf 50 = .ok (.aload_n 0, 1) := by decide +kernel
theorem dX8_readerOf_51 : decode cX8_readerOf 51 = .ok (.iload_n 1, 1) := by decide +kernel
theorem dX8_readerOf_52 : decode cX8_readerOf 52 = .ok (.invokevirtual 202, 3) := by decide +kernel
theorem dX8_readerOf_55 : decode cX8_readerOf 55 = .ok (.ireturn, 1) := by decide +kernel
theorem dX8_readerOf_56 : decode cX8_readerOf 56 = .ok (.aload_n 0, 1) := by decide +kernel
theorem dX8_readerOf_57 : decode cX8_readerOf 57 = .ok (.iload_n 1, 1) := by decide +kernel
theorem dX8_readerOf_58 : decode cX8_readerOf 58 = .ok (.invokevirtual 205, 3) := by decide +kernel
theorem dX8_readerOf_61 : decode cX8_readerOf 61 = .ok (.ireturn, 1) := by decide +kernel
theorem dX8_readerOf_62 : decode cX8_readerOf 62 = .ok (.aload_n 0, 1) := by decide +kernel
theorem dX8_readerOf_63 : decode cX8_readerOf 63 = .ok (.iload_n 1, 1) := by decide +kernel
theorem dX8_readerOf_64 : decode cX8_readerOf 64 = .ok (.invokevirtual 208, 3) := by decide +kernel
theorem dX8_readerOf_67 : decode cX8_readerOf 67 = .ok (.ireturn, 1) := by decide +kernel
theorem dX8_readerOf_68 : decode cX8_readerOf 68 = .ok (.iload_n 1, 1) := by decide +kernel
theorem dX8_readerOf_69 : decode cX8_readerOf 69 = .ok (.iconst 4, 1) := by decide +kernel
theorem dX8_readerOf_70 : decode cX8_readerOf 70 = .ok (.irem, 1) := by decide +kernel
theorem dX8_readerOf_71 : decode cX8_readerOf 71 = .ok (.ireturn, 1) := by decide +kernel
theorem dX8_readerOf_72 : decode cX8_readerOf 72 = .ok (.ldc 131, 2) := by decide +kernel
theorem dX8_readerOf_74 : decode cX8_readerOf 74 = .ok (.ireturn, 1) := by decide +kernel
set_option maxRecDepth 20000 in
theorem ggX8_keep_X8_in : GoodIn wsX8_keep wsX8_in := goodIn_r _ [9] (by decide +kernel) (by decide +kernel)
set_option maxRecDepth 20000 in
theorem gX8_keep_X8_in : GoodIn wsX8_keep (va_wsS RX8 23 yX8_in wsX8_in) := goodIn_app (goodIn_of _ (by decide +kernel)) ggX8_keep_X8_in
theorem dX8_keep_0 : decode cX8_keep 0 = .ok (.iload_n 1, 1) := by decide +kernel
theorem dX8_keep_1 : decode cX8_keep 1 = .ok (.i2l, 1) := by decide +kernel
theorem dX8_keep_2 : decode cX8_keep 2 = .ok (.lconst 0, 1) := by decide +kernel
theorem dX8_keep_3 : decode cX8_keep 3 = .ok (.lconst 1, 1) := by decide +kernel
theorem dX8_keep_4 : decode cX8_keep 4 = .ok (.invokestatic 23, 3) := by decide +kernel
theorem dX8_keep_7 : decode cX8_keep 7 = .ok (.ifCond .ne 6, 3) := by decide +kernel
theorem dX8_keep_10 : decode cX8_keep 10 = .ok (.ldc 92, 2) := by decide +kernel
theorem dX8_keep_12 : decode cX8_keep 12 = .ok (.ireturn, 1) := by decide +kernel
theorem dX8_keep_13 : decode cX8_keep 13 = .ok (.iconst 0, 1) := by decide +kernel
theorem dX8_keep_14 : decode cX8_keep 14 = .ok (.istore_n 2, 1) := by decide +kernel
theorem dX8_keep_15 : decode cX8_keep 15 = .ok (.iload_n 2, 1) := by decide +kernel
theorem dX8_keep_16 : decode cX8_keep 16 = .ok (.sipush 172, 3) := by decide +kernel
theorem dX8_keep_19 : decode cX8_keep 19 = .ok (.if_icmp .ge 27, 3) := by decide +kernel
theorem dX8_keep_22 : decode cX8_keep 22 = .ok (.aload_n 0, 1) := by decide +kernel
theorem dX8_keep_23 : decode cX8_keep 23 = .ok (.getfield 16, 3) := by decide +kernel
theorem dX8_keep_26 : decode cX8_keep 26 = .ok (.sipush 172, 3) := by decide +kernel
theorem dX8_keep_29 : decode cX8_keep 29 = .ok (.iload_n 1, 1) := by decide +kernel
theorem dX8_keep_30 : decode cX8_keep 30 = .ok (.imul, 1) := by decide +kernel
theorem dX8_keep_31 : decode cX8_keep 31 = .ok (.iload_n 2, 1) := by decide +kernel
theorem dX8_keep_32 : decode cX8_keep 32 = .ok (.iadd, 1) := by decide +kernel
theorem dX8_keep_33 : decode cX8_keep 33 = .ok (.aload_n 0, 1) := by decide +kernel
theorem dX8_keep_34 : decode cX8_keep 34 = .ok (.getfield 7, 3) := by decide +kernel
theorem dX8_keep_37 : decode cX8_keep 37 = .ok (.iload_n 2, 1) := by decide +kernel
theorem dX8_keep_38 : decode cX8_keep 38 = .ok (.iaload, 1) := by decide +kernel
theorem dX8_keep_39 : decode cX8_keep 39 = .ok (.iastore, 1) := by decide +kernel
theorem dX8_keep_40 : decode cX8_keep 40 = .ok (.iinc 2 1, 3) := by decide +kernel
theorem dX8_keep_43 : decode cX8_keep 43 = .ok (.goto (-28), 3) := by decide +kernel
theorem dX8_keep_46 : decode cX8_keep 46 = .ok (.aload_n 0, 1) := by decide +kernel
theorem dX8_keep_47 : decode cX8_keep 47 = .ok (.getfield 19, 3) := by decide +kernel
theorem dX8_keep_50 : decode cX8_keep 50 = .ok (.iload_n 1, 1) := by decide +kernel
theorem dX8_keep_51 : decode cX8_keep 51 = .ok (.iconst 1, 1) := by decide +kernel
theorem dX8_keep_52 : decode cX8_keep 52 = .ok (.bastore, 1) := by decide +kernel
theorem dX8_keep_53 : decode cX8_keep 53 = .ok (.aload_n 0, 1) := by decide +kernel
theorem dX8_keep_54 : decode cX8_keep 54 = .ok (.iconst 0, 1) := by decide +kernel
theorem dX8_keep_55 : decode cX8_keep 55 = .ok (.putfield 82, 3) := by decide +kernel
theorem dX8_keep_58 : decode cX8_keep 58 = .ok (.aload_n 0, 1) := by decide +kernel
theorem dX8_keep_59 : decode cX8_keep 59 = .ok (.getfield 7, 3) := by decide +kernel
theorem dX8_keep_62 : decode cX8_keep 62 = .ok (.iconst 0, 1) := by decide +kernel
theorem dX8_keep_63 : decode cX8_keep 63 = .ok (.iaload, 1) := by decide +kernel
theorem dX8_keep_64 : decode cX8_keep 64 = .ok (.ireturn, 1) := by decide +kernel
set_option maxRecDepth 20000 in
theorem ggX8_goBack_X8_in : GoodIn wsX8_goBack wsX8_in := goodIn_r _ [10] (by decide +kernel) (by decide +kernel)
set_option maxRecDepth 20000 in
theorem gX8_goBack_X8_in : GoodIn wsX8_goBack (va_wsS RX8 23 yX8_in wsX8_in) := goodIn_app (goodIn_of _ (by decide +kernel)) ggX8_goBack_X8_in
theorem dX8_goBack_0 : decode cX8_goBack 0 = .ok (.iload_n 1, 1) := by decide +kernel
theorem dX8_goBack_1 : decode cX8_goBack 1 = .ok (.i2l, 1) := by decide +kernel
theorem dX8_goBack_2 : decode cX8_goBack 2 = .ok (.lconst 0, 1) := by decide +kernel
theorem dX8_goBack_3 : decode cX8_goBack 3 = .ok (.lconst 1, 1) := by decide +kernel
theorem dX8_goBack_4 : decode cX8_goBack 4 = .ok (.invokestatic 23, 3) := by decide +kernel
theorem dX8_goBack_7 : decode cX8_goBack 7 = .ok (.ifCond .ne 6, 3) := by decide +kernel
theorem dX8_goBack_10 : decode cX8_goBack 10 = .ok (.ldc 92, 2) := by decide +kernel
theorem dX8_goBack_12 : decode cX8_goBack 12 = .ok (.ireturn, 1) := by decide +kernel
theorem dX8_goBack_13 : decode cX8_goBack 13 = .ok (.aload_n 0, 1) := by decide +kernel
theorem dX8_goBack_14 : decode cX8_goBack 14 = .ok (.getfield 19, 3) := by decide +kernel
theorem dX8_goBack_17 : decode cX8_goBack 17 = .ok (.iload_n 1, 1) := by decide +kernel
theorem dX8_goBack_18 : decode cX8_goBack 18 = .ok (.baload, 1) := by decide +kernel
theorem dX8_goBack_19 : decode cX8_goBack 19 = .ok (.ifCond .ne 6, 3) := by decide +kernel
theorem dX8_goBack_22 : decode cX8_goBack 22 = .ok (.ldc 115, 2) := by decide +kernel
theorem dX8_goBack_24 : decode cX8_goBack 24 = .ok (.ireturn, 1) := by decide +kernel
theorem dX8_goBack_25 : decode cX8_goBack 25 = .ok (.iconst 0, 1) := by decide +kernel
theorem dX8_goBack_26 : decode cX8_goBack 26 = .ok (.istore_n 2, 1) := by decide +kernel
theorem dX8_goBack_27 : decode cX8_goBack 27 = .ok (.iload_n 2, 1) := by decide +kernel
theorem dX8_goBack_28 : decode cX8_goBack 28 = .ok (.sipush 172, 3) := by decide +kernel
theorem dX8_goBack_31 : decode cX8_goBack 31 = .ok (.if_icmp .ge 27, 3) := by decide +kernel
theorem dX8_goBack_34 : decode cX8_goBack 34 = .ok (.aload_n 0, 1) := by decide +kernel
theorem dX8_goBack_35 : decode cX8_goBack 35 = .ok (.getfield 7, 3) := by decide +kernel
theorem dX8_goBack_38 : decode cX8_goBack 38 = .ok (.iload_n 2, 1) := by decide +kernel
theorem dX8_goBack_39 : decode cX8_goBack 39 = .ok (.aload_n 0, 1) := by decide +kernel
theorem dX8_goBack_40 : decode cX8_goBack 40 = .ok (.getfield 16, 3) := by decide +kernel
theorem dX8_goBack_43 : decode cX8_goBack 43 = .ok (.sipush 172, 3) := by decide +kernel
theorem dX8_goBack_46 : decode cX8_goBack 46 = .ok (.iload_n 1, 1) := by decide +kernel
theorem dX8_goBack_47 : decode cX8_goBack 47 = .ok (.imul, 1) := by decide +kernel
theorem dX8_goBack_48 : decode cX8_goBack 48 = .ok (.iload_n 2, 1) := by decide +kernel
theorem dX8_goBack_49 : decode cX8_goBack 49 = .ok (.iadd, 1) := by decide +kernel
theorem dX8_goBack_50 : decode cX8_goBack 50 = .ok (.iaload, 1) := by decide +kernel
theorem dX8_goBack_51 : decode cX8_goBack 51 = .ok (.iastore, 1) := by decide +kernel
theorem dX8_goBack_52 : decode cX8_goBack 52 = .ok (.iinc 2 1, 3) := by decide +kernel
theorem dX8_goBack_55 : decode cX8_goBack 55 = .ok (.goto (-28), 3) := by decide +kernel
theorem dX8_goBack_58 : decode cX8_goBack 58 = .ok (.aload_n 0, 1) := by decide +kernel
theorem dX8_goBack_59 : decode cX8_goBack 59 = .ok (.iconst 0, 1) := by decide +kernel
theorem dX8_goBack_60 : decode cX8_goBack 60 = .ok (.putfield 82, 3) := by decide +kernel
theorem dX8_goBack_63 : decode cX8_goBack 63 = .ok (.aload_n 0, 1) := by decide +kernel
theorem dX8_goBack_64 : decode cX8_goBack 64 = .ok (.getfield 7, 3) := by decide +kernel
theorem dX8_goBack_67 : decode cX8_goBack 67 = .ok (.iconst 0, 1) := by decide +kernel
theorem dX8_goBack_68 : decode cX8_goBack 68 = .ok (.iaload, 1) := by decide +kernel
theorem dX8_goBack_69 : decode cX8_goBack 69 = .ok (.ireturn, 1) := by decide +kernel
