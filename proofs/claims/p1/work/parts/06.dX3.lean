set_option maxRecDepth 20000 in
theorem ggX3_init_X2_init : GoodIn wsX3_init wsX2_init := goodIn_r _ [10, 11, 2, 3, 12, 13, 14, 15, 16, 17, 18, 19, 20, 21, 22] (by decide +kernel) (by decide +kernel)
set_option maxRecDepth 20000 in
theorem gX3_init_X2_init : GoodIn wsX3_init (wsX2_init) := ggX3_init_X2_init
theorem dX3_init_0 : decode cX3_init 0 = .ok (.aload_n 0, 1) := by decide +kernel
theorem dX3_init_1 : decode cX3_init 1 = .ok (.invokespecial 3, 3) := by decide +kernel
theorem dX3_init_4 : decode cX3_init 4 = .ok (.aload_n 0, 1) := by decide +kernel
theorem dX3_init_5 : decode cX3_init 5 = .ok (.new 9, 3) := by decide +kernel
theorem dX3_init_8 : decode cX3_init 8 = .ok (.dup, 1) := by decide +kernel
theorem dX3_init_9 : decode cX3_init 9 = .ok (.bipush 12, 2) := by decide +kernel
theorem dX3_init_11 : decode cX3_init 11 = .ok (.bipush 7, 2) := by decide +kernel
theorem dX3_init_13 : decode cX3_init 13 = .ok (.invokespecial 13, 3) := by decide +kernel
theorem dX3_init_16 : decode cX3_init 16 = .ok (.putfield 16, 3) := by decide +kernel
theorem dX3_init_19 : decode cX3_init 19 = .ok (.return_, 1) := by decide +kernel
set_option maxRecDepth 20000 in
theorem ggX3_reader_X2_at : GoodIn wsX3_reader wsX2_at := goodIn_r _ [6, 7, 8, 9, 13, 14, 15] (by decide +kernel) (by decide +kernel)
set_option maxRecDepth 20000 in
theorem gX3_reader_X2_at : GoodIn wsX3_reader (wsV RX3 20 RX2 yX2_at wsX2_at) := goodIn_app (goodIn_of _ (by decide +kernel)) ggX3_reader_X2_at
theorem dX3_reader_0 : decode cX3_reader 0 = .ok (.aload_n 0, 1) := by decide +kernel
theorem dX3_reader_1 : decode cX3_reader 1 = .ok (.getfield 16, 3) := by decide +kernel
theorem dX3_reader_4 : decode cX3_reader 4 = .ok (.iload_n 1, 1) := by decide +kernel
theorem dX3_reader_5 : decode cX3_reader 5 = .ok (.iconst 0, 1) := by decide +kernel
theorem dX3_reader_6 : decode cX3_reader 6 = .ok (.invokevirtual 20, 3) := by decide +kernel
theorem dX3_reader_9 : decode cX3_reader 9 = .ok (.ireturn, 1) := by decide +kernel
set_option maxRecDepth 20000 in
theorem ggX3_title_X2_at : GoodIn wsX3_title wsX2_at := goodIn_r _ [6, 7, 8, 9, 13, 14, 15] (by decide +kernel) (by decide +kernel)
set_option maxRecDepth 20000 in
theorem gX3_title_X2_at : GoodIn wsX3_title (wsV RX3 20 RX2 yX2_at wsX2_at) := goodIn_app (goodIn_of _ (by decide +kernel)) ggX3_title_X2_at
theorem dX3_title_0 : decode cX3_title 0 = .ok (.aload_n 0, 1) := by decide +kernel
theorem dX3_title_1 : decode cX3_title 1 = .ok (.getfield 16, 3) := by decide +kernel
theorem dX3_title_4 : decode cX3_title 4 = .ok (.iload_n 1, 1) := by decide +kernel
theorem dX3_title_5 : decode cX3_title 5 = .ok (.iconst 1, 1) := by decide +kernel
theorem dX3_title_6 : decode cX3_title 6 = .ok (.invokevirtual 20, 3) := by decide +kernel
theorem dX3_title_9 : decode cX3_title 9 = .ok (.ireturn, 1) := by decide +kernel
set_option maxRecDepth 20000 in
theorem ggX3_branch_X2_at : GoodIn wsX3_branch wsX2_at := goodIn_r _ [6, 7, 8, 9, 13, 14, 15] (by decide +kernel) (by decide +kernel)
set_option maxRecDepth 20000 in
theorem gX3_branch_X2_at : GoodIn wsX3_branch (wsV RX3 20 RX2 yX2_at wsX2_at) := goodIn_app (goodIn_of _ (by decide +kernel)) ggX3_branch_X2_at
theorem dX3_branch_0 : decode cX3_branch 0 = .ok (.aload_n 0, 1) := by decide +kernel
theorem dX3_branch_1 : decode cX3_branch 1 = .ok (.getfield 16, 3) := by decide +kernel
theorem dX3_branch_4 : decode cX3_branch 4 = .ok (.iload_n 1, 1) := by decide +kernel
theorem dX3_branch_5 : decode cX3_branch 5 = .ok (.iconst 2, 1) := by decide +kernel
theorem dX3_branch_6 : decode cX3_branch 6 = .ok (.invokevirtual 20, 3) := by decide +kernel
theorem dX3_branch_9 : decode cX3_branch 9 = .ok (.ireturn, 1) := by decide +kernel
set_option maxRecDepth 20000 in
theorem ggX3_need_X2_at : GoodIn wsX3_need wsX2_at := goodIn_r _ [6, 7, 8, 9, 13, 14, 15] (by decide +kernel) (by decide +kernel)
set_option maxRecDepth 20000 in
theorem gX3_need_X2_at : GoodIn wsX3_need (wsV RX3 20 RX2 yX2_at wsX2_at) := goodIn_app (goodIn_of _ (by decide +kernel)) ggX3_need_X2_at
theorem dX3_need_0 : decode cX3_need 0 = .ok (.aload_n 0, 1) := by decide +kernel
theorem dX3_need_1 : decode cX3_need 1 = .ok (.getfield 16, 3) := by decide +kernel
theorem dX3_need_4 : decode cX3_need 4 = .ok (.iload_n 1, 1) := by decide +kernel
theorem dX3_need_5 : decode cX3_need 5 = .ok (.iconst 3, 1) := by decide +kernel
theorem dX3_need_6 : decode cX3_need 6 = .ok (.invokevirtual 20, 3) := by decide +kernel
theorem dX3_need_9 : decode cX3_need 9 = .ok (.ireturn, 1) := by decide +kernel
set_option maxRecDepth 20000 in
theorem ggX3_number_X2_at : GoodIn wsX3_number wsX2_at := goodIn_r _ [6, 7, 8, 9, 13, 14, 15] (by decide +kernel) (by decide +kernel)
set_option maxRecDepth 20000 in
theorem gX3_number_X2_at : GoodIn wsX3_number (wsV RX3 20 RX2 yX2_at wsX2_at) := goodIn_app (goodIn_of _ (by decide +kernel)) ggX3_number_X2_at
theorem dX3_number_0 : decode cX3_number 0 = .ok (.aload_n 0, 1) := by decide +kernel
theorem dX3_number_1 : decode cX3_number 1 = .ok (.getfield 16, 3) := by decide +kernel
theorem dX3_number_4 : decode cX3_number 4 = .ok (.iload_n 1, 1) := by decide +kernel
theorem dX3_number_5 : decode cX3_number 5 = .ok (.bipush 6, 2) := by decide +kernel
theorem dX3_number_7 : decode cX3_number 7 = .ok (.invokevirtual 20, 3) := by decide +kernel
theorem dX3_number_10 : decode cX3_number 10 = .ok (.ireturn, 1) := by decide +kernel
set_option maxRecDepth 20000 in
theorem ggX3_slotOf_X3_number : GoodIn wsX3_slotOf wsX3_number := goodIn_r _ [6, 7, 8, 9, 10, 11, 12, 13, 14, 15, 16, 17, 18, 19, 20, 21] (by decide +kernel) (by decide +kernel)
set_option maxRecDepth 20000 in
theorem gX3_slotOf_X3_number : GoodIn wsX3_slotOf (wsV RX3 28 RX3 yX3_number wsX3_number) := goodIn_app (goodIn_of _ (by decide +kernel)) ggX3_slotOf_X3_number
theorem dX3_slotOf_0 : decode cX3_slotOf 0 = .ok (.iconst 0, 1) := by decide +kernel
theorem dX3_slotOf_1 : decode cX3_slotOf 1 = .ok (.istore_n 2, 1) := by decide +kernel
theorem dX3_slotOf_2 : decode cX3_slotOf 2 = .ok (.iload_n 2, 1) := by decide +kernel
theorem dX3_slotOf_3 : decode cX3_slotOf 3 = .ok (.aload_n 0, 1) := by decide +kernel
theorem dX3_slotOf_4 : decode cX3_slotOf 4 = .ok (.getfield 24, 3) := by decide +kernel
theorem dX3_slotOf_7 : decode cX3_slotOf 7 = .ok (.if_icmp .ge 20, 3) := by decide +kernel
theorem dX3_slotOf_10 : decode cX3_slotOf 10 = .ok (.aload_n 0, 1) := by decide +kernel
theorem dX3_slotOf_11 : decode cX3_slotOf 11 = .ok (.iload_n 2, 1) := by decide +kernel
theorem dX3_slotOf_12 : decode cX3_slotOf 12 = .ok (.invokevirtual 28, 3) := by decide +kernel
theorem dX3_slotOf_15 : decode cX3_slotOf 15 = .ok (.iload_n 1, 1) := by decide +kernel
theorem dX3_slotOf_16 : decode cX3_slotOf 16 = .ok (.if_icmp .ne 5, 3) := by decide +kernel
theorem dX3_slotOf_19 : decode cX3_slotOf 19 = .ok (.iload_n 2, 1) := by decide +kernel
theorem dX3_slotOf_20 : decode cX3_slotOf 20 = .ok (.ireturn, 1) := by decide +kernel
theorem dX3_slotOf_21 : decode cX3_slotOf 21 = .ok (.iinc 2 1, 3) := by decide +kernel
theorem dX3_slotOf_24 : decode cX3_slotOf 24 = .ok (.goto (-22), 3) := by decide +kernel
theorem dX3_slotOf_27 : decode cX3_slotOf 27 = .ok (.iconst (-1), 1) := by decide +kernel
theorem dX3_slotOf_28 : decode cX3_slotOf 28 = .ok (.ireturn, 1) := by decide +kernel
set_option maxRecDepth 20000 in
theorem ggX3_add_X2_put : GoodIn wsX3_add wsX2_put := goodIn_r _ [8, 9, 10, 11, 15, 16, 17] (by decide +kernel) (by decide +kernel)
set_option maxRecDepth 20000 in
theorem gX3_add_X2_put : GoodIn wsX3_add (wsV RX3 35 RX2 yX2_put wsX2_put) := goodIn_app (goodIn_of _ (by decide +kernel)) ggX3_add_X2_put
theorem dX3_add_0 : decode cX3_add 0 = .ok (.aload_n 0, 1) := by decide +kernel
theorem dX3_add_1 : decode cX3_add 1 = .ok (.getfield 32, 3) := by decide +kernel
theorem dX3_add_4 : decode cX3_add 4 = .ok (.istore 6, 2) := by decide +kernel
theorem dX3_add_6 : decode cX3_add 6 = .ok (.aload_n 0, 1) := by decide +kernel
theorem dX3_add_7 : decode cX3_add 7 = .ok (.getfield 16, 3) := by decide +kernel
theorem dX3_add_10 : decode cX3_add 10 = .ok (.aload_n 0, 1) := by decide +kernel
theorem dX3_add_11 : decode cX3_add 11 = .ok (.getfield 24, 3) := by decide +kernel
theorem dX3_add_14 : decode cX3_add 14 = .ok (.iconst 0, 1) := by decide +kernel
theorem dX3_add_15 : decode cX3_add 15 = .ok (.iload_n 1, 1) := by decide +kernel
theorem dX3_add_16 : decode cX3_add 16 = .ok (.invokevirtual 35, 3) := by decide +kernel
theorem dX3_add_19 : decode cX3_add 19 = .ok (.aload_n 0, 1) := by decide +kernel
theorem dX3_add_20 : decode cX3_add 20 = .ok (.getfield 16, 3) := by decide +kernel
theorem dX3_add_23 : decode cX3_add 23 = .ok (.aload_n 0, 1) := by decide +kernel
theorem dX3_add_24 : decode cX3_add 24 = .ok (.getfield 24, 3) := by decide +kernel
theorem dX3_add_27 : decode cX3_add 27 = .ok (.iconst 1, 1) := by decide +kernel
theorem dX3_add_28 : decode cX3_add 28 = .ok (.iload_n 2, 1) := by decide +kernel
theorem dX3_add_29 : decode cX3_add 29 = .ok (.invokevirtual 35, 3) := by decide +kernel
theorem dX3_add_32 : decode cX3_add 32 = .ok (.aload_n 0, 1) := by decide +kernel
theorem dX3_add_33 : decode cX3_add 33 = .ok (.getfield 16, 3) := by decide +kernel
theorem dX3_add_36 : decode cX3_add 36 = .ok (.aload_n 0, 1) := by decide +kernel
theorem dX3_add_37 : decode cX3_add 37 = .ok (.getfield 24, 3) := by decide +kernel
theorem dX3_add_40 : decode cX3_add 40 = .ok (.iconst 2, 1) := by decide +kernel
theorem dX3_add_41 : decode cX3_add 41 = .ok (.iload_n 3, 1) := by decide +kernel
theorem dX3_add_42 : decode cX3_add 42 = .ok (.invokevirtual 35, 3) := by decide +kernel
theorem dX3_add_45 : decode cX3_add 45 = .ok (.aload_n 0, 1) := by decide +kernel
theorem dX3_add_46 : decode cX3_add 46 = .ok (.getfield 16, 3) := by decide +kernel
theorem dX3_add_49 : decode cX3_add 49 = .ok (.aload_n 0, 1) := by decide +kernel
theorem dX3_add_50 : decode cX3_add 50 = .ok (.getfield 24, 3) := by decide +kernel
theorem dX3_add_53 : decode cX3_add 53 = .ok (.iconst 3, 1) := by decide +kernel
theorem dX3_add_54 : decode cX3_add 54 = .ok (.iload 4, 2) := by decide +kernel
theorem dX3_add_56 : decode cX3_add 56 = .ok (.invokevirtual 35, 3) := by decide +kernel
theorem dX3_add_59 : decode cX3_add 59 = .ok (.aload_n 0, 1) := by decide +kernel
theorem dX3_add_60 : decode cX3_add 60 = .ok (.getfield 16, 3) := by decide +kernel
theorem dX3_add_63 : decode cX3_add 63 = .ok (.aload_n 0, 1) := by decide +kernel
theorem dX3_add_64 : decode cX3_add 64 = .ok (.getfield 24, 3) := by decide +kernel
theorem dX3_add_67 : decode cX3_add 67 = .ok (.iconst 4, 1) := by decide +kernel
theorem dX3_add_68 : decode cX3_add 68 = .ok (.iload 5, 2) := by decide +kernel
theorem dX3_add_70 : decode cX3_add 70 = .ok (.invokevirtual 35, 3) := by decide +kernel
theorem dX3_add_73 : decode cX3_add 73 = .ok (.aload_n 0, 1) := by decide +kernel
theorem dX3_add_74 : decode cX3_add 74 = .ok (.getfield 16, 3) := by decide +kernel
theorem dX3_add_77 : decode cX3_add 77 = .ok (.aload_n 0, 1) := by decide +kernel
theorem dX3_add_78 : decode cX3_add 78 = .ok (.getfield 24, 3) := by decide +kernel
theorem dX3_add_81 : decode cX3_add 81 = .ok (.iconst 5, 1) := by decide +kernel
theorem dX3_add_82 : decode cX3_add 82 = .ok (.iconst (-1), 1) := by decide +kernel
theorem dX3_add_83 : decode cX3_add 83 = .ok (.invokevirtual 35, 3) := by decide +kernel
theorem dX3_add_86 : decode cX3_add 86 = .ok (.aload_n 0, 1) := by decide +kernel
theorem dX3_add_87 : decode cX3_add 87 = .ok (.getfield 16, 3) := by decide +kernel
theorem dX3_add_90 : decode cX3_add 90 = .ok (.aload_n 0, 1) := by decide +kernel
theorem dX3_add_91 : decode cX3_add 91 = .ok (.getfield 24, 3) := by decide +kernel
theorem dX3_add_94 : decode cX3_add 94 = .ok (.bipush 6, 2) := by decide +kernel
theorem dX3_add_96 : decode cX3_add 96 = .ok (.iload 6, 2) := by decide +kernel
theorem dX3_add_98 : decode cX3_add 98 = .ok (.invokevirtual 35, 3) := by decide +kernel
theorem dX3_add_101 : decode cX3_add 101 = .ok (.aload_n 0, 1) := by decide +kernel
theorem dX3_add_102 : decode cX3_add 102 = .ok (.dup, 1) := by decide +kernel
theorem dX3_add_103 : decode cX3_add 103 = .ok (.getfield 24, 3) := by decide +kernel
theorem dX3_add_106 : decode cX3_add 106 = .ok (.iconst 1, 1) := by decide +kernel
theorem dX3_add_107 : decode cX3_add 107 = .ok (.iadd, 1) := by decide +kernel
theorem dX3_add_108 : decode cX3_add 108 = .ok (.putfield 24, 3) := by decide +kernel
theorem dX3_add_111 : decode cX3_add 111 = .ok (.aload_n 0, 1) := by decide +kernel
theorem dX3_add_112 : decode cX3_add 112 = .ok (.dup, 1) := by decide +kernel
theorem dX3_add_113 : decode cX3_add 113 = .ok (.getfield 32, 3) := by decide +kernel
theorem dX3_add_116 : decode cX3_add 116 = .ok (.iconst 1, 1) := by decide +kernel
theorem dX3_add_117 : decode cX3_add 117 = .ok (.iadd, 1) := by decide +kernel
theorem dX3_add_118 : decode cX3_add 118 = .ok (.putfield 32, 3) := by decide +kernel
theorem dX3_add_121 : decode cX3_add 121 = .ok (.iload 6, 2) := by decide +kernel
theorem dX3_add_123 : decode cX3_add 123 = .ok (.ireturn, 1) := by decide +kernel
theorem dX3_waiting_0 : decode cX3_waiting 0 = .ok (.iconst 0, 1) := by decide +kernel
theorem dX3_waiting_1 : decode cX3_waiting 1 = .ok (.istore_n 1, 1) := by decide +kernel
theorem dX3_waiting_2 : decode cX3_waiting 2 = .ok (.iconst 0, 1) := by decide +kernel
theorem dX3_waiting_3 : decode cX3_waiting 3 = .ok (.istore_n 2, 1) := by decide +kernel
theorem dX3_waiting_4 : decode cX3_waiting 4 = .ok (.iload_n 2, 1) := by decide +kernel
theorem dX3_waiting_5 : decode cX3_waiting 5 = .ok (.aload_n 0, 1) := by decide +kernel
theorem dX3_waiting_6 : decode cX3_waiting 6 = .ok (.getfield 24, 3) := by decide +kernel
theorem dX3_waiting_9 : decode cX3_waiting 9 = .ok (.if_icmp .ge 21, 3) := by decide +kernel
theorem dX3_waiting_12 : decode cX3_waiting 12 = .ok (.aload_n 0, 1) := by decide +kernel
theorem dX3_waiting_13 : decode cX3_waiting 13 = .ok (.iload_n 2, 1) := by decide +kernel
theorem dX3_waiting_14 : decode cX3_waiting 14 = .ok (.invokevirtual 47, 3) := by decide +kernel
theorem dX3_waiting_17 : decode cX3_waiting 17 = .ok (.iconst (-1), 1) := by decide +kernel
theorem dX3_waiting_18 : decode cX3_waiting 18 = .ok (.if_icmp .ne 6, 3) := by decide +kernel
theorem dX3_waiting_21 : decode cX3_waiting 21 = .ok (.iinc 1 1, 3) := by decide +kernel
theorem dX3_waiting_24 : decode cX3_waiting 24 = .ok (.iinc 2 1, 3) := by decide +kernel
theorem dX3_waiting_27 : decode cX3_waiting 27 = .ok (.goto (-23), 3) := by decide +kernel
theorem dX3_waiting_30 : decode cX3_waiting 30 = .ok (.iload_n 1, 1) := by decide +kernel
theorem dX3_waiting_31 : decode cX3_waiting 31 = .ok (.ireturn, 1) := by decide +kernel
set_option maxRecDepth 20000 in
theorem ggX3_ofReader_X3_reader : GoodIn wsX3_ofReader wsX3_reader := goodIn_r _ [6, 7, 8, 9, 10, 11, 12, 13, 14, 15, 16, 17, 18, 19, 20, 21] (by decide +kernel) (by decide +kernel)
set_option maxRecDepth 20000 in
theorem gX3_ofReader_X3_reader : GoodIn wsX3_ofReader (wsV RX3 50 RX3 yX3_reader wsX3_reader) := goodIn_app (goodIn_of _ (by decide +kernel)) ggX3_ofReader_X3_reader
theorem dX3_ofReader_0 : decode cX3_ofReader 0 = .ok (.iconst 0, 1) := by decide +kernel
theorem dX3_ofReader_1 : decode cX3_ofReader 1 = .ok (.istore_n 2, 1) := by decide +kernel
theorem dX3_ofReader_2 : decode cX3_ofReader 2 = .ok (.iconst 0, 1) := by decide +kernel
theorem dX3_ofReader_3 : decode cX3_ofReader 3 = .ok (.istore_n 3, 1) := by decide +kernel
theorem dX3_ofReader_4 : decode cX3_ofReader 4 = .ok (.iload_n 3, 1) := by decide +kernel
theorem dX3_ofReader_5 : decode cX3_ofReader 5 = .ok (.aload_n 0, 1) := by decide +kernel
theorem dX3_ofReader_6 : decode cX3_ofReader 6 = .ok (.getfield 24, 3) := by decide +kernel
theorem dX3_ofReader_9 : decode cX3_ofReader 9 = .ok (.if_icmp .ge 21, 3) := by decide +kernel
theorem dX3_ofReader_12 : decode cX3_ofReader 12 = .ok (.aload_n 0, 1) := by decide +kernel
theorem dX3_ofReader_13 : decode cX3_ofReader 13 = .ok (.iload_n 3, 1) := by decide +kernel
theorem dX3_ofReader_14 : decode cX3_ofReader 14 = .ok (.invokevirtual 50, 3) := by decide +kernel
theorem dX3_ofReader_17 : decode cX3_ofReader 17 = .ok (.iload_n 1, 1) := by decide +kernel
theorem dX3_ofReader_18 : decode cX3_ofReader 18 = .ok (.if_icmp .ne 6, 3) := by decide +kernel
theorem dX3_ofReader_21 : decode cX3_ofReader 21 = .ok (.iinc 2 1, 3) := by decide +kernel
theorem dX3_ofReader_24 : decode cX3_ofReader 24 = .ok (.iinc 3 1, 3) := by decide +kernel
theorem dX3_ofReader_27 : decode cX3_ofReader 27 = .ok (.goto (-23), 3) := by decide +kernel
theorem dX3_ofReader_30 : decode cX3_ofReader 30 = .ok (.iload_n 2, 1) := by decide +kernel
theorem dX3_ofReader_31 : decode cX3_ofReader 31 = .ok (.ireturn, 1) := by decide +kernel
set_option maxRecDepth 20000 in
theorem ggX3_has_X3_reader : GoodIn wsX3_has wsX3_reader := goodIn_r _ [6, 7, 8, 9, 10, 11, 12, 13, 14, 15, 20, 21, 22, 23, 24, 25] (by decide +kernel) (by decide +kernel)
set_option maxRecDepth 20000 in
theorem gX3_has_X3_reader : GoodIn wsX3_has (wsV RX3 50 RX3 yX3_reader wsX3_reader) := goodIn_app (goodIn_of _ (by decide +kernel)) ggX3_has_X3_reader
set_option maxRecDepth 20000 in
theorem ggX3_has_X3_title : GoodIn wsX3_has wsX3_title := goodIn_r _ [19, 7, 8, 9, 10, 11, 12, 13, 14, 15, 20, 21, 22, 23, 24, 25] (by decide +kernel) (by decide +kernel)
set_option maxRecDepth 20000 in
theorem gX3_has_X3_title : GoodIn wsX3_has (wsV RX3 53 RX3 yX3_title wsX3_title) := goodIn_app (goodIn_of _ (by decide +kernel)) ggX3_has_X3_title
theorem dX3_has_0 : decode cX3_has 0 = .ok (.iconst 0, 1) := by decide +kernel
theorem dX3_has_1 : decode cX3_has 1 = .ok (.istore_n 3, 1) := by decide +kernel
theorem dX3_has_2 : decode cX3_has 2 = .ok (.iload_n 3, 1) := by decide +kernel
theorem dX3_has_3 : decode cX3_has 3 = .ok (.aload_n 0, 1) := by decide +kernel
theorem dX3_has_4 : decode cX3_has 4 = .ok (.getfield 24, 3) := by decide +kernel
theorem dX3_has_7 : decode cX3_has 7 = .ok (.if_icmp .ge 29, 3) := by decide +kernel
theorem dX3_has_10 : decode cX3_has 10 = .ok (.aload_n 0, 1) := by decide +kernel
theorem dX3_has_11 : decode cX3_has 11 = .ok (.iload_n 3, 1) := by decide +kernel
theorem dX3_has_12 : decode cX3_has 12 = .ok (.invokevirtual 50, 3) := by decide +kernel
theorem dX3_has_15 : decode cX3_has 15 = .ok (.iload_n 1, 1) := by decide +kernel
theorem dX3_has_16 : decode cX3_has 16 = .ok (.if_icmp .ne 14, 3) := by decide +kernel
theorem dX3_has_19 : decode cX3_has 19 = .ok (.aload_n 0, 1) := by decide +kernel
theorem dX3_has_20 : decode cX3_has 20 = .ok (.iload_n 3, 1) := by decide +kernel
theorem dX3_has_21 : decode cX3_has 21 = .ok (.invokevirtual 53, 3) := by decide +kernel
theorem dX3_has_24 : decode cX3_has 24 = .ok (.iload_n 2, 1) := by decide +kernel
theorem dX3_has_25 : decode cX3_has 25 = .ok (.if_icmp .ne 5, 3) := by decide +kernel
theorem dX3_has_28 : decode cX3_has 28 = .ok (.iconst 1, 1) := by decide +kernel
theorem dX3_has_29 : decode cX3_has 29 = .ok (.ireturn, 1) := by decide +kernel
theorem dX3_has_30 : decode cX3_has 30 = .ok (.iinc 3 1, 3) := by decide +kernel
theorem dX3_has_33 : decode cX3_has 33 = .ok (.goto (-31), 3) := by decide +kernel
theorem dX3_has_36 : decode cX3_has 36 = .ok (.iconst 0, 1) := by decide +kernel
theorem dX3_has_37 : decode cX3_has 37 = .ok (.ireturn, 1) := by decide +kernel
set_option maxRecDepth 20000 in
theorem ggX3_rowLength_X3_isInRow : GoodIn wsX3_rowLength wsX3_isInRow := goodIn_r _ [6, 7, 8, 9, 10, 11, 12, 13, 14, 15, 16, 17, 18, 19, 20, 21] (by decide +kernel) (by decide +kernel)
set_option maxRecDepth 20000 in
theorem gX3_rowLength_X3_isInRow : GoodIn wsX3_rowLength (wsV RX3 56 RX3 yX3_isInRow wsX3_isInRow) := goodIn_app (goodIn_of _ (by decide +kernel)) ggX3_rowLength_X3_isInRow
theorem dX3_rowLength_0 : decode cX3_rowLength 0 = .ok (.iconst 0, 1) := by decide +kernel
theorem dX3_rowLength_1 : decode cX3_rowLength 1 = .ok (.istore_n 2, 1) := by decide +kernel
theorem dX3_rowLength_2 : decode cX3_rowLength 2 = .ok (.iconst 0, 1) := by decide +kernel
theorem dX3_rowLength_3 : decode cX3_rowLength 3 = .ok (.istore_n 3, 1) := by decide +kernel
theorem dX3_rowLength_4 : decode cX3_rowLength 4 = .ok (.iload_n 3, 1) := by decide +kernel
theorem dX3_rowLength_5 : decode cX3_rowLength 5 = .ok (.aload_n 0, 1) := by decide +kernel
theorem dX3_rowLength_6 : decode cX3_rowLength 6 = .ok (.getfield 24, 3) := by decide +kernel
theorem dX3_rowLength_9 : decode cX3_rowLength 9 = .ok (.if_icmp .ge 21, 3) := by decide +kernel
theorem dX3_rowLength_12 : decode cX3_rowLength 12 = .ok (.aload_n 0, 1) := by decide +kernel
theorem dX3_rowLength_13 : decode cX3_rowLength 13 = .ok (.iload_n 3, 1) := by decide +kernel
theorem dX3_rowLength_14 : decode cX3_rowLength 14 = .ok (.iload_n 1, 1) := by decide +kernel
theorem dX3_rowLength_15 : decode cX3_rowLength 15 = .ok (.invokevirtual 56, 3) := by decide +kernel
theorem dX3_rowLength_18 : decode cX3_rowLength 18 = .ok (.ifCond .eq 6, 3) := by decide +kernel
theorem dX3_rowLength_21 : decode cX3_rowLength 21 = .ok (.iinc 2 1, 3) := by decide +kernel
theorem dX3_rowLength_24 : decode cX3_rowLength 24 = .ok (.iinc 3 1, 3) := by decide +kernel
theorem dX3_rowLength_27 : decode cX3_rowLength 27 = .ok (.goto (-23), 3) := by decide +kernel
theorem dX3_rowLength_30 : decode cX3_rowLength 30 = .ok (.iload_n 2, 1) := by decide +kernel
theorem dX3_rowLength_31 : decode cX3_rowLength 31 = .ok (.ireturn, 1) := by decide +kernel
set_option maxRecDepth 20000 in
theorem ggX3_firstOfRow_X3_isInRow : GoodIn wsX3_firstOfRow wsX3_isInRow := goodIn_r _ [6, 7, 8, 9, 10, 11, 12, 13, 14, 15, 20, 21, 22, 23, 24, 25] (by decide +kernel) (by decide +kernel)
set_option maxRecDepth 20000 in
theorem gX3_firstOfRow_X3_isInRow : GoodIn wsX3_firstOfRow (wsV RX3 56 RX3 yX3_isInRow wsX3_isInRow) := goodIn_app (goodIn_of _ (by decide +kernel)) ggX3_firstOfRow_X3_isInRow
set_option maxRecDepth 20000 in
theorem ggX3_firstOfRow_X3_need : GoodIn wsX3_firstOfRow wsX3_need := goodIn_r _ [19, 7, 8, 9, 10, 11, 12, 13, 14, 15, 20, 21, 22, 23, 24, 25] (by decide +kernel) (by decide +kernel)
set_option maxRecDepth 20000 in
theorem gX3_firstOfRow_X3_need : GoodIn wsX3_firstOfRow (wsV RX3 59 RX3 yX3_need wsX3_need) := goodIn_app (goodIn_of _ (by decide +kernel)) ggX3_firstOfRow_X3_need
theorem dX3_firstOfRow_0 : decode cX3_firstOfRow 0 = .ok (.iconst (-1), 1) := by decide +kernel
theorem dX3_firstOfRow_1 : decode cX3_firstOfRow 1 = .ok (.istore_n 2, 1) := by decide +kernel
theorem dX3_firstOfRow_2 : decode cX3_firstOfRow 2 = .ok (.iconst 0, 1) := by decide +kernel
theorem dX3_firstOfRow_3 : decode cX3_firstOfRow 3 = .ok (.istore_n 3, 1) := by decide +kernel
theorem dX3_firstOfRow_4 : decode cX3_firstOfRow 4 = .ok (.iload_n 3, 1) := by decide +kernel
theorem dX3_firstOfRow_5 : decode cX3_firstOfRow 5 = .ok (.aload_n 0, 1) := by decide +kernel
theorem dX3_firstOfRow_6 : decode cX3_firstOfRow 6 = .ok (.getfield 24, 3) := by decide +kernel
theorem dX3_firstOfRow_9 : decode cX3_firstOfRow 9 = .ok (.if_icmp .ge 38, 3) := by decide +kernel
theorem dX3_firstOfRow_12 : decode cX3_firstOfRow 12 = .ok (.aload_n 0, 1) := by decide +kernel
theorem dX3_firstOfRow_13 : decode cX3_firstOfRow 13 = .ok (.iload_n 3, 1) := by decide +kernel
theorem dX3_firstOfRow_14 : decode cX3_firstOfRow 14 = .ok (.iload_n 1, 1) := by decide +kernel
theorem dX3_firstOfRow_15 : decode cX3_firstOfRow 15 = .ok (.invokevirtual 56, 3) := by decide +kernel
theorem dX3_firstOfRow_18 : decode cX3_firstOfRow 18 = .ok (.ifCond .eq 23, 3) := by decide +kernel
theorem dX3_firstOfRow_21 : decode cX3_firstOfRow 21 = .ok (.iload_n 2, 1) := by decide +kernel
theorem dX3_firstOfRow_22 : decode cX3_firstOfRow 22 = .ok (.iconst (-1), 1) := by decide +kernel
theorem dX3_firstOfRow_23 : decode cX3_firstOfRow 23 = .ok (.if_icmp .eq 16, 3) := by decide +kernel
theorem dX3_firstOfRow_26 : decode cX3_firstOfRow 26 = .ok (.aload_n 0, 1) := by decide +kernel
theorem dX3_firstOfRow_27 : decode cX3_firstOfRow 27 = .ok (.iload_n 3, 1) := by decide +kernel
theorem dX3_firstOfRow_28 : decode cX3_firstOfRow 28 = .ok (.invokevirtual 59, 3) := by decide +kernel
theorem dX3_firstOfRow_31 : decode cX3_firstOfRow 31 = .ok (.aload_n 0, 1) := by decide +kernel
theorem dX3_firstOfRow_32 : decode cX3_firstOfRow 32 = .ok (.iload_n 2, 1) := by decide +kernel
theorem dX3_firstOfRow_33 : decode cX3_firstOfRow 33 = .ok (.invokevirtual 59, 3) := by decide +kernel
theorem dX3_firstOfRow_36 : decode cX3_firstOfRow 36 = .ok (.if_icmp .le 5, 3) := by decide +kernel
theorem dX3_firstOfRow_39 : decode cX3_firstOfRow 39 = .ok (.iload_n 3, 1) := by decide +kernel
theorem dX3_firstOfRow_40 : decode cX3_firstOfRow 40 = .ok (.istore_n 2, 1) := by decide +kernel
theorem dX3_firstOfRow_41 : decode cX3_firstOfRow 41 = .ok (.iinc 3 1, 3) := by decide +kernel
theorem dX3_firstOfRow_44 : decode cX3_firstOfRow 44 = .ok (.goto (-40), 3) := by decide +kernel
theorem dX3_firstOfRow_47 : decode cX3_firstOfRow 47 = .ok (.iload_n 2, 1) := by decide +kernel
theorem dX3_firstOfRow_48 : decode cX3_firstOfRow 48 = .ok (.ireturn, 1) := by decide +kernel
set_option maxRecDepth 20000 in
theorem ggX3_longestWait_X3_isInRow : GoodIn wsX3_longestWait wsX3_isInRow := goodIn_r _ [10, 11, 12, 13, 14, 15, 16, 17, 18, 19, 24, 25, 26, 27, 28, 29] (by decide +kernel) (by decide +kernel)
set_option maxRecDepth 20000 in
theorem gX3_longestWait_X3_isInRow : GoodIn wsX3_longestWait (wsV RX3 56 RX3 yX3_isInRow wsX3_isInRow) := goodIn_app (goodIn_of _ (by decide +kernel)) ggX3_longestWait_X3_isInRow
theorem dX3_longestWait_0 : decode cX3_longestWait 0 = .ok (.iconst 0, 1) := by decide +kernel
theorem dX3_longestWait_1 : decode cX3_longestWait 1 = .ok (.istore_n 3, 1) := by decide +kernel
theorem dX3_longestWait_2 : decode cX3_longestWait 2 = .ok (.iconst 0, 1) := by decide +kernel
theorem dX3_longestWait_3 : decode cX3_longestWait 3 = .ok (.istore 4, 2) := by decide +kernel
theorem dX3_longestWait_5 : decode cX3_longestWait 5 = .ok (.iload 4, 2) := by decide +kernel
theorem dX3_longestWait_7 : decode cX3_longestWait 7 = .ok (.aload_n 0, 1) := by decide +kernel
theorem dX3_longestWait_8 : decode cX3_longestWait 8 = .ok (.getfield 24, 3) := by decide +kernel
theorem dX3_longestWait_11 : decode cX3_longestWait 11 = .ok (.if_icmp .ge 32, 3) := by decide +kernel
theorem dX3_longestWait_14 : decode cX3_longestWait 14 = .ok (.aload_n 0, 1) := by decide +kernel
theorem dX3_longestWait_15 : decode cX3_longestWait 15 = .ok (.iload 4, 2) := by decide +kernel
theorem dX3_longestWait_17 : decode cX3_longestWait 17 = .ok (.iload_n 1, 1) := by decide +kernel
theorem dX3_longestWait_18 : decode cX3_longestWait 18 = .ok (.invokevirtual 56, 3) := by decide +kernel
theorem dX3_longestWait_21 : decode cX3_longestWait 21 = .ok (.ifCond .eq 16, 3) := by decide +kernel
theorem dX3_longestWait_24 : decode cX3_longestWait 24 = .ok (.iload_n 3, 1) := by decide +kernel
theorem dX3_longestWait_25 : decode cX3_longestWait 25 = .ok (.iload_n 2, 1) := by decide +kernel
theorem dX3_longestWait_26 : decode cX3_longestWait 26 = .ok (.aload_n 0, 1) := by decide +kernel
theorem dX3_longestWait_27 : decode cX3_longestWait 27 = .ok (.iload 4, 2) := by decide +kernel
theorem dX3_longestWait_29 : decode cX3_longestWait 29 = .ok (.invokevirtual 65, 3) := by decide +kernel
theorem dX3_longestWait_32 : decode cX3_longestWait 32 = .ok (.isub, 1) := by decide +kernel
theorem dX3_longestWait_33 : decode cX3_longestWait 33 = .ok (.invokestatic 68, 3) := by decide +kernel
theorem dX3_longestWait_36 : decode cX3_longestWait 36 = .ok (.istore_n 3, 1) := by decide +kernel
theorem dX3_longestWait_37 : decode cX3_longestWait 37 = .ok (.iinc 4 1, 3) := by decide +kernel
theorem dX3_longestWait_40 : decode cX3_longestWait 40 = .ok (.goto (-35), 3) := by decide +kernel
theorem dX3_longestWait_43 : decode cX3_longestWait 43 = .ok (.iload_n 3, 1) := by decide +kernel
theorem dX3_longestWait_44 : decode cX3_longestWait 44 = .ok (.ireturn, 1) := by decide +kernel
set_option maxRecDepth 20000 in
theorem ggX3_isInRow_X2_at : GoodIn wsX3_isInRow wsX2_at := goodIn_r _ [6, 7, 8, 9, 13, 14, 15] (by decide +kernel) (by decide +kernel)
set_option maxRecDepth 20000 in
theorem gX3_isInRow_X2_at : GoodIn wsX3_isInRow (wsV RX3 20 RX2 yX2_at wsX2_at) := goodIn_app (goodIn_of _ (by decide +kernel)) ggX3_isInRow_X2_at
theorem dX3_isInRow_0 : decode cX3_isInRow 0 = .ok (.aload_n 0, 1) := by decide +kernel
theorem dX3_isInRow_1 : decode cX3_isInRow 1 = .ok (.getfield 16, 3) := by decide +kernel
theorem dX3_isInRow_4 : decode cX3_isInRow 4 = .ok (.iload_n 1, 1) := by decide +kernel
theorem dX3_isInRow_5 : decode cX3_isInRow 5 = .ok (.iconst 1, 1) := by decide +kernel
theorem dX3_isInRow_6 : decode cX3_isInRow 6 = .ok (.invokevirtual 20, 3) := by decide +kernel
theorem dX3_isInRow_9 : decode cX3_isInRow 9 = .ok (.iload_n 2, 1) := by decide +kernel
theorem dX3_isInRow_10 : decode cX3_isInRow 10 = .ok (.if_icmp .ne 20, 3) := by decide +kernel
theorem dX3_isInRow_13 : decode cX3_isInRow 13 = .ok (.aload_n 0, 1) := by decide +kernel
theorem dX3_isInRow_14 : decode cX3_isInRow 14 = .ok (.getfield 16, 3) := by decide +kernel
theorem dX3_isInRow_17 : decode cX3_isInRow 17 = .ok (.iload_n 1, 1) := by decide +kernel
theorem dX3_isInRow_18 : decode cX3_isInRow 18 = .ok (.iconst 5, 1) := by decide +kernel
theorem dX3_isInRow_19 : decode cX3_isInRow 19 = .ok (.invokevirtual 20, 3) := by decide +kernel
theorem dX3_isInRow_22 : decode cX3_isInRow 22 = .ok (.iconst (-1), 1) := by decide +kernel
theorem dX3_isInRow_23 : decode cX3_isInRow 23 = .ok (.if_icmp .ne 7, 3) := by decide +kernel
theorem dX3_isInRow_26 : decode cX3_isInRow 26 = .ok (.iconst 1, 1) := by decide +kernel
theorem dX3_isInRow_27 : decode cX3_isInRow 27 = .ok (.goto 4, 3) := by decide +kernel
theorem dX3_isInRow_30 : decode cX3_isInRow 30 = .ok (.iconst 0, 1) := by decide +kernel
theorem dX3_isInRow_31 : decode cX3_isInRow 31 = .ok (.ireturn, 1) := by decide +kernel
set_option maxRecDepth 20000 in
theorem ggX3_become_X2_become : GoodIn wsX3_become wsX2_become := goodIn_r _ [8, 9, 10, 11, 12, 13, 14, 15, 16, 17, 21, 22, 23] (by decide +kernel) (by decide +kernel)
set_option maxRecDepth 20000 in
theorem gX3_become_X2_become : GoodIn wsX3_become (wsV RX3 73 RX2 yX2_become wsX2_become) := goodIn_app (goodIn_of _ (by decide +kernel)) ggX3_become_X2_become
theorem dX3_become_0 : decode cX3_become 0 = .ok (.aload_n 0, 1) := by decide +kernel
theorem dX3_become_1 : decode cX3_become 1 = .ok (.aload_n 1, 1) := by decide +kernel
theorem dX3_become_2 : decode cX3_become 2 = .ok (.getfield 24, 3) := by decide +kernel
theorem dX3_become_5 : decode cX3_become 5 = .ok (.putfield 24, 3) := by decide +kernel
theorem dX3_become_8 : decode cX3_become 8 = .ok (.aload_n 0, 1) := by decide +kernel
theorem dX3_become_9 : decode cX3_become 9 = .ok (.aload_n 1, 1) := by decide +kernel
theorem dX3_become_10 : decode cX3_become 10 = .ok (.getfield 32, 3) := by decide +kernel
theorem dX3_become_13 : decode cX3_become 13 = .ok (.putfield 32, 3) := by decide +kernel
theorem dX3_become_16 : decode cX3_become 16 = .ok (.aload_n 0, 1) := by decide +kernel
theorem dX3_become_17 : decode cX3_become 17 = .ok (.getfield 16, 3) := by decide +kernel
theorem dX3_become_20 : decode cX3_become 20 = .ok (.aload_n 1, 1) := by decide +kernel
theorem dX3_become_21 : decode cX3_become 21 = .ok (.getfield 16, 3) := by decide +kernel
theorem dX3_become_24 : decode cX3_become 24 = .ok (.invokevirtual 73, 3) := by decide +kernel
theorem dX3_become_27 : decode cX3_become 27 = .ok (.return_, 1) := by decide +kernel
