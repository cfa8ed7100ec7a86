set_option maxRecDepth 20000 in
theorem ggX1_init_X2_init : GoodIn wsX1_init wsX2_init := goodIn_r _ [10, 11, 2, 3, 12, 13, 14, 15, 16, 17, 18, 19, 20, 21, 22] (by decide +kernel) (by decide +kernel)
set_option maxRecDepth 20000 in
theorem gX1_init_X2_init : GoodIn wsX1_init (wsX2_init) := ggX1_init_X2_init
theorem dX1_init_0 : decode cX1_init 0 = .ok (.aload_n 0, 1) := by decide +kernel
theorem dX1_init_1 : decode cX1_init 1 = .ok (.invokespecial 3, 3) := by decide +kernel
theorem dX1_init_4 : decode cX1_init 4 = .ok (.aload_n 0, 1) := by decide +kernel
theorem dX1_init_5 : decode cX1_init 5 = .ok (.new 9, 3) := by decide +kernel
theorem dX1_init_8 : decode cX1_init 8 = .ok (.dup, 1) := by decide +kernel
theorem dX1_init_9 : decode cX1_init 9 = .ok (.bipush 16, 2) := by decide +kernel
theorem dX1_init_11 : decode cX1_init 11 = .ok (.iconst 5, 1) := by decide +kernel
theorem dX1_init_12 : decode cX1_init 12 = .ok (.invokespecial 13, 3) := by decide +kernel
theorem dX1_init_15 : decode cX1_init 15 = .ok (.putfield 16, 3) := by decide +kernel
theorem dX1_init_18 : decode cX1_init 18 = .ok (.return_, 1) := by decide +kernel
set_option maxRecDepth 20000 in
theorem ggX1_add_X2_put : GoodIn wsX1_add wsX2_put := goodIn_r _ [7, 8, 9, 10, 18, 19, 20] (by decide +kernel) (by decide +kernel)
set_option maxRecDepth 20000 in
theorem gX1_add_X2_put : GoodIn wsX1_add (wsV RX1 28 RX2 yX2_put wsX2_put) := goodIn_app (goodIn_of _ (by decide +kernel)) ggX1_add_X2_put
set_option maxRecDepth 20000 in
theorem ggX1_add_X1_write : GoodIn wsX1_add wsX1_write := goodIn_r _ [15, 2, 3, 4, 5, 6, 7, 8, 9, 10, 16, 17, 18, 19, 20] (by decide +kernel) (by decide +kernel)
set_option maxRecDepth 20000 in
theorem gX1_add_X1_write : GoodIn wsX1_add (wsV RX1 32 RX1 yX1_write wsX1_write) := goodIn_app (goodIn_of _ (by decide +kernel)) ggX1_add_X1_write
theorem dX1_add_0 : decode cX1_add 0 = .ok (.aload_n 0, 1) := by decide +kernel
theorem dX1_add_1 : decode cX1_add 1 = .ok (.getfield 24, 3) := by decide +kernel
theorem dX1_add_4 : decode cX1_add 4 = .ok (.istore_n 3, 1) := by decide +kernel
theorem dX1_add_5 : decode cX1_add 5 = .ok (.aload_n 0, 1) := by decide +kernel
theorem dX1_add_6 : decode cX1_add 6 = .ok (.dup, 1) := by decide +kernel
theorem dX1_add_7 : decode cX1_add 7 = .ok (.getfield 24, 3) := by decide +kernel
theorem dX1_add_10 : decode cX1_add 10 = .ok (.iconst 1, 1) := by decide +kernel
theorem dX1_add_11 : decode cX1_add 11 = .ok (.iadd, 1) := by decide +kernel
theorem dX1_add_12 : decode cX1_add 12 = .ok (.putfield 24, 3) := by decide +kernel
theorem dX1_add_15 : decode cX1_add 15 = .ok (.aload_n 0, 1) := by decide +kernel
theorem dX1_add_16 : decode cX1_add 16 = .ok (.getfield 16, 3) := by decide +kernel
theorem dX1_add_19 : decode cX1_add 19 = .ok (.iload_n 3, 1) := by decide +kernel
theorem dX1_add_20 : decode cX1_add 20 = .ok (.iconst 0, 1) := by decide +kernel
theorem dX1_add_21 : decode cX1_add 21 = .ok (.iload_n 1, 1) := by decide +kernel
theorem dX1_add_22 : decode cX1_add 22 = .ok (.invokevirtual 28, 3) := by decide +kernel
theorem dX1_add_25 : decode cX1_add 25 = .ok (.aload_n 0, 1) := by decide +kernel
theorem dX1_add_26 : decode cX1_add 26 = .ok (.iload_n 3, 1) := by decide +kernel
theorem dX1_add_27 : decode cX1_add 27 = .ok (.iload_n 2, 1) := by decide +kernel
theorem dX1_add_28 : decode cX1_add 28 = .ok (.iconst 0, 1) := by decide +kernel
theorem dX1_add_29 : decode cX1_add 29 = .ok (.iconst (-1), 1) := by decide +kernel
theorem dX1_add_30 : decode cX1_add 30 = .ok (.iconst (-1), 1) := by decide +kernel
theorem dX1_add_31 : decode cX1_add 31 = .ok (.invokevirtual 32, 3) := by decide +kernel
theorem dX1_add_34 : decode cX1_add 34 = .ok (.iload_n 3, 1) := by decide +kernel
theorem dX1_add_35 : decode cX1_add 35 = .ok (.ireturn, 1) := by decide +kernel
set_option maxRecDepth 20000 in
theorem ggX1_write_X2_put : GoodIn wsX1_write wsX2_put := goodIn_r _ [6, 7, 8, 9, 12, 13, 14] (by decide +kernel) (by decide +kernel)
set_option maxRecDepth 20000 in
theorem gX1_write_X2_put : GoodIn wsX1_write (wsV RX1 28 RX2 yX2_put wsX2_put) := goodIn_app (goodIn_of _ (by decide +kernel)) ggX1_write_X2_put
theorem dX1_write_0 : decode cX1_write 0 = .ok (.aload_n 0, 1) := by decide +kernel
theorem dX1_write_1 : decode cX1_write 1 = .ok (.getfield 16, 3) := by decide +kernel
theorem dX1_write_4 : decode cX1_write 4 = .ok (.iload_n 1, 1) := by decide +kernel
theorem dX1_write_5 : decode cX1_write 5 = .ok (.iconst 1, 1) := by decide +kernel
theorem dX1_write_6 : decode cX1_write 6 = .ok (.iload_n 2, 1) := by decide +kernel
theorem dX1_write_7 : decode cX1_write 7 = .ok (.invokevirtual 28, 3) := by decide +kernel
theorem dX1_write_10 : decode cX1_write 10 = .ok (.aload_n 0, 1) := by decide +kernel
theorem dX1_write_11 : decode cX1_write 11 = .ok (.getfield 16, 3) := by decide +kernel
theorem dX1_write_14 : decode cX1_write 14 = .ok (.iload_n 1, 1) := by decide +kernel
theorem dX1_write_15 : decode cX1_write 15 = .ok (.iconst 2, 1) := by decide +kernel
theorem dX1_write_16 : decode cX1_write 16 = .ok (.iload_n 3, 1) := by decide +kernel
theorem dX1_write_17 : decode cX1_write 17 = .ok (.invokevirtual 28, 3) := by decide +kernel
theorem dX1_write_20 : decode cX1_write 20 = .ok (.aload_n 0, 1) := by decide +kernel
theorem dX1_write_21 : decode cX1_write 21 = .ok (.getfield 16, 3) := by decide +kernel
theorem dX1_write_24 : decode cX1_write 24 = .ok (.iload_n 1, 1) := by decide +kernel
theorem dX1_write_25 : decode cX1_write 25 = .ok (.iconst 3, 1) := by decide +kernel
theorem dX1_write_26 : decode cX1_write 26 = .ok (.iload 4, 2) := by decide +kernel
theorem dX1_write_28 : decode cX1_write 28 = .ok (.invokevirtual 28, 3) := by decide +kernel
theorem dX1_write_31 : decode cX1_write 31 = .ok (.aload_n 0, 1) := by decide +kernel
theorem dX1_write_32 : decode cX1_write 32 = .ok (.getfield 16, 3) := by decide +kernel
theorem dX1_write_35 : decode cX1_write 35 = .ok (.iload_n 1, 1) := by decide +kernel
theorem dX1_write_36 : decode cX1_write 36 = .ok (.iconst 4, 1) := by decide +kernel
theorem dX1_write_37 : decode cX1_write 37 = .ok (.iload 5, 2) := by decide +kernel
theorem dX1_write_39 : decode cX1_write 39 = .ok (.invokevirtual 28, 3) := by decide +kernel
theorem dX1_write_42 : decode cX1_write 42 = .ok (.return_, 1) := by decide +kernel
theorem dX1_thatAre_0 : decode cX1_thatAre 0 = .ok (.iconst 0, 1) := by decide +kernel
theorem dX1_thatAre_1 : decode cX1_thatAre 1 = .ok (.istore_n 2, 1) := by decide +kernel
theorem dX1_thatAre_2 : decode cX1_thatAre 2 = .ok (.iconst 0, 1) := by decide +kernel
theorem dX1_thatAre_3 : decode cX1_thatAre 3 = .ok (.istore_n 3, 1) := by decide +kernel
theorem dX1_thatAre_4 : decode cX1_thatAre 4 = .ok (.iload_n 3, 1) := by decide +kernel
theorem dX1_thatAre_5 : decode cX1_thatAre 5 = .ok (.aload_n 0, 1) := by decide +kernel
theorem dX1_thatAre_6 : decode cX1_thatAre 6 = .ok (.getfield 24, 3) := by decide +kernel
theorem dX1_thatAre_9 : decode cX1_thatAre 9 = .ok (.if_icmp .ge 24, 3) := by decide +kernel
theorem dX1_thatAre_12 : decode cX1_thatAre 12 = .ok (.aload_n 0, 1) := by decide +kernel
theorem dX1_thatAre_13 : decode cX1_thatAre 13 = .ok (.iload_n 3, 1) := by decide +kernel
theorem dX1_thatAre_14 : decode cX1_thatAre 14 = .ok (.invokevirtual 36, 3) := by decide +kernel
theorem dX1_thatAre_17 : decode cX1_thatAre 17 = .ok (.iload_n 1, 1) := by decide +kernel
theorem dX1_thatAre_18 : decode cX1_thatAre 18 = .ok (.if_icmp .ne 9, 3) := by decide +kernel
theorem dX1_thatAre_21 : decode cX1_thatAre 21 = .ok (.iload_n 2, 1) := by decide +kernel
theorem dX1_thatAre_22 : decode cX1_thatAre 22 = .ok (.iconst 1, 1) := by decide +kernel
theorem dX1_thatAre_23 : decode cX1_thatAre 23 = .ok (.iload_n 3, 1) := by decide +kernel
theorem dX1_thatAre_24 : decode cX1_thatAre 24 = .ok (.ishl, 1) := by decide +kernel
theorem dX1_thatAre_25 : decode cX1_thatAre 25 = .ok (.ior, 1) := by decide +kernel
theorem dX1_thatAre_26 : decode cX1_thatAre 26 = .ok (.istore_n 2, 1) := by decide +kernel
theorem dX1_thatAre_27 : decode cX1_thatAre 27 = .ok (.iinc 3 1, 3) := by decide +kernel
theorem dX1_thatAre_30 : decode cX1_thatAre 30 = .ok (.goto (-26), 3) := by decide +kernel
theorem dX1_thatAre_33 : decode cX1_thatAre 33 = .ok (.iload_n 2, 1) := by decide +kernel
theorem dX1_thatAre_34 : decode cX1_thatAre 34 = .ok (.ireturn, 1) := by decide +kernel
theorem dX1_ofTitle_0 : decode cX1_ofTitle 0 = .ok (.iconst 0, 1) := by decide +kernel
theorem dX1_ofTitle_1 : decode cX1_ofTitle 1 = .ok (.istore_n 2, 1) := by decide +kernel
theorem dX1_ofTitle_2 : decode cX1_ofTitle 2 = .ok (.iconst 0, 1) := by decide +kernel
theorem dX1_ofTitle_3 : decode cX1_ofTitle 3 = .ok (.istore_n 3, 1) := by decide +kernel
theorem dX1_ofTitle_4 : decode cX1_ofTitle 4 = .ok (.iload_n 3, 1) := by decide +kernel
theorem dX1_ofTitle_5 : decode cX1_ofTitle 5 = .ok (.aload_n 0, 1) := by decide +kernel
theorem dX1_ofTitle_6 : decode cX1_ofTitle 6 = .ok (.getfield 24, 3) := by decide +kernel
theorem dX1_ofTitle_9 : decode cX1_ofTitle 9 = .ok (.if_icmp .ge 24, 3) := by decide +kernel
theorem dX1_ofTitle_12 : decode cX1_ofTitle 12 = .ok (.aload_n 0, 1) := by decide +kernel
theorem dX1_ofTitle_13 : decode cX1_ofTitle 13 = .ok (.iload_n 3, 1) := by decide +kernel
theorem dX1_ofTitle_14 : decode cX1_ofTitle 14 = .ok (.invokevirtual 40, 3) := by decide +kernel
theorem dX1_ofTitle_17 : decode cX1_ofTitle 17 = .ok (.iload_n 1, 1) := by decide +kernel
theorem dX1_ofTitle_18 : decode cX1_ofTitle 18 = .ok (.if_icmp .ne 9, 3) := by decide +kernel
theorem dX1_ofTitle_21 : decode cX1_ofTitle 21 = .ok (.iload_n 2, 1) := by decide +kernel
theorem dX1_ofTitle_22 : decode cX1_ofTitle 22 = .ok (.iconst 1, 1) := by decide +kernel
theorem dX1_ofTitle_23 : decode cX1_ofTitle 23 = .ok (.iload_n 3, 1) := by decide +kernel
theorem dX1_ofTitle_24 : decode cX1_ofTitle 24 = .ok (.ishl, 1) := by decide +kernel
theorem dX1_ofTitle_25 : decode cX1_ofTitle 25 = .ok (.ior, 1) := by decide +kernel
theorem dX1_ofTitle_26 : decode cX1_ofTitle 26 = .ok (.istore_n 2, 1) := by decide +kernel
theorem dX1_ofTitle_27 : decode cX1_ofTitle 27 = .ok (.iinc 3 1, 3) := by decide +kernel
theorem dX1_ofTitle_30 : decode cX1_ofTitle 30 = .ok (.goto (-26), 3) := by decide +kernel
theorem dX1_ofTitle_33 : decode cX1_ofTitle 33 = .ok (.iload_n 2, 1) := by decide +kernel
theorem dX1_ofTitle_34 : decode cX1_ofTitle 34 = .ok (.ireturn, 1) := by decide +kernel
theorem dX1_outTo_0 : decode cX1_outTo 0 = .ok (.iconst 0, 1) := by decide +kernel
theorem dX1_outTo_1 : decode cX1_outTo 1 = .ok (.istore_n 2, 1) := by decide +kernel
theorem dX1_outTo_2 : decode cX1_outTo 2 = .ok (.iconst 0, 1) := by decide +kernel
theorem dX1_outTo_3 : decode cX1_outTo 3 = .ok (.istore_n 3, 1) := by decide +kernel
theorem dX1_outTo_4 : decode cX1_outTo 4 = .ok (.iload_n 3, 1) := by decide +kernel
theorem dX1_outTo_5 : decode cX1_outTo 5 = .ok (.aload_n 0, 1) := by decide +kernel
theorem dX1_outTo_6 : decode cX1_outTo 6 = .ok (.getfield 24, 3) := by decide +kernel
theorem dX1_outTo_9 : decode cX1_outTo 9 = .ok (.if_icmp .ge 24, 3) := by decide +kernel
theorem dX1_outTo_12 : decode cX1_outTo 12 = .ok (.aload_n 0, 1) := by decide +kernel
theorem dX1_outTo_13 : decode cX1_outTo 13 = .ok (.iload_n 3, 1) := by decide +kernel
theorem dX1_outTo_14 : decode cX1_outTo 14 = .ok (.iload_n 1, 1) := by decide +kernel
theorem dX1_outTo_15 : decode cX1_outTo 15 = .ok (.invokevirtual 43, 3) := by decide +kernel
theorem dX1_outTo_18 : decode cX1_outTo 18 = .ok (.ifCond .eq 9, 3) := by decide +kernel
theorem dX1_outTo_21 : decode cX1_outTo 21 = .ok (.iload_n 2, 1) := by decide +kernel
theorem dX1_outTo_22 : decode cX1_outTo 22 = .ok (.iconst 1, 1) := by decide +kernel
theorem dX1_outTo_23 : decode cX1_outTo 23 = .ok (.iload_n 3, 1) := by decide +kernel
theorem dX1_outTo_24 : decode cX1_outTo 24 = .ok (.ishl, 1) := by decide +kernel
theorem dX1_outTo_25 : decode cX1_outTo 25 = .ok (.ior, 1) := by decide +kernel
theorem dX1_outTo_26 : decode cX1_outTo 26 = .ok (.istore_n 2, 1) := by decide +kernel
theorem dX1_outTo_27 : decode cX1_outTo 27 = .ok (.iinc 3 1, 3) := by decide +kernel
theorem dX1_outTo_30 : decode cX1_outTo 30 = .ok (.goto (-26), 3) := by decide +kernel
theorem dX1_outTo_33 : decode cX1_outTo 33 = .ok (.iload_n 2, 1) := by decide +kernel
theorem dX1_outTo_34 : decode cX1_outTo 34 = .ok (.ireturn, 1) := by decide +kernel
theorem dX1_overdue_0 : decode cX1_overdue 0 = .ok (.iconst 0, 1) := by decide +kernel
theorem dX1_overdue_1 : decode cX1_overdue 1 = .ok (.istore_n 2, 1) := by decide +kernel
theorem dX1_overdue_2 : decode cX1_overdue 2 = .ok (.iconst 0, 1) := by decide +kernel
theorem dX1_overdue_3 : decode cX1_overdue 3 = .ok (.istore_n 3, 1) := by decide +kernel
theorem dX1_overdue_4 : decode cX1_overdue 4 = .ok (.iload_n 3, 1) := by decide +kernel
theorem dX1_overdue_5 : decode cX1_overdue 5 = .ok (.aload_n 0, 1) := by decide +kernel
theorem dX1_overdue_6 : decode cX1_overdue 6 = .ok (.getfield 24, 3) := by decide +kernel
theorem dX1_overdue_9 : decode cX1_overdue 9 = .ok (.if_icmp .ge 33, 3) := by decide +kernel
theorem dX1_overdue_12 : decode cX1_overdue 12 = .ok (.aload_n 0, 1) := by decide +kernel
theorem dX1_overdue_13 : decode cX1_overdue 13 = .ok (.iload_n 3, 1) := by decide +kernel
theorem dX1_overdue_14 : decode cX1_overdue 14 = .ok (.invokevirtual 36, 3) := by decide +kernel
theorem dX1_overdue_17 : decode cX1_overdue 17 = .ok (.iconst 1, 1) := by decide +kernel
theorem dX1_overdue_18 : decode cX1_overdue 18 = .ok (.if_icmp .ne 18, 3) := by decide +kernel
theorem dX1_overdue_21 : decode cX1_overdue 21 = .ok (.iload_n 1, 1) := by decide +kernel
theorem dX1_overdue_22 : decode cX1_overdue 22 = .ok (.aload_n 0, 1) := by decide +kernel
theorem dX1_overdue_23 : decode cX1_overdue 23 = .ok (.iload_n 3, 1) := by decide +kernel
theorem dX1_overdue_24 : decode cX1_overdue 24 = .ok (.invokevirtual 47, 3) := by decide +kernel
theorem dX1_overdue_27 : decode cX1_overdue 27 = .ok (.if_icmp .le 9, 3) := by decide +kernel
theorem dX1_overdue_30 : decode cX1_overdue 30 = .ok (.iload_n 2, 1) := by decide +kernel
theorem dX1_overdue_31 : decode cX1_overdue 31 = .ok (.iconst 1, 1) := by decide +kernel
theorem dX1_overdue_32 : decode cX1_overdue 32 = .ok (.iload_n 3, 1) := by decide +kernel
theorem dX1_overdue_33 : decode cX1_overdue 33 = .ok (.ishl, 1) := by decide +kernel
theorem dX1_overdue_34 : decode cX1_overdue 34 = .ok (.ior, 1) := by decide +kernel
theorem dX1_overdue_35 : decode cX1_overdue 35 = .ok (.istore_n 2, 1) := by decide +kernel
theorem dX1_overdue_36 : decode cX1_overdue 36 = .ok (.iinc 3 1, 3) := by decide +kernel
theorem dX1_overdue_39 : decode cX1_overdue 39 = .ok (.goto (-35), 3) := by decide +kernel
theorem dX1_overdue_42 : decode cX1_overdue 42 = .ok (.iload_n 2, 1) := by decide +kernel
theorem dX1_overdue_43 : decode cX1_overdue 43 = .ok (.ireturn, 1) := by decide +kernel
theorem dX1_owedBy_0 : decode cX1_owedBy 0 = .ok (.iconst 0, 1) := by decide +kernel
theorem dX1_owedBy_1 : decode cX1_owedBy 1 = .ok (.istore_n 3, 1) := by decide +kernel
theorem dX1_owedBy_2 : decode cX1_owedBy 2 = .ok (.iconst 0, 1) := by decide +kernel
theorem dX1_owedBy_3 : decode cX1_owedBy 3 = .ok (.istore 4, 2) := by decide +kernel
theorem dX1_owedBy_5 : decode cX1_owedBy 5 = .ok (.iload 4, 2) := by decide +kernel
theorem dX1_owedBy_7 : decode cX1_owedBy 7 = .ok (.aload_n 0, 1) := by decide +kernel
theorem dX1_owedBy_8 : decode cX1_owedBy 8 = .ok (.getfield 24, 3) := by decide +kernel
theorem dX1_owedBy_11 : decode cX1_owedBy 11 = .ok (.if_icmp .ge 36, 3) := by decide +kernel
theorem dX1_owedBy_14 : decode cX1_owedBy 14 = .ok (.aload_n 0, 1) := by decide +kernel
theorem dX1_owedBy_15 : decode cX1_owedBy 15 = .ok (.iload 4, 2) := by decide +kernel
theorem dX1_owedBy_17 : decode cX1_owedBy 17 = .ok (.iload_n 1, 1) := by decide +kernel
theorem dX1_owedBy_18 : decode cX1_owedBy 18 = .ok (.invokevirtual 43, 3) := by decide +kernel
theorem dX1_owedBy_21 : decode cX1_owedBy 21 = .ok (.ifCond .eq 20, 3) := by decide +kernel
theorem dX1_owedBy_24 : decode cX1_owedBy 24 = .ok (.iload_n 3, 1) := by decide +kernel
theorem dX1_owedBy_25 : decode cX1_owedBy 25 = .ok (.iconst 5, 1) := by decide +kernel
theorem dX1_owedBy_26 : decode cX1_owedBy 26 = .ok (.iload_n 2, 1) := by decide +kernel
theorem dX1_owedBy_27 : decode cX1_owedBy 27 = .ok (.aload_n 0, 1) := by decide +kernel
theorem dX1_owedBy_28 : decode cX1_owedBy 28 = .ok (.iload 4, 2) := by decide +kernel
theorem dX1_owedBy_30 : decode cX1_owedBy 30 = .ok (.invokevirtual 47, 3) := by decide +kernel
theorem dX1_owedBy_33 : decode cX1_owedBy 33 = .ok (.isub, 1) := by decide +kernel
theorem dX1_owedBy_34 : decode cX1_owedBy 34 = .ok (.iconst 0, 1) := by decide +kernel
theorem dX1_owedBy_35 : decode cX1_owedBy 35 = .ok (.invokestatic 55, 3) := by decide +kernel
theorem dX1_owedBy_38 : decode cX1_owedBy 38 = .ok (.imul, 1) := by decide +kernel
theorem dX1_owedBy_39 : decode cX1_owedBy 39 = .ok (.iadd, 1) := by decide +kernel
theorem dX1_owedBy_40 : decode cX1_owedBy 40 = .ok (.istore_n 3, 1) := by decide +kernel
theorem dX1_owedBy_41 : decode cX1_owedBy 41 = .ok (.iinc 4 1, 3) := by decide +kernel
theorem dX1_owedBy_44 : decode cX1_owedBy 44 = .ok (.goto (-39), 3) := by decide +kernel
theorem dX1_owedBy_47 : decode cX1_owedBy 47 = .ok (.iload_n 3, 1) := by decide +kernel
theorem dX1_owedBy_48 : decode cX1_owedBy 48 = .ok (.ireturn, 1) := by decide +kernel
theorem dX1_greatestStep_0 : decode cX1_greatestStep 0 = .ok (.iconst 0, 1) := by decide +kernel
theorem dX1_greatestStep_1 : decode cX1_greatestStep 1 = .ok (.istore_n 3, 1) := by decide +kernel
theorem dX1_greatestStep_2 : decode cX1_greatestStep 2 = .ok (.iconst 0, 1) := by decide +kernel
theorem dX1_greatestStep_3 : decode cX1_greatestStep 3 = .ok (.istore 4, 2) := by decide +kernel
theorem dX1_greatestStep_5 : decode cX1_greatestStep 5 = .ok (.iload 4, 2) := by decide +kernel
theorem dX1_greatestStep_7 : decode cX1_greatestStep 7 = .ok (.aload_n 0, 1) := by decide +kernel
theorem dX1_greatestStep_8 : decode cX1_greatestStep 8 = .ok (.getfield 24, 3) := by decide +kernel
theorem dX1_greatestStep_11 : decode cX1_greatestStep 11 = .ok (.if_icmp .ge 31, 3) := by decide +kernel
theorem dX1_greatestStep_14 : decode cX1_greatestStep 14 = .ok (.aload_n 0, 1) := by decide +kernel
theorem dX1_greatestStep_15 : decode cX1_greatestStep 15 = .ok (.iload 4, 2) := by decide +kernel
theorem dX1_greatestStep_17 : decode cX1_greatestStep 17 = .ok (.iload_n 1, 1) := by decide +kernel
theorem dX1_greatestStep_18 : decode cX1_greatestStep 18 = .ok (.invokevirtual 43, 3) := by decide +kernel
theorem dX1_greatestStep_21 : decode cX1_greatestStep 21 = .ok (.ifCond .eq 15, 3) := by decide +kernel
theorem dX1_greatestStep_24 : decode cX1_greatestStep 24 = .ok (.iload_n 3, 1) := by decide +kernel
theorem dX1_greatestStep_25 : decode cX1_greatestStep 25 = .ok (.aload_n 0, 1) := by decide +kernel
theorem dX1_greatestStep_26 : decode cX1_greatestStep 26 = .ok (.iload 4, 2) := by decide +kernel
theorem dX1_greatestStep_28 : decode cX1_greatestStep 28 = .ok (.iload_n 2, 1) := by decide +kernel
theorem dX1_greatestStep_29 : decode cX1_greatestStep 29 = .ok (.invokevirtual 58, 3) := by decide +kernel
theorem dX1_greatestStep_32 : decode cX1_greatestStep 32 = .ok (.invokestatic 55, 3) := by decide +kernel
theorem dX1_greatestStep_35 : decode cX1_greatestStep 35 = .ok (.istore_n 3, 1) := by decide +kernel
theorem dX1_greatestStep_36 : decode cX1_greatestStep 36 = .ok (.iinc 4 1, 3) := by decide +kernel
theorem dX1_greatestStep_39 : decode cX1_greatestStep 39 = .ok (.goto (-34), 3) := by decide +kernel
theorem dX1_greatestStep_42 : decode cX1_greatestStep 42 = .ok (.iload_n 3, 1) := by decide +kernel
theorem dX1_greatestStep_43 : decode cX1_greatestStep 43 = .ok (.ireturn, 1) := by decide +kernel
theorem dX1_nearestIn_0 : decode cX1_nearestIn 0 = .ok (.iconst (-1), 1) := by decide +kernel
theorem dX1_nearestIn_1 : decode cX1_nearestIn 1 = .ok (.istore_n 3, 1) := by decide +kernel
theorem dX1_nearestIn_2 : decode cX1_nearestIn 2 = .ok (.iconst 4, 1) := by decide +kernel
theorem dX1_nearestIn_3 : decode cX1_nearestIn 3 = .ok (.istore 4, 2) := by decide +kernel
theorem dX1_nearestIn_5 : decode cX1_nearestIn 5 = .ok (.iconst 0, 1) := by decide +kernel
theorem dX1_nearestIn_6 : decode cX1_nearestIn 6 = .ok (.istore 5, 2) := by decide +kernel
theorem dX1_nearestIn_8 : decode cX1_nearestIn 8 = .ok (.iload 5, 2) := by decide +kernel
theorem dX1_nearestIn_10 : decode cX1_nearestIn 10 = .ok (.aload_n 0, 1) := by decide +kernel
theorem dX1_nearestIn_11 : decode cX1_nearestIn 11 = .ok (.getfield 24, 3) := by decide +kernel
theorem dX1_nearestIn_14 : decode cX1_nearestIn 14 = .ok (.if_icmp .ge 58, 3) := by decide +kernel
theorem dX1_nearestIn_17 : decode cX1_nearestIn 17 = .ok (.aload_n 0, 1) := by decide +kernel
theorem dX1_nearestIn_18 : decode cX1_nearestIn 18 = .ok (.iload 5, 2) := by decide +kernel
theorem dX1_nearestIn_20 : decode cX1_nearestIn 20 = .ok (.invokevirtual 40, 3) := by decide +kernel
theorem dX1_nearestIn_23 : decode cX1_nearestIn 23 = .ok (.iload_n 1, 1) := by decide +kernel
theorem dX1_nearestIn_24 : decode cX1_nearestIn 24 = .ok (.if_icmp .ne 42, 3) := by decide +kernel
theorem dX1_nearestIn_27 : decode cX1_nearestIn 27 = .ok (.aload_n 0, 1) := by decide +kernel
theorem dX1_nearestIn_28 : decode cX1_nearestIn 28 = .ok (.iload 5, 2) := by decide +kernel
theorem dX1_nearestIn_30 : decode cX1_nearestIn 30 = .ok (.invokevirtual 36, 3) := by decide +kernel
theorem dX1_nearestIn_33 : decode cX1_nearestIn 33 = .ok (.ifCond .ne 33, 3) := by decide +kernel
theorem dX1_nearestIn_36 : decode cX1_nearestIn 36 = .ok (.aload_n 0, 1) := by decide +kernel
theorem dX1_nearestIn_37 : decode cX1_nearestIn 37 = .ok (.iload 5, 2) := by decide +kernel
theorem dX1_nearestIn_39 : decode cX1_nearestIn 39 = .ok (.invokevirtual 61, 3) := by decide +kernel
theorem dX1_nearestIn_42 : decode cX1_nearestIn 42 = .ok (.iload_n 2, 1) := by decide +kernel
theorem dX1_nearestIn_43 : decode cX1_nearestIn 43 = .ok (.invokestatic 64, 3) := by decide +kernel
theorem dX1_nearestIn_46 : decode cX1_nearestIn 46 = .ok (.iload 4, 2) := by decide +kernel
theorem dX1_nearestIn_48 : decode cX1_nearestIn 48 = .ok (.if_icmp .ge 18, 3) := by decide +kernel
theorem dX1_nearestIn_51 : decode cX1_nearestIn 51 = .ok (.iload 5, 2) := by decide +kernel
theorem dX1_nearestIn_53 : decode cX1_nearestIn 53 = .ok (.istore_n 3, 1) := by decide +kernel
theorem dX1_nearestIn_54 : decode cX1_nearestIn 54 = .ok (.aload_n 0, 1) := by decide +kernel
theorem dX1_nearestIn_55 : decode cX1_nearestIn 55 = .ok (.iload 5, 2) := by decide +kernel
theorem dX1_nearestIn_57 : decode cX1_nearestIn 57 = .ok (.invokevirtual 61, 3) := by decide +kernel
theorem dX1_nearestIn_60 : decode cX1_nearestIn 60 = .ok (.iload_n 2, 1) := by decide +kernel
theorem dX1_nearestIn_61 : decode cX1_nearestIn 61 = .ok (.invokestatic 64, 3) := by decide +kernel
theorem dX1_nearestIn_64 : decode cX1_nearestIn 64 = .ok (.istore 4, 2) := by decide +kernel
theorem dX1_nearestIn_66 : decode cX1_nearestIn 66 = .ok (.iinc 5 1, 3) := by decide +kernel
theorem dX1_nearestIn_69 : decode cX1_nearestIn 69 = .ok (.goto (-61), 3) := by decide +kernel
theorem dX1_nearestIn_72 : decode cX1_nearestIn 72 = .ok (.iload_n 3, 1) := by decide +kernel
theorem dX1_nearestIn_73 : decode cX1_nearestIn 73 = .ok (.ireturn, 1) := by decide +kernel
set_option maxRecDepth 20000 in
theorem ggX1_become_X2_become : GoodIn wsX1_become wsX2_become := goodIn_r _ [7, 8, 9, 10, 11, 12, 13, 14, 15, 16, 19, 20, 21] (by decide +kernel) (by decide +kernel)
set_option maxRecDepth 20000 in
theorem gX1_become_X2_become : GoodIn wsX1_become (wsV RX1 78 RX2 yX2_become wsX2_become) := goodIn_app (goodIn_of _ (by decide +kernel)) ggX1_become_X2_become
theorem dX1_become_0 : decode cX1_become 0 = .ok (.aload_n 0, 1) := by decide +kernel
theorem dX1_become_1 : decode cX1_become 1 = .ok (.aload_n 1, 1) := by decide +kernel
theorem dX1_become_2 : decode cX1_become 2 = .ok (.getfield 24, 3) := by decide +kernel
theorem dX1_become_5 : decode cX1_become 5 = .ok (.putfield 24, 3) := by decide +kernel
theorem dX1_become_8 : decode cX1_become 8 = .ok (.aload_n 0, 1) := by decide +kernel
theorem dX1_become_9 : decode cX1_become 9 = .ok (.getfield 16, 3) := by decide +kernel
theorem dX1_become_12 : decode cX1_become 12 = .ok (.aload_n 1, 1) := by decide +kernel
theorem dX1_become_13 : decode cX1_become 13 = .ok (.getfield 16, 3) := by decide +kernel
theorem dX1_become_16 : decode cX1_become 16 = .ok (.invokevirtual 78, 3) := by decide +kernel
theorem dX1_become_19 : decode cX1_become 19 = .ok (.return_, 1) := by decide +kernel
