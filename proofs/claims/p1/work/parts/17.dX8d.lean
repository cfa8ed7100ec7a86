theorem dX8_undo_21 : decode cX8_undo 21 = .ok (.istore_n 1, 1) := by decide +kernel
theorem dX8_undo_22 : decode cX8_undo 22 = .ok (.iload_n 1, 1) := by decide +kernel
theorem dX8_undo_23 : decode cX8_undo 23 = .ok (.sipush 172, 3) := by decide +kernel
theorem dX8_undo_26 : decode cX8_undo 26 = .ok (.if_icmp .ge 30, 3) := by decide +kernel
theorem dX8_undo_29 : decode cX8_undo 29 = .ok (.aload_n 0, 1) := by decide +kernel
theorem dX8_undo_30 : decode cX8_undo 30 = .ok (.getfield 7, 3) := by decide +kernel
theorem dX8_undo_33 : decode cX8_undo 33 = .ok (.iload_n 1, 1) := by decide +kernel
theorem dX8_undo_34 : decode cX8_undo 34 = .ok (.aload_n 0, 1) := by decide +kernel
theorem dX8_undo_35 : decode cX8_undo 35 = .ok (.getfield 13, 3) := by decide +kernel
theorem dX8_undo_38 : decode cX8_undo 38 = .ok (.sipush 172, 3) := by decide +kernel
theorem dX8_undo_41 : decode cX8_undo 41 = .ok (.aload_n 0, 1) := by decide +kernel
theorem dX8_undo_42 : decode cX8_undo 42 = .ok (.getfield 82, 3) := by decide +kernel
theorem dX8_undo_45 : decode cX8_undo 45 = .ok (.imul, 1) := by decide +kernel
theorem dX8_undo_46 : decode cX8_undo 46 = .ok (.iload_n 1, 1) := by decide +kernel
theorem dX8_undo_47 : decode cX8_undo 47 = .ok (.iadd, 1) := by decide +kernel
theorem dX8_undo_48 : decode cX8_undo 48 = .ok (.iaload, 1) := by decide +kernel
theorem dX8_undo_49 : decode cX8_undo 49 = .ok (.iastore, 1) := by decide +kernel
theorem dX8_undo_50 : decode cX8_undo 50 = .ok (.iinc 1 1, 3) := by decide +kernel
theorem dX8_undo_53 : decode cX8_undo 53 = .ok (.goto (-31), 3) := by decide +kernel
theorem dX8_undo_56 : decode cX8_undo 56 = .ok (.aload_n 0, 1) := by decide +kernel
theorem dX8_undo_57 : decode cX8_undo 57 = .ok (.getfield 82, 3) := by decide +kernel
theorem dX8_undo_60 : decode cX8_undo 60 = .ok (.ireturn, 1) := by decide +kernel
theorem dX8_copiesThat_0 : decode cX8_copiesThat 0 = .ok (.iconst 0, 1) := by decide +kernel
theorem dX8_copiesThat_1 : decode cX8_copiesThat 1 = .ok (.istore_n 2, 1) := by decide +kernel
theorem dX8_copiesThat_2 : decode cX8_copiesThat 2 = .ok (.iconst 0, 1) := by decide +kernel
theorem dX8_copiesThat_3 : decode cX8_copiesThat 3 = .ok (.istore_n 3, 1) := by decide +kernel
theorem dX8_copiesThat_4 : decode cX8_copiesThat 4 = .ok (.iload_n 3, 1) := by decide +kernel
theorem dX8_copiesThat_5 : decode cX8_copiesThat 5 = .ok (.aload_n 0, 1) := by decide +kernel
theorem dX8_copiesThat_6 : decode cX8_copiesThat 6 = .ok (.getfield 7, 3) := by decide +kernel
theorem dX8_copiesThat_9 : decode cX8_copiesThat 9 = .ok (.iconst 4, 1) := by decide +kernel
theorem dX8_copiesThat_10 : decode cX8_copiesThat 10 = .ok (.iaload, 1) := by decide +kernel
theorem dX8_copiesThat_11 : decode cX8_copiesThat 11 = .ok (.if_icmp .ge 29, 3) := by decide +kernel
theorem dX8_copiesThat_14 : decode cX8_copiesThat 14 = .ok (.iload_n 2, 1) := by decide +kernel
theorem dX8_copiesThat_15 : decode cX8_copiesThat 15 = .ok (.aload_n 0, 1) := by decide +kernel
theorem dX8_copiesThat_16 : decode cX8_copiesThat 16 = .ok (.iload_n 3, 1) := by decide +kernel
theorem dX8_copiesThat_17 : decode cX8_copiesThat 17 = .ok (.iconst 2, 1) := by decide +kernel
theorem dX8_copiesThat_18 : decode cX8_copiesThat 18 = .ok (.invokevirtual 51, 3) := by decide +kernel
theorem dX8_copiesThat_21 : decode cX8_copiesThat 21 = .ok (.iload_n 1, 1) := by decide +kernel
theorem dX8_copiesThat_22 : decode cX8_copiesThat 22 = .ok (.if_icmp .ne 9, 3) := by decide +kernel
theorem dX8_copiesThat_25 : decode cX8_copiesThat 25 = .ok (.iconst 1, 1) := by decide +kernel
theorem dX8_copiesThat_26 : decode cX8_copiesThat 26 = .ok (.iload_n 3, 1) := by decide +kernel
theorem dX8_copiesThat_27 : decode cX8_copiesThat 27 = .ok (.ishl, 1) := by decide +kernel
theorem dX8_copiesThat_28 : decode cX8_copiesThat 28 = .ok (.goto 4, 3) := by decide +kernel
theorem dX8_copiesThat_31 : decode cX8_copiesThat 31 = .ok (.iconst 0, 1) := by decide +kernel
theorem dX8_copiesThat_32 : decode cX8_copiesThat 32 = .ok (.ior, 1) := by decide +kernel
theorem dX8_copiesThat_33 : decode cX8_copiesThat 33 = .ok (.istore_n 2, 1) := by decide +kernel
theorem dX8_copiesThat_34 : decode cX8_copiesThat 34 = .ok (.iinc 3 1, 3) := by decide +kernel
theorem dX8_copiesThat_37 : decode cX8_copiesThat 37 = .ok (.goto (-33), 3) := by decide +kernel
theorem dX8_copiesThat_40 : decode cX8_copiesThat 40 = .ok (.iload_n 2, 1) := by decide +kernel
theorem dX8_copiesThat_41 : decode cX8_copiesThat 41 = .ok (.ireturn, 1) := by decide +kernel
theorem dX8_overdue_0 : decode cX8_overdue 0 = .ok (.iconst 0, 1) := by decide +kernel
theorem dX8_overdue_1 : decode cX8_overdue 1 = .ok (.istore_n 1, 1) := by decide +kernel
theorem dX8_overdue_2 : decode cX8_overdue 2 = .ok (.iconst 0, 1) := by decide +kernel
theorem dX8_overdue_3 : decode cX8_overdue 3 = .ok (.istore_n 2, 1) := by decide +kernel
theorem dX8_overdue_4 : decode cX8_overdue 4 = .ok (.iload_n 2, 1) := by decide +kernel
theorem dX8_overdue_5 : decode cX8_overdue 5 = .ok (.aload_n 0, 1) := by decide +kernel
theorem dX8_overdue_6 : decode cX8_overdue 6 = .ok (.getfield 7, 3) := by decide +kernel
theorem dX8_overdue_9 : decode cX8_overdue 9 = .ok (.iconst 4, 1) := by decide +kernel
theorem dX8_overdue_10 : decode cX8_overdue 10 = .ok (.iaload, 1) := by decide +kernel
theorem dX8_overdue_11 : decode cX8_overdue 11 = .ok (.if_icmp .ge 27, 3) := by decide +kernel
theorem dX8_overdue_14 : decode cX8_overdue 14 = .ok (.iload_n 1, 1) := by decide +kernel
theorem dX8_overdue_15 : decode cX8_overdue 15 = .ok (.aload_n 0, 1) := by decide +kernel
theorem dX8_overdue_16 : decode cX8_overdue 16 = .ok (.iload_n 2, 1) := by decide +kernel
theorem dX8_overdue_17 : decode cX8_overdue 17 = .ok (.invokevirtual 122, 3) := by decide +kernel
theorem dX8_overdue_20 : decode cX8_overdue 20 = .ok (.ifCond .le 9, 3) := by decide +kernel
theorem dX8_overdue_23 : decode cX8_overdue 23 = .ok (.iconst 1, 1) := by decide +kernel
theorem dX8_overdue_24 : decode cX8_overdue 24 = .ok (.iload_n 2, 1) := by decide +kernel
theorem dX8_overdue_25 : decode cX8_overdue 25 = .ok (.ishl, 1) := by decide +kernel
theorem dX8_overdue_26 : decode cX8_overdue 26 = .ok (.goto 4, 3) := by decide +kernel
theorem dX8_overdue_29 : decode cX8_overdue 29 = .ok (.iconst 0, 1) := by decide +kernel
theorem dX8_overdue_30 : decode cX8_overdue 30 = .ok (.ior, 1) := by decide +kernel
theorem dX8_overdue_31 : decode cX8_overdue 31 = .ok (.istore_n 1, 1) := by decide +kernel
theorem dX8_overdue_32 : decode cX8_overdue 32 = .ok (.iinc 2 1, 3) := by decide +kernel
theorem dX8_overdue_35 : decode cX8_overdue 35 = .ok (.goto (-31), 3) := by decide +kernel
theorem dX8_overdue_38 : decode cX8_overdue 38 = .ok (.iload_n 1, 1) := by decide +kernel
theorem dX8_overdue_39 : decode cX8_overdue 39 = .ok (.ireturn, 1) := by decide +kernel
set_option maxRecDepth 20000 in
theorem ggX8_waiting_X8_holdAt : GoodIn wsX8_waiting wsX8_holdAt := goodIn_r _ [6, 1, 7, 8, 9, 10, 11, 12] (by decide +kernel) (by decide +kernel)
set_option maxRecDepth 20000 in
theorem gX8_waiting_X8_holdAt : GoodIn wsX8_waiting (wsV RX8 41 RX8 yX8_holdAt wsX8_holdAt) := goodIn_app (goodIn_of _ (by decide +kernel)) ggX8_waiting_X8_holdAt
theorem dX8_waiting_0 : decode cX8_waiting 0 = .ok (.iconst 0, 1) := by decide +kernel
theorem dX8_waiting_1 : decode cX8_waiting 1 = .ok (.istore_n 1, 1) := by decide +kernel
theorem dX8_waiting_2 : decode cX8_waiting 2 = .ok (.iconst 0, 1) := by decide +kernel
theorem dX8_waiting_3 : decode cX8_waiting 3 = .ok (.istore_n 2, 1) := by decide +kernel
theorem dX8_waiting_4 : decode cX8_waiting 4 = .ok (.iload_n 2, 1) := by decide +kernel
theorem dX8_waiting_5 : decode cX8_waiting 5 = .ok (.aload_n 0, 1) := by decide +kernel
theorem dX8_waiting_6 : decode cX8_waiting 6 = .ok (.getfield 7, 3) := by decide +kernel
theorem dX8_waiting_9 : decode cX8_waiting 9 = .ok (.iconst 5, 1) := by decide +kernel
theorem dX8_waiting_10 : decode cX8_waiting 10 = .ok (.iaload, 1) := by decide +kernel
theorem dX8_waiting_11 : decode cX8_waiting 11 = .ok (.if_icmp .ge 27, 3) := by decide +kernel
theorem dX8_waiting_14 : decode cX8_waiting 14 = .ok (.iload_n 1, 1) := by decide +kernel
theorem dX8_waiting_15 : decode cX8_waiting 15 = .ok (.aload_n 0, 1) := by decide +kernel
theorem dX8_waiting_16 : decode cX8_waiting 16 = .ok (.iload_n 2, 1) := by decide +kernel
theorem dX8_waiting_17 : decode cX8_waiting 17 = .ok (.bipush 6, 2) := by decide +kernel
theorem dX8_waiting_19 : decode cX8_waiting 19 = .ok (.invokevirtual 41, 3) := by decide +kernel
theorem dX8_waiting_22 : decode cX8_waiting 22 = .ok (.ifCond .ne 7, 3) := by decide +kernel
theorem dX8_waiting_25 : decode cX8_waiting 25 = .ok (.iconst 1, 1) := by decide +kernel
theorem dX8_waiting_26 : decode cX8_waiting 26 = .ok (.goto 4, 3) := by decide +kernel
theorem dX8_waiting_29 : decode cX8_waiting 29 = .ok (.iconst 0, 1) := by decide +kernel
theorem dX8_waiting_30 : decode cX8_waiting 30 = .ok (.iadd, 1) := by decide +kernel
theorem dX8_waiting_31 : decode cX8_waiting 31 = .ok (.istore_n 1, 1) := by decide +kernel
theorem dX8_waiting_32 : decode cX8_waiting 32 = .ok (.iinc 2 1, 3) := by decide +kernel
theorem dX8_waiting_35 : decode cX8_waiting 35 = .ok (.goto (-31), 3) := by decide +kernel
theorem dX8_waiting_38 : decode cX8_waiting 38 = .ok (.iload_n 1, 1) := by decide +kernel
theorem dX8_waiting_39 : decode cX8_waiting 39 = .ok (.ireturn, 1) := by decide +kernel
set_option maxRecDepth 20000 in
theorem ggX8_told_X8_copiesThat : GoodIn wsX8_told wsX8_copiesThat := goodIn_r _ [8, 1, 9, 10, 11, 7, 12, 39, 40, 41, 42, 43, 44] (by decide +kernel) (by decide +kernel)
set_option maxRecDepth 20000 in
theorem gX8_told_X8_copiesThat : GoodIn wsX8_told (wsV RX8 175 RX8 yX8_copiesThat wsX8_copiesThat) := goodIn_app (goodIn_of _ (by decide +kernel)) ggX8_told_X8_copiesThat
set_option maxRecDepth 20000 in
theorem ggX8_told_X8_waiting : GoodIn wsX8_told wsX8_waiting := goodIn_r _ [16, 1, 17, 18, 19, 7, 20, 39, 40, 41, 42, 43, 44] (by decide +kernel) (by decide +kernel)
set_option maxRecDepth 20000 in
theorem gX8_told_X8_waiting : GoodIn wsX8_told (wsV RX8 178 RX8 yX8_waiting wsX8_waiting) := goodIn_app (goodIn_of _ (by decide +kernel)) ggX8_told_X8_waiting
set_option maxRecDepth 20000 in
theorem ggX8_told_X8_ones : GoodIn wsX8_told wsX8_ones := goodIn_r _ [23] (by decide +kernel) (by decide +kernel)
set_option maxRecDepth 20000 in
theorem gX8_told_X8_ones : GoodIn wsX8_told (va_wsS RX8 100 yX8_ones wsX8_ones) := goodIn_app (goodIn_of _ (by decide +kernel)) ggX8_told_X8_ones
set_option maxRecDepth 20000 in
theorem ggX8_told_X8_overdue : GoodIn wsX8_told wsX8_overdue := goodIn_r _ [27, 1, 28, 29, 30, 7, 31, 9, 10, 11, 12, 39, 40, 41, 42, 43, 44] (by decide +kernel) (by decide +kernel)
set_option maxRecDepth 20000 in
theorem gX8_told_X8_overdue : GoodIn wsX8_told (wsV RX8 182 RX8 yX8_overdue wsX8_overdue) := goodIn_app (goodIn_of _ (by decide +kernel)) ggX8_told_X8_overdue
set_option maxRecDepth 20000 in
theorem ggX8_told_X8_isClosed : GoodIn wsX8_told wsX8_isClosed := goodIn_r _ [35, 1, 36, 37, 7, 38, 39, 40, 41, 42, 43, 44] (by decide +kernel) (by decide +kernel)
set_option maxRecDepth 20000 in
theorem gX8_told_X8_isClosed : GoodIn wsX8_told (wsV RX8 37 RX8 yX8_isClosed wsX8_isClosed) := goodIn_app (goodIn_of _ (by decide +kernel)) ggX8_told_X8_isClosed
theorem dX8_told_0 : decode cX8_told 0 = .ok (.iload_n 1, 1) := by decide +kernel
theorem dX8_told_1 : decode cX8_told 1 = .ok (.tableswitch 146 0 15 #[79, 79, 79, 79, 79, 86, 86, 86, 86, 86, 94, 101, 106, 117, 122, 141], 79) := by decide +kernel
theorem dX8_told_80 : decode cX8_told 80 = .ok (.aload_n 0, 1) := by decide +kernel
theorem dX8_told_81 : decode cX8_told 81 = .ok (.getfield 7, 3) := by decide +kernel
theorem dX8_told_84 : decode cX8_told 84 = .ok (.iload_n 1, 1) := by decide +kernel
theorem dX8_told_85 : decode cX8_told 85 = .ok (.iaload, 1) := by decide +kernel
theorem dX8_told_86 : decode cX8_told 86 = .ok (.ireturn, 1) := by decide +kernel
theorem dX8_told_87 : decode cX8_told 87 = .ok (.aload_n 0, 1) := by decide +kernel
theorem dX8_told_88 : decode cX8_told 88 = .ok (.iload_n 1, 1) := by decide +kernel
theorem dX8_told_89 : decode cX8_told 89 = .ok (.iconst 5, 1) := by decide +kernel
theorem dX8_told_90 : decode cX8_told 90 = .ok (.isub, 1) := by decide +kernel
theorem dX8_told_91 : decode cX8_told 91 = .ok (.invokevirtual 175, 3) := by decide +kernel
theorem dX8_told_94 : decode cX8_told 94 = .ok (.ireturn, 1) := by decide +kernel
theorem dX8_told_95 : decode cX8_told 95 = .ok (.aload_n 0, 1) := by decide +kernel
theorem dX8_told_96 : decode cX8_told 96 = .ok (.getfield 7, 3) := by decide +kernel
theorem dX8_told_99 : decode cX8_told 99 = .ok (.iconst 5, 1) := by decide +kernel
theorem dX8_told_100 : decode cX8_told 100 = .ok (.iaload, 1) := by decide +kernel
theorem dX8_told_101 : decode cX8_told 101 = .ok (.ireturn, 1) := by decide +kernel
theorem dX8_told_102 : decode cX8_told 102 = .ok (.aload_n 0, 1) := by decide +kernel
theorem dX8_told_103 : decode cX8_told 103 = .ok (.invokevirtual 178, 3) := by decide +kernel
theorem dX8_told_106 : decode cX8_told 106 = .ok (.ireturn, 1) := by decide +kernel
theorem dX8_told_107 : decode cX8_told 107 = .ok (.aload_n 0, 1) := by decide +kernel
theorem dX8_told_108 : decode cX8_told 108 = .ok (.getfield 7, 3) := by decide +kernel
theorem dX8_told_111 : decode cX8_told 111 = .ok (.bipush 7, 2) := by decide +kernel
theorem dX8_told_113 : decode cX8_told 113 = .ok (.iaload, 1) := by decide +kernel
theorem dX8_told_114 : decode cX8_told 114 = .ok (.invokestatic 100, 3) := by decide +kernel
theorem dX8_told_117 : decode cX8_told 117 = .ok (.ireturn, 1) := by decide +kernel
theorem dX8_told_118 : decode cX8_told 118 = .ok (.aload_n 0, 1) := by decide +kernel
theorem dX8_told_119 : decode cX8_told 119 = .ok (.invokevirtual 182, 3) := by decide +kernel
theorem dX8_told_122 : decode cX8_told 122 = .ok (.ireturn, 1) := by decide +kernel
theorem dX8_told_123 : decode cX8_told 123 = .ok (.aload_n 0, 1) := by decide +kernel
theorem dX8_told_124 : decode cX8_told 124 = .ok (.aload_n 0, 1) := by decide +kernel
theorem dX8_told_125 : decode cX8_told 125 = .ok (.getfield 7, 3) := by decide +kernel
theorem dX8_told_128 : decode cX8_told 128 = .ok (.iconst 0, 1) := by decide +kernel
theorem dX8_told_129 : decode cX8_told 129 = .ok (.iaload, 1) := by decide +kernel
theorem dX8_told_130 : decode cX8_told 130 = .ok (.invokevirtual 37, 3) := by decide +kernel
theorem dX8_told_133 : decode cX8_told 133 = .ok (.ifCond .eq 7, 3) := by decide +kernel
theorem dX8_told_136 : decode cX8_told 136 = .ok (.iconst 1, 1) := by decide +kernel
theorem dX8_told_137 : decode cX8_told 137 = .ok (.goto 4, 3) := by decide +kernel
theorem dX8_told_140 : decode cX8_told 140 = .ok (.iconst 0, 1) := by decide +kernel
theorem dX8_told_141 : decode cX8_told 141 = .ok (.ireturn, 1) := by decide +kernel
theorem dX8_told_142 : decode cX8_told 142 = .ok (.aload_n 0, 1) := by decide +kernel
theorem dX8_told_143 : decode cX8_told 143 = .ok (.getfield 82, 3) := by decide +kernel
theorem dX8_told_146 : decode cX8_told 146 = .ok (.ireturn, 1) := by decide +kernel
theorem dX8_told_147 : decode cX8_told 147 = .ok (.ldc 131, 2) := by decide +kernel
theorem dX8_told_149 : decode cX8_told 149 = .ok (.ireturn, 1) := by decide +kernel
set_option maxRecDepth 20000 in
theorem ggX8_copyOf_X8_isCopy : GoodIn wsX8_copyOf wsX8_isCopy := goodIn_r _ [7, 8, 9, 10, 6, 11, 20, 21, 22, 23, 24, 25] (by decide +kernel) (by decide +kernel)
set_option maxRecDepth 20000 in
theorem gX8_copyOf_X8_isCopy : GoodIn wsX8_copyOf (wsV RX8 106 RX8 yX8_isCopy wsX8_isCopy) := goodIn_app (goodIn_of _ (by decide +kernel)) ggX8_copyOf_X8_isCopy
theorem dX8_copyOf_0 : decode cX8_copyOf 0 = .ok (.aload_n 0, 1) := by decide +kernel
theorem dX8_copyOf_1 : decode cX8_copyOf 1 = .ok (.iload_n 1, 1) := by decide +kernel
theorem dX8_copyOf_2 : decode cX8_copyOf 2 = .ok (.invokevirtual 106, 3) := by decide +kernel
theorem dX8_copyOf_5 : decode cX8_copyOf 5 = .ok (.ifCond .ne 6, 3) := by decide +kernel
theorem dX8_copyOf_8 : decode cX8_copyOf 8 = .ok (.ldc 92, 2) := by decide +kernel
theorem dX8_copyOf_10 : decode cX8_copyOf 10 = .ok (.ireturn, 1) := by decide +kernel
theorem dX8_copyOf_11 : decode cX8_copyOf 11 = .ok (.aload_n 0, 1) := by decide +kernel
theorem dX8_copyOf_12 : decode cX8_copyOf 12 = .ok (.iload_n 1, 1) := by decide +kernel
theorem dX8_copyOf_13 : decode cX8_copyOf 13 = .ok (.iconst 2, 1) := by decide +kernel
theorem dX8_copyOf_14 : decode cX8_copyOf 14 = .ok (.invokevirtual 51, 3) := by decide +kernel
theorem dX8_copyOf_17 : decode cX8_copyOf 17 = .ok (.ifCond .eq 13, 3) := by decide +kernel
theorem dX8_copyOf_20 : decode cX8_copyOf 20 = .ok (.aload_n 0, 1) := by decide +kernel
theorem dX8_copyOf_21 : decode cX8_copyOf 21 = .ok (.iload_n 1, 1) := by decide +kernel
theorem dX8_copyOf_22 : decode cX8_copyOf 22 = .ok (.iconst 2, 1) := by decide +kernel
theorem dX8_copyOf_23 : decode cX8_copyOf 23 = .ok (.invokevirtual 51, 3) := by decide +kernel
theorem dX8_copyOf_26 : decode cX8_copyOf 26 = .ok (.iconst 4, 1) := by decide +kernel
theorem dX8_copyOf_27 : decode cX8_copyOf 27 = .ok (.if_icmp .ne 7, 3) := by decide +kernel
theorem dX8_copyOf_30 : decode cX8_copyOf 30 = .ok (.iconst 1, 1) := by decide +kernel
theorem dX8_copyOf_31 : decode cX8_copyOf 31 = .ok (.goto 4, 3) := by decide +kernel
theorem dX8_copyOf_34 : decode cX8_copyOf 34 = .ok (.iconst 0, 1) := by decide +kernel
theorem dX8_copyOf_35 : decode cX8_copyOf 35 = .ok (.istore_n 3, 1) := by decide +kernel
theorem dX8_copyOf_36 : decode cX8_copyOf 36 = .ok (.iload_n 2, 1) := by decide +kernel
theorem dX8_copyOf_37 : decode cX8_copyOf 37 = .ok (.tableswitch 67 0 5 #[39, 39, 39, 46, 46, 61], 39) := by decide +kernel
theorem dX8_copyOf_76 : decode cX8_copyOf 76 = .ok (.aload_n 0, 1) := by decide +kernel
theorem dX8_copyOf_77 : decode cX8_copyOf 77 = .ok (.iload_n 1, 1) := by decide +kernel
theorem dX8_copyOf_78 : decode cX8_copyOf 78 = .ok (.iload_n 2, 1) := by decide +kernel
theorem dX8_copyOf_79 : decode cX8_copyOf 79 = .ok (.invokevirtual 51, 3) := by decide +kernel
theorem dX8_copyOf_82 : decode cX8_copyOf 82 = .ok (.ireturn, 1) := by decide +kernel
theorem dX8_copyOf_83 : decode cX8_copyOf 83 = .ok (.iload_n 3, 1) := by decide +kernel
theorem dX8_copyOf_84 : decode cX8_copyOf 84 = .ok (.ifCond .eq 7, 3) := by decide +kernel
theorem dX8_copyOf_87 : decode cX8_copyOf 87 = .ok (.iconst (-1), 1) := by decide +kernel
theorem dX8_copyOf_88 : decode cX8_copyOf 88 = .ok (.goto 9, 3) := by decide +kernel
theorem dX8_copyOf_91 : decode cX8_copyOf 91 = .ok (.aload_n 0, 1) := by decide +kernel
theorem dX8_copyOf_92 : decode cX8_copyOf 92 = .ok (.iload_n 1, 1) := by decide +kernel
theorem dX8_copyOf_93 : decode cX8_copyOf 93 = .ok (.iload_n 2, 1) := by decide +kernel
theorem dX8_copyOf_94 : decode cX8_copyOf 94 = .ok (.invokevirtual 51, 3) := by decide +kernel
theorem dX8_copyOf_97 : decode cX8_copyOf 97 = .ok (.ireturn, 1) := by decide +kernel
theorem dX8_copyOf_98 : decode cX8_copyOf 98 = .ok (.aload_n 0, 1) := by decide +kernel
theorem dX8_copyOf_99 : decode cX8_copyOf 99 = .ok (.iload_n 1, 1) := by decide +kernel
theorem dX8_copyOf_100 : decode cX8_copyOf 100 = .ok (.invokevirtual 122, 3) := by decide +kernel
theorem dX8_copyOf_103 : decode cX8_copyOf 103 = .ok (.ireturn, 1) := by decide +kernel
theorem dX8_copyOf_104 : decode cX8_copyOf 104 = .ok (.ldc 131, 2) := by decide +kernel
theorem dX8_copyOf_106 : decode cX8_copyOf 106 = .ok (.ireturn, 1) := by decide +kernel
set_option maxRecDepth 20000 in
theorem ggX8_holdOf_X8_findHold : GoodIn wsX8_holdOf wsX8_findHold := goodIn_r _ [7, 8, 9, 10, 11, 6, 12, 42, 43, 44, 45, 46, 47] (by decide +kernel) (by decide +kernel)
set_option maxRecDepth 20000 in
theorem gX8_holdOf_X8_findHold : GoodIn wsX8_holdOf (wsV RX8 72 RX8 yX8_findHold wsX8_findHold) := goodIn_app (goodIn_of _ (by decide +kernel)) ggX8_holdOf_X8_findHold
set_option maxRecDepth 20000 in
theorem ggX8_holdOf_X8_holdAt : GoodIn wsX8_holdOf wsX8_holdAt := goodIn_r _ [12, 8, 42, 43, 44, 45, 46, 47] (by decide +kernel) (by decide +kernel)
set_option maxRecDepth 20000 in
theorem gX8_holdOf_X8_holdAt : GoodIn wsX8_holdOf (wsV RX8 41 RX8 yX8_holdAt wsX8_holdAt) := goodIn_app (goodIn_of _ (by decide +kernel)) ggX8_holdOf_X8_holdAt
theorem dX8_holdOf_0 : decode cX8_holdOf 0 = .ok (.aload_n 0, 1) := by decide +kernel
theorem dX8_holdOf_1 : decode cX8_holdOf 1 = .ok (.iload_n 1, 1) := by decide +kernel
theorem dX8_holdOf_2 : decode cX8_holdOf 2 = .ok (.invokevirtual 72, 3) := by decide +kernel
theorem dX8_holdOf_5 : decode cX8_holdOf 5 = .ok (.istore_n 3, 1) := by decide +kernel
theorem dX8_holdOf_6 : decode cX8_holdOf 6 = .ok (.iload_n 3, 1) := by decide +kernel
theorem dX8_holdOf_7 : decode cX8_holdOf 7 = .ok (.ifCond .ge 6, 3) := by decide +kernel
theorem dX8_holdOf_10 : decode cX8_holdOf 10 = .ok (.ldc 92, 2) := by decide +kernel
theorem dX8_holdOf_12 : decode cX8_holdOf 12 = .ok (.ireturn, 1) := by decide +kernel
theorem dX8_holdOf_13 : decode cX8_holdOf 13 = .ok (.iload_n 2, 1) := by decide +kernel
theorem dX8_holdOf_14 : decode cX8_holdOf 14 = .ok (.tableswitch 77 0 8 #[50, 50, 50, 50, 50, 50, 59, 65, 71], 50) := by decide +kernel
theorem dX8_holdOf_64 : decode cX8_holdOf 64 = .ok (.aload_n 0, 1) := by decide +kernel
theorem dX8_holdOf_65 : decode cX8_holdOf 65 = .ok (.iload_n 3, 1) := by decide +kernel
theorem dX8_holdOf_66 : decode cX8_holdOf 66 = .ok (.iload_n 2, 1) := by decide +kernel
theorem dX8_holdOf_67 : decode cX8_holdOf 67 = .ok (.iconst 1, 1) := by decide +kernel
theorem dX8_holdOf_68 : decode cX8_holdOf 68 = .ok (.iadd, 1) := by decide +kernel
theorem dX8_holdOf_69 : decode cX8_holdOf 69 = .ok (.invokevirtual 41, 3) := by decide +kernel
theorem dX8_holdOf_72 : decode cX8_holdOf 72 = .ok (.ireturn, 1) := by decide +kernel
theorem dX8_holdOf_73 : decode cX8_holdOf 73 = .ok (.aload_n 0, 1) := by decide +kernel
theorem dX8_holdOf_74 : decode cX8_holdOf 74 = .ok (.iload_n 3, 1) := by decide +kernel
theorem dX8_holdOf_75 : decode cX8_holdOf 75 = .ok (.invokevirtual 139, 3) := by decide +kernel
theorem dX8_holdOf_78 : decode cX8_holdOf 78 = .ok (.ireturn, 1) := by decide +kernel
theorem dX8_holdOf_79 : decode cX8_holdOf 79 = .ok (.aload_n 0, 1) := by decide +kernel
theorem dX8_holdOf_80 : decode cX8_holdOf 80 = .ok (.iload_n 3, 1) := by decide +kernel
theorem dX8_holdOf_81 : decode cX8_holdOf 81 = .ok (.invokevirtual 185, 3) := by decide +kernel
theorem dX8_holdOf_84 : decode cX8_holdOf 84 = .ok (.ireturn, 1) := by decide +kernel
theorem dX8_holdOf_85 : decode cX8_holdOf 85 = .ok (.aload_n 0, 1) := by decide +kernel
theorem dX8_holdOf_86 : decode cX8_holdOf 86 = .ok (.iload_n 3, 1) := by decide +kernel
theorem dX8_holdOf_87 : decode cX8_holdOf 87 = .ok (.invokevirtual 192, 3) := by decide +kernel
theorem dX8_holdOf_90 : decode cX8_holdOf 90 = .ok (.ireturn, 1) := by decide +kernel
theorem dX8_holdOf_91 : decode cX8_holdOf 91 = .ok (.ldc 131, 2) := by decide +kernel
theorem dX8_holdOf_93 : decode cX8_holdOf 93 = .ok (.ireturn, 1) := by decide +kernel
theorem dX8_copiesOf_0 : decode cX8_copiesOf 0 = .ok (.iconst 0, 1) := by decide +kernel
theorem dX8_copiesOf_1 : decode cX8_copiesOf 1 = .ok (.istore_n 3, 1) := by decide +kernel
theorem dX8_copiesOf_2 : decode cX8_copiesOf 2 = .ok (.iconst 0, 1) := by decide +kernel
theorem dX8_copiesOf_3 : decode cX8_copiesOf 3 = .ok (.istore 4, 2) := by decide +kernel
theorem dX8_copiesOf_5 : decode cX8_copiesOf 5 = .ok (.iload 4, 2) := by decide +kernel
theorem dX8_copiesOf_7 : decode cX8_copiesOf 7 = .ok (.aload_n 0, 1) := by decide +kernel
theorem dX8_copiesOf_8 : decode cX8_copiesOf 8 = .ok (.getfield 7, 3) := by decide +kernel
theorem dX8_copiesOf_11 : decode cX8_copiesOf 11 = .ok (.iconst 4, 1) := by decide +kernel
theorem dX8_copiesOf_12 : decode cX8_copiesOf 12 = .ok (.iaload, 1) := by decide +kernel
theorem dX8_copiesOf_13 : decode cX8_copiesOf 13 = .ok (.if_icmp .ge 45, 3) := by decide +kernel
theorem dX8_copiesOf_16 : decode cX8_copiesOf 16 = .ok (.iload_n 3, 1) := by decide +kernel
theorem dX8_copiesOf_17 : decode cX8_copiesOf 17 = .ok (.aload_n 0, 1) := by decide +kernel
theorem dX8_copiesOf_18 : decode cX8_copiesOf 18 = .ok (.iload 4, 2) := by decide +kernel
theorem dX8_copiesOf_20 : decode cX8_copiesOf 20 = .ok (.iconst 0, 1) := by decide +kernel
theorem dX8_copiesOf_21 : decode cX8_copiesOf 21 = .ok (.invokevirtual 51, 3) := by decide +kernel
theorem dX8_copiesOf_24 : decode cX8_copiesOf 24 = .ok (.iload_n 1, 1) := by decide +kernel
theorem dX8_copiesOf_25 : decode cX8_copiesOf 25 = .ok (.if_icmp .ne 24, 3) := by decide +kernel
theorem dX8_copiesOf_28 : decode cX8_copiesOf 28 = .ok (.iload_n 2, 1) := by decide +kernel
theorem dX8_copiesOf_29 : decode cX8_copiesOf 29 = .ok (.ifCond .eq 13, 3) := by decide +kernel
theorem dX8_copiesOf_32 : decode cX8_copiesOf 32 = .ok (.aload_n 0, 1) := by decide +kernel
theorem dX8_copiesOf_33 : decode cX8_copiesOf 33 = .ok (.iload 4, 2) := by decide +kernel
theorem dX8_copiesOf_35 : decode cX8_copiesOf 35 = .ok (.iconst 2, 1) := by decide +kernel
theorem dX8_copiesOf_36 : decode cX8_copiesOf 36 = .ok (.invokevirtual 51, 3) := by decide +kernel
theorem dX8_copiesOf_39 : decode cX8_copiesOf 39 = .ok (.ifCond .ne 10, 3) := by decide +kernel
theorem dX8_copiesOf_42 : decode cX8_copiesOf 42 = .ok (.iconst 1, 1) := by decide +kernel
theorem dX8_copiesOf_43 : decode cX8_copiesOf 43 = .ok (.iload 4, 2) := by decide +kernel
theorem dX8_copiesOf_45 : decode cX8_copiesOf 45 = .ok (.ishl, 1) := by decide +kernel
theorem dX8_copiesOf_46 : decode cX8_copiesOf 46 = .ok (.goto 4, 3) := by decide +kernel
theorem dX8_copiesOf_49 : decode cX8_copiesOf 49 = .ok (.iconst 0, 1) := by decide +kernel
theorem dX8_copiesOf_50 : decode cX8_copiesOf 50 = .ok (.ior, 1) := by decide +kernel
theorem dX8_copiesOf_51 : decode cX8_copiesOf 51 = .ok (.istore_n 3, 1) := by decide +kernel
theorem dX8_copiesOf_52 : decode cX8_copiesOf 52 = .ok (.iinc 4 1, 3) := by decide +kernel
theorem dX8_copiesOf_55 : decode cX8_copiesOf 55 = .ok (.goto (-50), 3) := by decide +kernel
theorem dX8_copiesOf_58 : decode cX8_copiesOf 58 = .ok (.iload_n 3, 1) := by decide +kernel
theorem dX8_copiesOf_59 : decode cX8_copiesOf 59 = .ok (.ireturn, 1) := by decide +kernel
set_option maxRecDepth 20000 in
theorem ggX8_longestOf_X8_waitsFor : GoodIn wsX8_longestOf wsX8_waitsFor := goodIn_r _ [6, 7, 8, 9, 5, 10, 1, 11, 12, 13, 14, 15, 16] (by decide +kernel) (by decide +kernel)
set_option maxRecDepth 20000 in
theorem gX8_longestOf_X8_waitsFor : GoodIn wsX8_longestOf (wsV RX8 45 RX8 yX8_waitsFor wsX8_waitsFor) := goodIn_app (goodIn_of _ (by decide +kernel)) ggX8_longestOf_X8_waitsFor
set_option maxRecDepth 20000 in
theorem ggX8_longestOf_X8_holdAt : GoodIn wsX8_longestOf wsX8_holdAt := goodIn_r _ [10, 1, 11, 12, 13, 14, 15, 16] (by decide +kernel) (by decide +kernel)
set_option maxRecDepth 20000 in
theorem gX8_longestOf_X8_holdAt : GoodIn wsX8_longestOf (wsV RX8 41 RX8 yX8_holdAt wsX8_holdAt) := goodIn_app (goodIn_of _ (by decide +kernel)) ggX8_longestOf_X8_holdAt
theorem dX8_longestOf_0 : decode cX8_longestOf 0 = .ok (.iconst 0, 1) := by decide +kernel
theorem dX8_longestOf_1 : decode cX8_longestOf 1 = .ok (.istore_n 2, 1) := by decide +kernel
theorem dX8_longestOf_2 : decode cX8_longestOf 2 = .ok (.iconst 0, 1) := by decide +kernel
theorem dX8_longestOf_3 : decode cX8_longestOf 3 = .ok (.istore_n 3, 1) := by decide +kernel
theorem dX8_longestOf_4 : decode cX8_longestOf 4 = .ok (.iload_n 3, 1) := by decide +kernel
theorem dX8_longestOf_5 : decode cX8_longestOf 5 = .ok (.aload_n 0, 1) := by decide +kernel
theorem dX8_longestOf_6 : decode cX8_longestOf 6 = .ok (.getfield 7, 3) := by decide +kernel
theorem dX8_longestOf_9 : decode cX8_longestOf 9 = .ok (.iconst 5, 1) := by decide +kernel
theorem dX8_longestOf_10 : decode cX8_longestOf 10 = .ok (.iaload, 1) := by decide +kernel
theorem dX8_longestOf_11 : decode cX8_longestOf 11 = .ok (.if_icmp .ge 50, 3) := by decide +kernel
theorem dX8_longestOf_14 : decode cX8_longestOf 14 = .ok (.aload_n 0, 1) := by decide +kernel
theorem dX8_longestOf_15 : decode cX8_longestOf 15 = .ok (.iload_n 3, 1) := by decide +kernel
theorem dX8_longestOf_16 : decode cX8_longestOf 16 = .ok (.iload_n 1, 1) := by decide +kernel
theorem dX8_longestOf_17 : decode cX8_longestOf 17 = .ok (.invokevirtual 45, 3) := by decide +kernel
theorem dX8_longestOf_20 : decode cX8_longestOf 20 = .ok (.ifCond .eq 19, 3) := by decide +kernel
theorem dX8_longestOf_23 : decode cX8_longestOf 23 = .ok (.aload_n 0, 1) := by decide +kernel
theorem dX8_longestOf_24 : decode cX8_longestOf 24 = .ok (.getfield 7, 3) := by decide +kernel
theorem dX8_longestOf_27 : decode cX8_longestOf 27 = .ok (.iconst 0, 1) := by decide +kernel
theorem dX8_longestOf_28 : decode cX8_longestOf 28 = .ok (.iaload, 1) := by decide +kernel
theorem dX8_longestOf_29 : decode cX8_longestOf 29 = .ok (.aload_n 0, 1) := by decide +kernel
theorem dX8_longestOf_30 : decode cX8_longestOf 30 = .ok (.iload_n 3, 1) := by decide +kernel
theorem dX8_longestOf_31 : decode cX8_longestOf 31 = .ok (.iconst 5, 1) := by decide +kernel
theorem dX8_longestOf_32 : decode cX8_longestOf 32 = .ok (.invokevirtual 41, 3) := by decide +kernel
theorem dX8_longestOf_35 : decode cX8_longestOf 35 = .ok (.isub, 1) := by decide +kernel
theorem dX8_longestOf_36 : decode cX8_longestOf 36 = .ok (.goto 4, 3) := by decide +kernel
theorem dX8_longestOf_39 : decode cX8_longestOf 39 = .ok (.iconst 0, 1) := by decide +kernel
theorem dX8_longestOf_40 : decode cX8_longestOf 40 = .ok (.istore 4, 2) := by decide +kernel
theorem dX8_longestOf_42 : decode cX8_longestOf 42 = .ok (.iload 4, 2) := by decide +kernel
theorem dX8_longestOf_44 : decode cX8_longestOf 44 = .ok (.iload_n 2, 1) := by decide +kernel
theorem dX8_longestOf_45 : decode cX8_longestOf 45 = .ok (.if_icmp .le 8, 3) := by decide +kernel
theorem dX8_longestOf_48 : decode cX8_longestOf 48 = .ok (.iload 4, 2) := by decide +kernel
theorem dX8_longestOf_50 : decode cX8_longestOf 50 = .ok (.goto 4, 3) := by decide +kernel
theorem dX8_longestOf_53 : decode cX8_longestOf 53 = .ok (.iload_n 2, 1) := by decide +kernel
theorem dX8_longestOf_54 : decode cX8_longestOf 54 = .ok (.istore_n 2, 1) := by decide +kernel
theorem dX8_longestOf_55 : decode cX8_longestOf 55 = .ok (.iinc 3 1, 3) := by decide +kernel
theorem dX8_longestOf_58 : decode cX8_longestOf 58 = .ok (.goto (-54), 3) := by decide +kernel
theorem dX8_longestOf_61 : decode cX8_longestOf 61 = .ok (.iload_n 2, 1) := by decide +kernel
theorem dX8_longestOf_62 : decode cX8_longestOf 62 = .ok (.ireturn, 1) := by decide +kernel
set_option maxRecDepth 20000 in
theorem ggX8_titleOf_X8_isTitle : GoodIn wsX8_titleOf wsX8_isTitle := goodIn_r _ [6, 7, 8, 9, 5, 10] (by decide +kernel) (by decide +kernel)
set_option maxRecDepth 20000 in
theorem gX8_titleOf_X8_isTitle : GoodIn wsX8_titleOf (va_wsS RX8 86 yX8_isTitle wsX8_isTitle) := goodIn_app (goodIn_of _ (by decide +kernel)) ggX8_titleOf_X8_isTitle
set_option maxRecDepth 20000 in
theorem ggX8_titleOf_X8_firstOf : GoodIn wsX8_titleOf wsX8_firstOf := goodIn_r _ [14, 15, 16, 17, 18, 5, 19, 20, 21, 22, 23, 24, 25, 26, 27, 44, 45, 46, 47, 48, 49] (by decide +kernel) (by decide +kernel)
set_option maxRecDepth 20000 in
theorem gX8_titleOf_X8_firstOf : GoodIn wsX8_titleOf (wsV RX8 61 RX8 yX8_firstOf wsX8_firstOf) := goodIn_app (goodIn_of _ (by decide +kernel)) ggX8_titleOf_X8_firstOf
set_option maxRecDepth 20000 in
theorem ggX8_titleOf_X8_copiesOf : GoodIn wsX8_titleOf wsX8_copiesOf := goodIn_r _ [31, 15, 32, 33, 34, 5, 35, 44, 45, 46, 47, 48, 49] (by decide +kernel) (by decide +kernel)
set_option maxRecDepth 20000 in
theorem gX8_titleOf_X8_copiesOf : GoodIn wsX8_titleOf (wsV RX8 195 RX8 yX8_copiesOf wsX8_copiesOf) := goodIn_app (goodIn_of _ (by decide +kernel)) ggX8_titleOf_X8_copiesOf
set_option maxRecDepth 20000 in
theorem ggX8_titleOf_X8_rowOf : GoodIn wsX8_titleOf wsX8_rowOf := goodIn_r _ [39, 15, 16, 17, 18, 5, 19, 20, 21, 22, 23, 44, 45, 46, 47, 48, 49] (by decide +kernel) (by decide +kernel)
set_option maxRecDepth 20000 in
theorem gX8_titleOf_X8_rowOf : GoodIn wsX8_titleOf (wsV RX8 128 RX8 yX8_rowOf wsX8_rowOf) := goodIn_app (goodIn_of _ (by decide +kernel)) ggX8_titleOf_X8_rowOf
set_option maxRecDepth 20000 in
theorem ggX8_titleOf_X8_holdAt : GoodIn wsX8_titleOf wsX8_holdAt := goodIn_r _ [23, 15, 44, 45, 46, 47, 48, 49] (by decide +kernel) (by decide +kernel)
set_option maxRecDepth 20000 in
theorem gX8_titleOf_X8_holdAt : GoodIn wsX8_titleOf (wsV RX8 41 RX8 yX8_holdAt wsX8_holdAt) := goodIn_app (goodIn_of _ (by decide +kernel)) ggX8_titleOf_X8_holdAt
set_option maxRecDepth 20000 in
theorem ggX8_titleOf_X8_longestOf : GoodIn wsX8_titleOf wsX8_longestOf := goodIn_r _ [43, 15, 16, 17, 18, 5, 19, 20, 21, 22, 23, 44, 45, 46, 47, 48, 49] (by decide +kernel) (by decide +kernel)
set_option maxRecDepth 20000 in
theorem gX8_titleOf_X8_longestOf : GoodIn wsX8_titleOf (wsV RX8 199 RX8 yX8_longestOf wsX8_longestOf) := goodIn_app (goodIn_of _ (by decide +kernel)) ggX8_titleOf_X8_longestOf
theorem dX8_titleOf_0 : decode cX8_titleOf 0 = .ok (.iload_n 1, 1) := by decide +kernel
theorem dX8_titleOf_1 : decode cX8_titleOf 1 = .ok (.invokestatic 86, 3) := by decide +kernel
theorem dX8_titleOf_4 : decode cX8_titleOf 4 = .ok (.ifCond .ne 6, 3) := by decide +kernel
theorem dX8_titleOf_7 : decode cX8_titleOf 7 = .ok (.ldc 92, 2) := by decide +kernel
theorem dX8_titleOf_9 : decode cX8_titleOf 9 = .ok (.ireturn, 1) := by decide +kernel
theorem dX8_titleOf_10 : decode cX8_titleOf 10 = .ok (.aload_n 0, 1) := by decide +kernel
theorem dX8_titleOf_11 : decode cX8_titleOf 11 = .ok (.iload_n 1, 1) := by decide +kernel
theorem dX8_titleOf_12 : decode cX8_titleOf 12 = .ok (.invokevirtual 61, 3) := by decide +kernel
theorem dX8_titleOf_15 : decode cX8_titleOf 15 = .ok (.istore_n 3, 1) := by decide +kernel
theorem dX8_titleOf_16 : decode cX8_titleOf 16 = .ok (.iload_n 2, 1) := by decide +kernel
theorem dX8_titleOf_17 : decode cX8_titleOf 17 = .ok (.tableswitch 78 0 4 #[35, 35, 51, 57, 72], 35) := by decide +kernel
theorem dX8_titleOf_52 : decode cX8_titleOf 52 = .ok (.aload_n 0, 1) := by decide +kernel
theorem dX8_titleOf_53 : decode cX8_titleOf 53 = .ok (.iload_n 1, 1) := by decide +kernel
theorem dX8_titleOf_54 : decode cX8_titleOf 54 = .ok (.iload_n 2, 1) := by decide +kernel
theorem dX8_titleOf_55 : decode cX8_titleOf 55 = .ok (.iconst 1, 1) := by decide +kernel
theorem dX8_titleOf_56 : decode cX8_titleOf 56 = .ok (.if_icmp .ne 7, 3) := by decide +kernel
theorem dX8_titleOf_59 : decode cX8_titleOf 59 = .ok (.iconst 1, 1) := by decide +kernel
theorem dX8_titleOf_60 : decode cX8_titleOf 60 = .ok (.goto 4, 3) := by decide +kernel
theorem dX8_titleOf_63 : decode cX8_titleOf 63 = .ok (.iconst 0, 1) := by decide +kernel
theorem dX8_titleOf_64 : decode cX8_titleOf 64 = .ok (.invokevirtual 195, 3) := by decide +kernel
theorem dX8_titleOf_67 : decode cX8_titleOf 67 = .ok (.ireturn, 1) := by decide +kernel
theorem dX8_titleOf_68 : decode cX8_titleOf 68 = .ok (.aload_n 0, 1) := by decide +kernel
theorem dX8_titleOf_69 : decode cX8_titleOf 69 = .ok (.iload_n 1, 1) := by decide +kernel
theorem dX8_titleOf_70 : decode cX8_titleOf 70 = .ok (.invokevirtual 128, 3) := by decide +kernel
theorem dX8_titleOf_73 : decode cX8_titleOf 73 = .ok (.ireturn, 1) := by decide +kernel
theorem dX8_titleOf_74 : decode cX8_titleOf 74 = .ok (.iload_n 3, 1) := by decide +kernel
theorem dX8_titleOf_75 : decode cX8_titleOf 75 = .ok (.ifCond .ge 7, 3) := by decide +kernel
theorem dX8_titleOf_78 : decode cX8_titleOf 78 = .ok (.iconst (-1), 1) := by decide +kernel
theorem dX8_titleOf_79 : decode cX8_titleOf 79 = .ok (.goto 9, 3) := by decide +kernel
theorem dX8_titleOf_82 : decode cX8_titleOf 82 = .ok (.aload_n 0, 1) := by decide +kernel
theorem dX8_titleOf_83 : decode cX8_titleOf 83 = .ok (.iload_n 3, 1) := by decide +kernel
theorem dX8_titleOf_84 : decode cX8_titleOf 84 = .ok (.iconst 0, 1) := by decide +kernel
theorem dX8_titleOf_85 : decode cX8_titleOf 85 = .ok (.invokevirtual 41, 3) := by decide +kernel
theorem dX8_titleOf_88 : decode cX8_titleOf 88 = .ok (.ireturn, 1) := by decide +kernel
theorem dX8_titleOf_89 : decode cX8_titleOf 89 = .ok (.aload_n 0, 1) := by decide +kernel
theorem dX8_titleOf_90 : decode cX8_titleOf 90 = .ok (.iload_n 1, 1) := by decide +kernel
theorem dX8_titleOf_91 : decode cX8_titleOf 91 = .ok (.invokevirtual 199, 3) := by decide +kernel
theorem dX8_titleOf_94 : decode cX8_titleOf 94 = .ok (.ireturn, 1) := by decide +kernel
theorem dX8_titleOf_95 : decode cX8_titleOf 95 = .ok (.ldc 131, 2) := by decide +kernel
theorem dX8_titleOf_97 : decode cX8_titleOf 97 = .ok (.ireturn, 1) := by decide +kernel
set_option maxRecDepth 20000 in
theorem ggX8_owedBy_X8_outsOf : GoodIn wsX8_owedBy wsX8_outsOf := goodIn_r _ [6, 1, 7, 8, 9, 5, 10, 14, 15, 16, 17, 18, 19] (by decide +kernel) (by decide +kernel)
set_option maxRecDepth 20000 in
theorem gX8_owedBy_X8_outsOf : GoodIn wsX8_owedBy (wsV RX8 97 RX8 yX8_outsOf wsX8_outsOf) := goodIn_app (goodIn_of _ (by decide +kernel)) ggX8_owedBy_X8_outsOf
set_option maxRecDepth 20000 in
theorem ggX8_owedBy_X8_has : GoodIn wsX8_owedBy wsX8_has := goodIn_r _ [13] (by decide +kernel) (by decide +kernel)
set_option maxRecDepth 20000 in
theorem gX8_owedBy_X8_has : GoodIn wsX8_owedBy (va_wsS RX8 33 yX8_has wsX8_has) := goodIn_app (goodIn_of _ (by decide +kernel)) ggX8_owedBy_X8_has
theorem dX8_owedBy_0 : decode cX8_owedBy 0 = .ok (.iconst 0, 1) := by decide +kernel
theorem dX8_owedBy_1 : decode cX8_owedBy 1 = .ok (.istore_n 2, 1) := by decide +kernel
theorem dX8_owedBy_2 : decode cX8_owedBy 2 = .ok (.iconst 0, 1) := by decide +kernel
theorem dX8_owedBy_3 : decode cX8_owedBy 3 = .ok (.istore_n 3, 1) := by decide +kernel
theorem dX8_owedBy_4 : decode cX8_owedBy 4 = .ok (.iload_n 3, 1) := by decide +kernel
theorem dX8_owedBy_5 : decode cX8_owedBy 5 = .ok (.aload_n 0, 1) := by decide +kernel
theorem dX8_owedBy_6 : decode cX8_owedBy 6 = .ok (.getfield 7, 3) := by decide +kernel
theorem dX8_owedBy_9 : decode cX8_owedBy 9 = .ok (.iconst 4, 1) := by decide +kernel
theorem dX8_owedBy_10 : decode cX8_owedBy 10 = .ok (.iaload, 1) := by decide +kernel
theorem dX8_owedBy_11 : decode cX8_owedBy 11 = .ok (.if_icmp .ge 56, 3) := by decide +kernel
theorem dX8_owedBy_14 : decode cX8_owedBy 14 = .ok (.aload_n 0, 1) := by decide +kernel
theorem dX8_owedBy_15 : decode cX8_owedBy 15 = .ok (.iload_n 1, 1) := by decide +kernel
theorem dX8_owedBy_16 : decode cX8_owedBy 16 = .ok (.invokevirtual 97, 3) := by decide +kernel
theorem dX8_owedBy_19 : decode cX8_owedBy 19 = .ok (.iload_n 3, 1) := by decide +kernel
theorem dX8_owedBy_20 : decode cX8_owedBy 20 = .ok (.invokestatic 33, 3) := by decide +kernel
theorem dX8_owedBy_23 : decode cX8_owedBy 23 = .ok (.ifCond .eq 19, 3) := by decide +kernel
theorem dX8_owedBy_26 : decode cX8_owedBy 26 = .ok (.aload_n 0, 1) := by decide +kernel
theorem dX8_owedBy_27 : decode cX8_owedBy 27 = .ok (.getfield 7, 3) := by decide +kernel
theorem dX8_owedBy_30 : decode cX8_owedBy 30 = .ok (.iconst 0, 1) := by decide +kernel
theorem dX8_owedBy_31 : decode cX8_owedBy 31 = .ok (.iaload, 1) := by decide +kernel
theorem dX8_owedBy_32 : decode cX8_owedBy 32 = .ok (.aload_n 0, 1) := by decide +kernel
theorem dX8_owedBy_33 : decode cX8_owedBy 33 = .ok (.iload_n 3, 1) := by decide +kernel
theorem dX8_owedBy_34 : decode cX8_owedBy 34 = .ok (.iconst 4, 1) := by decide +kernel
theorem dX8_owedBy_35 : decode cX8_owedBy 35 = .ok (.invokevirtual 51, 3) := by decide +kernel
theorem dX8_owedBy_38 : decode cX8_owedBy 38 = .ok (.isub, 1) := by decide +kernel
theorem dX8_owedBy_39 : decode cX8_owedBy 39 = .ok (.goto 4, 3) := by decide +kernel
theorem dX8_owedBy_42 : decode cX8_owedBy 42 = .ok (.iconst 0, 1) := by decide +kernel
theorem dX8_owedBy_43 : decode cX8_owedBy 43 = .ok (.istore 4, 2) := by decide +kernel
theorem dX8_owedBy_45 : decode cX8_owedBy 45 = .ok (.iload_n 2, 1) := by decide +kernel
theorem dX8_owedBy_46 : decode cX8_owedBy 46 = .ok (.iload 4, 2) := by decide +kernel
theorem dX8_owedBy_48 : decode cX8_owedBy 48 = .ok (.ifCond .le 10, 3) := by decide +kernel
theorem dX8_owedBy_51 : decode cX8_owedBy 51 = .ok (.iconst 5, 1) := by decide +kernel
theorem dX8_owedBy_52 : decode cX8_owedBy 52 = .ok (.iload 4, 2) := by decide +kernel
theorem dX8_owedBy_54 : decode cX8_owedBy 54 = .ok (.imul, 1) := by decide +kernel
theorem dX8_owedBy_55 : decode cX8_owedBy 55 = .ok (.goto 4, 3) := by decide +kernel
theorem dX8_owedBy_58 : decode cX8_owedBy 58 = .ok (.iconst 0, 1) := by decide +kernel
theorem dX8_owedBy_59 : decode cX8_owedBy 59 = .ok (.iadd, 1) := by decide +kernel
theorem dX8_owedBy_60 : decode cX8_owedBy 60 = .ok (.istore_n 2, 1) := by decide +kernel
theorem dX8_owedBy_61 : decode cX8_owedBy 61 = .ok (.iinc 3 1, 3) := by decide +kernel
theorem dX8_owedBy_64 : decode cX8_owedBy 64 = .ok (.goto (-60), 3) := by decide +kernel
theorem dX8_owedBy_67 : decode cX8_owedBy 67 = .ok (.iload_n 2, 1) := by decide +kernel
theorem dX8_owedBy_68 : decode cX8_owedBy 68 = .ok (.ireturn, 1) := by decide +kernel
set_option maxRecDepth 20000 in
theorem ggX8_greatestStep_X8_outsOf : GoodIn wsX8_greatestStep wsX8_outsOf := goodIn_r _ [6, 1, 7, 8, 9, 5, 10, 18, 19, 20, 21, 22, 23] (by decide +kernel) (by decide +kernel)
set_option maxRecDepth 20000 in
theorem gX8_greatestStep_X8_outsOf : GoodIn wsX8_greatestStep (wsV RX8 97 RX8 yX8_outsOf wsX8_outsOf) := goodIn_app (goodIn_of _ (by decide +kernel)) ggX8_greatestStep_X8_outsOf
set_option maxRecDepth 20000 in
theorem ggX8_greatestStep_X8_has : GoodIn wsX8_greatestStep wsX8_has := goodIn_r _ [13] (by decide +kernel) (by decide +kernel)
set_option maxRecDepth 20000 in
theorem gX8_greatestStep_X8_has : GoodIn wsX8_greatestStep (va_wsS RX8 33 yX8_has wsX8_has) := goodIn_app (goodIn_of _ (by decide +kernel)) ggX8_greatestStep_X8_has
theorem dX8_greatestStep_0 : decode cX8_greatestStep 0 = .ok (.iconst 0, 1) := by decide +kernel
theorem dX8_greatestStep_1 : decode cX8_greatestStep 1 = .ok (.istore_n 2, 1) := by decide +kernel
theorem dX8_greatestStep_2 : decode cX8_greatestStep 2 = .ok (.iconst 0, 1) := by decide +kernel
theorem dX8_greatestStep_3 : decode cX8_greatestStep 3 = .ok (.istore_n 3, 1) := by decide +kernel
theorem dX8_greatestStep_4 : decode cX8_greatestStep 4 = .ok (.iload_n 3, 1) := by decide +kernel
theorem dX8_greatestStep_5 : decode cX8_greatestStep 5 = .ok (.aload_n 0, 1) := by decide +kernel
theorem dX8_greatestStep_6 : decode cX8_greatestStep 6 = .ok (.getfield 7, 3) := by decide +kernel
theorem dX8_greatestStep_9 : decode cX8_greatestStep 9 = .ok (.iconst 4, 1) := by decide +kernel
theorem dX8_greatestStep_10 : decode cX8_greatestStep 10 = .ok (.iaload, 1) := by decide +kernel
theorem dX8_greatestStep_11 : decode cX8_greatestStep 11 = .ok (.if_icmp .ge 45, 3) := by decide +kernel
theorem dX8_greatestStep_14 : decode cX8_greatestStep 14 = .ok (.aload_n 0, 1) := by decide +kernel
theorem dX8_greatestStep_15 : decode cX8_greatestStep 15 = .ok (.iload_n 1, 1) := by decide +kernel
theorem dX8_greatestStep_16 : decode cX8_greatestStep 16 = .ok (.invokevirtual 97, 3) := by decide +kernel
theorem dX8_greatestStep_19 : decode cX8_greatestStep 19 = .ok (.iload_n 3, 1) := by decide +kernel
theorem dX8_greatestStep_20 : decode cX8_greatestStep 20 = .ok (.invokestatic 33, 3) := by decide +kernel
theorem dX8_greatestStep_23 : decode cX8_greatestStep 23 = .ok (.ifCond .eq 11, 3) := by decide +kernel
theorem dX8_greatestStep_26 : decode cX8_greatestStep 26 = .ok (.aload_n 0, 1) := by decide +kernel
theorem dX8_greatestStep_27 : decode cX8_greatestStep 27 = .ok (.iload_n 3, 1) := by decide +kernel
theorem dX8_greatestStep_28 : decode cX8_greatestStep 28 = .ok (.invokevirtual 122, 3) := by decide +kernel
theorem dX8_greatestStep_31 : decode cX8_greatestStep 31 = .ok (.goto 4, 3) := by decide +kernel
theorem dX8_greatestStep_34 : decode cX8_greatestStep 34 = .ok (.iconst 0, 1) := by decide +kernel
theorem dX8_greatestStep_35 : decode cX8_greatestStep 35 = .ok (.istore 4, 2) := by decide +kernel
theorem dX8_greatestStep_37 : decode cX8_greatestStep 37 = .ok (.iload 4, 2) := by decide +kernel
theorem dX8_greatestStep_39 : decode cX8_greatestStep 39 = .ok (.iload_n 2, 1) := by decide +kernel
theorem dX8_greatestStep_40 : decode cX8_greatestStep 40 = .ok (.if_icmp .le 8, 3) := by decide +kernel
theorem dX8_greatestStep_43 : decode cX8_greatestStep 43 = .ok (.iload 4, 2) := by decide +kernel
theorem dX8_greatestStep_45 : decode cX8_greatestStep 45 = .ok (.goto 4, 3) := by decide +kernel
theorem dX8_greatestStep_48 : decode cX8_greatestStep 48 = .ok (.iload_n 2, 1) := by decide +kernel
theorem dX8_greatestStep_49 : decode cX8_greatestStep 49 = .ok (.istore_n 2, 1) := by decide +kernel
theorem dX8_greatestStep_50 : decode cX8_greatestStep 50 = .ok (.iinc 3 1, 3) := by decide +kernel
theorem dX8_greatestStep_53 : decode cX8_greatestStep 53 = .ok (.goto (-49), 3) := by decide +kernel
theorem dX8_greatestStep_56 : decode cX8_greatestStep 56 = .ok (.iload_n 2, 1) := by decide +kernel
