theorem dX8_mayHold_57 : decode cX8_mayHold 57 = .ok (.iload 4, 2) := by decide +kernel
theorem dX8_mayHold_59 : decode cX8_mayHold 59 = .ok (.aload_n 0, 1) := by decide +kernel
theorem dX8_mayHold_60 : decode cX8_mayHold 60 = .ok (.getfield 7, 3) := by decide +kernel
theorem dX8_mayHold_63 : decode cX8_mayHold 63 = .ok (.iconst 4, 1) := by decide +kernel
theorem dX8_mayHold_64 : decode cX8_mayHold 64 = .ok (.iaload, 1) := by decide +kernel
theorem dX8_mayHold_65 : decode cX8_mayHold 65 = .ok (.if_icmp .ge 43, 3) := by decide +kernel
theorem dX8_mayHold_68 : decode cX8_mayHold 68 = .ok (.iload_n 3, 1) := by decide +kernel
theorem dX8_mayHold_69 : decode cX8_mayHold 69 = .ok (.ifCond .eq 31, 3) := by decide +kernel
theorem dX8_mayHold_72 : decode cX8_mayHold 72 = .ok (.aload_n 0, 1) := by decide +kernel
theorem dX8_mayHold_73 : decode cX8_mayHold 73 = .ok (.iload 4, 2) := by decide +kernel
theorem dX8_mayHold_75 : decode cX8_mayHold 75 = .ok (.iconst 0, 1) := by decide +kernel
theorem dX8_mayHold_76 : decode cX8_mayHold 76 = .ok (.invokevirtual 51, 3) := by decide +kernel
theorem dX8_mayHold_79 : decode cX8_mayHold 79 = .ok (.iload_n 2, 1) := by decide +kernel
theorem dX8_mayHold_80 : decode cX8_mayHold 80 = .ok (.if_icmp .ne 16, 3) := by decide +kernel
theorem dX8_mayHold_83 : decode cX8_mayHold 83 = .ok (.aload_n 0, 1) := by decide +kernel
theorem dX8_mayHold_84 : decode cX8_mayHold 84 = .ok (.iload_n 1, 1) := by decide +kernel
theorem dX8_mayHold_85 : decode cX8_mayHold 85 = .ok (.invokevirtual 97, 3) := by decide +kernel
theorem dX8_mayHold_88 : decode cX8_mayHold 88 = .ok (.iload 4, 2) := by decide +kernel
theorem dX8_mayHold_90 : decode cX8_mayHold 90 = .ok (.invokestatic 33, 3) := by decide +kernel
theorem dX8_mayHold_93 : decode cX8_mayHold 93 = .ok (.ifCond .ne 7, 3) := by decide +kernel
theorem dX8_mayHold_96 : decode cX8_mayHold 96 = .ok (.iconst 1, 1) := by decide +kernel
theorem dX8_mayHold_97 : decode cX8_mayHold 97 = .ok (.goto 4, 3) := by decide +kernel
theorem dX8_mayHold_100 : decode cX8_mayHold 100 = .ok (.iconst 0, 1) := by decide +kernel
theorem dX8_mayHold_101 : decode cX8_mayHold 101 = .ok (.istore_n 3, 1) := by decide +kernel
theorem dX8_mayHold_102 : decode cX8_mayHold 102 = .ok (.iinc 4 1, 3) := by decide +kernel
theorem dX8_mayHold_105 : decode cX8_mayHold 105 = .ok (.goto (-48), 3) := by decide +kernel
theorem dX8_mayHold_108 : decode cX8_mayHold 108 = .ok (.iload_n 3, 1) := by decide +kernel
theorem dX8_mayHold_109 : decode cX8_mayHold 109 = .ok (.ireturn, 1) := by decide +kernel
set_option maxRecDepth 20000 in
theorem ggX8_doHold_X8_serve : GoodIn wsX8_doHold wsX8_serve := goodIn_r _ [6, 7, 8, 9, 5, 10, 1, 11, 12, 13, 14, 15, 16, 17, 18, 19, 20, 21, 22, 23, 24, 25, 26, 27, 28, 29, 30, 31, 32, 33, 34, 35, 36, 37, 38, 39, 40, 41, 42, 43, 44, 45, 46, 47] (by decide +kernel) (by decide +kernel)
set_option maxRecDepth 20000 in
theorem gX8_doHold_X8_serve : GoodIn wsX8_doHold (wsV RX8 79 RX8 yX8_serve wsX8_serve) := goodIn_app (goodIn_of _ (by decide +kernel)) ggX8_doHold_X8_serve
theorem dX8_doHold_0 : decode cX8_doHold 0 = .ok (.bipush 88, 2) := by decide +kernel
theorem dX8_doHold_2 : decode cX8_doHold 2 = .ok (.bipush 7, 2) := by decide +kernel
theorem dX8_doHold_4 : decode cX8_doHold 4 = .ok (.aload_n 0, 1) := by decide +kernel
theorem dX8_doHold_5 : decode cX8_doHold 5 = .ok (.getfield 7, 3) := by decide +kernel
theorem dX8_doHold_8 : decode cX8_doHold 8 = .ok (.iconst 5, 1) := by decide +kernel
theorem dX8_doHold_9 : decode cX8_doHold 9 = .ok (.iaload, 1) := by decide +kernel
theorem dX8_doHold_10 : decode cX8_doHold 10 = .ok (.imul, 1) := by decide +kernel
theorem dX8_doHold_11 : decode cX8_doHold 11 = .ok (.iadd, 1) := by decide +kernel
theorem dX8_doHold_12 : decode cX8_doHold 12 = .ok (.istore 5, 2) := by decide +kernel
theorem dX8_doHold_14 : decode cX8_doHold 14 = .ok (.aload_n 0, 1) := by decide +kernel
theorem dX8_doHold_15 : decode cX8_doHold 15 = .ok (.getfield 7, 3) := by decide +kernel
theorem dX8_doHold_18 : decode cX8_doHold 18 = .ok (.bipush 6, 2) := by decide +kernel
theorem dX8_doHold_20 : decode cX8_doHold 20 = .ok (.iaload, 1) := by decide +kernel
theorem dX8_doHold_21 : decode cX8_doHold 21 = .ok (.istore 6, 2) := by decide +kernel
theorem dX8_doHold_23 : decode cX8_doHold 23 = .ok (.aload_n 0, 1) := by decide +kernel
theorem dX8_doHold_24 : decode cX8_doHold 24 = .ok (.getfield 7, 3) := by decide +kernel
theorem dX8_doHold_27 : decode cX8_doHold 27 = .ok (.iload 5, 2) := by decide +kernel
theorem dX8_doHold_29 : decode cX8_doHold 29 = .ok (.iconst 0, 1) := by decide +kernel
theorem dX8_doHold_30 : decode cX8_doHold 30 = .ok (.iadd, 1) := by decide +kernel
theorem dX8_doHold_31 : decode cX8_doHold 31 = .ok (.iload 6, 2) := by decide +kernel
theorem dX8_doHold_33 : decode cX8_doHold 33 = .ok (.iastore, 1) := by decide +kernel
theorem dX8_doHold_34 : decode cX8_doHold 34 = .ok (.aload_n 0, 1) := by decide +kernel
theorem dX8_doHold_35 : decode cX8_doHold 35 = .ok (.getfield 7, 3) := by decide +kernel
theorem dX8_doHold_38 : decode cX8_doHold 38 = .ok (.iload 5, 2) := by decide +kernel
theorem dX8_doHold_40 : decode cX8_doHold 40 = .ok (.iconst 1, 1) := by decide +kernel
theorem dX8_doHold_41 : decode cX8_doHold 41 = .ok (.iadd, 1) := by decide +kernel
theorem dX8_doHold_42 : decode cX8_doHold 42 = .ok (.iload_n 1, 1) := by decide +kernel
theorem dX8_doHold_43 : decode cX8_doHold 43 = .ok (.iastore, 1) := by decide +kernel
theorem dX8_doHold_44 : decode cX8_doHold 44 = .ok (.aload_n 0, 1) := by decide +kernel
theorem dX8_doHold_45 : decode cX8_doHold 45 = .ok (.getfield 7, 3) := by decide +kernel
theorem dX8_doHold_48 : decode cX8_doHold 48 = .ok (.iload 5, 2) := by decide +kernel
theorem dX8_doHold_50 : decode cX8_doHold 50 = .ok (.iconst 2, 1) := by decide +kernel
theorem dX8_doHold_51 : decode cX8_doHold 51 = .ok (.iadd, 1) := by decide +kernel
theorem dX8_doHold_52 : decode cX8_doHold 52 = .ok (.iload_n 2, 1) := by decide +kernel
theorem dX8_doHold_53 : decode cX8_doHold 53 = .ok (.iastore, 1) := by decide +kernel
theorem dX8_doHold_54 : decode cX8_doHold 54 = .ok (.aload_n 0, 1) := by decide +kernel
theorem dX8_doHold_55 : decode cX8_doHold 55 = .ok (.getfield 7, 3) := by decide +kernel
theorem dX8_doHold_58 : decode cX8_doHold 58 = .ok (.iload 5, 2) := by decide +kernel
theorem dX8_doHold_60 : decode cX8_doHold 60 = .ok (.iconst 3, 1) := by decide +kernel
theorem dX8_doHold_61 : decode cX8_doHold 61 = .ok (.iadd, 1) := by decide +kernel
theorem dX8_doHold_62 : decode cX8_doHold 62 = .ok (.iload_n 3, 1) := by decide +kernel
theorem dX8_doHold_63 : decode cX8_doHold 63 = .ok (.iastore, 1) := by decide +kernel
theorem dX8_doHold_64 : decode cX8_doHold 64 = .ok (.aload_n 0, 1) := by decide +kernel
theorem dX8_doHold_65 : decode cX8_doHold 65 = .ok (.getfield 7, 3) := by decide +kernel
theorem dX8_doHold_68 : decode cX8_doHold 68 = .ok (.iload 5, 2) := by decide +kernel
theorem dX8_doHold_70 : decode cX8_doHold 70 = .ok (.iconst 4, 1) := by decide +kernel
theorem dX8_doHold_71 : decode cX8_doHold 71 = .ok (.iadd, 1) := by decide +kernel
theorem dX8_doHold_72 : decode cX8_doHold 72 = .ok (.iload 4, 2) := by decide +kernel
theorem dX8_doHold_74 : decode cX8_doHold 74 = .ok (.iastore, 1) := by decide +kernel
theorem dX8_doHold_75 : decode cX8_doHold 75 = .ok (.aload_n 0, 1) := by decide +kernel
theorem dX8_doHold_76 : decode cX8_doHold 76 = .ok (.getfield 7, 3) := by decide +kernel
theorem dX8_doHold_79 : decode cX8_doHold 79 = .ok (.iload 5, 2) := by decide +kernel
theorem dX8_doHold_81 : decode cX8_doHold 81 = .ok (.iconst 5, 1) := by decide +kernel
theorem dX8_doHold_82 : decode cX8_doHold 82 = .ok (.iadd, 1) := by decide +kernel
theorem dX8_doHold_83 : decode cX8_doHold 83 = .ok (.aload_n 0, 1) := by decide +kernel
theorem dX8_doHold_84 : decode cX8_doHold 84 = .ok (.getfield 7, 3) := by decide +kernel
theorem dX8_doHold_87 : decode cX8_doHold 87 = .ok (.iconst 0, 1) := by decide +kernel
theorem dX8_doHold_88 : decode cX8_doHold 88 = .ok (.iaload, 1) := by decide +kernel
theorem dX8_doHold_89 : decode cX8_doHold 89 = .ok (.iastore, 1) := by decide +kernel
theorem dX8_doHold_90 : decode cX8_doHold 90 = .ok (.aload_n 0, 1) := by decide +kernel
theorem dX8_doHold_91 : decode cX8_doHold 91 = .ok (.getfield 7, 3) := by decide +kernel
theorem dX8_doHold_94 : decode cX8_doHold 94 = .ok (.iload 5, 2) := by decide +kernel
theorem dX8_doHold_96 : decode cX8_doHold 96 = .ok (.bipush 6, 2) := by decide +kernel
theorem dX8_doHold_98 : decode cX8_doHold 98 = .ok (.iadd, 1) := by decide +kernel
theorem dX8_doHold_99 : decode cX8_doHold 99 = .ok (.iconst 0, 1) := by decide +kernel
theorem dX8_doHold_100 : decode cX8_doHold 100 = .ok (.iastore, 1) := by decide +kernel
theorem dX8_doHold_101 : decode cX8_doHold 101 = .ok (.aload_n 0, 1) := by decide +kernel
theorem dX8_doHold_102 : decode cX8_doHold 102 = .ok (.getfield 7, 3) := by decide +kernel
theorem dX8_doHold_105 : decode cX8_doHold 105 = .ok (.iconst 5, 1) := by decide +kernel
theorem dX8_doHold_106 : decode cX8_doHold 106 = .ok (.dup2, 1) := by decide +kernel
theorem dX8_doHold_107 : decode cX8_doHold 107 = .ok (.iaload, 1) := by decide +kernel
theorem dX8_doHold_108 : decode cX8_doHold 108 = .ok (.iconst 1, 1) := by decide +kernel
theorem dX8_doHold_109 : decode cX8_doHold 109 = .ok (.iadd, 1) := by decide +kernel
theorem dX8_doHold_110 : decode cX8_doHold 110 = .ok (.iastore, 1) := by decide +kernel
theorem dX8_doHold_111 : decode cX8_doHold 111 = .ok (.aload_n 0, 1) := by decide +kernel
theorem dX8_doHold_112 : decode cX8_doHold 112 = .ok (.getfield 7, 3) := by decide +kernel
theorem dX8_doHold_115 : decode cX8_doHold 115 = .ok (.bipush 6, 2) := by decide +kernel
theorem dX8_doHold_117 : decode cX8_doHold 117 = .ok (.dup2, 1) := by decide +kernel
theorem dX8_doHold_118 : decode cX8_doHold 118 = .ok (.iaload, 1) := by decide +kernel
theorem dX8_doHold_119 : decode cX8_doHold 119 = .ok (.iconst 1, 1) := by decide +kernel
theorem dX8_doHold_120 : decode cX8_doHold 120 = .ok (.iadd, 1) := by decide +kernel
theorem dX8_doHold_121 : decode cX8_doHold 121 = .ok (.iastore, 1) := by decide +kernel
theorem dX8_doHold_122 : decode cX8_doHold 122 = .ok (.aload_n 0, 1) := by decide +kernel
theorem dX8_doHold_123 : decode cX8_doHold 123 = .ok (.invokevirtual 79, 3) := by decide +kernel
theorem dX8_doHold_126 : decode cX8_doHold 126 = .ok (.iload 6, 2) := by decide +kernel
theorem dX8_doHold_128 : decode cX8_doHold 128 = .ok (.ireturn, 1) := by decide +kernel
set_option maxRecDepth 20000 in
theorem ggX8_hold_X8_isReader : GoodIn wsX8_hold wsX8_isReader := goodIn_r _ [10, 11, 12, 13, 9, 14] (by decide +kernel) (by decide +kernel)
set_option maxRecDepth 20000 in
theorem gX8_hold_X8_isReader : GoodIn wsX8_hold (va_wsS RX8 109 yX8_isReader wsX8_isReader) := goodIn_app (goodIn_of _ (by decide +kernel)) ggX8_hold_X8_isReader
set_option maxRecDepth 20000 in
theorem ggX8_hold_X8_isTitle : GoodIn wsX8_hold wsX8_isTitle := goodIn_r _ [17, 18, 12, 13, 9, 14] (by decide +kernel) (by decide +kernel)
set_option maxRecDepth 20000 in
theorem gX8_hold_X8_isTitle : GoodIn wsX8_hold (va_wsS RX8 86 yX8_isTitle wsX8_isTitle) := goodIn_app (goodIn_of _ (by decide +kernel)) ggX8_hold_X8_isTitle
set_option maxRecDepth 20000 in
theorem ggX8_hold_X8_isBranch : GoodIn wsX8_hold wsX8_isBranch := goodIn_r _ [21, 2, 12, 13, 9, 14] (by decide +kernel) (by decide +kernel)
set_option maxRecDepth 20000 in
theorem gX8_hold_X8_isBranch : GoodIn wsX8_hold (va_wsS RX8 89 yX8_isBranch wsX8_isBranch) := goodIn_app (goodIn_of _ (by decide +kernel)) ggX8_hold_X8_isBranch
set_option maxRecDepth 20000 in
theorem ggX8_hold_X8_in : GoodIn wsX8_hold wsX8_in := goodIn_r _ [14] (by decide +kernel) (by decide +kernel)
set_option maxRecDepth 20000 in
theorem gX8_hold_X8_in : GoodIn wsX8_hold (va_wsS RX8 23 yX8_in wsX8_in) := goodIn_app (goodIn_of _ (by decide +kernel)) ggX8_hold_X8_in
set_option maxRecDepth 20000 in
theorem ggX8_hold_X8_mayHold : GoodIn wsX8_hold wsX8_mayHold := goodIn_r _ [25, 5, 26, 27, 28, 9, 29, 30, 31, 32, 33, 34, 35, 36, 37, 38, 39, 40, 82, 83, 84, 85, 86, 87] (by decide +kernel) (by decide +kernel)
set_option maxRecDepth 20000 in
theorem gX8_hold_X8_mayHold : GoodIn wsX8_hold (wsV RX8 132 RX8 yX8_mayHold wsX8_mayHold) := goodIn_app (goodIn_of _ (by decide +kernel)) ggX8_hold_X8_mayHold
set_option maxRecDepth 20000 in
theorem ggX8_hold_X8_note : GoodIn wsX8_hold wsX8_note := goodIn_r _ [44, 45, 46, 5, 82, 83, 84, 85, 86, 87] (by decide +kernel) (by decide +kernel)
set_option maxRecDepth 20000 in
theorem gX8_hold_X8_note : GoodIn wsX8_hold (wsV RX8 94 RX8 yX8_note wsX8_note) := goodIn_app (goodIn_of _ (by decide +kernel)) ggX8_hold_X8_note
set_option maxRecDepth 20000 in
theorem ggX8_hold_X8_doHold : GoodIn wsX8_hold wsX8_doHold := goodIn_r _ [50, 5, 51, 52, 53, 9, 54, 55, 56, 57, 58, 59, 60, 61, 62, 26, 27, 28, 29, 63, 64, 65, 66, 67, 68, 69, 70, 30, 31, 32, 33, 71, 72, 73, 74, 75, 76, 77, 78, 79, 80, 81, 82, 83, 84, 85, 86, 87] (by decide +kernel) (by decide +kernel)
set_option maxRecDepth 20000 in
theorem gX8_hold_X8_doHold : GoodIn wsX8_hold (wsV RX8 135 RX8 yX8_doHold wsX8_doHold) := goodIn_app (goodIn_of _ (by decide +kernel)) ggX8_hold_X8_doHold
theorem dX8_hold_0 : decode cX8_hold 0 = .ok (.iload_n 1, 1) := by decide +kernel
theorem dX8_hold_1 : decode cX8_hold 1 = .ok (.invokestatic 109, 3) := by decide +kernel
theorem dX8_hold_4 : decode cX8_hold 4 = .ok (.ifCond .eq 17, 3) := by decide +kernel
theorem dX8_hold_7 : decode cX8_hold 7 = .ok (.iload_n 2, 1) := by decide +kernel
theorem dX8_hold_8 : decode cX8_hold 8 = .ok (.invokestatic 86, 3) := by decide +kernel
theorem dX8_hold_11 : decode cX8_hold 11 = .ok (.ifCond .eq 10, 3) := by decide +kernel
theorem dX8_hold_14 : decode cX8_hold 14 = .ok (.iload_n 3, 1) := by decide +kernel
theorem dX8_hold_15 : decode cX8_hold 15 = .ok (.invokestatic 89, 3) := by decide +kernel
theorem dX8_hold_18 : decode cX8_hold 18 = .ok (.ifCond .ne 6, 3) := by decide +kernel
theorem dX8_hold_21 : decode cX8_hold 21 = .ok (.ldc 92, 2) := by decide +kernel
theorem dX8_hold_23 : decode cX8_hold 23 = .ok (.ireturn, 1) := by decide +kernel
theorem dX8_hold_24 : decode cX8_hold 24 = .ok (.iload 4, 2) := by decide +kernel
theorem dX8_hold_26 : decode cX8_hold 26 = .ok (.i2l, 1) := by decide +kernel
theorem dX8_hold_27 : decode cX8_hold 27 = .ok (.lconst 0, 1) := by decide +kernel
theorem dX8_hold_28 : decode cX8_hold 28 = .ok (.ldc2_w 27, 3) := by decide +kernel
theorem dX8_hold_31 : decode cX8_hold 31 = .ok (.invokestatic 23, 3) := by decide +kernel
theorem dX8_hold_34 : decode cX8_hold 34 = .ok (.ifCond .ne 6, 3) := by decide +kernel
theorem dX8_hold_37 : decode cX8_hold 37 = .ok (.ldc 131, 2) := by decide +kernel
theorem dX8_hold_39 : decode cX8_hold 39 = .ok (.ireturn, 1) := by decide +kernel
theorem dX8_hold_40 : decode cX8_hold 40 = .ok (.aload_n 0, 1) := by decide +kernel
theorem dX8_hold_41 : decode cX8_hold 41 = .ok (.iload_n 1, 1) := by decide +kernel
theorem dX8_hold_42 : decode cX8_hold 42 = .ok (.iload_n 2, 1) := by decide +kernel
theorem dX8_hold_43 : decode cX8_hold 43 = .ok (.invokevirtual 132, 3) := by decide +kernel
theorem dX8_hold_46 : decode cX8_hold 46 = .ok (.ifCond .ne 6, 3) := by decide +kernel
theorem dX8_hold_49 : decode cX8_hold 49 = .ok (.ldc 115, 2) := by decide +kernel
theorem dX8_hold_51 : decode cX8_hold 51 = .ok (.ireturn, 1) := by decide +kernel
theorem dX8_hold_52 : decode cX8_hold 52 = .ok (.aload_n 0, 1) := by decide +kernel
theorem dX8_hold_53 : decode cX8_hold 53 = .ok (.getfield 7, 3) := by decide +kernel
theorem dX8_hold_56 : decode cX8_hold 56 = .ok (.iconst 5, 1) := by decide +kernel
theorem dX8_hold_57 : decode cX8_hold 57 = .ok (.iaload, 1) := by decide +kernel
theorem dX8_hold_58 : decode cX8_hold 58 = .ok (.bipush 12, 2) := by decide +kernel
theorem dX8_hold_60 : decode cX8_hold 60 = .ok (.if_icmp .ne 6, 3) := by decide +kernel
theorem dX8_hold_63 : decode cX8_hold 63 = .ok (.ldc 93, 2) := by decide +kernel
theorem dX8_hold_65 : decode cX8_hold 65 = .ok (.ireturn, 1) := by decide +kernel
theorem dX8_hold_66 : decode cX8_hold 66 = .ok (.aload_n 0, 1) := by decide +kernel
theorem dX8_hold_67 : decode cX8_hold 67 = .ok (.invokevirtual 94, 3) := by decide +kernel
theorem dX8_hold_70 : decode cX8_hold 70 = .ok (.aload_n 0, 1) := by decide +kernel
theorem dX8_hold_71 : decode cX8_hold 71 = .ok (.iload_n 1, 1) := by decide +kernel
theorem dX8_hold_72 : decode cX8_hold 72 = .ok (.iload_n 2, 1) := by decide +kernel
theorem dX8_hold_73 : decode cX8_hold 73 = .ok (.iload_n 3, 1) := by decide +kernel
theorem dX8_hold_74 : decode cX8_hold 74 = .ok (.iload 4, 2) := by decide +kernel
theorem dX8_hold_76 : decode cX8_hold 76 = .ok (.invokevirtual 135, 3) := by decide +kernel
theorem dX8_hold_79 : decode cX8_hold 79 = .ok (.ireturn, 1) := by decide +kernel
set_option maxRecDepth 20000 in
theorem ggX8_giveUp_X8_findHold : GoodIn wsX8_giveUp wsX8_findHold := goodIn_r _ [7, 2, 8, 9, 10, 6, 11, 61, 62, 63, 64, 65, 66] (by decide +kernel) (by decide +kernel)
set_option maxRecDepth 20000 in
theorem gX8_giveUp_X8_findHold : GoodIn wsX8_giveUp (wsV RX8 72 RX8 yX8_findHold wsX8_findHold) := goodIn_app (goodIn_of _ (by decide +kernel)) ggX8_giveUp_X8_findHold
set_option maxRecDepth 20000 in
theorem ggX8_giveUp_X8_note : GoodIn wsX8_giveUp wsX8_note := goodIn_r _ [15, 16, 17, 2, 61, 62, 63, 64, 65, 66] (by decide +kernel) (by decide +kernel)
set_option maxRecDepth 20000 in
theorem gX8_giveUp_X8_note : GoodIn wsX8_giveUp (wsV RX8 94 RX8 yX8_note wsX8_note) := goodIn_app (goodIn_of _ (by decide +kernel)) ggX8_giveUp_X8_note
set_option maxRecDepth 20000 in
theorem ggX8_giveUp_X8_setCopy : GoodIn wsX8_giveUp wsX8_setCopy := goodIn_r _ [29, 2, 61, 62, 63, 64, 65, 66] (by decide +kernel) (by decide +kernel)
set_option maxRecDepth 20000 in
theorem gX8_giveUp_X8_setCopy : GoodIn wsX8_giveUp (wsV RX8 57 RX8 yX8_setCopy wsX8_setCopy) := goodIn_app (goodIn_of _ (by decide +kernel)) ggX8_giveUp_X8_setCopy
set_option maxRecDepth 20000 in
theorem ggX8_giveUp_X8_serve : GoodIn wsX8_giveUp wsX8_serve := goodIn_r _ [37, 38, 39, 40, 6, 41, 2, 42, 43, 44, 45, 8, 9, 10, 11, 46, 47, 48, 49, 50, 51, 52, 53, 22, 23, 24, 25, 54, 55, 56, 57, 58, 59, 60, 26, 27, 28, 29, 61, 62, 63, 64, 65, 66] (by decide +kernel) (by decide +kernel)
set_option maxRecDepth 20000 in
theorem gX8_giveUp_X8_serve : GoodIn wsX8_giveUp (wsV RX8 79 RX8 yX8_serve wsX8_serve) := goodIn_app (goodIn_of _ (by decide +kernel)) ggX8_giveUp_X8_serve
theorem dX8_giveUp_0 : decode cX8_giveUp 0 = .ok (.aload_n 0, 1) := by decide +kernel
theorem dX8_giveUp_1 : decode cX8_giveUp 1 = .ok (.iload_n 1, 1) := by decide +kernel
theorem dX8_giveUp_2 : decode cX8_giveUp 2 = .ok (.invokevirtual 72, 3) := by decide +kernel
theorem dX8_giveUp_5 : decode cX8_giveUp 5 = .ok (.istore_n 2, 1) := by decide +kernel
theorem dX8_giveUp_6 : decode cX8_giveUp 6 = .ok (.iload_n 2, 1) := by decide +kernel
theorem dX8_giveUp_7 : decode cX8_giveUp 7 = .ok (.ifCond .ge 6, 3) := by decide +kernel
theorem dX8_giveUp_10 : decode cX8_giveUp 10 = .ok (.ldc 92, 2) := by decide +kernel
theorem dX8_giveUp_12 : decode cX8_giveUp 12 = .ok (.ireturn, 1) := by decide +kernel
theorem dX8_giveUp_13 : decode cX8_giveUp 13 = .ok (.aload_n 0, 1) := by decide +kernel
theorem dX8_giveUp_14 : decode cX8_giveUp 14 = .ok (.invokevirtual 94, 3) := by decide +kernel
theorem dX8_giveUp_17 : decode cX8_giveUp 17 = .ok (.aload_n 0, 1) := by decide +kernel
theorem dX8_giveUp_18 : decode cX8_giveUp 18 = .ok (.iload_n 2, 1) := by decide +kernel
theorem dX8_giveUp_19 : decode cX8_giveUp 19 = .ok (.invokevirtual 139, 3) := by decide +kernel
theorem dX8_giveUp_22 : decode cX8_giveUp 22 = .ok (.istore_n 3, 1) := by decide +kernel
theorem dX8_giveUp_23 : decode cX8_giveUp 23 = .ok (.iload_n 3, 1) := by decide +kernel
theorem dX8_giveUp_24 : decode cX8_giveUp 24 = .ok (.ifCond .lt 11, 3) := by decide +kernel
theorem dX8_giveUp_27 : decode cX8_giveUp 27 = .ok (.aload_n 0, 1) := by decide +kernel
theorem dX8_giveUp_28 : decode cX8_giveUp 28 = .ok (.iload_n 3, 1) := by decide +kernel
theorem dX8_giveUp_29 : decode cX8_giveUp 29 = .ok (.iconst 0, 1) := by decide +kernel
theorem dX8_giveUp_30 : decode cX8_giveUp 30 = .ok (.iconst 0, 1) := by decide +kernel
theorem dX8_giveUp_31 : decode cX8_giveUp 31 = .ok (.iconst 0, 1) := by decide +kernel
theorem dX8_giveUp_32 : decode cX8_giveUp 32 = .ok (.invokevirtual 57, 3) := by decide +kernel
theorem dX8_giveUp_35 : decode cX8_giveUp 35 = .ok (.aload_n 0, 1) := by decide +kernel
theorem dX8_giveUp_36 : decode cX8_giveUp 36 = .ok (.iload_n 2, 1) := by decide +kernel
theorem dX8_giveUp_37 : decode cX8_giveUp 37 = .ok (.invokevirtual 75, 3) := by decide +kernel
theorem dX8_giveUp_40 : decode cX8_giveUp 40 = .ok (.aload_n 0, 1) := by decide +kernel
theorem dX8_giveUp_41 : decode cX8_giveUp 41 = .ok (.invokevirtual 79, 3) := by decide +kernel
theorem dX8_giveUp_44 : decode cX8_giveUp 44 = .ok (.aload_n 0, 1) := by decide +kernel
theorem dX8_giveUp_45 : decode cX8_giveUp 45 = .ok (.getfield 7, 3) := by decide +kernel
theorem dX8_giveUp_48 : decode cX8_giveUp 48 = .ok (.iconst 5, 1) := by decide +kernel
theorem dX8_giveUp_49 : decode cX8_giveUp 49 = .ok (.iaload, 1) := by decide +kernel
theorem dX8_giveUp_50 : decode cX8_giveUp 50 = .ok (.ireturn, 1) := by decide +kernel
set_option maxRecDepth 20000 in
theorem ggX8_pass_X8_in : GoodIn wsX8_pass wsX8_in := goodIn_r _ [8] (by decide +kernel) (by decide +kernel)
set_option maxRecDepth 20000 in
theorem gX8_pass_X8_in : GoodIn wsX8_pass (va_wsS RX8 23 yX8_in wsX8_in) := goodIn_app (goodIn_of _ (by decide +kernel)) ggX8_pass_X8_in
set_option maxRecDepth 20000 in
theorem ggX8_pass_X8_note : GoodIn wsX8_pass wsX8_note := goodIn_r _ [12, 13, 14, 3, 66, 67, 68, 69, 70, 71] (by decide +kernel) (by decide +kernel)
set_option maxRecDepth 20000 in
theorem gX8_pass_X8_note : GoodIn wsX8_pass (wsV RX8 94 RX8 yX8_note wsX8_note) := goodIn_app (goodIn_of _ (by decide +kernel)) ggX8_pass_X8_note
set_option maxRecDepth 20000 in
theorem ggX8_pass_X8_passDay : GoodIn wsX8_pass wsX8_passDay := goodIn_r _ [18, 3, 19, 20, 21, 7, 22, 23, 24, 25, 26, 27, 28, 29, 30, 31, 32, 33, 34, 35, 36, 37, 38, 39, 40, 41, 42, 43, 44, 45, 46, 47, 48, 49, 50, 51, 52, 53, 54, 55, 56, 57, 58, 59, 60, 61, 62, 63, 64, 65, 66, 67, 68, 69, 70, 71] (by decide +kernel) (by decide +kernel)
set_option maxRecDepth 20000 in
theorem gX8_pass_X8_passDay : GoodIn wsX8_pass (wsV RX8 144 RX8 yX8_passDay wsX8_passDay) := goodIn_app (goodIn_of _ (by decide +kernel)) ggX8_pass_X8_passDay
theorem dX8_pass_0 : decode cX8_pass 0 = .ok (.iload_n 1, 1) := by decide +kernel
theorem dX8_pass_1 : decode cX8_pass 1 = .ok (.i2l, 1) := by decide +kernel
theorem dX8_pass_2 : decode cX8_pass 2 = .ok (.lconst 1, 1) := by decide +kernel
theorem dX8_pass_3 : decode cX8_pass 3 = .ok (.ldc2_w 142, 3) := by decide +kernel
theorem dX8_pass_6 : decode cX8_pass 6 = .ok (.invokestatic 23, 3) := by decide +kernel
theorem dX8_pass_9 : decode cX8_pass 9 = .ok (.ifCond .ne 6, 3) := by decide +kernel
theorem dX8_pass_12 : decode cX8_pass 12 = .ok (.ldc 131, 2) := by decide +kernel
theorem dX8_pass_14 : decode cX8_pass 14 = .ok (.ireturn, 1) := by decide +kernel
theorem dX8_pass_15 : decode cX8_pass 15 = .ok (.aload_n 0, 1) := by decide +kernel
theorem dX8_pass_16 : decode cX8_pass 16 = .ok (.getfield 7, 3) := by decide +kernel
theorem dX8_pass_19 : decode cX8_pass 19 = .ok (.iconst 0, 1) := by decide +kernel
theorem dX8_pass_20 : decode cX8_pass 20 = .ok (.iaload, 1) := by decide +kernel
theorem dX8_pass_21 : decode cX8_pass 21 = .ok (.iload_n 1, 1) := by decide +kernel
theorem dX8_pass_22 : decode cX8_pass 22 = .ok (.iadd, 1) := by decide +kernel
theorem dX8_pass_23 : decode cX8_pass 23 = .ok (.sipush 9999, 3) := by decide +kernel
theorem dX8_pass_26 : decode cX8_pass 26 = .ok (.if_icmp .le 6, 3) := by decide +kernel
theorem dX8_pass_29 : decode cX8_pass 29 = .ok (.ldc 115, 2) := by decide +kernel
theorem dX8_pass_31 : decode cX8_pass 31 = .ok (.ireturn, 1) := by decide +kernel
theorem dX8_pass_32 : decode cX8_pass 32 = .ok (.aload_n 0, 1) := by decide +kernel
theorem dX8_pass_33 : decode cX8_pass 33 = .ok (.invokevirtual 94, 3) := by decide +kernel
theorem dX8_pass_36 : decode cX8_pass 36 = .ok (.iconst 0, 1) := by decide +kernel
theorem dX8_pass_37 : decode cX8_pass 37 = .ok (.istore_n 2, 1) := by decide +kernel
theorem dX8_pass_38 : decode cX8_pass 38 = .ok (.iload_n 2, 1) := by decide +kernel
theorem dX8_pass_39 : decode cX8_pass 39 = .ok (.iload_n 1, 1) := by decide +kernel
theorem dX8_pass_40 : decode cX8_pass 40 = .ok (.if_icmp .ge 13, 3) := by decide +kernel
theorem dX8_pass_43 : decode cX8_pass 43 = .ok (.aload_n 0, 1) := by decide +kernel
theorem dX8_pass_44 : decode cX8_pass 44 = .ok (.invokevirtual 144, 3) := by decide +kernel
theorem dX8_pass_47 : decode cX8_pass 47 = .ok (.iinc 2 1, 3) := by decide +kernel
theorem dX8_pass_50 : decode cX8_pass 50 = .ok (.goto (-12), 3) := by decide +kernel
theorem dX8_pass_53 : decode cX8_pass 53 = .ok (.aload_n 0, 1) := by decide +kernel
theorem dX8_pass_54 : decode cX8_pass 54 = .ok (.getfield 7, 3) := by decide +kernel
theorem dX8_pass_57 : decode cX8_pass 57 = .ok (.iconst 0, 1) := by decide +kernel
theorem dX8_pass_58 : decode cX8_pass 58 = .ok (.iaload, 1) := by decide +kernel
theorem dX8_pass_59 : decode cX8_pass 59 = .ok (.ireturn, 1) := by decide +kernel
set_option maxRecDepth 20000 in
theorem ggX8_set_X8_in : GoodIn wsX8_set wsX8_in := goodIn_r _ [10] (by decide +kernel) (by decide +kernel)
set_option maxRecDepth 20000 in
theorem gX8_set_X8_in : GoodIn wsX8_set (va_wsS RX8 23 yX8_in wsX8_in) := goodIn_app (goodIn_of _ (by decide +kernel)) ggX8_set_X8_in
set_option maxRecDepth 20000 in
theorem ggX8_set_X8_note : GoodIn wsX8_set wsX8_note := goodIn_r _ [14, 15, 16, 6, 17, 18, 19, 20, 21, 22] (by decide +kernel) (by decide +kernel)
set_option maxRecDepth 20000 in
theorem gX8_set_X8_note : GoodIn wsX8_set (wsV RX8 94 RX8 yX8_note wsX8_note) := goodIn_app (goodIn_of _ (by decide +kernel)) ggX8_set_X8_note
theorem dX8_set_0 : decode cX8_set 0 = .ok (.iload_n 1, 1) := by decide +kernel
theorem dX8_set_1 : decode cX8_set 1 = .ok (.i2l, 1) := by decide +kernel
theorem dX8_set_2 : decode cX8_set 2 = .ok (.lconst 0, 1) := by decide +kernel
theorem dX8_set_3 : decode cX8_set 3 = .ok (.ldc2_w 147, 3) := by decide +kernel
theorem dX8_set_6 : decode cX8_set 6 = .ok (.invokestatic 23, 3) := by decide +kernel
theorem dX8_set_9 : decode cX8_set 9 = .ok (.ifCond .eq 45, 3) := by decide +kernel
theorem dX8_set_12 : decode cX8_set 12 = .ok (.iload_n 2, 1) := by decide +kernel
theorem dX8_set_13 : decode cX8_set 13 = .ok (.i2l, 1) := by decide +kernel
theorem dX8_set_14 : decode cX8_set 14 = .ok (.iload_n 1, 1) := by decide +kernel
theorem dX8_set_15 : decode cX8_set 15 = .ok (.iconst 2, 1) := by decide +kernel
theorem dX8_set_16 : decode cX8_set 16 = .ok (.if_icmp .ne 7, 3) := by decide +kernel
theorem dX8_set_19 : decode cX8_set 19 = .ok (.lconst 0, 1) := by decide +kernel
theorem dX8_set_20 : decode cX8_set 20 = .ok (.goto 4, 3) := by decide +kernel
theorem dX8_set_23 : decode cX8_set 23 = .ok (.lconst 1, 1) := by decide +kernel
theorem dX8_set_24 : decode cX8_set 24 = .ok (.iload_n 1, 1) := by decide +kernel
theorem dX8_set_25 : decode cX8_set 25 = .ok (.ifCond .ne 9, 3) := by decide +kernel
theorem dX8_set_28 : decode cX8_set 28 = .ok (.ldc2_w 149, 3) := by decide +kernel
theorem dX8_set_31 : decode cX8_set 31 = .ok (.goto 17, 3) := by decide +kernel
theorem dX8_set_34 : decode cX8_set 34 = .ok (.iload_n 1, 1) := by decide +kernel
theorem dX8_set_35 : decode cX8_set 35 = .ok (.iconst 1, 1) := by decide +kernel
theorem dX8_set_36 : decode cX8_set 36 = .ok (.if_icmp .ne 9, 3) := by decide +kernel
theorem dX8_set_39 : decode cX8_set 39 = .ok (.ldc2_w 151, 3) := by decide +kernel
theorem dX8_set_42 : decode cX8_set 42 = .ok (.goto 6, 3) := by decide +kernel
theorem dX8_set_45 : decode cX8_set 45 = .ok (.ldc2_w 153, 3) := by decide +kernel
theorem dX8_set_48 : decode cX8_set 48 = .ok (.invokestatic 23, 3) := by decide +kernel
theorem dX8_set_51 : decode cX8_set 51 = .ok (.ifCond .ne 6, 3) := by decide +kernel
theorem dX8_set_54 : decode cX8_set 54 = .ok (.ldc 131, 2) := by decide +kernel
theorem dX8_set_56 : decode cX8_set 56 = .ok (.ireturn, 1) := by decide +kernel
theorem dX8_set_57 : decode cX8_set 57 = .ok (.aload_n 0, 1) := by decide +kernel
theorem dX8_set_58 : decode cX8_set 58 = .ok (.invokevirtual 94, 3) := by decide +kernel
theorem dX8_set_61 : decode cX8_set 61 = .ok (.aload_n 0, 1) := by decide +kernel
theorem dX8_set_62 : decode cX8_set 62 = .ok (.getfield 7, 3) := by decide +kernel
theorem dX8_set_65 : decode cX8_set 65 = .ok (.iconst 1, 1) := by decide +kernel
theorem dX8_set_66 : decode cX8_set 66 = .ok (.iload_n 1, 1) := by decide +kernel
theorem dX8_set_67 : decode cX8_set 67 = .ok (.iadd, 1) := by decide +kernel
theorem dX8_set_68 : decode cX8_set 68 = .ok (.iaload, 1) := by decide +kernel
theorem dX8_set_69 : decode cX8_set 69 = .ok (.istore_n 3, 1) := by decide +kernel
theorem dX8_set_70 : decode cX8_set 70 = .ok (.aload_n 0, 1) := by decide +kernel
theorem dX8_set_71 : decode cX8_set 71 = .ok (.getfield 7, 3) := by decide +kernel
theorem dX8_set_74 : decode cX8_set 74 = .ok (.iconst 1, 1) := by decide +kernel
theorem dX8_set_75 : decode cX8_set 75 = .ok (.iload_n 1, 1) := by decide +kernel
theorem dX8_set_76 : decode cX8_set 76 = .ok (.iadd, 1) := by decide +kernel
theorem dX8_set_77 : decode cX8_set 77 = .ok (.iload_n 2, 1) := by decide +kernel
theorem dX8_set_78 : decode cX8_set 78 = .ok (.iastore, 1) := by decide +kernel
theorem dX8_set_79 : decode cX8_set 79 = .ok (.iload_n 3, 1) := by decide +kernel
theorem dX8_set_80 : decode cX8_set 80 = .ok (.ireturn, 1) := by decide +kernel
theorem dX8_lotOf_0 : decode cX8_lotOf 0 = .ok (.aload_n 0, 1) := by decide +kernel
theorem dX8_lotOf_1 : decode cX8_lotOf 1 = .ok (.aload_n 0, 1) := by decide +kernel
theorem dX8_lotOf_2 : decode cX8_lotOf 2 = .ok (.getfield 155, 3) := by decide +kernel
theorem dX8_lotOf_5 : decode cX8_lotOf 5 = .ok (.ldc2_w 159, 3) := by decide +kernel
theorem dX8_lotOf_8 : decode cX8_lotOf 8 = .ok (.lmul, 1) := by decide +kernel
theorem dX8_lotOf_9 : decode cX8_lotOf 9 = .ok (.ldc2_w 161, 3) := by decide +kernel
theorem dX8_lotOf_12 : decode cX8_lotOf 12 = .ok (.lrem, 1) := by decide +kernel
theorem dX8_lotOf_13 : decode cX8_lotOf 13 = .ok (.putfield 155, 3) := by decide +kernel
theorem dX8_lotOf_16 : decode cX8_lotOf 16 = .ok (.aload_n 0, 1) := by decide +kernel
theorem dX8_lotOf_17 : decode cX8_lotOf 17 = .ok (.getfield 155, 3) := by decide +kernel
theorem dX8_lotOf_20 : decode cX8_lotOf 20 = .ok (.iload_n 1, 1) := by decide +kernel
theorem dX8_lotOf_21 : decode cX8_lotOf 21 = .ok (.i2l, 1) := by decide +kernel
theorem dX8_lotOf_22 : decode cX8_lotOf 22 = .ok (.lrem, 1) := by decide +kernel
theorem dX8_lotOf_23 : decode cX8_lotOf 23 = .ok (.l2i, 1) := by decide +kernel
theorem dX8_lotOf_24 : decode cX8_lotOf 24 = .ok (.ireturn, 1) := by decide +kernel
set_option maxRecDepth 20000 in
theorem ggX8_drawHold_X8_lotOf : GoodIn wsX8_drawHold wsX8_lotOf := goodIn_r _ [6, 7, 8, 9, 64, 65, 66, 67, 68, 69] (by decide +kernel) (by decide +kernel)
set_option maxRecDepth 20000 in
theorem gX8_drawHold_X8_lotOf : GoodIn wsX8_drawHold (wsV RX8 163 RX8 yX8_lotOf wsX8_lotOf) := goodIn_app (goodIn_of _ (by decide +kernel)) ggX8_drawHold_X8_lotOf
set_option maxRecDepth 20000 in
theorem ggX8_drawHold_X8_mayHold : GoodIn wsX8_drawHold wsX8_mayHold := goodIn_r _ [13, 1, 14, 15, 16, 5, 17, 18, 19, 20, 21, 22, 23, 24, 25, 26, 27, 28, 64, 65, 66, 67, 68, 69] (by decide +kernel) (by decide +kernel)
set_option maxRecDepth 20000 in
theorem gX8_drawHold_X8_mayHold : GoodIn wsX8_drawHold (wsV RX8 132 RX8 yX8_mayHold wsX8_mayHold) := goodIn_app (goodIn_of _ (by decide +kernel)) ggX8_drawHold_X8_mayHold
set_option maxRecDepth 20000 in
theorem ggX8_drawHold_X8_doHold : GoodIn wsX8_drawHold wsX8_doHold := goodIn_r _ [32, 1, 33, 34, 35, 5, 36, 37, 38, 39, 40, 41, 42, 43, 44, 14, 15, 16, 17, 45, 46, 47, 48, 49, 50, 51, 52, 18, 19, 20, 21, 53, 54, 55, 56, 57, 58, 59, 60, 61, 62, 63, 64, 65, 66, 67, 68, 69] (by decide +kernel) (by decide +kernel)
set_option maxRecDepth 20000 in
theorem gX8_drawHold_X8_doHold : GoodIn wsX8_drawHold (wsV RX8 135 RX8 yX8_doHold wsX8_doHold) := goodIn_app (goodIn_of _ (by decide +kernel)) ggX8_drawHold_X8_doHold
theorem dX8_drawHold_0 : decode cX8_drawHold 0 = .ok (.aload_n 0, 1) := by decide +kernel
theorem dX8_drawHold_1 : decode cX8_drawHold 1 = .ok (.bipush 10, 2) := by decide +kernel
theorem dX8_drawHold_3 : decode cX8_drawHold 3 = .ok (.invokevirtual 163, 3) := by decide +kernel
theorem dX8_drawHold_6 : decode cX8_drawHold 6 = .ok (.istore_n 1, 1) := by decide +kernel
theorem dX8_drawHold_7 : decode cX8_drawHold 7 = .ok (.aload_n 0, 1) := by decide +kernel
theorem dX8_drawHold_8 : decode cX8_drawHold 8 = .ok (.bipush 6, 2) := by decide +kernel
theorem dX8_drawHold_10 : decode cX8_drawHold 10 = .ok (.invokevirtual 163, 3) := by decide +kernel
theorem dX8_drawHold_13 : decode cX8_drawHold 13 = .ok (.istore_n 2, 1) := by decide +kernel
theorem dX8_drawHold_14 : decode cX8_drawHold 14 = .ok (.aload_n 0, 1) := by decide +kernel
theorem dX8_drawHold_15 : decode cX8_drawHold 15 = .ok (.iconst 4, 1) := by decide +kernel
theorem dX8_drawHold_16 : decode cX8_drawHold 16 = .ok (.invokevirtual 163, 3) := by decide +kernel
theorem dX8_drawHold_19 : decode cX8_drawHold 19 = .ok (.istore_n 3, 1) := by decide +kernel
theorem dX8_drawHold_20 : decode cX8_drawHold 20 = .ok (.aload_n 0, 1) := by decide +kernel
theorem dX8_drawHold_21 : decode cX8_drawHold 21 = .ok (.iconst 4, 1) := by decide +kernel
theorem dX8_drawHold_22 : decode cX8_drawHold 22 = .ok (.invokevirtual 163, 3) := by decide +kernel
theorem dX8_drawHold_25 : decode cX8_drawHold 25 = .ok (.istore 4, 2) := by decide +kernel
theorem dX8_drawHold_27 : decode cX8_drawHold 27 = .ok (.aload_n 0, 1) := by decide +kernel
theorem dX8_drawHold_28 : decode cX8_drawHold 28 = .ok (.iload_n 1, 1) := by decide +kernel
theorem dX8_drawHold_29 : decode cX8_drawHold 29 = .ok (.iload_n 2, 1) := by decide +kernel
theorem dX8_drawHold_30 : decode cX8_drawHold 30 = .ok (.invokevirtual 132, 3) := by decide +kernel
theorem dX8_drawHold_33 : decode cX8_drawHold 33 = .ok (.ifCond .eq 24, 3) := by decide +kernel
theorem dX8_drawHold_36 : decode cX8_drawHold 36 = .ok (.aload_n 0, 1) := by decide +kernel
theorem dX8_drawHold_37 : decode cX8_drawHold 37 = .ok (.getfield 7, 3) := by decide +kernel
theorem dX8_drawHold_40 : decode cX8_drawHold 40 = .ok (.iconst 5, 1) := by decide +kernel
theorem dX8_drawHold_41 : decode cX8_drawHold 41 = .ok (.iaload, 1) := by decide +kernel
theorem dX8_drawHold_42 : decode cX8_drawHold 42 = .ok (.bipush 12, 2) := by decide +kernel
theorem dX8_drawHold_44 : decode cX8_drawHold 44 = .ok (.if_icmp .ge 13, 3) := by decide +kernel
theorem dX8_drawHold_47 : decode cX8_drawHold 47 = .ok (.aload_n 0, 1) := by decide +kernel
theorem dX8_drawHold_48 : decode cX8_drawHold 48 = .ok (.iload_n 1, 1) := by decide +kernel
theorem dX8_drawHold_49 : decode cX8_drawHold 49 = .ok (.iload_n 2, 1) := by decide +kernel
theorem dX8_drawHold_50 : decode cX8_drawHold 50 = .ok (.iload_n 3, 1) := by decide +kernel
theorem dX8_drawHold_51 : decode cX8_drawHold 51 = .ok (.iload 4, 2) := by decide +kernel
theorem dX8_drawHold_53 : decode cX8_drawHold 53 = .ok (.invokevirtual 135, 3) := by decide +kernel
theorem dX8_drawHold_56 : decode cX8_drawHold 56 = .ok (.pop, 1) := by decide +kernel
theorem dX8_drawHold_57 : decode cX8_drawHold 57 = .ok (.return_, 1) := by decide +kernel
set_option maxRecDepth 20000 in
theorem ggX8_drift_X8_in : GoodIn wsX8_drift wsX8_in := goodIn_r _ [9] (by decide +kernel) (by decide +kernel)
set_option maxRecDepth 20000 in
theorem gX8_drift_X8_in : GoodIn wsX8_drift (va_wsS RX8 23 yX8_in wsX8_in) := goodIn_app (goodIn_of _ (by decide +kernel)) ggX8_drift_X8_in
set_option maxRecDepth 20000 in
theorem ggX8_drift_X8_note : GoodIn wsX8_drift wsX8_note := goodIn_r _ [13, 14, 15, 5, 123, 124, 125, 126, 127, 128] (by decide +kernel) (by decide +kernel)
set_option maxRecDepth 20000 in
theorem gX8_drift_X8_note : GoodIn wsX8_drift (wsV RX8 94 RX8 yX8_note wsX8_note) := goodIn_app (goodIn_of _ (by decide +kernel)) ggX8_drift_X8_note
set_option maxRecDepth 20000 in
theorem ggX8_drift_X8_lotOf : GoodIn wsX8_drift wsX8_lotOf := goodIn_r _ [19, 4, 20, 21, 123, 124, 125, 126, 127, 128] (by decide +kernel) (by decide +kernel)
set_option maxRecDepth 20000 in
theorem gX8_drift_X8_lotOf : GoodIn wsX8_drift (wsV RX8 163 RX8 yX8_lotOf wsX8_lotOf) := goodIn_app (goodIn_of _ (by decide +kernel)) ggX8_drift_X8_lotOf
set_option maxRecDepth 20000 in
theorem ggX8_drift_X8_drawHold : GoodIn wsX8_drift wsX8_drawHold := goodIn_r _ [25, 5, 16, 17, 18, 8, 19, 4, 20, 21, 26, 27, 28, 29, 30, 31, 32, 33, 34, 35, 36, 37, 38, 39, 40, 41, 42, 43, 44, 45, 46, 47, 48, 49, 50, 51, 52, 53, 54, 55, 56, 57, 58, 59, 60, 61, 62, 63, 64, 65, 66, 67, 68, 69, 70, 71, 72, 73, 74, 75, 76, 77, 78, 79, 123, 124, 125, 126, 127, 128] (by decide +kernel) (by decide +kernel)
set_option maxRecDepth 20000 in
theorem gX8_drift_X8_drawHold : GoodIn wsX8_drift (wsV RX8 168 RX8 yX8_drawHold wsX8_drawHold) := goodIn_app (goodIn_of _ (by decide +kernel)) ggX8_drift_X8_drawHold
set_option maxRecDepth 20000 in
theorem ggX8_drift_X8_passDay : GoodIn wsX8_drift wsX8_passDay := goodIn_r _ [122, 5, 34, 35, 36, 8, 37, 88, 89, 90, 91, 30, 31, 32, 33, 76, 77, 78, 79, 99, 100, 101, 102, 49, 50, 51, 52, 53, 54, 55, 56, 57, 58, 59, 60, 61, 62, 63, 64, 65, 66, 67, 68, 69, 70, 71, 72, 73, 74, 75, 123, 124, 125, 126, 127, 128] (by decide +kernel) (by decide +kernel)
set_option maxRecDepth 20000 in
theorem gX8_drift_X8_passDay : GoodIn wsX8_drift (wsV RX8 144 RX8 yX8_passDay wsX8_passDay) := goodIn_app (goodIn_of _ (by decide +kernel)) ggX8_drift_X8_passDay
theorem dX8_drift_0 : decode cX8_drift 0 = .ok (.iload_n 1, 1) := by decide +kernel
theorem dX8_drift_1 : decode cX8_drift 1 = .ok (.i2l, 1) := by decide +kernel
theorem dX8_drift_2 : decode cX8_drift 2 = .ok (.lconst 1, 1) := by decide +kernel
theorem dX8_drift_3 : decode cX8_drift 3 = .ok (.ldc2_w 151, 3) := by decide +kernel
theorem dX8_drift_6 : decode cX8_drift 6 = .ok (.invokestatic 23, 3) := by decide +kernel
theorem dX8_drift_9 : decode cX8_drift 9 = .ok (.ifCond .eq 15, 3) := by decide +kernel
theorem dX8_drift_12 : decode cX8_drift 12 = .ok (.iload_n 2, 1) := by decide +kernel
theorem dX8_drift_13 : decode cX8_drift 13 = .ok (.i2l, 1) := by decide +kernel
theorem dX8_drift_14 : decode cX8_drift 14 = .ok (.lconst 1, 1) := by decide +kernel
theorem dX8_drift_15 : decode cX8_drift 15 = .ok (.ldc2_w 166, 3) := by decide +kernel
theorem dX8_drift_18 : decode cX8_drift 18 = .ok (.invokestatic 23, 3) := by decide +kernel
theorem dX8_drift_21 : decode cX8_drift 21 = .ok (.ifCond .ne 6, 3) := by decide +kernel
theorem dX8_drift_24 : decode cX8_drift 24 = .ok (.ldc 131, 2) := by decide +kernel
theorem dX8_drift_26 : decode cX8_drift 26 = .ok (.ireturn, 1) := by decide +kernel
theorem dX8_drift_27 : decode cX8_drift 27 = .ok (.aload_n 0, 1) := by decide +kernel
theorem dX8_drift_28 : decode cX8_drift 28 = .ok (.invokevirtual 94, 3) := by decide +kernel
theorem dX8_drift_31 : decode cX8_drift 31 = .ok (.aload_n 0, 1) := by decide +kernel
theorem dX8_drift_32 : decode cX8_drift 32 = .ok (.iload_n 2, 1) := by decide +kernel
theorem dX8_drift_33 : decode cX8_drift 33 = .ok (.i2l, 1) := by decide +kernel
theorem dX8_drift_34 : decode cX8_drift 34 = .ok (.putfield 155, 3) := by decide +kernel
theorem dX8_drift_37 : decode cX8_drift 37 = .ok (.iconst 0, 1) := by decide +kernel
theorem dX8_drift_38 : decode cX8_drift 38 = .ok (.istore_n 3, 1) := by decide +kernel
theorem dX8_drift_39 : decode cX8_drift 39 = .ok (.iload_n 3, 1) := by decide +kernel
theorem dX8_drift_40 : decode cX8_drift 40 = .ok (.iload_n 1, 1) := by decide +kernel
theorem dX8_drift_41 : decode cX8_drift 41 = .ok (.if_icmp .ge 83, 3) := by decide +kernel
theorem dX8_drift_44 : decode cX8_drift 44 = .ok (.aload_n 0, 1) := by decide +kernel
theorem dX8_drift_45 : decode cX8_drift 45 = .ok (.iconst 4, 1) := by decide +kernel
theorem dX8_drift_46 : decode cX8_drift 46 = .ok (.invokevirtual 163, 3) := by decide +kernel
theorem dX8_drift_49 : decode cX8_drift 49 = .ok (.istore 4, 2) := by decide +kernel
theorem dX8_drift_51 : decode cX8_drift 51 = .ok (.iload 4, 2) := by decide +kernel
theorem dX8_drift_53 : decode cX8_drift 53 = .ok (.ifCond .ne 10, 3) := by decide +kernel
theorem dX8_drift_56 : decode cX8_drift 56 = .ok (.aload_n 0, 1) := by decide +kernel
theorem dX8_drift_57 : decode cX8_drift 57 = .ok (.invokevirtual 168, 3) := by decide +kernel
theorem dX8_drift_60 : decode cX8_drift 60 = .ok (.goto 58, 3) := by decide +kernel
theorem dX8_drift_63 : decode cX8_drift 63 = .ok (.iload 4, 2) := by decide +kernel
theorem dX8_drift_65 : decode cX8_drift 65 = .ok (.iconst 3, 1) := by decide +kernel
theorem dX8_drift_66 : decode cX8_drift 66 = .ok (.if_icmp .ge 30, 3) := by decide +kernel
theorem dX8_drift_69 : decode cX8_drift 69 = .ok (.aload_n 0, 1) := by decide +kernel
theorem dX8_drift_70 : decode cX8_drift 70 = .ok (.getfield 7, 3) := by decide +kernel
theorem dX8_drift_73 : decode cX8_drift 73 = .ok (.iconst 4, 1) := by decide +kernel
theorem dX8_drift_74 : decode cX8_drift 74 = .ok (.iaload, 1) := by decide +kernel
theorem dX8_drift_75 : decode cX8_drift 75 = .ok (.ifCond .le 21, 3) := by decide +kernel
theorem dX8_drift_78 : decode cX8_drift 78 = .ok (.aload_n 0, 1) := by decide +kernel
theorem dX8_drift_79 : decode cX8_drift 79 = .ok (.iload 4, 2) := by decide +kernel
theorem dX8_drift_81 : decode cX8_drift 81 = .ok (.iconst 1, 1) := by decide +kernel
theorem dX8_drift_82 : decode cX8_drift 82 = .ok (.if_icmp .ne 7, 3) := by decide +kernel
theorem dX8_drift_85 : decode cX8_drift 85 = .ok (.iconst 1, 1) := by decide +kernel
theorem dX8_drift_86 : decode cX8_drift 86 = .ok (.goto 4, 3) := by decide +kernel
theorem dX8_drift_89 : decode cX8_drift 89 = .ok (.iconst 0, 1) := by decide +kernel
theorem dX8_drift_90 : decode cX8_drift 90 = .ok (.invokevirtual 171, 3) := by decide +kernel
theorem dX8_drift_93 : decode cX8_drift 93 = .ok (.goto 25, 3) := by decide +kernel
theorem dX8_drift_96 : decode cX8_drift 96 = .ok (.iload 4, 2) := by decide +kernel
theorem dX8_drift_98 : decode cX8_drift 98 = .ok (.iconst 3, 1) := by decide +kernel
theorem dX8_drift_99 : decode cX8_drift 99 = .ok (.if_icmp .ne 19, 3) := by decide +kernel
theorem dX8_drift_102 : decode cX8_drift 102 = .ok (.aload_n 0, 1) := by decide +kernel
theorem dX8_drift_103 : decode cX8_drift 103 = .ok (.getfield 7, 3) := by decide +kernel
theorem dX8_drift_106 : decode cX8_drift 106 = .ok (.iconst 0, 1) := by decide +kernel
theorem dX8_drift_107 : decode cX8_drift 107 = .ok (.iaload, 1) := by decide +kernel
theorem dX8_drift_108 : decode cX8_drift 108 = .ok (.sipush 9999, 3) := by decide +kernel
theorem dX8_drift_111 : decode cX8_drift 111 = .ok (.if_icmp .ge 7, 3) := by decide +kernel
theorem dX8_drift_114 : decode cX8_drift 114 = .ok (.aload_n 0, 1) := by decide +kernel
theorem dX8_drift_115 : decode cX8_drift 115 = .ok (.invokevirtual 144, 3) := by decide +kernel
theorem dX8_drift_118 : decode cX8_drift 118 = .ok (.iinc 3 1, 3) := by decide +kernel
theorem dX8_drift_121 : decode cX8_drift 121 = .ok (.goto (-82), 3) := by decide +kernel
theorem dX8_drift_124 : decode cX8_drift 124 = .ok (.aload_n 0, 1) := by decide +kernel
theorem dX8_drift_125 : decode cX8_drift 125 = .ok (.getfield 7, 3) := by decide +kernel
theorem dX8_drift_128 : decode cX8_drift 128 = .ok (.iconst 0, 1) := by decide +kernel
theorem dX8_drift_129 : decode cX8_drift 129 = .ok (.iaload, 1) := by decide +kernel
theorem dX8_drift_130 : decode cX8_drift 130 = .ok (.ireturn, 1) := by decide +kernel
theorem dX8_undo_0 : decode cX8_undo 0 = .ok (.aload_n 0, 1) := by decide +kernel
theorem dX8_undo_1 : decode cX8_undo 1 = .ok (.getfield 82, 3) := by decide +kernel
theorem dX8_undo_4 : decode cX8_undo 4 = .ok (.ifCond .ne 6, 3) := by decide +kernel
theorem dX8_undo_7 : decode cX8_undo 7 = .ok (.ldc 115, 2) := by decide +kernel
theorem dX8_undo_9 : decode cX8_undo 9 = .ok (.ireturn, 1) := by decide +kernel
theorem dX8_undo_10 : decode cX8_undo 10 = .ok (.aload_n 0, 1) := by decide +kernel
theorem dX8_undo_11 : decode cX8_undo 11 = .ok (.dup, 1) := by decide +kernel
theorem dX8_undo_12 : decode cX8_undo 12 = .ok (.getfield 82, 3) := by decide +kernel
theorem dX8_undo_15 : decode cX8_undo 15 = .ok (.iconst 1, 1) := by decide +kernel
theorem dX8_undo_16 : decode cX8_undo 16 = .ok (.isub, 1) := by decide +kernel
theorem dX8_undo_17 : decode cX8_undo 17 = .ok (.putfield 82, 3) := by decide +kernel
theorem dX8_undo_20 : decode cX8_undo 20 = .ok (.iconst 0, 1) := by decide +kernel
