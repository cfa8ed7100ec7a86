theorem dX8_passDay_81 : decode cX8_passDay 81 = .ok (.iload_n 1, 1) := by decide +kernel
theorem dX8_passDay_82 : decode cX8_passDay 82 = .ok (.iconst 2, 1) := by decide +kernel
theorem dX8_passDay_83 : decode cX8_passDay 83 = .ok (.aload_n 0, 1) := by decide +kernel
theorem dX8_passDay_84 : decode cX8_passDay 84 = .ok (.iload_n 1, 1) := by decide +kernel
theorem dX8_passDay_85 : decode cX8_passDay 85 = .ok (.iconst 3, 1) := by decide +kernel
theorem dX8_passDay_86 : decode cX8_passDay 86 = .ok (.invokevirtual 51, 3) := by decide +kernel
theorem dX8_passDay_89 : decode cX8_passDay 89 = .ok (.aload_n 0, 1) := by decide +kernel
theorem dX8_passDay_90 : decode cX8_passDay 90 = .ok (.getfield 7, 3) := by decide +kernel
theorem dX8_passDay_93 : decode cX8_passDay 93 = .ok (.iconst 0, 1) := by decide +kernel
theorem dX8_passDay_94 : decode cX8_passDay 94 = .ok (.iaload, 1) := by decide +kernel
theorem dX8_passDay_95 : decode cX8_passDay 95 = .ok (.aload_n 0, 1) := by decide +kernel
theorem dX8_passDay_96 : decode cX8_passDay 96 = .ok (.getfield 7, 3) := by decide +kernel
theorem dX8_passDay_99 : decode cX8_passDay 99 = .ok (.iconst 2, 1) := by decide +kernel
theorem dX8_passDay_100 : decode cX8_passDay 100 = .ok (.iaload, 1) := by decide +kernel
theorem dX8_passDay_101 : decode cX8_passDay 101 = .ok (.iadd, 1) := by decide +kernel
theorem dX8_passDay_102 : decode cX8_passDay 102 = .ok (.invokevirtual 57, 3) := by decide +kernel
theorem dX8_passDay_105 : decode cX8_passDay 105 = .ok (.goto 50, 3) := by decide +kernel
theorem dX8_passDay_108 : decode cX8_passDay 108 = .ok (.aload_n 0, 1) := by decide +kernel
theorem dX8_passDay_109 : decode cX8_passDay 109 = .ok (.iload_n 1, 1) := by decide +kernel
theorem dX8_passDay_110 : decode cX8_passDay 110 = .ok (.iconst 2, 1) := by decide +kernel
theorem dX8_passDay_111 : decode cX8_passDay 111 = .ok (.invokevirtual 51, 3) := by decide +kernel
theorem dX8_passDay_114 : decode cX8_passDay 114 = .ok (.iconst 2, 1) := by decide +kernel
theorem dX8_passDay_115 : decode cX8_passDay 115 = .ok (.if_icmp .ne 40, 3) := by decide +kernel
theorem dX8_passDay_118 : decode cX8_passDay 118 = .ok (.aload_n 0, 1) := by decide +kernel
theorem dX8_passDay_119 : decode cX8_passDay 119 = .ok (.iload_n 1, 1) := by decide +kernel
theorem dX8_passDay_120 : decode cX8_passDay 120 = .ok (.iconst 4, 1) := by decide +kernel
theorem dX8_passDay_121 : decode cX8_passDay 121 = .ok (.invokevirtual 51, 3) := by decide +kernel
theorem dX8_passDay_124 : decode cX8_passDay 124 = .ok (.aload_n 0, 1) := by decide +kernel
theorem dX8_passDay_125 : decode cX8_passDay 125 = .ok (.getfield 7, 3) := by decide +kernel
theorem dX8_passDay_128 : decode cX8_passDay 128 = .ok (.iconst 0, 1) := by decide +kernel
theorem dX8_passDay_129 : decode cX8_passDay 129 = .ok (.iaload, 1) := by decide +kernel
theorem dX8_passDay_130 : decode cX8_passDay 130 = .ok (.if_icmp .ge 25, 3) := by decide +kernel
theorem dX8_passDay_133 : decode cX8_passDay 133 = .ok (.aload_n 0, 1) := by decide +kernel
theorem dX8_passDay_134 : decode cX8_passDay 134 = .ok (.aload_n 0, 1) := by decide +kernel
theorem dX8_passDay_135 : decode cX8_passDay 135 = .ok (.aload_n 0, 1) := by decide +kernel
theorem dX8_passDay_136 : decode cX8_passDay 136 = .ok (.iload_n 1, 1) := by decide +kernel
theorem dX8_passDay_137 : decode cX8_passDay 137 = .ok (.iconst 3, 1) := by decide +kernel
theorem dX8_passDay_138 : decode cX8_passDay 138 = .ok (.invokevirtual 51, 3) := by decide +kernel
theorem dX8_passDay_141 : decode cX8_passDay 141 = .ok (.invokevirtual 72, 3) := by decide +kernel
theorem dX8_passDay_144 : decode cX8_passDay 144 = .ok (.invokevirtual 75, 3) := by decide +kernel
theorem dX8_passDay_147 : decode cX8_passDay 147 = .ok (.aload_n 0, 1) := by decide +kernel
theorem dX8_passDay_148 : decode cX8_passDay 148 = .ok (.iload_n 1, 1) := by decide +kernel
theorem dX8_passDay_149 : decode cX8_passDay 149 = .ok (.iconst 0, 1) := by decide +kernel
theorem dX8_passDay_150 : decode cX8_passDay 150 = .ok (.iconst 0, 1) := by decide +kernel
theorem dX8_passDay_151 : decode cX8_passDay 151 = .ok (.iconst 0, 1) := by decide +kernel
theorem dX8_passDay_152 : decode cX8_passDay 152 = .ok (.invokevirtual 57, 3) := by decide +kernel
theorem dX8_passDay_155 : decode cX8_passDay 155 = .ok (.iinc 1 1, 3) := by decide +kernel
theorem dX8_passDay_158 : decode cX8_passDay 158 = .ok (.goto (-138), 3) := by decide +kernel
theorem dX8_passDay_161 : decode cX8_passDay 161 = .ok (.aload_n 0, 1) := by decide +kernel
theorem dX8_passDay_162 : decode cX8_passDay 162 = .ok (.invokevirtual 79, 3) := by decide +kernel
theorem dX8_passDay_165 : decode cX8_passDay 165 = .ok (.return_, 1) := by decide +kernel
theorem dX8_note_0 : decode cX8_note 0 = .ok (.aload_n 0, 1) := by decide +kernel
theorem dX8_note_1 : decode cX8_note 1 = .ok (.getfield 82, 3) := by decide +kernel
theorem dX8_note_4 : decode cX8_note 4 = .ok (.bipush 8, 2) := by decide +kernel
theorem dX8_note_6 : decode cX8_note 6 = .ok (.if_icmp .ne 44, 3) := by decide +kernel
theorem dX8_note_9 : decode cX8_note 9 = .ok (.iconst 0, 1) := by decide +kernel
theorem dX8_note_10 : decode cX8_note 10 = .ok (.istore_n 1, 1) := by decide +kernel
theorem dX8_note_11 : decode cX8_note 11 = .ok (.iload_n 1, 1) := by decide +kernel
theorem dX8_note_12 : decode cX8_note 12 = .ok (.sipush 1204, 3) := by decide +kernel
theorem dX8_note_15 : decode cX8_note 15 = .ok (.if_icmp .ge 25, 3) := by decide +kernel
theorem dX8_note_18 : decode cX8_note 18 = .ok (.aload_n 0, 1) := by decide +kernel
theorem dX8_note_19 : decode cX8_note 19 = .ok (.getfield 13, 3) := by decide +kernel
theorem dX8_note_22 : decode cX8_note 22 = .ok (.iload_n 1, 1) := by decide +kernel
theorem dX8_note_23 : decode cX8_note 23 = .ok (.aload_n 0, 1) := by decide +kernel
theorem dX8_note_24 : decode cX8_note 24 = .ok (.getfield 13, 3) := by decide +kernel
theorem dX8_note_27 : decode cX8_note 27 = .ok (.iload_n 1, 1) := by decide +kernel
theorem dX8_note_28 : decode cX8_note 28 = .ok (.sipush 172, 3) := by decide +kernel
theorem dX8_note_31 : decode cX8_note 31 = .ok (.iadd, 1) := by decide +kernel
theorem dX8_note_32 : decode cX8_note 32 = .ok (.iaload, 1) := by decide +kernel
theorem dX8_note_33 : decode cX8_note 33 = .ok (.iastore, 1) := by decide +kernel
theorem dX8_note_34 : decode cX8_note 34 = .ok (.iinc 1 1, 3) := by decide +kernel
theorem dX8_note_37 : decode cX8_note 37 = .ok (.goto (-26), 3) := by decide +kernel
theorem dX8_note_40 : decode cX8_note 40 = .ok (.aload_n 0, 1) := by decide +kernel
theorem dX8_note_41 : decode cX8_note 41 = .ok (.dup, 1) := by decide +kernel
theorem dX8_note_42 : decode cX8_note 42 = .ok (.getfield 82, 3) := by decide +kernel
theorem dX8_note_45 : decode cX8_note 45 = .ok (.iconst 1, 1) := by decide +kernel
theorem dX8_note_46 : decode cX8_note 46 = .ok (.isub, 1) := by decide +kernel
theorem dX8_note_47 : decode cX8_note 47 = .ok (.putfield 82, 3) := by decide +kernel
theorem dX8_note_50 : decode cX8_note 50 = .ok (.iconst 0, 1) := by decide +kernel
theorem dX8_note_51 : decode cX8_note 51 = .ok (.istore_n 1, 1) := by decide +kernel
theorem dX8_note_52 : decode cX8_note 52 = .ok (.iload_n 1, 1) := by decide +kernel
theorem dX8_note_53 : decode cX8_note 53 = .ok (.sipush 172, 3) := by decide +kernel
theorem dX8_note_56 : decode cX8_note 56 = .ok (.if_icmp .ge 30, 3) := by decide +kernel
theorem dX8_note_59 : decode cX8_note 59 = .ok (.aload_n 0, 1) := by decide +kernel
theorem dX8_note_60 : decode cX8_note 60 = .ok (.getfield 13, 3) := by decide +kernel
theorem dX8_note_63 : decode cX8_note 63 = .ok (.sipush 172, 3) := by decide +kernel
theorem dX8_note_66 : decode cX8_note 66 = .ok (.aload_n 0, 1) := by decide +kernel
theorem dX8_note_67 : decode cX8_note 67 = .ok (.getfield 82, 3) := by decide +kernel
theorem dX8_note_70 : decode cX8_note 70 = .ok (.imul, 1) := by decide +kernel
theorem dX8_note_71 : decode cX8_note 71 = .ok (.iload_n 1, 1) := by decide +kernel
theorem dX8_note_72 : decode cX8_note 72 = .ok (.iadd, 1) := by decide +kernel
theorem dX8_note_73 : decode cX8_note 73 = .ok (.aload_n 0, 1) := by decide +kernel
theorem dX8_note_74 : decode cX8_note 74 = .ok (.getfield 7, 3) := by decide +kernel
theorem dX8_note_77 : decode cX8_note 77 = .ok (.iload_n 1, 1) := by decide +kernel
theorem dX8_note_78 : decode cX8_note 78 = .ok (.iaload, 1) := by decide +kernel
theorem dX8_note_79 : decode cX8_note 79 = .ok (.iastore, 1) := by decide +kernel
theorem dX8_note_80 : decode cX8_note 80 = .ok (.iinc 1 1, 3) := by decide +kernel
theorem dX8_note_83 : decode cX8_note 83 = .ok (.goto (-31), 3) := by decide +kernel
theorem dX8_note_86 : decode cX8_note 86 = .ok (.aload_n 0, 1) := by decide +kernel
theorem dX8_note_87 : decode cX8_note 87 = .ok (.dup, 1) := by decide +kernel
theorem dX8_note_88 : decode cX8_note 88 = .ok (.getfield 82, 3) := by decide +kernel
theorem dX8_note_91 : decode cX8_note 91 = .ok (.iconst 1, 1) := by decide +kernel
theorem dX8_note_92 : decode cX8_note 92 = .ok (.iadd, 1) := by decide +kernel
theorem dX8_note_93 : decode cX8_note 93 = .ok (.putfield 82, 3) := by decide +kernel
theorem dX8_note_96 : decode cX8_note 96 = .ok (.return_, 1) := by decide +kernel
set_option maxRecDepth 20000 in
theorem ggX8_copy_X8_isTitle : GoodIn wsX8_copy wsX8_isTitle := goodIn_r _ [7, 8, 9, 10, 6, 11] (by decide +kernel) (by decide +kernel)
set_option maxRecDepth 20000 in
theorem gX8_copy_X8_isTitle : GoodIn wsX8_copy (va_wsS RX8 86 yX8_isTitle wsX8_isTitle) := goodIn_app (goodIn_of _ (by decide +kernel)) ggX8_copy_X8_isTitle
set_option maxRecDepth 20000 in
theorem ggX8_copy_X8_isBranch : GoodIn wsX8_copy wsX8_isBranch := goodIn_r _ [14, 15, 9, 10, 6, 11] (by decide +kernel) (by decide +kernel)
set_option maxRecDepth 20000 in
theorem gX8_copy_X8_isBranch : GoodIn wsX8_copy (va_wsS RX8 89 yX8_isBranch wsX8_isBranch) := goodIn_app (goodIn_of _ (by decide +kernel)) ggX8_copy_X8_isBranch
set_option maxRecDepth 20000 in
theorem ggX8_copy_X8_note : GoodIn wsX8_copy wsX8_note := goodIn_r _ [19, 20, 21, 2, 61, 62, 63, 64, 65, 66] (by decide +kernel) (by decide +kernel)
set_option maxRecDepth 20000 in
theorem gX8_copy_X8_note : GoodIn wsX8_copy (wsV RX8 94 RX8 yX8_note wsX8_note) := goodIn_app (goodIn_of _ (by decide +kernel)) ggX8_copy_X8_note
set_option maxRecDepth 20000 in
theorem ggX8_copy_X8_setCopy : GoodIn wsX8_copy wsX8_setCopy := goodIn_r _ [25, 2, 61, 62, 63, 64, 65, 66] (by decide +kernel) (by decide +kernel)
set_option maxRecDepth 20000 in
theorem gX8_copy_X8_setCopy : GoodIn wsX8_copy (wsV RX8 57 RX8 yX8_setCopy wsX8_setCopy) := goodIn_app (goodIn_of _ (by decide +kernel)) ggX8_copy_X8_setCopy
set_option maxRecDepth 20000 in
theorem ggX8_copy_X8_serve : GoodIn wsX8_copy wsX8_serve := goodIn_r _ [29, 30, 31, 32, 6, 33, 2, 34, 35, 36, 37, 38, 39, 40, 41, 42, 43, 44, 45, 46, 47, 48, 49, 50, 51, 52, 53, 54, 55, 56, 57, 58, 59, 60, 22, 23, 24, 25, 61, 62, 63, 64, 65, 66] (by decide +kernel) (by decide +kernel)
set_option maxRecDepth 20000 in
theorem gX8_copy_X8_serve : GoodIn wsX8_copy (wsV RX8 79 RX8 yX8_serve wsX8_serve) := goodIn_app (goodIn_of _ (by decide +kernel)) ggX8_copy_X8_serve
theorem dX8_copy_0 : decode cX8_copy 0 = .ok (.iload_n 1, 1) := by decide +kernel
theorem dX8_copy_1 : decode cX8_copy 1 = .ok (.invokestatic 86, 3) := by decide +kernel
theorem dX8_copy_4 : decode cX8_copy 4 = .ok (.ifCond .eq 10, 3) := by decide +kernel
theorem dX8_copy_7 : decode cX8_copy 7 = .ok (.iload_n 2, 1) := by decide +kernel
theorem dX8_copy_8 : decode cX8_copy 8 = .ok (.invokestatic 89, 3) := by decide +kernel
theorem dX8_copy_11 : decode cX8_copy 11 = .ok (.ifCond .ne 6, 3) := by decide +kernel
theorem dX8_copy_14 : decode cX8_copy 14 = .ok (.ldc 92, 2) := by decide +kernel
theorem dX8_copy_16 : decode cX8_copy 16 = .ok (.ireturn, 1) := by decide +kernel
theorem dX8_copy_17 : decode cX8_copy 17 = .ok (.aload_n 0, 1) := by decide +kernel
theorem dX8_copy_18 : decode cX8_copy 18 = .ok (.getfield 7, 3) := by decide +kernel
theorem dX8_copy_21 : decode cX8_copy 21 = .ok (.iconst 4, 1) := by decide +kernel
theorem dX8_copy_22 : decode cX8_copy 22 = .ok (.iaload, 1) := by decide +kernel
theorem dX8_copy_23 : decode cX8_copy 23 = .ok (.bipush 16, 2) := by decide +kernel
theorem dX8_copy_25 : decode cX8_copy 25 = .ok (.if_icmp .ne 6, 3) := by decide +kernel
theorem dX8_copy_28 : decode cX8_copy 28 = .ok (.ldc 93, 2) := by decide +kernel
theorem dX8_copy_30 : decode cX8_copy 30 = .ok (.ireturn, 1) := by decide +kernel
theorem dX8_copy_31 : decode cX8_copy 31 = .ok (.aload_n 0, 1) := by decide +kernel
theorem dX8_copy_32 : decode cX8_copy 32 = .ok (.invokevirtual 94, 3) := by decide +kernel
theorem dX8_copy_35 : decode cX8_copy 35 = .ok (.aload_n 0, 1) := by decide +kernel
theorem dX8_copy_36 : decode cX8_copy 36 = .ok (.getfield 7, 3) := by decide +kernel
theorem dX8_copy_39 : decode cX8_copy 39 = .ok (.iconst 4, 1) := by decide +kernel
theorem dX8_copy_40 : decode cX8_copy 40 = .ok (.iaload, 1) := by decide +kernel
theorem dX8_copy_41 : decode cX8_copy 41 = .ok (.istore_n 3, 1) := by decide +kernel
theorem dX8_copy_42 : decode cX8_copy 42 = .ok (.aload_n 0, 1) := by decide +kernel
theorem dX8_copy_43 : decode cX8_copy 43 = .ok (.getfield 7, 3) := by decide +kernel
theorem dX8_copy_46 : decode cX8_copy 46 = .ok (.iconst 4, 1) := by decide +kernel
theorem dX8_copy_47 : decode cX8_copy 47 = .ok (.dup2, 1) := by decide +kernel
theorem dX8_copy_48 : decode cX8_copy 48 = .ok (.iaload, 1) := by decide +kernel
theorem dX8_copy_49 : decode cX8_copy 49 = .ok (.iconst 1, 1) := by decide +kernel
theorem dX8_copy_50 : decode cX8_copy 50 = .ok (.iadd, 1) := by decide +kernel
theorem dX8_copy_51 : decode cX8_copy 51 = .ok (.iastore, 1) := by decide +kernel
theorem dX8_copy_52 : decode cX8_copy 52 = .ok (.aload_n 0, 1) := by decide +kernel
theorem dX8_copy_53 : decode cX8_copy 53 = .ok (.getfield 7, 3) := by decide +kernel
theorem dX8_copy_56 : decode cX8_copy 56 = .ok (.bipush 8, 2) := by decide +kernel
theorem dX8_copy_58 : decode cX8_copy 58 = .ok (.iconst 5, 1) := by decide +kernel
theorem dX8_copy_59 : decode cX8_copy 59 = .ok (.iload_n 3, 1) := by decide +kernel
theorem dX8_copy_60 : decode cX8_copy 60 = .ok (.imul, 1) := by decide +kernel
theorem dX8_copy_61 : decode cX8_copy 61 = .ok (.iadd, 1) := by decide +kernel
theorem dX8_copy_62 : decode cX8_copy 62 = .ok (.iconst 0, 1) := by decide +kernel
theorem dX8_copy_63 : decode cX8_copy 63 = .ok (.iadd, 1) := by decide +kernel
theorem dX8_copy_64 : decode cX8_copy 64 = .ok (.iload_n 1, 1) := by decide +kernel
theorem dX8_copy_65 : decode cX8_copy 65 = .ok (.iastore, 1) := by decide +kernel
theorem dX8_copy_66 : decode cX8_copy 66 = .ok (.aload_n 0, 1) := by decide +kernel
theorem dX8_copy_67 : decode cX8_copy 67 = .ok (.getfield 7, 3) := by decide +kernel
theorem dX8_copy_70 : decode cX8_copy 70 = .ok (.bipush 8, 2) := by decide +kernel
theorem dX8_copy_72 : decode cX8_copy 72 = .ok (.iconst 5, 1) := by decide +kernel
theorem dX8_copy_73 : decode cX8_copy 73 = .ok (.iload_n 3, 1) := by decide +kernel
theorem dX8_copy_74 : decode cX8_copy 74 = .ok (.imul, 1) := by decide +kernel
theorem dX8_copy_75 : decode cX8_copy 75 = .ok (.iadd, 1) := by decide +kernel
theorem dX8_copy_76 : decode cX8_copy 76 = .ok (.iconst 1, 1) := by decide +kernel
theorem dX8_copy_77 : decode cX8_copy 77 = .ok (.iadd, 1) := by decide +kernel
theorem dX8_copy_78 : decode cX8_copy 78 = .ok (.iload_n 2, 1) := by decide +kernel
theorem dX8_copy_79 : decode cX8_copy 79 = .ok (.iastore, 1) := by decide +kernel
theorem dX8_copy_80 : decode cX8_copy 80 = .ok (.aload_n 0, 1) := by decide +kernel
theorem dX8_copy_81 : decode cX8_copy 81 = .ok (.iload_n 3, 1) := by decide +kernel
theorem dX8_copy_82 : decode cX8_copy 82 = .ok (.iconst 0, 1) := by decide +kernel
theorem dX8_copy_83 : decode cX8_copy 83 = .ok (.iconst 0, 1) := by decide +kernel
theorem dX8_copy_84 : decode cX8_copy 84 = .ok (.iconst 0, 1) := by decide +kernel
theorem dX8_copy_85 : decode cX8_copy 85 = .ok (.invokevirtual 57, 3) := by decide +kernel
theorem dX8_copy_88 : decode cX8_copy 88 = .ok (.aload_n 0, 1) := by decide +kernel
theorem dX8_copy_89 : decode cX8_copy 89 = .ok (.invokevirtual 79, 3) := by decide +kernel
theorem dX8_copy_92 : decode cX8_copy 92 = .ok (.iload_n 3, 1) := by decide +kernel
theorem dX8_copy_93 : decode cX8_copy 93 = .ok (.ireturn, 1) := by decide +kernel
theorem dX8_outsOf_0 : decode cX8_outsOf 0 = .ok (.iconst 0, 1) := by decide +kernel
theorem dX8_outsOf_1 : decode cX8_outsOf 1 = .ok (.istore_n 2, 1) := by decide +kernel
theorem dX8_outsOf_2 : decode cX8_outsOf 2 = .ok (.iconst 0, 1) := by decide +kernel
theorem dX8_outsOf_3 : decode cX8_outsOf 3 = .ok (.istore_n 3, 1) := by decide +kernel
theorem dX8_outsOf_4 : decode cX8_outsOf 4 = .ok (.iload_n 3, 1) := by decide +kernel
theorem dX8_outsOf_5 : decode cX8_outsOf 5 = .ok (.aload_n 0, 1) := by decide +kernel
theorem dX8_outsOf_6 : decode cX8_outsOf 6 = .ok (.getfield 7, 3) := by decide +kernel
theorem dX8_outsOf_9 : decode cX8_outsOf 9 = .ok (.iconst 4, 1) := by decide +kernel
theorem dX8_outsOf_10 : decode cX8_outsOf 10 = .ok (.iaload, 1) := by decide +kernel
theorem dX8_outsOf_11 : decode cX8_outsOf 11 = .ok (.if_icmp .ge 39, 3) := by decide +kernel
theorem dX8_outsOf_14 : decode cX8_outsOf 14 = .ok (.iload_n 2, 1) := by decide +kernel
theorem dX8_outsOf_15 : decode cX8_outsOf 15 = .ok (.aload_n 0, 1) := by decide +kernel
theorem dX8_outsOf_16 : decode cX8_outsOf 16 = .ok (.iload_n 3, 1) := by decide +kernel
theorem dX8_outsOf_17 : decode cX8_outsOf 17 = .ok (.iconst 2, 1) := by decide +kernel
theorem dX8_outsOf_18 : decode cX8_outsOf 18 = .ok (.invokevirtual 51, 3) := by decide +kernel
theorem dX8_outsOf_21 : decode cX8_outsOf 21 = .ok (.iconst 1, 1) := by decide +kernel
theorem dX8_outsOf_22 : decode cX8_outsOf 22 = .ok (.if_icmp .ne 19, 3) := by decide +kernel
theorem dX8_outsOf_25 : decode cX8_outsOf 25 = .ok (.aload_n 0, 1) := by decide +kernel
theorem dX8_outsOf_26 : decode cX8_outsOf 26 = .ok (.iload_n 3, 1) := by decide +kernel
theorem dX8_outsOf_27 : decode cX8_outsOf 27 = .ok (.iconst 3, 1) := by decide +kernel
theorem dX8_outsOf_28 : decode cX8_outsOf 28 = .ok (.invokevirtual 51, 3) := by decide +kernel
theorem dX8_outsOf_31 : decode cX8_outsOf 31 = .ok (.iload_n 1, 1) := by decide +kernel
theorem dX8_outsOf_32 : decode cX8_outsOf 32 = .ok (.if_icmp .ne 9, 3) := by decide +kernel
theorem dX8_outsOf_35 : decode cX8_outsOf 35 = .ok (.iconst 1, 1) := by decide +kernel
theorem dX8_outsOf_36 : decode cX8_outsOf 36 = .ok (.iload_n 3, 1) := by decide +kernel
theorem dX8_outsOf_37 : decode cX8_outsOf 37 = .ok (.ishl, 1) := by decide +kernel
theorem dX8_outsOf_38 : decode cX8_outsOf 38 = .ok (.goto 4, 3) := by decide +kernel
theorem dX8_outsOf_41 : decode cX8_outsOf 41 = .ok (.iconst 0, 1) := by decide +kernel
theorem dX8_outsOf_42 : decode cX8_outsOf 42 = .ok (.ior, 1) := by decide +kernel
theorem dX8_outsOf_43 : decode cX8_outsOf 43 = .ok (.istore_n 2, 1) := by decide +kernel
theorem dX8_outsOf_44 : decode cX8_outsOf 44 = .ok (.iinc 3 1, 3) := by decide +kernel
theorem dX8_outsOf_47 : decode cX8_outsOf 47 = .ok (.goto (-43), 3) := by decide +kernel
theorem dX8_outsOf_50 : decode cX8_outsOf 50 = .ok (.iload_n 2, 1) := by decide +kernel
theorem dX8_outsOf_51 : decode cX8_outsOf 51 = .ok (.ireturn, 1) := by decide +kernel
theorem dX8_ones_0 : decode cX8_ones 0 = .ok (.iconst 0, 1) := by decide +kernel
theorem dX8_ones_1 : decode cX8_ones 1 = .ok (.istore_n 1, 1) := by decide +kernel
theorem dX8_ones_2 : decode cX8_ones 2 = .ok (.iload_n 0, 1) := by decide +kernel
theorem dX8_ones_3 : decode cX8_ones 3 = .ok (.istore_n 2, 1) := by decide +kernel
theorem dX8_ones_4 : decode cX8_ones 4 = .ok (.iload_n 2, 1) := by decide +kernel
theorem dX8_ones_5 : decode cX8_ones 5 = .ok (.ifCond .eq 15, 3) := by decide +kernel
theorem dX8_ones_8 : decode cX8_ones 8 = .ok (.iinc 1 1, 3) := by decide +kernel
theorem dX8_ones_11 : decode cX8_ones 11 = .ok (.iload_n 2, 1) := by decide +kernel
theorem dX8_ones_12 : decode cX8_ones 12 = .ok (.iload_n 2, 1) := by decide +kernel
theorem dX8_ones_13 : decode cX8_ones 13 = .ok (.iconst 1, 1) := by decide +kernel
theorem dX8_ones_14 : decode cX8_ones 14 = .ok (.isub, 1) := by decide +kernel
theorem dX8_ones_15 : decode cX8_ones 15 = .ok (.iand, 1) := by decide +kernel
theorem dX8_ones_16 : decode cX8_ones 16 = .ok (.istore_n 2, 1) := by decide +kernel
theorem dX8_ones_17 : decode cX8_ones 17 = .ok (.goto (-13), 3) := by decide +kernel
theorem dX8_ones_20 : decode cX8_ones 20 = .ok (.iload_n 1, 1) := by decide +kernel
theorem dX8_ones_21 : decode cX8_ones 21 = .ok (.ireturn, 1) := by decide +kernel
set_option maxRecDepth 20000 in
theorem ggX8_lend_X8_isCopy : GoodIn wsX8_lend wsX8_isCopy := goodIn_r _ [7, 8, 9, 10, 6, 11, 95, 96, 97, 98, 99, 100] (by decide +kernel) (by decide +kernel)
set_option maxRecDepth 20000 in
theorem gX8_lend_X8_isCopy : GoodIn wsX8_lend (wsV RX8 106 RX8 yX8_isCopy wsX8_isCopy) := goodIn_app (goodIn_of _ (by decide +kernel)) ggX8_lend_X8_isCopy
set_option maxRecDepth 20000 in
theorem ggX8_lend_X8_isReader : GoodIn wsX8_lend wsX8_isReader := goodIn_r _ [14, 15, 9, 10, 6, 11] (by decide +kernel) (by decide +kernel)
set_option maxRecDepth 20000 in
theorem gX8_lend_X8_isReader : GoodIn wsX8_lend (va_wsS RX8 109 yX8_isReader wsX8_isReader) := goodIn_app (goodIn_of _ (by decide +kernel)) ggX8_lend_X8_isReader
set_option maxRecDepth 20000 in
theorem ggX8_lend_X8_note : GoodIn wsX8_lend wsX8_note := goodIn_r _ [42, 43, 44, 8, 95, 96, 97, 98, 99, 100] (by decide +kernel) (by decide +kernel)
set_option maxRecDepth 20000 in
theorem gX8_lend_X8_note : GoodIn wsX8_lend (wsV RX8 94 RX8 yX8_note wsX8_note) := goodIn_app (goodIn_of _ (by decide +kernel)) ggX8_lend_X8_note
theorem dX8_lend_0 : decode cX8_lend 0 = .ok (.aload_n 0, 1) := by decide +kernel
theorem dX8_lend_1 : decode cX8_lend 1 = .ok (.iload_n 1, 1) := by decide +kernel
theorem dX8_lend_2 : decode cX8_lend 2 = .ok (.invokevirtual 106, 3) := by decide +kernel
theorem dX8_lend_5 : decode cX8_lend 5 = .ok (.ifCond .eq 10, 3) := by decide +kernel
theorem dX8_lend_8 : decode cX8_lend 8 = .ok (.iload_n 2, 1) := by decide +kernel
theorem dX8_lend_9 : decode cX8_lend 9 = .ok (.invokestatic 109, 3) := by decide +kernel
theorem dX8_lend_12 : decode cX8_lend 12 = .ok (.ifCond .ne 6, 3) := by decide +kernel
theorem dX8_lend_15 : decode cX8_lend 15 = .ok (.ldc 92, 2) := by decide +kernel
theorem dX8_lend_17 : decode cX8_lend 17 = .ok (.ireturn, 1) := by decide +kernel
theorem dX8_lend_18 : decode cX8_lend 18 = .ok (.aload_n 0, 1) := by decide +kernel
theorem dX8_lend_19 : decode cX8_lend 19 = .ok (.iload_n 1, 1) := by decide +kernel
theorem dX8_lend_20 : decode cX8_lend 20 = .ok (.iload_n 2, 1) := by decide +kernel
theorem dX8_lend_21 : decode cX8_lend 21 = .ok (.invokevirtual 112, 3) := by decide +kernel
theorem dX8_lend_24 : decode cX8_lend 24 = .ok (.ifCond .ne 6, 3) := by decide +kernel
theorem dX8_lend_27 : decode cX8_lend 27 = .ok (.ldc 115, 2) := by decide +kernel
theorem dX8_lend_29 : decode cX8_lend 29 = .ok (.ireturn, 1) := by decide +kernel
theorem dX8_lend_30 : decode cX8_lend 30 = .ok (.aload_n 0, 1) := by decide +kernel
theorem dX8_lend_31 : decode cX8_lend 31 = .ok (.invokevirtual 94, 3) := by decide +kernel
theorem dX8_lend_34 : decode cX8_lend 34 = .ok (.aload_n 0, 1) := by decide +kernel
theorem dX8_lend_35 : decode cX8_lend 35 = .ok (.iload_n 1, 1) := by decide +kernel
theorem dX8_lend_36 : decode cX8_lend 36 = .ok (.iload_n 2, 1) := by decide +kernel
theorem dX8_lend_37 : decode cX8_lend 37 = .ok (.invokevirtual 116, 3) := by decide +kernel
theorem dX8_lend_40 : decode cX8_lend 40 = .ok (.aload_n 0, 1) := by decide +kernel
theorem dX8_lend_41 : decode cX8_lend 41 = .ok (.iload_n 1, 1) := by decide +kernel
theorem dX8_lend_42 : decode cX8_lend 42 = .ok (.iconst 4, 1) := by decide +kernel
theorem dX8_lend_43 : decode cX8_lend 43 = .ok (.invokevirtual 51, 3) := by decide +kernel
theorem dX8_lend_46 : decode cX8_lend 46 = .ok (.ireturn, 1) := by decide +kernel
set_option maxRecDepth 20000 in
theorem ggX8_giveBack_X8_isCopy : GoodIn wsX8_giveBack wsX8_isCopy := goodIn_r _ [7, 8, 9, 10, 6, 11, 73, 74, 75, 76, 77, 78] (by decide +kernel) (by decide +kernel)
set_option maxRecDepth 20000 in
theorem gX8_giveBack_X8_isCopy : GoodIn wsX8_giveBack (wsV RX8 106 RX8 yX8_isCopy wsX8_isCopy) := goodIn_app (goodIn_of _ (by decide +kernel)) ggX8_giveBack_X8_isCopy
set_option maxRecDepth 20000 in
theorem ggX8_giveBack_X8_isBranch : GoodIn wsX8_giveBack wsX8_isBranch := goodIn_r _ [14, 15, 9, 10, 6, 11] (by decide +kernel) (by decide +kernel)
set_option maxRecDepth 20000 in
theorem gX8_giveBack_X8_isBranch : GoodIn wsX8_giveBack (va_wsS RX8 89 yX8_isBranch wsX8_isBranch) := goodIn_app (goodIn_of _ (by decide +kernel)) ggX8_giveBack_X8_isBranch
set_option maxRecDepth 20000 in
theorem ggX8_giveBack_X8_note : GoodIn wsX8_giveBack wsX8_note := goodIn_r _ [27, 28, 29, 8, 73, 74, 75, 76, 77, 78] (by decide +kernel) (by decide +kernel)
set_option maxRecDepth 20000 in
theorem gX8_giveBack_X8_note : GoodIn wsX8_giveBack (wsV RX8 94 RX8 yX8_note wsX8_note) := goodIn_app (goodIn_of _ (by decide +kernel)) ggX8_giveBack_X8_note
theorem dX8_giveBack_0 : decode cX8_giveBack 0 = .ok (.aload_n 0, 1) := by decide +kernel
theorem dX8_giveBack_1 : decode cX8_giveBack 1 = .ok (.iload_n 1, 1) := by decide +kernel
theorem dX8_giveBack_2 : decode cX8_giveBack 2 = .ok (.invokevirtual 106, 3) := by decide +kernel
theorem dX8_giveBack_5 : decode cX8_giveBack 5 = .ok (.ifCond .eq 10, 3) := by decide +kernel
theorem dX8_giveBack_8 : decode cX8_giveBack 8 = .ok (.iload_n 2, 1) := by decide +kernel
theorem dX8_giveBack_9 : decode cX8_giveBack 9 = .ok (.invokestatic 89, 3) := by decide +kernel
theorem dX8_giveBack_12 : decode cX8_giveBack 12 = .ok (.ifCond .ne 6, 3) := by decide +kernel
theorem dX8_giveBack_15 : decode cX8_giveBack 15 = .ok (.ldc 92, 2) := by decide +kernel
theorem dX8_giveBack_17 : decode cX8_giveBack 17 = .ok (.ireturn, 1) := by decide +kernel
theorem dX8_giveBack_18 : decode cX8_giveBack 18 = .ok (.aload_n 0, 1) := by decide +kernel
theorem dX8_giveBack_19 : decode cX8_giveBack 19 = .ok (.iload_n 1, 1) := by decide +kernel
theorem dX8_giveBack_20 : decode cX8_giveBack 20 = .ok (.invokevirtual 119, 3) := by decide +kernel
theorem dX8_giveBack_23 : decode cX8_giveBack 23 = .ok (.ifCond .ne 6, 3) := by decide +kernel
theorem dX8_giveBack_26 : decode cX8_giveBack 26 = .ok (.ldc 115, 2) := by decide +kernel
theorem dX8_giveBack_28 : decode cX8_giveBack 28 = .ok (.ireturn, 1) := by decide +kernel
theorem dX8_giveBack_29 : decode cX8_giveBack 29 = .ok (.aload_n 0, 1) := by decide +kernel
theorem dX8_giveBack_30 : decode cX8_giveBack 30 = .ok (.invokevirtual 94, 3) := by decide +kernel
theorem dX8_giveBack_33 : decode cX8_giveBack 33 = .ok (.aload_n 0, 1) := by decide +kernel
theorem dX8_giveBack_34 : decode cX8_giveBack 34 = .ok (.iload_n 1, 1) := by decide +kernel
theorem dX8_giveBack_35 : decode cX8_giveBack 35 = .ok (.invokevirtual 122, 3) := by decide +kernel
theorem dX8_giveBack_38 : decode cX8_giveBack 38 = .ok (.istore_n 3, 1) := by decide +kernel
theorem dX8_giveBack_39 : decode cX8_giveBack 39 = .ok (.aload_n 0, 1) := by decide +kernel
theorem dX8_giveBack_40 : decode cX8_giveBack 40 = .ok (.iload_n 1, 1) := by decide +kernel
theorem dX8_giveBack_41 : decode cX8_giveBack 41 = .ok (.iload_n 2, 1) := by decide +kernel
theorem dX8_giveBack_42 : decode cX8_giveBack 42 = .ok (.invokevirtual 125, 3) := by decide +kernel
theorem dX8_giveBack_45 : decode cX8_giveBack 45 = .ok (.iload_n 3, 1) := by decide +kernel
theorem dX8_giveBack_46 : decode cX8_giveBack 46 = .ok (.ifCond .ge 7, 3) := by decide +kernel
theorem dX8_giveBack_49 : decode cX8_giveBack 49 = .ok (.iconst 0, 1) := by decide +kernel
theorem dX8_giveBack_50 : decode cX8_giveBack 50 = .ok (.goto 4, 3) := by decide +kernel
theorem dX8_giveBack_53 : decode cX8_giveBack 53 = .ok (.iload_n 3, 1) := by decide +kernel
theorem dX8_giveBack_54 : decode cX8_giveBack 54 = .ok (.ireturn, 1) := by decide +kernel
set_option maxRecDepth 20000 in
theorem ggX8_renew_X8_isCopy : GoodIn wsX8_renew wsX8_isCopy := goodIn_r _ [8, 3, 9, 10, 7, 11, 49, 50, 51, 52, 53, 54] (by decide +kernel) (by decide +kernel)
set_option maxRecDepth 20000 in
theorem gX8_renew_X8_isCopy : GoodIn wsX8_renew (wsV RX8 106 RX8 yX8_isCopy wsX8_isCopy) := goodIn_app (goodIn_of _ (by decide +kernel)) ggX8_renew_X8_isCopy
set_option maxRecDepth 20000 in
theorem ggX8_renew_X8_rowOf : GoodIn wsX8_renew wsX8_rowOf := goodIn_r _ [19, 3, 20, 21, 22, 7, 23, 24, 25, 26, 27, 49, 50, 51, 52, 53, 54] (by decide +kernel) (by decide +kernel)
set_option maxRecDepth 20000 in
theorem gX8_renew_X8_rowOf : GoodIn wsX8_renew (wsV RX8 128 RX8 yX8_rowOf wsX8_rowOf) := goodIn_app (goodIn_of _ (by decide +kernel)) ggX8_renew_X8_rowOf
set_option maxRecDepth 20000 in
theorem ggX8_renew_X8_note : GoodIn wsX8_renew wsX8_note := goodIn_r _ [31, 32, 33, 3, 49, 50, 51, 52, 53, 54] (by decide +kernel) (by decide +kernel)
set_option maxRecDepth 20000 in
theorem gX8_renew_X8_note : GoodIn wsX8_renew (wsV RX8 94 RX8 yX8_note wsX8_note) := goodIn_app (goodIn_of _ (by decide +kernel)) ggX8_renew_X8_note
set_option maxRecDepth 20000 in
theorem ggX8_renew_X8_setCopy : GoodIn wsX8_renew wsX8_setCopy := goodIn_r _ [48, 3, 49, 50, 51, 52, 53, 54] (by decide +kernel) (by decide +kernel)
set_option maxRecDepth 20000 in
theorem gX8_renew_X8_setCopy : GoodIn wsX8_renew (wsV RX8 57 RX8 yX8_setCopy wsX8_setCopy) := goodIn_app (goodIn_of _ (by decide +kernel)) ggX8_renew_X8_setCopy
theorem dX8_renew_0 : decode cX8_renew 0 = .ok (.aload_n 0, 1) := by decide +kernel
theorem dX8_renew_1 : decode cX8_renew 1 = .ok (.iload_n 1, 1) := by decide +kernel
theorem dX8_renew_2 : decode cX8_renew 2 = .ok (.invokevirtual 106, 3) := by decide +kernel
theorem dX8_renew_5 : decode cX8_renew 5 = .ok (.ifCond .ne 6, 3) := by decide +kernel
theorem dX8_renew_8 : decode cX8_renew 8 = .ok (.ldc 92, 2) := by decide +kernel
theorem dX8_renew_10 : decode cX8_renew 10 = .ok (.ireturn, 1) := by decide +kernel
theorem dX8_renew_11 : decode cX8_renew 11 = .ok (.aload_n 0, 1) := by decide +kernel
theorem dX8_renew_12 : decode cX8_renew 12 = .ok (.iload_n 1, 1) := by decide +kernel
theorem dX8_renew_13 : decode cX8_renew 13 = .ok (.iconst 2, 1) := by decide +kernel
theorem dX8_renew_14 : decode cX8_renew 14 = .ok (.invokevirtual 51, 3) := by decide +kernel
theorem dX8_renew_17 : decode cX8_renew 17 = .ok (.iconst 1, 1) := by decide +kernel
theorem dX8_renew_18 : decode cX8_renew 18 = .ok (.if_icmp .ne 16, 3) := by decide +kernel
theorem dX8_renew_21 : decode cX8_renew 21 = .ok (.aload_n 0, 1) := by decide +kernel
theorem dX8_renew_22 : decode cX8_renew 22 = .ok (.aload_n 0, 1) := by decide +kernel
theorem dX8_renew_23 : decode cX8_renew 23 = .ok (.iload_n 1, 1) := by decide +kernel
theorem dX8_renew_24 : decode cX8_renew 24 = .ok (.iconst 0, 1) := by decide +kernel
theorem dX8_renew_25 : decode cX8_renew 25 = .ok (.invokevirtual 51, 3) := by decide +kernel
theorem dX8_renew_28 : decode cX8_renew 28 = .ok (.invokevirtual 128, 3) := by decide +kernel
theorem dX8_renew_31 : decode cX8_renew 31 = .ok (.ifCond .le 6, 3) := by decide +kernel
theorem dX8_renew_34 : decode cX8_renew 34 = .ok (.ldc 115, 2) := by decide +kernel
theorem dX8_renew_36 : decode cX8_renew 36 = .ok (.ireturn, 1) := by decide +kernel
theorem dX8_renew_37 : decode cX8_renew 37 = .ok (.aload_n 0, 1) := by decide +kernel
theorem dX8_renew_38 : decode cX8_renew 38 = .ok (.invokevirtual 94, 3) := by decide +kernel
theorem dX8_renew_41 : decode cX8_renew 41 = .ok (.aload_n 0, 1) := by decide +kernel
theorem dX8_renew_42 : decode cX8_renew 42 = .ok (.aload_n 0, 1) := by decide +kernel
theorem dX8_renew_43 : decode cX8_renew 43 = .ok (.getfield 7, 3) := by decide +kernel
theorem dX8_renew_46 : decode cX8_renew 46 = .ok (.iconst 0, 1) := by decide +kernel
theorem dX8_renew_47 : decode cX8_renew 47 = .ok (.iaload, 1) := by decide +kernel
theorem dX8_renew_48 : decode cX8_renew 48 = .ok (.aload_n 0, 1) := by decide +kernel
theorem dX8_renew_49 : decode cX8_renew 49 = .ok (.getfield 7, 3) := by decide +kernel
theorem dX8_renew_52 : decode cX8_renew 52 = .ok (.iconst 1, 1) := by decide +kernel
theorem dX8_renew_53 : decode cX8_renew 53 = .ok (.iaload, 1) := by decide +kernel
theorem dX8_renew_54 : decode cX8_renew 54 = .ok (.iadd, 1) := by decide +kernel
theorem dX8_renew_55 : decode cX8_renew 55 = .ok (.invokevirtual 103, 3) := by decide +kernel
theorem dX8_renew_58 : decode cX8_renew 58 = .ok (.istore_n 2, 1) := by decide +kernel
theorem dX8_renew_59 : decode cX8_renew 59 = .ok (.aload_n 0, 1) := by decide +kernel
theorem dX8_renew_60 : decode cX8_renew 60 = .ok (.iload_n 1, 1) := by decide +kernel
theorem dX8_renew_61 : decode cX8_renew 61 = .ok (.iconst 1, 1) := by decide +kernel
theorem dX8_renew_62 : decode cX8_renew 62 = .ok (.aload_n 0, 1) := by decide +kernel
theorem dX8_renew_63 : decode cX8_renew 63 = .ok (.iload_n 1, 1) := by decide +kernel
theorem dX8_renew_64 : decode cX8_renew 64 = .ok (.iconst 3, 1) := by decide +kernel
theorem dX8_renew_65 : decode cX8_renew 65 = .ok (.invokevirtual 51, 3) := by decide +kernel
theorem dX8_renew_68 : decode cX8_renew 68 = .ok (.iload_n 2, 1) := by decide +kernel
theorem dX8_renew_69 : decode cX8_renew 69 = .ok (.invokevirtual 57, 3) := by decide +kernel
theorem dX8_renew_72 : decode cX8_renew 72 = .ok (.iload_n 2, 1) := by decide +kernel
theorem dX8_renew_73 : decode cX8_renew 73 = .ok (.ireturn, 1) := by decide +kernel
set_option maxRecDepth 20000 in
theorem ggX8_lose_X8_isCopy : GoodIn wsX8_lose wsX8_isCopy := goodIn_r _ [8, 3, 9, 10, 7, 11, 61, 62, 63, 64, 65, 66] (by decide +kernel) (by decide +kernel)
set_option maxRecDepth 20000 in
theorem gX8_lose_X8_isCopy : GoodIn wsX8_lose (wsV RX8 106 RX8 yX8_isCopy wsX8_isCopy) := goodIn_app (goodIn_of _ (by decide +kernel)) ggX8_lose_X8_isCopy
set_option maxRecDepth 20000 in
theorem ggX8_lose_X8_note : GoodIn wsX8_lose wsX8_note := goodIn_r _ [19, 20, 21, 3, 61, 62, 63, 64, 65, 66] (by decide +kernel) (by decide +kernel)
set_option maxRecDepth 20000 in
theorem gX8_lose_X8_note : GoodIn wsX8_lose (wsV RX8 94 RX8 yX8_note wsX8_note) := goodIn_app (goodIn_of _ (by decide +kernel)) ggX8_lose_X8_note
set_option maxRecDepth 20000 in
theorem ggX8_lose_X8_findHold : GoodIn wsX8_lose wsX8_findHold := goodIn_r _ [25, 3, 26, 27, 28, 7, 29, 61, 62, 63, 64, 65, 66] (by decide +kernel) (by decide +kernel)
set_option maxRecDepth 20000 in
theorem gX8_lose_X8_findHold : GoodIn wsX8_lose (wsV RX8 72 RX8 yX8_findHold wsX8_findHold) := goodIn_app (goodIn_of _ (by decide +kernel)) ggX8_lose_X8_findHold
set_option maxRecDepth 20000 in
theorem ggX8_lose_X8_setCopy : GoodIn wsX8_lose wsX8_setCopy := goodIn_r _ [33, 3, 61, 62, 63, 64, 65, 66] (by decide +kernel) (by decide +kernel)
set_option maxRecDepth 20000 in
theorem gX8_lose_X8_setCopy : GoodIn wsX8_lose (wsV RX8 57 RX8 yX8_setCopy wsX8_setCopy) := goodIn_app (goodIn_of _ (by decide +kernel)) ggX8_lose_X8_setCopy
set_option maxRecDepth 20000 in
theorem ggX8_lose_X8_serve : GoodIn wsX8_lose wsX8_serve := goodIn_r _ [37, 38, 39, 40, 7, 41, 3, 42, 43, 44, 45, 26, 27, 28, 29, 46, 47, 48, 49, 50, 51, 52, 53, 12, 13, 14, 15, 54, 55, 56, 57, 58, 59, 60, 30, 31, 32, 33, 61, 62, 63, 64, 65, 66] (by decide +kernel) (by decide +kernel)
set_option maxRecDepth 20000 in
theorem gX8_lose_X8_serve : GoodIn wsX8_lose (wsV RX8 79 RX8 yX8_serve wsX8_serve) := goodIn_app (goodIn_of _ (by decide +kernel)) ggX8_lose_X8_serve
theorem dX8_lose_0 : decode cX8_lose 0 = .ok (.aload_n 0, 1) := by decide +kernel
theorem dX8_lose_1 : decode cX8_lose 1 = .ok (.iload_n 1, 1) := by decide +kernel
theorem dX8_lose_2 : decode cX8_lose 2 = .ok (.invokevirtual 106, 3) := by decide +kernel
theorem dX8_lose_5 : decode cX8_lose 5 = .ok (.ifCond .ne 6, 3) := by decide +kernel
theorem dX8_lose_8 : decode cX8_lose 8 = .ok (.ldc 92, 2) := by decide +kernel
theorem dX8_lose_10 : decode cX8_lose 10 = .ok (.ireturn, 1) := by decide +kernel
theorem dX8_lose_11 : decode cX8_lose 11 = .ok (.aload_n 0, 1) := by decide +kernel
theorem dX8_lose_12 : decode cX8_lose 12 = .ok (.iload_n 1, 1) := by decide +kernel
theorem dX8_lose_13 : decode cX8_lose 13 = .ok (.iconst 2, 1) := by decide +kernel
theorem dX8_lose_14 : decode cX8_lose 14 = .ok (.invokevirtual 51, 3) := by decide +kernel
theorem dX8_lose_17 : decode cX8_lose 17 = .ok (.istore_n 2, 1) := by decide +kernel
theorem dX8_lose_18 : decode cX8_lose 18 = .ok (.iload_n 2, 1) := by decide +kernel
theorem dX8_lose_19 : decode cX8_lose 19 = .ok (.iconst 4, 1) := by decide +kernel
theorem dX8_lose_20 : decode cX8_lose 20 = .ok (.if_icmp .ne 6, 3) := by decide +kernel
theorem dX8_lose_23 : decode cX8_lose 23 = .ok (.ldc 115, 2) := by decide +kernel
theorem dX8_lose_25 : decode cX8_lose 25 = .ok (.ireturn, 1) := by decide +kernel
theorem dX8_lose_26 : decode cX8_lose 26 = .ok (.aload_n 0, 1) := by decide +kernel
theorem dX8_lose_27 : decode cX8_lose 27 = .ok (.invokevirtual 94, 3) := by decide +kernel
theorem dX8_lose_30 : decode cX8_lose 30 = .ok (.iload_n 2, 1) := by decide +kernel
theorem dX8_lose_31 : decode cX8_lose 31 = .ok (.iconst 2, 1) := by decide +kernel
theorem dX8_lose_32 : decode cX8_lose 32 = .ok (.if_icmp .eq 8, 3) := by decide +kernel
theorem dX8_lose_35 : decode cX8_lose 35 = .ok (.iload_n 2, 1) := by decide +kernel
theorem dX8_lose_36 : decode cX8_lose 36 = .ok (.iconst 3, 1) := by decide +kernel
theorem dX8_lose_37 : decode cX8_lose 37 = .ok (.if_icmp .ne 28, 3) := by decide +kernel
theorem dX8_lose_40 : decode cX8_lose 40 = .ok (.aload_n 0, 1) := by decide +kernel
theorem dX8_lose_41 : decode cX8_lose 41 = .ok (.getfield 7, 3) := by decide +kernel
theorem dX8_lose_44 : decode cX8_lose 44 = .ok (.bipush 88, 2) := by decide +kernel
theorem dX8_lose_46 : decode cX8_lose 46 = .ok (.bipush 7, 2) := by decide +kernel
theorem dX8_lose_48 : decode cX8_lose 48 = .ok (.aload_n 0, 1) := by decide +kernel
theorem dX8_lose_49 : decode cX8_lose 49 = .ok (.aload_n 0, 1) := by decide +kernel
theorem dX8_lose_50 : decode cX8_lose 50 = .ok (.iload_n 1, 1) := by decide +kernel
theorem dX8_lose_51 : decode cX8_lose 51 = .ok (.iconst 3, 1) := by decide +kernel
theorem dX8_lose_52 : decode cX8_lose 52 = .ok (.invokevirtual 51, 3) := by decide +kernel
theorem dX8_lose_55 : decode cX8_lose 55 = .ok (.invokevirtual 72, 3) := by decide +kernel
theorem dX8_lose_58 : decode cX8_lose 58 = .ok (.imul, 1) := by decide +kernel
theorem dX8_lose_59 : decode cX8_lose 59 = .ok (.iadd, 1) := by decide +kernel
theorem dX8_lose_60 : decode cX8_lose 60 = .ok (.bipush 6, 2) := by decide +kernel
theorem dX8_lose_62 : decode cX8_lose 62 = .ok (.iadd, 1) := by decide +kernel
theorem dX8_lose_63 : decode cX8_lose 63 = .ok (.iconst 0, 1) := by decide +kernel
theorem dX8_lose_64 : decode cX8_lose 64 = .ok (.iastore, 1) := by decide +kernel
theorem dX8_lose_65 : decode cX8_lose 65 = .ok (.aload_n 0, 1) := by decide +kernel
theorem dX8_lose_66 : decode cX8_lose 66 = .ok (.iload_n 1, 1) := by decide +kernel
theorem dX8_lose_67 : decode cX8_lose 67 = .ok (.iconst 4, 1) := by decide +kernel
theorem dX8_lose_68 : decode cX8_lose 68 = .ok (.iconst 0, 1) := by decide +kernel
theorem dX8_lose_69 : decode cX8_lose 69 = .ok (.iconst 0, 1) := by decide +kernel
theorem dX8_lose_70 : decode cX8_lose 70 = .ok (.invokevirtual 57, 3) := by decide +kernel
theorem dX8_lose_73 : decode cX8_lose 73 = .ok (.aload_n 0, 1) := by decide +kernel
theorem dX8_lose_74 : decode cX8_lose 74 = .ok (.invokevirtual 79, 3) := by decide +kernel
theorem dX8_lose_77 : decode cX8_lose 77 = .ok (.iload_n 2, 1) := by decide +kernel
theorem dX8_lose_78 : decode cX8_lose 78 = .ok (.ireturn, 1) := by decide +kernel
set_option maxRecDepth 20000 in
theorem ggX8_mayHold_X8_holdAt : GoodIn wsX8_mayHold wsX8_holdAt := goodIn_r _ [6, 1, 18, 19, 20, 21, 22, 23] (by decide +kernel) (by decide +kernel)
set_option maxRecDepth 20000 in
theorem gX8_mayHold_X8_holdAt : GoodIn wsX8_mayHold (wsV RX8 41 RX8 yX8_holdAt wsX8_holdAt) := goodIn_app (goodIn_of _ (by decide +kernel)) ggX8_mayHold_X8_holdAt
set_option maxRecDepth 20000 in
theorem ggX8_mayHold_X8_outsOf : GoodIn wsX8_mayHold wsX8_outsOf := goodIn_r _ [14, 1, 7, 8, 9, 5, 10, 18, 19, 20, 21, 22, 23] (by decide +kernel) (by decide +kernel)
set_option maxRecDepth 20000 in
theorem gX8_mayHold_X8_outsOf : GoodIn wsX8_mayHold (wsV RX8 97 RX8 yX8_outsOf wsX8_outsOf) := goodIn_app (goodIn_of _ (by decide +kernel)) ggX8_mayHold_X8_outsOf
set_option maxRecDepth 20000 in
theorem ggX8_mayHold_X8_has : GoodIn wsX8_mayHold wsX8_has := goodIn_r _ [17] (by decide +kernel) (by decide +kernel)
set_option maxRecDepth 20000 in
theorem gX8_mayHold_X8_has : GoodIn wsX8_mayHold (va_wsS RX8 33 yX8_has wsX8_has) := goodIn_app (goodIn_of _ (by decide +kernel)) ggX8_mayHold_X8_has
theorem dX8_mayHold_0 : decode cX8_mayHold 0 = .ok (.iconst 1, 1) := by decide +kernel
theorem dX8_mayHold_1 : decode cX8_mayHold 1 = .ok (.istore_n 3, 1) := by decide +kernel
theorem dX8_mayHold_2 : decode cX8_mayHold 2 = .ok (.iconst 0, 1) := by decide +kernel
theorem dX8_mayHold_3 : decode cX8_mayHold 3 = .ok (.istore 4, 2) := by decide +kernel
theorem dX8_mayHold_5 : decode cX8_mayHold 5 = .ok (.iload 4, 2) := by decide +kernel
theorem dX8_mayHold_7 : decode cX8_mayHold 7 = .ok (.aload_n 0, 1) := by decide +kernel
theorem dX8_mayHold_8 : decode cX8_mayHold 8 = .ok (.getfield 7, 3) := by decide +kernel
theorem dX8_mayHold_11 : decode cX8_mayHold 11 = .ok (.iconst 5, 1) := by decide +kernel
theorem dX8_mayHold_12 : decode cX8_mayHold 12 = .ok (.iaload, 1) := by decide +kernel
theorem dX8_mayHold_13 : decode cX8_mayHold 13 = .ok (.if_icmp .ge 41, 3) := by decide +kernel
theorem dX8_mayHold_16 : decode cX8_mayHold 16 = .ok (.iload_n 3, 1) := by decide +kernel
theorem dX8_mayHold_17 : decode cX8_mayHold 17 = .ok (.ifCond .eq 29, 3) := by decide +kernel
theorem dX8_mayHold_20 : decode cX8_mayHold 20 = .ok (.aload_n 0, 1) := by decide +kernel
theorem dX8_mayHold_21 : decode cX8_mayHold 21 = .ok (.iload 4, 2) := by decide +kernel
theorem dX8_mayHold_23 : decode cX8_mayHold 23 = .ok (.iconst 1, 1) := by decide +kernel
theorem dX8_mayHold_24 : decode cX8_mayHold 24 = .ok (.invokevirtual 41, 3) := by decide +kernel
theorem dX8_mayHold_27 : decode cX8_mayHold 27 = .ok (.iload_n 1, 1) := by decide +kernel
theorem dX8_mayHold_28 : decode cX8_mayHold 28 = .ok (.if_icmp .ne 14, 3) := by decide +kernel
theorem dX8_mayHold_31 : decode cX8_mayHold 31 = .ok (.aload_n 0, 1) := by decide +kernel
theorem dX8_mayHold_32 : decode cX8_mayHold 32 = .ok (.iload 4, 2) := by decide +kernel
theorem dX8_mayHold_34 : decode cX8_mayHold 34 = .ok (.iconst 2, 1) := by decide +kernel
theorem dX8_mayHold_35 : decode cX8_mayHold 35 = .ok (.invokevirtual 41, 3) := by decide +kernel
theorem dX8_mayHold_38 : decode cX8_mayHold 38 = .ok (.iload_n 2, 1) := by decide +kernel
theorem dX8_mayHold_39 : decode cX8_mayHold 39 = .ok (.if_icmp .eq 7, 3) := by decide +kernel
theorem dX8_mayHold_42 : decode cX8_mayHold 42 = .ok (.iconst 1, 1) := by decide +kernel
theorem dX8_mayHold_43 : decode cX8_mayHold 43 = .ok (.goto 4, 3) := by decide +kernel
theorem dX8_mayHold_46 : decode cX8_mayHold 46 = .ok (.iconst 0, 1) := by decide +kernel
theorem dX8_mayHold_47 : decode cX8_mayHold 47 = .ok (.istore_n 3, 1) := by decide +kernel
theorem dX8_mayHold_48 : decode cX8_mayHold 48 = .ok (.iinc 4 1, 3) := by decide +kernel
theorem dX8_mayHold_51 : decode cX8_mayHold 51 = .ok (.goto (-46), 3) := by decide +kernel
theorem dX8_mayHold_54 : decode cX8_mayHold 54 = .ok (.iconst 0, 1) := by decide +kernel
theorem dX8_mayHold_55 : decode cX8_mayHold 55 = .ok (.istore 4, 2) := by decide +kernel
