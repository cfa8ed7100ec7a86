theorem dX7_refusalToHold_0 : decode cX7_refusalToHold 0 = .ok (.iload_n 1, 1) := by decide +kernel
theorem dX7_refusalToHold_1 : decode cX7_refusalToHold 1 = .ok (.bipush 10, 2) := by decide +kernel
theorem dX7_refusalToHold_3 : decode cX7_refusalToHold 3 = .ok (.invokestatic 35, 3) := by decide +kernel
theorem dX7_refusalToHold_6 : decode cX7_refusalToHold 6 = .ok (.ifCond .eq 20, 3) := by decide +kernel
theorem dX7_refusalToHold_9 : decode cX7_refusalToHold 9 = .ok (.iload_n 2, 1) := by decide +kernel
theorem dX7_refusalToHold_10 : decode cX7_refusalToHold 10 = .ok (.bipush 6, 2) := by decide +kernel
theorem dX7_refusalToHold_12 : decode cX7_refusalToHold 12 = .ok (.invokestatic 35, 3) := by decide +kernel
theorem dX7_refusalToHold_15 : decode cX7_refusalToHold 15 = .ok (.ifCond .eq 11, 3) := by decide +kernel
theorem dX7_refusalToHold_18 : decode cX7_refusalToHold 18 = .ok (.iload_n 3, 1) := by decide +kernel
theorem dX7_refusalToHold_19 : decode cX7_refusalToHold 19 = .ok (.iconst 4, 1) := by decide +kernel
theorem dX7_refusalToHold_20 : decode cX7_refusalToHold 20 = .ok (.invokestatic 35, 3) := by decide +kernel
theorem dX7_refusalToHold_23 : decode cX7_refusalToHold 23 = .ok (.ifCond .ne 6, 3) := by decide +kernel
theorem dX7_refusalToHold_26 : decode cX7_refusalToHold 26 = .ok (.ldc 39, 2) := by decide +kernel
theorem dX7_refusalToHold_28 : decode cX7_refusalToHold 28 = .ok (.ireturn, 1) := by decide +kernel
theorem dX7_refusalToHold_29 : decode cX7_refusalToHold 29 = .ok (.iload 4, 2) := by decide +kernel
theorem dX7_refusalToHold_31 : decode cX7_refusalToHold 31 = .ok (.iconst 4, 1) := by decide +kernel
theorem dX7_refusalToHold_32 : decode cX7_refusalToHold 32 = .ok (.invokestatic 35, 3) := by decide +kernel
theorem dX7_refusalToHold_35 : decode cX7_refusalToHold 35 = .ok (.ifCond .ne 6, 3) := by decide +kernel
theorem dX7_refusalToHold_38 : decode cX7_refusalToHold 38 = .ok (.ldc 110, 2) := by decide +kernel
theorem dX7_refusalToHold_40 : decode cX7_refusalToHold 40 = .ok (.ireturn, 1) := by decide +kernel
theorem dX7_refusalToHold_41 : decode cX7_refusalToHold 41 = .ok (.aload_n 0, 1) := by decide +kernel
theorem dX7_refusalToHold_42 : decode cX7_refusalToHold 42 = .ok (.getfield 10, 3) := by decide +kernel
theorem dX7_refusalToHold_45 : decode cX7_refusalToHold 45 = .ok (.getfield 40, 3) := by decide +kernel
theorem dX7_refusalToHold_48 : decode cX7_refusalToHold 48 = .ok (.iload_n 1, 1) := by decide +kernel
theorem dX7_refusalToHold_49 : decode cX7_refusalToHold 49 = .ok (.invokevirtual 238, 3) := by decide +kernel
theorem dX7_refusalToHold_52 : decode cX7_refusalToHold 52 = .ok (.aload_n 0, 1) := by decide +kernel
theorem dX7_refusalToHold_53 : decode cX7_refusalToHold 53 = .ok (.getfield 10, 3) := by decide +kernel
theorem dX7_refusalToHold_56 : decode cX7_refusalToHold 56 = .ok (.getfield 40, 3) := by decide +kernel
theorem dX7_refusalToHold_59 : decode cX7_refusalToHold 59 = .ok (.iload_n 2, 1) := by decide +kernel
theorem dX7_refusalToHold_60 : decode cX7_refusalToHold 60 = .ok (.invokevirtual 226, 3) := by decide +kernel
theorem dX7_refusalToHold_63 : decode cX7_refusalToHold 63 = .ok (.iand, 1) := by decide +kernel
theorem dX7_refusalToHold_64 : decode cX7_refusalToHold 64 = .ok (.ifCond .eq 7, 3) := by decide +kernel
theorem dX7_refusalToHold_67 : decode cX7_refusalToHold 67 = .ok (.iconst 1, 1) := by decide +kernel
theorem dX7_refusalToHold_68 : decode cX7_refusalToHold 68 = .ok (.goto 4, 3) := by decide +kernel
theorem dX7_refusalToHold_71 : decode cX7_refusalToHold 71 = .ok (.iconst 0, 1) := by decide +kernel
theorem dX7_refusalToHold_72 : decode cX7_refusalToHold 72 = .ok (.istore 5, 2) := by decide +kernel
theorem dX7_refusalToHold_74 : decode cX7_refusalToHold 74 = .ok (.iload 5, 2) := by decide +kernel
theorem dX7_refusalToHold_76 : decode cX7_refusalToHold 76 = .ok (.ifCond .ne 18, 3) := by decide +kernel
theorem dX7_refusalToHold_79 : decode cX7_refusalToHold 79 = .ok (.aload_n 0, 1) := by decide +kernel
theorem dX7_refusalToHold_80 : decode cX7_refusalToHold 80 = .ok (.getfield 10, 3) := by decide +kernel
theorem dX7_refusalToHold_83 : decode cX7_refusalToHold 83 = .ok (.getfield 78, 3) := by decide +kernel
theorem dX7_refusalToHold_86 : decode cX7_refusalToHold 86 = .ok (.iload_n 1, 1) := by decide +kernel
theorem dX7_refusalToHold_87 : decode cX7_refusalToHold 87 = .ok (.iload_n 2, 1) := by decide +kernel
theorem dX7_refusalToHold_88 : decode cX7_refusalToHold 88 = .ok (.invokevirtual 262, 3) := by decide +kernel
theorem dX7_refusalToHold_91 : decode cX7_refusalToHold 91 = .ok (.ifCond .eq 6, 3) := by decide +kernel
theorem dX7_refusalToHold_94 : decode cX7_refusalToHold 94 = .ok (.ldc 90, 2) := by decide +kernel
theorem dX7_refusalToHold_96 : decode cX7_refusalToHold 96 = .ok (.ireturn, 1) := by decide +kernel
theorem dX7_refusalToHold_97 : decode cX7_refusalToHold 97 = .ok (.aload_n 0, 1) := by decide +kernel
theorem dX7_refusalToHold_98 : decode cX7_refusalToHold 98 = .ok (.getfield 10, 3) := by decide +kernel
theorem dX7_refusalToHold_101 : decode cX7_refusalToHold 101 = .ok (.getfield 78, 3) := by decide +kernel
theorem dX7_refusalToHold_104 : decode cX7_refusalToHold 104 = .ok (.getfield 172, 3) := by decide +kernel
theorem dX7_refusalToHold_107 : decode cX7_refusalToHold 107 = .ok (.bipush 12, 2) := by decide +kernel
theorem dX7_refusalToHold_109 : decode cX7_refusalToHold 109 = .ok (.if_icmp .lt 8, 3) := by decide +kernel
theorem dX7_refusalToHold_112 : decode cX7_refusalToHold 112 = .ok (.ldc 50, 2) := by decide +kernel
theorem dX7_refusalToHold_114 : decode cX7_refusalToHold 114 = .ok (.goto 4, 3) := by decide +kernel
theorem dX7_refusalToHold_117 : decode cX7_refusalToHold 117 = .ok (.iconst 0, 1) := by decide +kernel
theorem dX7_refusalToHold_118 : decode cX7_refusalToHold 118 = .ok (.ireturn, 1) := by decide +kernel
set_option maxRecDepth 20000 in
theorem ggX7_drawHold_X5_below : GoodIn wsX7_drawHold wsX5_below := goodIn_r _ [7, 8, 9, 10, 160] (by decide +kernel) (by decide +kernel)
set_option maxRecDepth 20000 in
theorem gX7_drawHold_X5_below : GoodIn wsX7_drawHold (wsV RX7 133 RX5 yX5_below wsX5_below) := goodIn_app (goodIn_of _ (by decide +kernel)) ggX7_drawHold_X5_below
set_option maxRecDepth 20000 in
theorem ggX7_drawHold_X7_refusalToHold : GoodIn wsX7_drawHold wsX7_refusalToHold := goodIn_r _ [15, 16, 17, 2, 18, 19, 20, 21, 14, 22, 23, 24, 25, 26, 27, 28, 29, 30, 31, 32, 33, 34, 35, 36, 37, 38, 39, 40, 41, 42, 43, 44, 45, 46, 47, 48, 49, 50, 51, 52, 53, 54, 55, 56, 57, 58, 59, 60, 61, 62, 63, 64, 65, 66, 67, 68, 69, 70, 71, 72, 73, 154, 155, 156, 157, 158, 159, 161, 162, 163, 164, 165, 166, 167, 168, 169, 170, 171, 172] (by decide +kernel) (by decide +kernel)
set_option maxRecDepth 20000 in
theorem gX7_drawHold_X7_refusalToHold : GoodIn wsX7_drawHold (wsV RX7 97 RX7 yX7_refusalToHold wsX7_refusalToHold) := goodIn_app (goodIn_of _ (by decide +kernel)) ggX7_drawHold_X7_refusalToHold
set_option maxRecDepth 20000 in
theorem ggX7_drawHold_X4_addHold : GoodIn wsX7_drawHold wsX4_addHold := goodIn_r _ [78, 79, 80, 81, 82, 83, 61, 84, 85, 68, 63, 86, 87, 88, 41, 89, 43, 44, 45, 90, 91, 92, 77, 93, 94, 95, 96, 97, 98, 99, 100, 101, 102, 69, 39, 40, 42, 103, 104, 105, 106, 107, 108, 109, 110, 111, 112, 113, 26, 114, 28, 54, 55, 56, 57, 37, 38, 33, 34, 35, 36, 115, 116, 117, 118, 119, 14, 120, 121, 122, 123, 124, 125, 126, 127, 128, 129, 130, 131, 132, 133, 134, 135, 136, 137, 138, 139, 140, 141, 21, 22, 142, 143, 144, 145, 146, 147, 148, 149, 150, 151, 152, 153, 161, 162, 163, 164, 173, 174, 175, 176, 165, 166, 167, 170, 171, 172, 168, 169] (by decide +kernel) (by decide +kernel)
set_option maxRecDepth 20000 in
theorem gX7_drawHold_X4_addHold : GoodIn wsX7_drawHold (wsV RX7 101 RX4 yX4_addHold wsX4_addHold) := goodIn_app (goodIn_of _ (by decide +kernel)) ggX7_drawHold_X4_addHold
theorem dX7_drawHold_0 : decode cX7_drawHold 0 = .ok (.aload_n 0, 1) := by decide +kernel
theorem dX7_drawHold_1 : decode cX7_drawHold 1 = .ok (.getfield 31, 3) := by decide +kernel
theorem dX7_drawHold_4 : decode cX7_drawHold 4 = .ok (.bipush 10, 2) := by decide +kernel
theorem dX7_drawHold_6 : decode cX7_drawHold 6 = .ok (.invokevirtual 133, 3) := by decide +kernel
theorem dX7_drawHold_9 : decode cX7_drawHold 9 = .ok (.istore_n 1, 1) := by decide +kernel
theorem dX7_drawHold_10 : decode cX7_drawHold 10 = .ok (.aload_n 0, 1) := by decide +kernel
theorem dX7_drawHold_11 : decode cX7_drawHold 11 = .ok (.getfield 31, 3) := by decide +kernel
theorem dX7_drawHold_14 : decode cX7_drawHold 14 = .ok (.bipush 6, 2) := by decide +kernel
theorem dX7_drawHold_16 : decode cX7_drawHold 16 = .ok (.invokevirtual 133, 3) := by decide +kernel
theorem dX7_drawHold_19 : decode cX7_drawHold 19 = .ok (.istore_n 2, 1) := by decide +kernel
theorem dX7_drawHold_20 : decode cX7_drawHold 20 = .ok (.aload_n 0, 1) := by decide +kernel
theorem dX7_drawHold_21 : decode cX7_drawHold 21 = .ok (.getfield 31, 3) := by decide +kernel
theorem dX7_drawHold_24 : decode cX7_drawHold 24 = .ok (.iconst 4, 1) := by decide +kernel
theorem dX7_drawHold_25 : decode cX7_drawHold 25 = .ok (.invokevirtual 133, 3) := by decide +kernel
theorem dX7_drawHold_28 : decode cX7_drawHold 28 = .ok (.istore_n 3, 1) := by decide +kernel
theorem dX7_drawHold_29 : decode cX7_drawHold 29 = .ok (.aload_n 0, 1) := by decide +kernel
theorem dX7_drawHold_30 : decode cX7_drawHold 30 = .ok (.getfield 31, 3) := by decide +kernel
theorem dX7_drawHold_33 : decode cX7_drawHold 33 = .ok (.iconst 4, 1) := by decide +kernel
theorem dX7_drawHold_34 : decode cX7_drawHold 34 = .ok (.invokevirtual 133, 3) := by decide +kernel
theorem dX7_drawHold_37 : decode cX7_drawHold 37 = .ok (.istore 4, 2) := by decide +kernel
theorem dX7_drawHold_39 : decode cX7_drawHold 39 = .ok (.aload_n 0, 1) := by decide +kernel
theorem dX7_drawHold_40 : decode cX7_drawHold 40 = .ok (.iload_n 1, 1) := by decide +kernel
theorem dX7_drawHold_41 : decode cX7_drawHold 41 = .ok (.iload_n 2, 1) := by decide +kernel
theorem dX7_drawHold_42 : decode cX7_drawHold 42 = .ok (.iload_n 3, 1) := by decide +kernel
theorem dX7_drawHold_43 : decode cX7_drawHold 43 = .ok (.iload 4, 2) := by decide +kernel
theorem dX7_drawHold_45 : decode cX7_drawHold 45 = .ok (.invokevirtual 97, 3) := by decide +kernel
theorem dX7_drawHold_48 : decode cX7_drawHold 48 = .ok (.ifCond .ne 16, 3) := by decide +kernel
theorem dX7_drawHold_51 : decode cX7_drawHold 51 = .ok (.aload_n 0, 1) := by decide +kernel
theorem dX7_drawHold_52 : decode cX7_drawHold 52 = .ok (.getfield 10, 3) := by decide +kernel
theorem dX7_drawHold_55 : decode cX7_drawHold 55 = .ok (.iload_n 1, 1) := by decide +kernel
theorem dX7_drawHold_56 : decode cX7_drawHold 56 = .ok (.iload_n 2, 1) := by decide +kernel
theorem dX7_drawHold_57 : decode cX7_drawHold 57 = .ok (.iload_n 3, 1) := by decide +kernel
theorem dX7_drawHold_58 : decode cX7_drawHold 58 = .ok (.iload 4, 2) := by decide +kernel
theorem dX7_drawHold_60 : decode cX7_drawHold 60 = .ok (.invokevirtual 101, 3) := by decide +kernel
theorem dX7_drawHold_63 : decode cX7_drawHold 63 = .ok (.pop, 1) := by decide +kernel
theorem dX7_drawHold_64 : decode cX7_drawHold 64 = .ok (.return_, 1) := by decide +kernel
set_option maxRecDepth 20000 in
theorem ggX7_drawLending_X5_below : GoodIn wsX7_drawLending wsX5_below := goodIn_r _ [7, 8, 9, 10, 141] (by decide +kernel) (by decide +kernel)
set_option maxRecDepth 20000 in
theorem gX7_drawLending_X5_below : GoodIn wsX7_drawLending (wsV RX7 133 RX5 yX5_below wsX5_below) := goodIn_app (goodIn_of _ (by decide +kernel)) ggX7_drawLending_X5_below
set_option maxRecDepth 20000 in
theorem ggX7_drawLending_X7_refusalToLend : GoodIn wsX7_drawLending wsX7_refusalToLend := goodIn_r _ [15, 16, 1, 17, 18, 19, 20, 14, 21, 22, 23, 24, 25, 26, 27, 28, 29, 30, 31, 32, 33, 34, 35, 36, 37, 38, 39, 40, 41, 42, 43, 44, 45, 46, 47, 48, 49, 50, 51, 52, 53, 54, 55, 56, 57, 58, 59, 60, 61, 62, 63, 64, 65, 66, 67, 68, 69, 70, 71, 72, 73, 74, 75, 76, 77, 78, 79, 80, 81, 82, 83, 129, 130, 131, 132, 133, 134, 135, 136, 137, 138, 139, 140, 142, 143, 144, 145, 146, 147] (by decide +kernel) (by decide +kernel)
set_option maxRecDepth 20000 in
theorem gX7_drawLending_X7_refusalToLend : GoodIn wsX7_drawLending (wsV RX7 58 RX7 yX7_refusalToLend wsX7_refusalToLend) := goodIn_app (goodIn_of _ (by decide +kernel)) ggX7_drawLending_X7_refusalToLend
theorem dX7_drawLending_0 : decode cX7_drawLending 0 = .ok (.aload_n 0, 1) := by decide +kernel
theorem dX7_drawLending_1 : decode cX7_drawLending 1 = .ok (.getfield 10, 3) := by decide +kernel
theorem dX7_drawLending_4 : decode cX7_drawLending 4 = .ok (.getfield 40, 3) := by decide +kernel
theorem dX7_drawLending_7 : decode cX7_drawLending 7 = .ok (.getfield 44, 3) := by decide +kernel
theorem dX7_drawLending_10 : decode cX7_drawLending 10 = .ok (.ifCond .ne 4, 3) := by decide +kernel
theorem dX7_drawLending_13 : decode cX7_drawLending 13 = .ok (.return_, 1) := by decide +kernel
theorem dX7_drawLending_14 : decode cX7_drawLending 14 = .ok (.aload_n 0, 1) := by decide +kernel
theorem dX7_drawLending_15 : decode cX7_drawLending 15 = .ok (.getfield 31, 3) := by decide +kernel
theorem dX7_drawLending_18 : decode cX7_drawLending 18 = .ok (.aload_n 0, 1) := by decide +kernel
theorem dX7_drawLending_19 : decode cX7_drawLending 19 = .ok (.getfield 10, 3) := by decide +kernel
theorem dX7_drawLending_22 : decode cX7_drawLending 22 = .ok (.getfield 40, 3) := by decide +kernel
theorem dX7_drawLending_25 : decode cX7_drawLending 25 = .ok (.getfield 44, 3) := by decide +kernel
theorem dX7_drawLending_28 : decode cX7_drawLending 28 = .ok (.invokevirtual 133, 3) := by decide +kernel
theorem dX7_drawLending_31 : decode cX7_drawLending 31 = .ok (.istore_n 1, 1) := by decide +kernel
theorem dX7_drawLending_32 : decode cX7_drawLending 32 = .ok (.aload_n 0, 1) := by decide +kernel
theorem dX7_drawLending_33 : decode cX7_drawLending 33 = .ok (.getfield 31, 3) := by decide +kernel
theorem dX7_drawLending_36 : decode cX7_drawLending 36 = .ok (.bipush 10, 2) := by decide +kernel
theorem dX7_drawLending_38 : decode cX7_drawLending 38 = .ok (.invokevirtual 133, 3) := by decide +kernel
theorem dX7_drawLending_41 : decode cX7_drawLending 41 = .ok (.istore_n 2, 1) := by decide +kernel
theorem dX7_drawLending_42 : decode cX7_drawLending 42 = .ok (.aload_n 0, 1) := by decide +kernel
theorem dX7_drawLending_43 : decode cX7_drawLending 43 = .ok (.iload_n 1, 1) := by decide +kernel
theorem dX7_drawLending_44 : decode cX7_drawLending 44 = .ok (.iload_n 2, 1) := by decide +kernel
theorem dX7_drawLending_45 : decode cX7_drawLending 45 = .ok (.invokevirtual 58, 3) := by decide +kernel
theorem dX7_drawLending_48 : decode cX7_drawLending 48 = .ok (.ifCond .ne 13, 3) := by decide +kernel
theorem dX7_drawLending_51 : decode cX7_drawLending 51 = .ok (.aload_n 0, 1) := by decide +kernel
theorem dX7_drawLending_52 : decode cX7_drawLending 52 = .ok (.getfield 10, 3) := by decide +kernel
theorem dX7_drawLending_55 : decode cX7_drawLending 55 = .ok (.iload_n 1, 1) := by decide +kernel
theorem dX7_drawLending_56 : decode cX7_drawLending 56 = .ok (.iload_n 2, 1) := by decide +kernel
theorem dX7_drawLending_57 : decode cX7_drawLending 57 = .ok (.invokevirtual 61, 3) := by decide +kernel
theorem dX7_drawLending_60 : decode cX7_drawLending 60 = .ok (.pop, 1) := by decide +kernel
theorem dX7_drawLending_61 : decode cX7_drawLending 61 = .ok (.return_, 1) := by decide +kernel
set_option maxRecDepth 20000 in
theorem ggX7_drawGivingBack_X5_below : GoodIn wsX7_drawGivingBack wsX5_below := goodIn_r _ [7, 8, 9, 10, 148] (by decide +kernel) (by decide +kernel)
set_option maxRecDepth 20000 in
theorem gX7_drawGivingBack_X5_below : GoodIn wsX7_drawGivingBack (wsV RX7 133 RX5 yX5_below wsX5_below) := goodIn_app (goodIn_of _ (by decide +kernel)) ggX7_drawGivingBack_X5_below
set_option maxRecDepth 20000 in
theorem ggX7_drawGivingBack_X7_refusalToTakeBack : GoodIn wsX7_drawGivingBack wsX7_refusalToTakeBack := goodIn_r _ [15, 16, 1, 17, 18, 19, 20, 14, 21, 22, 23, 24, 25, 26, 27, 28, 29, 30, 31, 32, 33, 34, 35, 36, 37, 38, 136, 137, 138, 139, 140, 141, 142, 143, 144, 145, 146, 147, 149, 150, 151] (by decide +kernel) (by decide +kernel)
set_option maxRecDepth 20000 in
theorem gX7_drawGivingBack_X7_refusalToTakeBack : GoodIn wsX7_drawGivingBack (wsV RX7 64 RX7 yX7_refusalToTakeBack wsX7_refusalToTakeBack) := goodIn_app (goodIn_of _ (by decide +kernel)) ggX7_drawGivingBack_X7_refusalToTakeBack
theorem dX7_drawGivingBack_0 : decode cX7_drawGivingBack 0 = .ok (.aload_n 0, 1) := by decide +kernel
theorem dX7_drawGivingBack_1 : decode cX7_drawGivingBack 1 = .ok (.getfield 10, 3) := by decide +kernel
theorem dX7_drawGivingBack_4 : decode cX7_drawGivingBack 4 = .ok (.getfield 40, 3) := by decide +kernel
theorem dX7_drawGivingBack_7 : decode cX7_drawGivingBack 7 = .ok (.getfield 44, 3) := by decide +kernel
theorem dX7_drawGivingBack_10 : decode cX7_drawGivingBack 10 = .ok (.ifCond .ne 4, 3) := by decide +kernel
theorem dX7_drawGivingBack_13 : decode cX7_drawGivingBack 13 = .ok (.return_, 1) := by decide +kernel
theorem dX7_drawGivingBack_14 : decode cX7_drawGivingBack 14 = .ok (.aload_n 0, 1) := by decide +kernel
theorem dX7_drawGivingBack_15 : decode cX7_drawGivingBack 15 = .ok (.getfield 31, 3) := by decide +kernel
theorem dX7_drawGivingBack_18 : decode cX7_drawGivingBack 18 = .ok (.aload_n 0, 1) := by decide +kernel
theorem dX7_drawGivingBack_19 : decode cX7_drawGivingBack 19 = .ok (.getfield 10, 3) := by decide +kernel
theorem dX7_drawGivingBack_22 : decode cX7_drawGivingBack 22 = .ok (.getfield 40, 3) := by decide +kernel
theorem dX7_drawGivingBack_25 : decode cX7_drawGivingBack 25 = .ok (.getfield 44, 3) := by decide +kernel
theorem dX7_drawGivingBack_28 : decode cX7_drawGivingBack 28 = .ok (.invokevirtual 133, 3) := by decide +kernel
theorem dX7_drawGivingBack_31 : decode cX7_drawGivingBack 31 = .ok (.istore_n 1, 1) := by decide +kernel
theorem dX7_drawGivingBack_32 : decode cX7_drawGivingBack 32 = .ok (.aload_n 0, 1) := by decide +kernel
theorem dX7_drawGivingBack_33 : decode cX7_drawGivingBack 33 = .ok (.getfield 31, 3) := by decide +kernel
theorem dX7_drawGivingBack_36 : decode cX7_drawGivingBack 36 = .ok (.iconst 4, 1) := by decide +kernel
theorem dX7_drawGivingBack_37 : decode cX7_drawGivingBack 37 = .ok (.invokevirtual 133, 3) := by decide +kernel
theorem dX7_drawGivingBack_40 : decode cX7_drawGivingBack 40 = .ok (.istore_n 2, 1) := by decide +kernel
theorem dX7_drawGivingBack_41 : decode cX7_drawGivingBack 41 = .ok (.aload_n 0, 1) := by decide +kernel
theorem dX7_drawGivingBack_42 : decode cX7_drawGivingBack 42 = .ok (.iload_n 1, 1) := by decide +kernel
theorem dX7_drawGivingBack_43 : decode cX7_drawGivingBack 43 = .ok (.iload_n 2, 1) := by decide +kernel
theorem dX7_drawGivingBack_44 : decode cX7_drawGivingBack 44 = .ok (.invokevirtual 64, 3) := by decide +kernel
theorem dX7_drawGivingBack_47 : decode cX7_drawGivingBack 47 = .ok (.ifCond .ne 13, 3) := by decide +kernel
theorem dX7_drawGivingBack_50 : decode cX7_drawGivingBack 50 = .ok (.aload_n 0, 1) := by decide +kernel
theorem dX7_drawGivingBack_51 : decode cX7_drawGivingBack 51 = .ok (.getfield 10, 3) := by decide +kernel
theorem dX7_drawGivingBack_54 : decode cX7_drawGivingBack 54 = .ok (.iload_n 1, 1) := by decide +kernel
theorem dX7_drawGivingBack_55 : decode cX7_drawGivingBack 55 = .ok (.iload_n 2, 1) := by decide +kernel
theorem dX7_drawGivingBack_56 : decode cX7_drawGivingBack 56 = .ok (.invokevirtual 67, 3) := by decide +kernel
theorem dX7_drawGivingBack_59 : decode cX7_drawGivingBack 59 = .ok (.pop, 1) := by decide +kernel
theorem dX7_drawGivingBack_60 : decode cX7_drawGivingBack 60 = .ok (.return_, 1) := by decide +kernel
theorem dX7_isBelow_0 : decode cX7_isBelow 0 = .ok (.iconst 0, 1) := by decide +kernel
theorem dX7_isBelow_1 : decode cX7_isBelow 1 = .ok (.iload_n 0, 1) := by decide +kernel
theorem dX7_isBelow_2 : decode cX7_isBelow 2 = .ok (.if_icmp .gt 12, 3) := by decide +kernel
theorem dX7_isBelow_5 : decode cX7_isBelow 5 = .ok (.iload_n 0, 1) := by decide +kernel
theorem dX7_isBelow_6 : decode cX7_isBelow 6 = .ok (.iload_n 1, 1) := by decide +kernel
theorem dX7_isBelow_7 : decode cX7_isBelow 7 = .ok (.if_icmp .ge 7, 3) := by decide +kernel
theorem dX7_isBelow_10 : decode cX7_isBelow 10 = .ok (.iconst 1, 1) := by decide +kernel
theorem dX7_isBelow_11 : decode cX7_isBelow 11 = .ok (.goto 4, 3) := by decide +kernel
theorem dX7_isBelow_14 : decode cX7_isBelow 14 = .ok (.iconst 0, 1) := by decide +kernel
theorem dX7_isBelow_15 : decode cX7_isBelow 15 = .ok (.ireturn, 1) := by decide +kernel
