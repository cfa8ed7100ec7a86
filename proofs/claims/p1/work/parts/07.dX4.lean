set_option maxRecDepth 20000 in
theorem ggX4_init_X0_init : GoodIn wsX4_init wsX0_init := goodIn_r _ [17, 18, 2, 3, 19, 20, 21, 47, 48, 49, 50] (by decide +kernel) (by decide +kernel)
set_option maxRecDepth 20000 in
theorem gX4_init_X0_init_n11 : GoodIn wsX4_init (wsX0_init) := ggX4_init_X0_init
set_option maxRecDepth 20000 in
theorem ggX4_init_X1_init : GoodIn wsX4_init wsX1_init := goodIn_r _ [23, 24, 2, 3, 25, 26, 27, 28, 29, 30, 31, 32, 33, 34, 35, 36, 37, 38, 39, 40, 60, 61, 62, 55, 56] (by decide +kernel) (by decide +kernel)
set_option maxRecDepth 20000 in
theorem gX4_init_X1_init_n20 : GoodIn wsX4_init (wsX1_init) := ggX4_init_X1_init
set_option maxRecDepth 20000 in
theorem ggX4_init_X3_init : GoodIn wsX4_init wsX3_init := goodIn_r _ [42, 43, 2, 3, 44, 26, 27, 45, 46, 30, 31, 32, 33, 34, 35, 36, 37, 38, 39, 40, 60, 61, 62, 57, 58, 59] (by decide +kernel) (by decide +kernel)
set_option maxRecDepth 20000 in
theorem gX4_init_X3_init_n27 : GoodIn wsX4_init (wsX3_init) := ggX4_init_X3_init
theorem dX4_init_0 : decode cX4_init 0 = .ok (.aload_n 0, 1) := by decide +kernel
theorem dX4_init_1 : decode cX4_init 1 = .ok (.invokespecial 3, 3) := by decide +kernel
theorem dX4_init_4 : decode cX4_init 4 = .ok (.aload_n 0, 1) := by decide +kernel
theorem dX4_init_5 : decode cX4_init 5 = .ok (.new 9, 3) := by decide +kernel
theorem dX4_init_8 : decode cX4_init 8 = .ok (.dup, 1) := by decide +kernel
theorem dX4_init_9 : decode cX4_init 9 = .ok (.invokespecial 11, 3) := by decide +kernel
theorem dX4_init_12 : decode cX4_init 12 = .ok (.putfield 12, 3) := by decide +kernel
theorem dX4_init_15 : decode cX4_init 15 = .ok (.aload_n 0, 1) := by decide +kernel
theorem dX4_init_16 : decode cX4_init 16 = .ok (.new 18, 3) := by decide +kernel
theorem dX4_init_19 : decode cX4_init 19 = .ok (.dup, 1) := by decide +kernel
theorem dX4_init_20 : decode cX4_init 20 = .ok (.invokespecial 20, 3) := by decide +kernel
theorem dX4_init_23 : decode cX4_init 23 = .ok (.putfield 21, 3) := by decide +kernel
theorem dX4_init_26 : decode cX4_init 26 = .ok (.aload_n 0, 1) := by decide +kernel
theorem dX4_init_27 : decode cX4_init 27 = .ok (.new 25, 3) := by decide +kernel
theorem dX4_init_30 : decode cX4_init 30 = .ok (.dup, 1) := by decide +kernel
theorem dX4_init_31 : decode cX4_init 31 = .ok (.invokespecial 27, 3) := by decide +kernel
theorem dX4_init_34 : decode cX4_init 34 = .ok (.putfield 28, 3) := by decide +kernel
theorem dX4_init_37 : decode cX4_init 37 = .ok (.return_, 1) := by decide +kernel
set_option maxRecDepth 20000 in
theorem ggX4_addCopy_X1_add : GoodIn wsX4_addCopy wsX1_add := goodIn_r _ [6, 7, 8, 9, 10, 11, 12, 13, 14, 15, 16, 17, 18, 19, 5, 20, 107, 108, 109, 110, 111] (by decide +kernel) (by decide +kernel)
set_option maxRecDepth 20000 in
theorem gX4_addCopy_X1_add : GoodIn wsX4_addCopy (wsV RX4 32 RX1 yX1_add wsX1_add) := goodIn_app (goodIn_of _ (by decide +kernel)) ggX4_addCopy_X1_add
set_option maxRecDepth 20000 in
theorem ggX4_addCopy_X4_serve : GoodIn wsX4_addCopy wsX4_serve := goodIn_r _ [25, 26, 1, 27, 28, 29, 30, 31, 32, 33, 34, 35, 36, 37, 38, 39, 40, 12, 41, 14, 15, 16, 42, 43, 44, 45, 46, 47, 48, 49, 50, 51, 52, 5, 53, 7, 54, 55, 56, 57, 8, 58, 59, 60, 61, 62, 63, 64, 65, 66, 67, 68, 69, 70, 71, 72, 73, 74, 75, 76, 77, 78, 79, 24, 80, 81, 82, 83, 84, 85, 86, 87, 88, 89, 90, 91, 92, 93, 94, 10, 11, 13, 95, 96, 97, 98, 99, 100, 101, 102, 18, 19, 20, 9, 103, 104, 105, 106, 112, 113, 114, 109, 110, 111, 107, 108, 115, 116, 117, 118] (by decide +kernel) (by decide +kernel)
set_option maxRecDepth 20000 in
theorem gX4_addCopy_X4_serve : GoodIn wsX4_addCopy (wsV RX4 36 RX4 yX4_serve wsX4_serve) := goodIn_app (goodIn_of _ (by decide +kernel)) ggX4_addCopy_X4_serve
theorem dX4_addCopy_0 : decode cX4_addCopy 0 = .ok (.aload_n 0, 1) := by decide +kernel
theorem dX4_addCopy_1 : decode cX4_addCopy 1 = .ok (.getfield 21, 3) := by decide +kernel
theorem dX4_addCopy_4 : decode cX4_addCopy 4 = .ok (.iload_n 1, 1) := by decide +kernel
theorem dX4_addCopy_5 : decode cX4_addCopy 5 = .ok (.iload_n 2, 1) := by decide +kernel
theorem dX4_addCopy_6 : decode cX4_addCopy 6 = .ok (.invokevirtual 32, 3) := by decide +kernel
theorem dX4_addCopy_9 : decode cX4_addCopy 9 = .ok (.istore_n 3, 1) := by decide +kernel
theorem dX4_addCopy_10 : decode cX4_addCopy 10 = .ok (.aload_n 0, 1) := by decide +kernel
theorem dX4_addCopy_11 : decode cX4_addCopy 11 = .ok (.invokevirtual 36, 3) := by decide +kernel
theorem dX4_addCopy_14 : decode cX4_addCopy 14 = .ok (.iload_n 3, 1) := by decide +kernel
theorem dX4_addCopy_15 : decode cX4_addCopy 15 = .ok (.ireturn, 1) := by decide +kernel
set_option maxRecDepth 20000 in
theorem ggX4_addHold_X3_add : GoodIn wsX4_addHold wsX3_add := goodIn_r _ [7, 8, 9, 10, 11, 12, 13, 14, 15, 16, 17, 18, 111, 112, 113, 114, 115, 116] (by decide +kernel) (by decide +kernel)
set_option maxRecDepth 20000 in
theorem gX4_addHold_X3_add : GoodIn wsX4_addHold (wsV RX4 86 RX3 yX3_add wsX3_add) := goodIn_app (goodIn_of _ (by decide +kernel)) ggX4_addHold_X3_add
set_option maxRecDepth 20000 in
theorem ggX4_addHold_X4_serve : GoodIn wsX4_addHold wsX4_serve := goodIn_r _ [23, 1, 24, 25, 26, 27, 6, 28, 10, 29, 30, 31, 32, 9, 33, 34, 35, 14, 36, 16, 17, 18, 37, 38, 39, 40, 41, 42, 43, 44, 45, 46, 47, 48, 49, 50, 51, 52, 53, 54, 55, 56, 57, 58, 59, 60, 61, 62, 63, 64, 65, 66, 67, 68, 69, 70, 71, 72, 73, 74, 75, 76, 77, 22, 78, 2, 79, 80, 81, 82, 83, 84, 85, 86, 87, 88, 89, 90, 11, 12, 13, 15, 91, 92, 93, 94, 95, 96, 97, 98, 99, 100, 101, 102, 103, 104, 105, 106, 111, 112, 113, 114, 115, 116, 117, 118, 107, 108, 109, 110] (by decide +kernel) (by decide +kernel)
set_option maxRecDepth 20000 in
theorem gX4_addHold_X4_serve : GoodIn wsX4_addHold (wsV RX4 36 RX4 yX4_serve wsX4_serve) := goodIn_app (goodIn_of _ (by decide +kernel)) ggX4_addHold_X4_serve
theorem dX4_addHold_0 : decode cX4_addHold 0 = .ok (.aload_n 0, 1) := by decide +kernel
theorem dX4_addHold_1 : decode cX4_addHold 1 = .ok (.getfield 28, 3) := by decide +kernel
theorem dX4_addHold_4 : decode cX4_addHold 4 = .ok (.iload_n 1, 1) := by decide +kernel
theorem dX4_addHold_5 : decode cX4_addHold 5 = .ok (.iload_n 2, 1) := by decide +kernel
theorem dX4_addHold_6 : decode cX4_addHold 6 = .ok (.iload_n 3, 1) := by decide +kernel
theorem dX4_addHold_7 : decode cX4_addHold 7 = .ok (.iload 4, 2) := by decide +kernel
theorem dX4_addHold_9 : decode cX4_addHold 9 = .ok (.aload_n 0, 1) := by decide +kernel
theorem dX4_addHold_10 : decode cX4_addHold 10 = .ok (.getfield 12, 3) := by decide +kernel
theorem dX4_addHold_13 : decode cX4_addHold 13 = .ok (.getfield 70, 3) := by decide +kernel
theorem dX4_addHold_16 : decode cX4_addHold 16 = .ok (.invokevirtual 86, 3) := by decide +kernel
theorem dX4_addHold_19 : decode cX4_addHold 19 = .ok (.istore 5, 2) := by decide +kernel
theorem dX4_addHold_21 : decode cX4_addHold 21 = .ok (.aload_n 0, 1) := by decide +kernel
theorem dX4_addHold_22 : decode cX4_addHold 22 = .ok (.invokevirtual 36, 3) := by decide +kernel
theorem dX4_addHold_25 : decode cX4_addHold 25 = .ok (.iload 5, 2) := by decide +kernel
theorem dX4_addHold_27 : decode cX4_addHold 27 = .ok (.ireturn, 1) := by decide +kernel
set_option maxRecDepth 20000 in
theorem ggX4_dayPasses_X4_serve : GoodIn wsX4_dayPasses wsX4_serve := goodIn_r _ [81, 9, 3, 82, 83, 84, 54, 85, 56, 86, 87, 88, 89, 61, 62, 17, 18, 19, 20, 21, 22, 23, 90, 91, 92, 93, 94, 95, 96, 97, 98, 99, 100, 13, 101, 102, 103, 104, 105, 106, 15, 16, 107, 11, 12, 14, 108, 29, 30, 31, 109, 68, 110, 111, 112, 113, 114, 115, 116, 117, 118, 119, 120, 7, 121, 1, 2, 28, 122, 58, 59, 60, 123, 124, 125, 126, 67, 69, 127, 48, 49, 50, 36, 37, 38, 39, 40, 41, 42, 43, 44, 45, 46, 47, 128, 129, 130, 131, 141, 142, 143, 138, 139, 140, 136, 137, 132, 133, 134, 135] (by decide +kernel) (by decide +kernel)
set_option maxRecDepth 20000 in
theorem gX4_dayPasses_X4_serve : GoodIn wsX4_dayPasses (wsV RX4 36 RX4 yX4_serve wsX4_serve) := goodIn_app (goodIn_of _ (by decide +kernel)) ggX4_dayPasses_X4_serve
theorem dX4_dayPasses_0 : decode cX4_dayPasses 0 = .ok (.aload_n 0, 1) := by decide +kernel
theorem dX4_dayPasses_1 : decode cX4_dayPasses 1 = .ok (.getfield 12, 3) := by decide +kernel
theorem dX4_dayPasses_4 : decode cX4_dayPasses 4 = .ok (.dup, 1) := by decide +kernel
theorem dX4_dayPasses_5 : decode cX4_dayPasses 5 = .ok (.getfield 70, 3) := by decide +kernel
theorem dX4_dayPasses_8 : decode cX4_dayPasses 8 = .ok (.iconst 1, 1) := by decide +kernel
theorem dX4_dayPasses_9 : decode cX4_dayPasses 9 = .ok (.iadd, 1) := by decide +kernel
theorem dX4_dayPasses_10 : decode cX4_dayPasses 10 = .ok (.putfield 70, 3) := by decide +kernel
theorem dX4_dayPasses_13 : decode cX4_dayPasses 13 = .ok (.aload_n 0, 1) := by decide +kernel
theorem dX4_dayPasses_14 : decode cX4_dayPasses 14 = .ok (.iconst 0, 1) := by decide +kernel
theorem dX4_dayPasses_15 : decode cX4_dayPasses 15 = .ok (.putfield 95, 3) := by decide +kernel
theorem dX4_dayPasses_18 : decode cX4_dayPasses 18 = .ok (.iconst 0, 1) := by decide +kernel
theorem dX4_dayPasses_19 : decode cX4_dayPasses 19 = .ok (.istore_n 1, 1) := by decide +kernel
theorem dX4_dayPasses_20 : decode cX4_dayPasses 20 = .ok (.iload_n 1, 1) := by decide +kernel
theorem dX4_dayPasses_21 : decode cX4_dayPasses 21 = .ok (.aload_n 0, 1) := by decide +kernel
theorem dX4_dayPasses_22 : decode cX4_dayPasses 22 = .ok (.getfield 21, 3) := by decide +kernel
theorem dX4_dayPasses_25 : decode cX4_dayPasses 25 = .ok (.getfield 98, 3) := by decide +kernel
theorem dX4_dayPasses_28 : decode cX4_dayPasses 28 = .ok (.if_icmp .ge 14, 3) := by decide +kernel
theorem dX4_dayPasses_31 : decode cX4_dayPasses 31 = .ok (.aload_n 0, 1) := by decide +kernel
theorem dX4_dayPasses_32 : decode cX4_dayPasses 32 = .ok (.iload_n 1, 1) := by decide +kernel
theorem dX4_dayPasses_33 : decode cX4_dayPasses 33 = .ok (.invokevirtual 99, 3) := by decide +kernel
theorem dX4_dayPasses_36 : decode cX4_dayPasses 36 = .ok (.iinc 1 1, 3) := by decide +kernel
theorem dX4_dayPasses_39 : decode cX4_dayPasses 39 = .ok (.goto (-19), 3) := by decide +kernel
theorem dX4_dayPasses_42 : decode cX4_dayPasses 42 = .ok (.aload_n 0, 1) := by decide +kernel
theorem dX4_dayPasses_43 : decode cX4_dayPasses 43 = .ok (.invokevirtual 36, 3) := by decide +kernel
theorem dX4_dayPasses_46 : decode cX4_dayPasses 46 = .ok (.return_, 1) := by decide +kernel
set_option maxRecDepth 20000 in
theorem ggX4_serve_X3_firstOfRow : GoodIn wsX4_serve wsX3_firstOfRow := goodIn_r _ [7, 8, 9, 10, 11, 6, 12, 13, 14, 15, 16, 17, 18, 19, 20, 21, 22, 23, 24, 25, 98, 99, 100, 101, 102, 103] (by decide +kernel) (by decide +kernel)
set_option maxRecDepth 20000 in
theorem gX4_serve_X3_firstOfRow : GoodIn wsX4_serve (wsV RX4 108 RX3 yX3_firstOfRow wsX3_firstOfRow) := goodIn_app (goodIn_of _ (by decide +kernel)) ggX4_serve_X3_firstOfRow
set_option maxRecDepth 20000 in
theorem ggX4_serve_X3_branch : GoodIn wsX4_serve wsX3_branch := goodIn_r _ [29, 13, 14, 15, 16, 17, 18, 19, 20, 21, 98, 99, 100, 101, 102, 103] (by decide +kernel) (by decide +kernel)
set_option maxRecDepth 20000 in
theorem gX4_serve_X3_branch : GoodIn wsX4_serve (wsV RX4 111 RX3 yX3_branch wsX3_branch) := goodIn_app (goodIn_of _ (by decide +kernel)) ggX4_serve_X3_branch
set_option maxRecDepth 20000 in
theorem ggX4_serve_X1_nearestIn : GoodIn wsX4_serve wsX1_nearestIn := goodIn_r _ [34, 35, 36, 37, 38, 33, 39, 40, 41, 15, 16, 17, 18, 19, 20, 21, 42, 43, 44, 45, 46, 47, 48, 49, 50, 51, 52, 53, 54, 55, 56, 57, 58, 59, 104, 105, 101, 102, 103] (by decide +kernel) (by decide +kernel)
set_option maxRecDepth 20000 in
theorem gX4_serve_X1_nearestIn : GoodIn wsX4_serve (wsV RX4 112 RX1 yX1_nearestIn wsX1_nearestIn) := goodIn_app (goodIn_of _ (by decide +kernel)) ggX4_serve_X1_nearestIn
theorem dX4_serve_0 : decode cX4_serve 0 = .ok (.iconst 0, 1) := by decide +kernel
theorem dX4_serve_1 : decode cX4_serve 1 = .ok (.istore_n 1, 1) := by decide +kernel
theorem dX4_serve_2 : decode cX4_serve 2 = .ok (.iconst 0, 1) := by decide +kernel
theorem dX4_serve_3 : decode cX4_serve 3 = .ok (.istore_n 2, 1) := by decide +kernel
theorem dX4_serve_4 : decode cX4_serve 4 = .ok (.iload_n 2, 1) := by decide +kernel
theorem dX4_serve_5 : decode cX4_serve 5 = .ok (.bipush 22, 2) := by decide +kernel
theorem dX4_serve_7 : decode cX4_serve 7 = .ok (.if_icmp .ge 70, 3) := by decide +kernel
theorem dX4_serve_10 : decode cX4_serve 10 = .ok (.iload_n 1, 1) := by decide +kernel
theorem dX4_serve_11 : decode cX4_serve 11 = .ok (.bipush 6, 2) := by decide +kernel
theorem dX4_serve_13 : decode cX4_serve 13 = .ok (.if_icmp .ge 64, 3) := by decide +kernel
theorem dX4_serve_16 : decode cX4_serve 16 = .ok (.aload_n 0, 1) := by decide +kernel
theorem dX4_serve_17 : decode cX4_serve 17 = .ok (.getfield 28, 3) := by decide +kernel
theorem dX4_serve_20 : decode cX4_serve 20 = .ok (.iload_n 1, 1) := by decide +kernel
theorem dX4_serve_21 : decode cX4_serve 21 = .ok (.invokevirtual 108, 3) := by decide +kernel
theorem dX4_serve_24 : decode cX4_serve 24 = .ok (.istore_n 3, 1) := by decide +kernel
theorem dX4_serve_25 : decode cX4_serve 25 = .ok (.iload_n 3, 1) := by decide +kernel
theorem dX4_serve_26 : decode cX4_serve 26 = .ok (.iconst (-1), 1) := by decide +kernel
theorem dX4_serve_27 : decode cX4_serve 27 = .ok (.if_icmp .ne 7, 3) := by decide +kernel
theorem dX4_serve_30 : decode cX4_serve 30 = .ok (.iconst (-1), 1) := by decide +kernel
theorem dX4_serve_31 : decode cX4_serve 31 = .ok (.goto 19, 3) := by decide +kernel
theorem dX4_serve_34 : decode cX4_serve 34 = .ok (.aload_n 0, 1) := by decide +kernel
theorem dX4_serve_35 : decode cX4_serve 35 = .ok (.getfield 21, 3) := by decide +kernel
theorem dX4_serve_38 : decode cX4_serve 38 = .ok (.iload_n 1, 1) := by decide +kernel
theorem dX4_serve_39 : decode cX4_serve 39 = .ok (.aload_n 0, 1) := by decide +kernel
theorem dX4_serve_40 : decode cX4_serve 40 = .ok (.getfield 28, 3) := by decide +kernel
theorem dX4_serve_43 : decode cX4_serve 43 = .ok (.iload_n 3, 1) := by decide +kernel
theorem dX4_serve_44 : decode cX4_serve 44 = .ok (.invokevirtual 111, 3) := by decide +kernel
theorem dX4_serve_47 : decode cX4_serve 47 = .ok (.invokevirtual 112, 3) := by decide +kernel
theorem dX4_serve_50 : decode cX4_serve 50 = .ok (.istore 4, 2) := by decide +kernel
theorem dX4_serve_52 : decode cX4_serve 52 = .ok (.iload 4, 2) := by decide +kernel
theorem dX4_serve_54 : decode cX4_serve 54 = .ok (.iconst (-1), 1) := by decide +kernel
theorem dX4_serve_55 : decode cX4_serve 55 = .ok (.if_icmp .ne 9, 3) := by decide +kernel
theorem dX4_serve_58 : decode cX4_serve 58 = .ok (.iinc 1 1, 3) := by decide +kernel
theorem dX4_serve_61 : decode cX4_serve 61 = .ok (.goto 10, 3) := by decide +kernel
theorem dX4_serve_64 : decode cX4_serve 64 = .ok (.aload_n 0, 1) := by decide +kernel
theorem dX4_serve_65 : decode cX4_serve 65 = .ok (.iload_n 3, 1) := by decide +kernel
theorem dX4_serve_66 : decode cX4_serve 66 = .ok (.iload 4, 2) := by decide +kernel
theorem dX4_serve_68 : decode cX4_serve 68 = .ok (.invokevirtual 115, 3) := by decide +kernel
theorem dX4_serve_71 : decode cX4_serve 71 = .ok (.iinc 2 1, 3) := by decide +kernel
theorem dX4_serve_74 : decode cX4_serve 74 = .ok (.goto (-70), 3) := by decide +kernel
theorem dX4_serve_77 : decode cX4_serve 77 = .ok (.return_, 1) := by decide +kernel
set_option maxRecDepth 20000 in
theorem ggX4_become_X0_become : GoodIn wsX4_become wsX0_become := goodIn_r _ [9, 10, 11, 12, 13, 48, 49, 50, 51] (by decide +kernel) (by decide +kernel)
set_option maxRecDepth 20000 in
theorem gX4_become_X0_become : GoodIn wsX4_become (wsV RX4 137 RX0 yX0_become wsX0_become) := goodIn_app (goodIn_of _ (by decide +kernel)) ggX4_become_X0_become
set_option maxRecDepth 20000 in
theorem ggX4_become_X1_become : GoodIn wsX4_become wsX1_become := goodIn_r _ [18, 19, 20, 21, 22, 23, 24, 25, 26, 27, 28, 29, 30, 31, 32, 33, 34, 52, 53, 54, 55, 56] (by decide +kernel) (by decide +kernel)
set_option maxRecDepth 20000 in
theorem gX4_become_X1_become : GoodIn wsX4_become (wsV RX4 141 RX1 yX1_become wsX1_become) := goodIn_app (goodIn_of _ (by decide +kernel)) ggX4_become_X1_become
set_option maxRecDepth 20000 in
theorem ggX4_become_X3_become : GoodIn wsX4_become wsX3_become := goodIn_r _ [39, 40, 41, 42, 43, 22, 23, 24, 25, 26, 27, 28, 29, 30, 31, 32, 33, 34, 57, 58, 59, 54, 55, 56] (by decide +kernel) (by decide +kernel)
set_option maxRecDepth 20000 in
theorem gX4_become_X3_become : GoodIn wsX4_become (wsV RX4 144 RX3 yX3_become wsX3_become) := goodIn_app (goodIn_of _ (by decide +kernel)) ggX4_become_X3_become
theorem dX4_become_0 : decode cX4_become 0 = .ok (.aload_n 0, 1) := by decide +kernel
theorem dX4_become_1 : decode cX4_become 1 = .ok (.getfield 12, 3) := by decide +kernel
theorem dX4_become_4 : decode cX4_become 4 = .ok (.aload_n 1, 1) := by decide +kernel
theorem dX4_become_5 : decode cX4_become 5 = .ok (.getfield 12, 3) := by decide +kernel
theorem dX4_become_8 : decode cX4_become 8 = .ok (.invokevirtual 137, 3) := by decide +kernel
theorem dX4_become_11 : decode cX4_become 11 = .ok (.aload_n 0, 1) := by decide +kernel
theorem dX4_become_12 : decode cX4_become 12 = .ok (.getfield 21, 3) := by decide +kernel
theorem dX4_become_15 : decode cX4_become 15 = .ok (.aload_n 1, 1) := by decide +kernel
theorem dX4_become_16 : decode cX4_become 16 = .ok (.getfield 21, 3) := by decide +kernel
theorem dX4_become_19 : decode cX4_become 19 = .ok (.invokevirtual 141, 3) := by decide +kernel
theorem dX4_become_22 : decode cX4_become 22 = .ok (.aload_n 0, 1) := by decide +kernel
theorem dX4_become_23 : decode cX4_become 23 = .ok (.getfield 28, 3) := by decide +kernel
theorem dX4_become_26 : decode cX4_become 26 = .ok (.aload_n 1, 1) := by decide +kernel
theorem dX4_become_27 : decode cX4_become 27 = .ok (.getfield 28, 3) := by decide +kernel
theorem dX4_become_30 : decode cX4_become 30 = .ok (.invokevirtual 144, 3) := by decide +kernel
theorem dX4_become_33 : decode cX4_become 33 = .ok (.aload_n 0, 1) := by decide +kernel
theorem dX4_become_34 : decode cX4_become 34 = .ok (.aload_n 1, 1) := by decide +kernel
theorem dX4_become_35 : decode cX4_become 35 = .ok (.getfield 95, 3) := by decide +kernel
theorem dX4_become_38 : decode cX4_become 38 = .ok (.putfield 95, 3) := by decide +kernel
theorem dX4_become_41 : decode cX4_become 41 = .ok (.return_, 1) := by decide +kernel
