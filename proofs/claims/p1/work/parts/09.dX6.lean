theorem dX6_init_0 : decode cX6_init 0 = .ok (.aload_n 0, 1) := by decide +kernel
theorem dX6_init_1 : decode cX6_init 1 = .ok (.invokespecial 1, 3) := by decide +kernel
theorem dX6_init_4 : decode cX6_init 4 = .ok (.aload_n 0, 1) := by decide +kernel
theorem dX6_init_5 : decode cX6_init 5 = .ok (.iload_n 1, 1) := by decide +kernel
theorem dX6_init_6 : decode cX6_init 6 = .ok (.iconst 0, 1) := by decide +kernel
theorem dX6_init_7 : decode cX6_init 7 = .ok (.invokestatic 7, 3) := by decide +kernel
theorem dX6_init_10 : decode cX6_init 10 = .ok (.anewarray 13, 3) := by decide +kernel
theorem dX6_init_13 : decode cX6_init 13 = .ok (.putfield 15, 3) := by decide +kernel
theorem dX6_init_16 : decode cX6_init 16 = .ok (.return_, 1) := by decide +kernel
set_option maxRecDepth 20000 in
theorem ggX6_has_X7_isBelow : GoodIn wsX6_has wsX7_isBelow := goodIn_r _ [4] (by decide +kernel) (by decide +kernel)
set_option maxRecDepth 20000 in
theorem gX6_has_X7_isBelow_n21 : GoodIn wsX6_has (wsX7_isBelow) := ggX6_has_X7_isBelow
theorem dX6_has_0 : decode cX6_has 0 = .ok (.iload_n 1, 1) := by decide +kernel
theorem dX6_has_1 : decode cX6_has 1 = .ok (.aload_n 0, 1) := by decide +kernel
theorem dX6_has_2 : decode cX6_has 2 = .ok (.getfield 15, 3) := by decide +kernel
theorem dX6_has_5 : decode cX6_has 5 = .ok (.arraylength, 1) := by decide +kernel
theorem dX6_has_6 : decode cX6_has 6 = .ok (.invokestatic 21, 3) := by decide +kernel
theorem dX6_has_9 : decode cX6_has 9 = .ok (.ifCond .eq 16, 3) := by decide +kernel
theorem dX6_has_12 : decode cX6_has 12 = .ok (.aload_n 0, 1) := by decide +kernel
theorem dX6_has_13 : decode cX6_has 13 = .ok (.getfield 15, 3) := by decide +kernel
theorem dX6_has_16 : decode cX6_has 16 = .ok (.iload_n 1, 1) := by decide +kernel
theorem dX6_has_17 : decode cX6_has 17 = .ok (.aaload, 1) := by decide +kernel
theorem dX6_has_18 : decode cX6_has 18 = .ok (.ifnull 7, 3) := by decide +kernel
theorem dX6_has_21 : decode cX6_has 21 = .ok (.iconst 1, 1) := by decide +kernel
theorem dX6_has_22 : decode cX6_has 22 = .ok (.goto 4, 3) := by decide +kernel
theorem dX6_has_25 : decode cX6_has 25 = .ok (.iconst 0, 1) := by decide +kernel
theorem dX6_has_26 : decode cX6_has 26 = .ok (.ireturn, 1) := by decide +kernel
set_option maxRecDepth 20000 in
theorem ggX6_take_X7_isBelow : GoodIn wsX6_take wsX7_isBelow := goodIn_r _ [7] (by decide +kernel) (by decide +kernel)
set_option maxRecDepth 20000 in
theorem gX6_take_X7_isBelow_n21 : GoodIn wsX6_take (wsX7_isBelow) := ggX6_take_X7_isBelow
set_option maxRecDepth 20000 in
theorem ggX6_take_X4_init : GoodIn wsX6_take wsX4_init := goodIn_r _ [9, 10, 11, 12, 13, 14, 15, 16, 17, 18, 19, 20, 21, 22, 23, 24, 25, 26, 27, 28, 29, 30, 31, 32, 33, 34, 35, 36, 37, 38, 39, 40, 41, 42, 43, 44, 45, 46, 47, 48, 49, 50, 51, 52, 53, 54, 55, 94, 95, 96, 97, 90, 91, 92, 93, 98, 99, 100, 101, 102, 103, 104, 105] (by decide +kernel) (by decide +kernel)
set_option maxRecDepth 20000 in
theorem gX6_take_X4_init_n27 : GoodIn wsX6_take (wsX4_init) := ggX6_take_X4_init
set_option maxRecDepth 20000 in
theorem ggX6_take_X4_become : GoodIn wsX6_take wsX4_become := goodIn_r _ [59, 16, 20, 24, 60, 61, 62, 63, 15, 64, 65, 28, 29, 30, 66, 67, 68, 19, 69, 70, 37, 71, 72, 73, 36, 74, 49, 75, 76, 44, 77, 78, 79, 80, 81, 82, 83, 84, 23, 85, 86, 87, 54, 88, 90, 91, 92, 93, 94, 95, 96, 97, 98, 99, 103, 104, 105, 100, 101, 102] (by decide +kernel) (by decide +kernel)
set_option maxRecDepth 20000 in
theorem gX6_take_X4_become : GoodIn wsX6_take (wsV RX6 28 RX4 yX4_become wsX4_become) := goodIn_app (goodIn_of _ (by decide +kernel)) ggX6_take_X4_become
theorem dX6_take_0 : decode cX6_take 0 = .ok (.iload_n 1, 1) := by decide +kernel
theorem dX6_take_1 : decode cX6_take 1 = .ok (.aload_n 0, 1) := by decide +kernel
theorem dX6_take_2 : decode cX6_take 2 = .ok (.getfield 15, 3) := by decide +kernel
theorem dX6_take_5 : decode cX6_take 5 = .ok (.arraylength, 1) := by decide +kernel
theorem dX6_take_6 : decode cX6_take 6 = .ok (.invokestatic 21, 3) := by decide +kernel
theorem dX6_take_9 : decode cX6_take 9 = .ok (.ifCond .ne 4, 3) := by decide +kernel
theorem dX6_take_12 : decode cX6_take 12 = .ok (.return_, 1) := by decide +kernel
theorem dX6_take_13 : decode cX6_take 13 = .ok (.aload_n 0, 1) := by decide +kernel
theorem dX6_take_14 : decode cX6_take 14 = .ok (.getfield 15, 3) := by decide +kernel
theorem dX6_take_17 : decode cX6_take 17 = .ok (.iload_n 1, 1) := by decide +kernel
theorem dX6_take_18 : decode cX6_take 18 = .ok (.aaload, 1) := by decide +kernel
theorem dX6_take_19 : decode cX6_take 19 = .ok (.astore_n 3, 1) := by decide +kernel
theorem dX6_take_20 : decode cX6_take 20 = .ok (.aload_n 3, 1) := by decide +kernel
theorem dX6_take_21 : decode cX6_take 21 = .ok (.ifnonnull 18, 3) := by decide +kernel
theorem dX6_take_24 : decode cX6_take 24 = .ok (.new 13, 3) := by decide +kernel
theorem dX6_take_27 : decode cX6_take 27 = .ok (.dup, 1) := by decide +kernel
theorem dX6_take_28 : decode cX6_take 28 = .ok (.invokespecial 27, 3) := by decide +kernel
theorem dX6_take_31 : decode cX6_take 31 = .ok (.astore_n 3, 1) := by decide +kernel
theorem dX6_take_32 : decode cX6_take 32 = .ok (.aload_n 0, 1) := by decide +kernel
theorem dX6_take_33 : decode cX6_take 33 = .ok (.getfield 15, 3) := by decide +kernel
theorem dX6_take_36 : decode cX6_take 36 = .ok (.iload_n 1, 1) := by decide +kernel
theorem dX6_take_37 : decode cX6_take 37 = .ok (.aload_n 3, 1) := by decide +kernel
theorem dX6_take_38 : decode cX6_take 38 = .ok (.aastore, 1) := by decide +kernel
theorem dX6_take_39 : decode cX6_take 39 = .ok (.aload_n 3, 1) := by decide +kernel
theorem dX6_take_40 : decode cX6_take 40 = .ok (.aload_n 2, 1) := by decide +kernel
theorem dX6_take_41 : decode cX6_take 41 = .ok (.invokevirtual 28, 3) := by decide +kernel
theorem dX6_take_44 : decode cX6_take 44 = .ok (.return_, 1) := by decide +kernel
