theorem dX5_init_0 : decode cX5_init 0 = .ok (.aload_n 0, 1) := by decide +kernel
theorem dX5_init_1 : decode cX5_init 1 = .ok (.invokespecial 1, 3) := by decide +kernel
theorem dX5_init_4 : decode cX5_init 4 = .ok (.return_, 1) := by decide +kernel
theorem dX5_begin_0 : decode cX5_begin 0 = .ok (.aload_n 0, 1) := by decide +kernel
theorem dX5_begin_1 : decode cX5_begin 1 = .ok (.iload_n 1, 1) := by decide +kernel
theorem dX5_begin_2 : decode cX5_begin 2 = .ok (.i2l, 1) := by decide +kernel
theorem dX5_begin_3 : decode cX5_begin 3 = .ok (.putfield 7, 3) := by decide +kernel
theorem dX5_begin_6 : decode cX5_begin 6 = .ok (.return_, 1) := by decide +kernel
theorem dX5_below_0 : decode cX5_below 0 = .ok (.aload_n 0, 1) := by decide +kernel
theorem dX5_below_1 : decode cX5_below 1 = .ok (.aload_n 0, 1) := by decide +kernel
theorem dX5_below_2 : decode cX5_below 2 = .ok (.getfield 7, 3) := by decide +kernel
theorem dX5_below_5 : decode cX5_below 5 = .ok (.ldc2_w 13, 3) := by decide +kernel
theorem dX5_below_8 : decode cX5_below 8 = .ok (.lmul, 1) := by decide +kernel
theorem dX5_below_9 : decode cX5_below 9 = .ok (.ldc2_w 15, 3) := by decide +kernel
theorem dX5_below_12 : decode cX5_below 12 = .ok (.lrem, 1) := by decide +kernel
theorem dX5_below_13 : decode cX5_below 13 = .ok (.putfield 7, 3) := by decide +kernel
theorem dX5_below_16 : decode cX5_below 16 = .ok (.iload_n 1, 1) := by decide +kernel
theorem dX5_below_17 : decode cX5_below 17 = .ok (.ifCond .le 14, 3) := by decide +kernel
theorem dX5_below_20 : decode cX5_below 20 = .ok (.aload_n 0, 1) := by decide +kernel
theorem dX5_below_21 : decode cX5_below 21 = .ok (.getfield 7, 3) := by decide +kernel
theorem dX5_below_24 : decode cX5_below 24 = .ok (.iload_n 1, 1) := by decide +kernel
theorem dX5_below_25 : decode cX5_below 25 = .ok (.i2l, 1) := by decide +kernel
theorem dX5_below_26 : decode cX5_below 26 = .ok (.lrem, 1) := by decide +kernel
theorem dX5_below_27 : decode cX5_below 27 = .ok (.l2i, 1) := by decide +kernel
theorem dX5_below_28 : decode cX5_below 28 = .ok (.goto 4, 3) := by decide +kernel
theorem dX5_below_31 : decode cX5_below 31 = .ok (.iconst 0, 1) := by decide +kernel
theorem dX5_below_32 : decode cX5_below 32 = .ok (.ireturn, 1) := by decide +kernel
