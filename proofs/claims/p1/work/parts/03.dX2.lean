theorem dX2_init_0 : decode cX2_init 0 = .ok (.aload_n 0, 1) := by decide +kernel
theorem dX2_init_1 : decode cX2_init 1 = .ok (.invokespecial 3, 3) := by decide +kernel
theorem dX2_init_4 : decode cX2_init 4 = .ok (.aload_n 0, 1) := by decide +kernel
theorem dX2_init_5 : decode cX2_init 5 = .ok (.iload_n 1, 1) := by decide +kernel
theorem dX2_init_6 : decode cX2_init 6 = .ok (.iconst 0, 1) := by decide +kernel
theorem dX2_init_7 : decode cX2_init 7 = .ok (.invokestatic 9, 3) := by decide +kernel
theorem dX2_init_10 : decode cX2_init 10 = .ok (.putfield 15, 3) := by decide +kernel
theorem dX2_init_13 : decode cX2_init 13 = .ok (.aload_n 0, 1) := by decide +kernel
theorem dX2_init_14 : decode cX2_init 14 = .ok (.iload_n 2, 1) := by decide +kernel
theorem dX2_init_15 : decode cX2_init 15 = .ok (.iconst 0, 1) := by decide +kernel
theorem dX2_init_16 : decode cX2_init 16 = .ok (.invokestatic 9, 3) := by decide +kernel
theorem dX2_init_19 : decode cX2_init 19 = .ok (.putfield 21, 3) := by decide +kernel
theorem dX2_init_22 : decode cX2_init 22 = .ok (.aload_n 0, 1) := by decide +kernel
theorem dX2_init_23 : decode cX2_init 23 = .ok (.aload_n 0, 1) := by decide +kernel
theorem dX2_init_24 : decode cX2_init 24 = .ok (.getfield 15, 3) := by decide +kernel
theorem dX2_init_27 : decode cX2_init 27 = .ok (.aload_n 0, 1) := by decide +kernel
theorem dX2_init_28 : decode cX2_init 28 = .ok (.getfield 21, 3) := by decide +kernel
theorem dX2_init_31 : decode cX2_init 31 = .ok (.imul, 1) := by decide +kernel
theorem dX2_init_32 : decode cX2_init 32 = .ok (.iconst 0, 1) := by decide +kernel
theorem dX2_init_33 : decode cX2_init 33 = .ok (.invokestatic 9, 3) := by decide +kernel
theorem dX2_init_36 : decode cX2_init 36 = .ok (.newarray .int, 2) := by decide +kernel
theorem dX2_init_38 : decode cX2_init 38 = .ok (.putfield 24, 3) := by decide +kernel
theorem dX2_init_41 : decode cX2_init 41 = .ok (.return_, 1) := by decide +kernel
theorem dX2_at_0 : decode cX2_at 0 = .ok (.iload_n 1, 1) := by decide +kernel
theorem dX2_at_1 : decode cX2_at 1 = .ok (.ifCond .lt 23, 3) := by decide +kernel
theorem dX2_at_4 : decode cX2_at 4 = .ok (.iload_n 1, 1) := by decide +kernel
theorem dX2_at_5 : decode cX2_at 5 = .ok (.aload_n 0, 1) := by decide +kernel
theorem dX2_at_6 : decode cX2_at 6 = .ok (.getfield 15, 3) := by decide +kernel
theorem dX2_at_9 : decode cX2_at 9 = .ok (.if_icmp .ge 15, 3) := by decide +kernel
theorem dX2_at_12 : decode cX2_at 12 = .ok (.iload_n 2, 1) := by decide +kernel
theorem dX2_at_13 : decode cX2_at 13 = .ok (.ifCond .lt 11, 3) := by decide +kernel
theorem dX2_at_16 : decode cX2_at 16 = .ok (.iload_n 2, 1) := by decide +kernel
theorem dX2_at_17 : decode cX2_at 17 = .ok (.aload_n 0, 1) := by decide +kernel
theorem dX2_at_18 : decode cX2_at 18 = .ok (.getfield 21, 3) := by decide +kernel
theorem dX2_at_21 : decode cX2_at 21 = .ok (.if_icmp .lt 5, 3) := by decide +kernel
theorem dX2_at_24 : decode cX2_at 24 = .ok (.iconst (-1), 1) := by decide +kernel
theorem dX2_at_25 : decode cX2_at 25 = .ok (.ireturn, 1) := by decide +kernel
theorem dX2_at_26 : decode cX2_at 26 = .ok (.aload_n 0, 1) := by decide +kernel
theorem dX2_at_27 : decode cX2_at 27 = .ok (.getfield 24, 3) := by decide +kernel
theorem dX2_at_30 : decode cX2_at 30 = .ok (.iload_n 1, 1) := by decide +kernel
theorem dX2_at_31 : decode cX2_at 31 = .ok (.aload_n 0, 1) := by decide +kernel
theorem dX2_at_32 : decode cX2_at 32 = .ok (.getfield 21, 3) := by decide +kernel
theorem dX2_at_35 : decode cX2_at 35 = .ok (.imul, 1) := by decide +kernel
theorem dX2_at_36 : decode cX2_at 36 = .ok (.iload_n 2, 1) := by decide +kernel
theorem dX2_at_37 : decode cX2_at 37 = .ok (.iadd, 1) := by decide +kernel
theorem dX2_at_38 : decode cX2_at 38 = .ok (.iaload, 1) := by decide +kernel
theorem dX2_at_39 : decode cX2_at 39 = .ok (.ireturn, 1) := by decide +kernel
theorem dX2_put_0 : decode cX2_put 0 = .ok (.iload_n 1, 1) := by decide +kernel
theorem dX2_put_1 : decode cX2_put 1 = .ok (.ifCond .lt 23, 3) := by decide +kernel
theorem dX2_put_4 : decode cX2_put 4 = .ok (.iload_n 1, 1) := by decide +kernel
theorem dX2_put_5 : decode cX2_put 5 = .ok (.aload_n 0, 1) := by decide +kernel
theorem dX2_put_6 : decode cX2_put 6 = .ok (.getfield 15, 3) := by decide +kernel
theorem dX2_put_9 : decode cX2_put 9 = .ok (.if_icmp .ge 15, 3) := by decide +kernel
theorem dX2_put_12 : decode cX2_put 12 = .ok (.iload_n 2, 1) := by decide +kernel
theorem dX2_put_13 : decode cX2_put 13 = .ok (.ifCond .lt 11, 3) := by decide +kernel
theorem dX2_put_16 : decode cX2_put 16 = .ok (.iload_n 2, 1) := by decide +kernel
theorem dX2_put_17 : decode cX2_put 17 = .ok (.aload_n 0, 1) := by decide +kernel
theorem dX2_put_18 : decode cX2_put 18 = .ok (.getfield 21, 3) := by decide +kernel
theorem dX2_put_21 : decode cX2_put 21 = .ok (.if_icmp .lt 4, 3) := by decide +kernel
theorem dX2_put_24 : decode cX2_put 24 = .ok (.return_, 1) := by decide +kernel
theorem dX2_put_25 : decode cX2_put 25 = .ok (.aload_n 0, 1) := by decide +kernel
theorem dX2_put_26 : decode cX2_put 26 = .ok (.getfield 24, 3) := by decide +kernel
theorem dX2_put_29 : decode cX2_put 29 = .ok (.iload_n 1, 1) := by decide +kernel
theorem dX2_put_30 : decode cX2_put 30 = .ok (.aload_n 0, 1) := by decide +kernel
theorem dX2_put_31 : decode cX2_put 31 = .ok (.getfield 21, 3) := by decide +kernel
theorem dX2_put_34 : decode cX2_put 34 = .ok (.imul, 1) := by decide +kernel
theorem dX2_put_35 : decode cX2_put 35 = .ok (.iload_n 2, 1) := by decide +kernel
theorem dX2_put_36 : decode cX2_put 36 = .ok (.iadd, 1) := by decide +kernel
theorem dX2_put_37 : decode cX2_put 37 = .ok (.iload_n 3, 1) := by decide +kernel
theorem dX2_put_38 : decode cX2_put 38 = .ok (.iastore, 1) := by decide +kernel
theorem dX2_put_39 : decode cX2_put 39 = .ok (.return_, 1) := by decide +kernel
theorem dX2_become_0 : decode cX2_become 0 = .ok (.aload_n 1, 1) := by decide +kernel
theorem dX2_become_1 : decode cX2_become 1 = .ok (.getfield 24, 3) := by decide +kernel
theorem dX2_become_4 : decode cX2_become 4 = .ok (.iconst 0, 1) := by decide +kernel
theorem dX2_become_5 : decode cX2_become 5 = .ok (.aload_n 0, 1) := by decide +kernel
theorem dX2_become_6 : decode cX2_become 6 = .ok (.getfield 24, 3) := by decide +kernel
theorem dX2_become_9 : decode cX2_become 9 = .ok (.iconst 0, 1) := by decide +kernel
theorem dX2_become_10 : decode cX2_become 10 = .ok (.aload_n 0, 1) := by decide +kernel
theorem dX2_become_11 : decode cX2_become 11 = .ok (.getfield 24, 3) := by decide +kernel
theorem dX2_become_14 : decode cX2_become 14 = .ok (.arraylength, 1) := by decide +kernel
theorem dX2_become_15 : decode cX2_become 15 = .ok (.aload_n 1, 1) := by decide +kernel
theorem dX2_become_16 : decode cX2_become 16 = .ok (.getfield 24, 3) := by decide +kernel
theorem dX2_become_19 : decode cX2_become 19 = .ok (.arraylength, 1) := by decide +kernel
theorem dX2_become_20 : decode cX2_become 20 = .ok (.invokestatic 34, 3) := by decide +kernel
theorem dX2_become_23 : decode cX2_become 23 = .ok (.invokestatic 28, 3) := by decide +kernel
theorem dX2_become_26 : decode cX2_become 26 = .ok (.return_, 1) := by decide +kernel
