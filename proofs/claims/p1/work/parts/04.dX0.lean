theorem dX0_init_0 : decode cX0_init 0 = .ok (.aload_n 0, 1) := by decide +kernel
theorem dX0_init_1 : decode cX0_init 1 = .ok (.invokespecial 3, 3) := by decide +kernel
theorem dX0_init_4 : decode cX0_init 4 = .ok (.aload_n 0, 1) := by decide +kernel
theorem dX0_init_5 : decode cX0_init 5 = .ok (.bipush 14, 2) := by decide +kernel
theorem dX0_init_7 : decode cX0_init 7 = .ok (.putfield 9, 3) := by decide +kernel
theorem dX0_init_10 : decode cX0_init 10 = .ok (.aload_n 0, 1) := by decide +kernel
theorem dX0_init_11 : decode cX0_init 11 = .ok (.iconst 3, 1) := by decide +kernel
theorem dX0_init_12 : decode cX0_init 12 = .ok (.putfield 15, 3) := by decide +kernel
theorem dX0_init_15 : decode cX0_init 15 = .ok (.aload_n 0, 1) := by decide +kernel
theorem dX0_init_16 : decode cX0_init 16 = .ok (.bipush 64, 2) := by decide +kernel
theorem dX0_init_18 : decode cX0_init 18 = .ok (.putfield 18, 3) := by decide +kernel
theorem dX0_init_21 : decode cX0_init 21 = .ok (.return_, 1) := by decide +kernel
theorem dX0_allows_0 : decode cX0_allows 0 = .ok (.iload_n 0, 1) := by decide +kernel
theorem dX0_allows_1 : decode cX0_allows 1 = .ok (.tableswitch 78 0 2 #[27, 44, 61], 27) := by decide +kernel
theorem dX0_allows_28 : decode cX0_allows 28 = .ok (.iconst 1, 1) := by decide +kernel
theorem dX0_allows_29 : decode cX0_allows 29 = .ok (.iload_n 1, 1) := by decide +kernel
theorem dX0_allows_30 : decode cX0_allows 30 = .ok (.if_icmp .gt 13, 3) := by decide +kernel
theorem dX0_allows_33 : decode cX0_allows 33 = .ok (.iload_n 1, 1) := by decide +kernel
theorem dX0_allows_34 : decode cX0_allows 34 = .ok (.bipush 60, 2) := by decide +kernel
theorem dX0_allows_36 : decode cX0_allows 36 = .ok (.if_icmp .gt 7, 3) := by decide +kernel
theorem dX0_allows_39 : decode cX0_allows 39 = .ok (.iconst 1, 1) := by decide +kernel
theorem dX0_allows_40 : decode cX0_allows 40 = .ok (.goto 4, 3) := by decide +kernel
theorem dX0_allows_43 : decode cX0_allows 43 = .ok (.iconst 0, 1) := by decide +kernel
theorem dX0_allows_44 : decode cX0_allows 44 = .ok (.ireturn, 1) := by decide +kernel
theorem dX0_allows_45 : decode cX0_allows 45 = .ok (.iconst 1, 1) := by decide +kernel
theorem dX0_allows_46 : decode cX0_allows 46 = .ok (.iload_n 1, 1) := by decide +kernel
theorem dX0_allows_47 : decode cX0_allows 47 = .ok (.if_icmp .gt 13, 3) := by decide +kernel
theorem dX0_allows_50 : decode cX0_allows 50 = .ok (.iload_n 1, 1) := by decide +kernel
theorem dX0_allows_51 : decode cX0_allows 51 = .ok (.bipush 20, 2) := by decide +kernel
theorem dX0_allows_53 : decode cX0_allows 53 = .ok (.if_icmp .gt 7, 3) := by decide +kernel
theorem dX0_allows_56 : decode cX0_allows 56 = .ok (.iconst 1, 1) := by decide +kernel
theorem dX0_allows_57 : decode cX0_allows 57 = .ok (.goto 4, 3) := by decide +kernel
theorem dX0_allows_60 : decode cX0_allows 60 = .ok (.iconst 0, 1) := by decide +kernel
theorem dX0_allows_61 : decode cX0_allows 61 = .ok (.ireturn, 1) := by decide +kernel
theorem dX0_allows_62 : decode cX0_allows 62 = .ok (.iconst 0, 1) := by decide +kernel
theorem dX0_allows_63 : decode cX0_allows 63 = .ok (.iload_n 1, 1) := by decide +kernel
theorem dX0_allows_64 : decode cX0_allows 64 = .ok (.if_icmp .gt 13, 3) := by decide +kernel
theorem dX0_allows_67 : decode cX0_allows 67 = .ok (.iload_n 1, 1) := by decide +kernel
theorem dX0_allows_68 : decode cX0_allows 68 = .ok (.bipush 127, 2) := by decide +kernel
theorem dX0_allows_70 : decode cX0_allows 70 = .ok (.if_icmp .gt 7, 3) := by decide +kernel
theorem dX0_allows_73 : decode cX0_allows 73 = .ok (.iconst 1, 1) := by decide +kernel
theorem dX0_allows_74 : decode cX0_allows 74 = .ok (.goto 4, 3) := by decide +kernel
theorem dX0_allows_77 : decode cX0_allows 77 = .ok (.iconst 0, 1) := by decide +kernel
theorem dX0_allows_78 : decode cX0_allows 78 = .ok (.ireturn, 1) := by decide +kernel
theorem dX0_allows_79 : decode cX0_allows 79 = .ok (.iconst 0, 1) := by decide +kernel
theorem dX0_allows_80 : decode cX0_allows 80 = .ok (.ireturn, 1) := by decide +kernel
theorem dX0_change_0 : decode cX0_change 0 = .ok (.iload_n 1, 1) := by decide +kernel
theorem dX0_change_1 : decode cX0_change 1 = .ok (.lookupswitch 51 #[(0, 27), (1, 39)], 27) := by decide +kernel
theorem dX0_change_28 : decode cX0_change 28 = .ok (.aload_n 0, 1) := by decide +kernel
theorem dX0_change_29 : decode cX0_change 29 = .ok (.getfield 9, 3) := by decide +kernel
theorem dX0_change_32 : decode cX0_change 32 = .ok (.istore_n 3, 1) := by decide +kernel
theorem dX0_change_33 : decode cX0_change 33 = .ok (.aload_n 0, 1) := by decide +kernel
theorem dX0_change_34 : decode cX0_change 34 = .ok (.iload_n 2, 1) := by decide +kernel
theorem dX0_change_35 : decode cX0_change 35 = .ok (.putfield 9, 3) := by decide +kernel
theorem dX0_change_38 : decode cX0_change 38 = .ok (.iload_n 3, 1) := by decide +kernel
theorem dX0_change_39 : decode cX0_change 39 = .ok (.ireturn, 1) := by decide +kernel
theorem dX0_change_40 : decode cX0_change 40 = .ok (.aload_n 0, 1) := by decide +kernel
theorem dX0_change_41 : decode cX0_change 41 = .ok (.getfield 15, 3) := by decide +kernel
theorem dX0_change_44 : decode cX0_change 44 = .ok (.istore_n 3, 1) := by decide +kernel
theorem dX0_change_45 : decode cX0_change 45 = .ok (.aload_n 0, 1) := by decide +kernel
theorem dX0_change_46 : decode cX0_change 46 = .ok (.iload_n 2, 1) := by decide +kernel
theorem dX0_change_47 : decode cX0_change 47 = .ok (.putfield 15, 3) := by decide +kernel
theorem dX0_change_50 : decode cX0_change 50 = .ok (.iload_n 3, 1) := by decide +kernel
theorem dX0_change_51 : decode cX0_change 51 = .ok (.ireturn, 1) := by decide +kernel
theorem dX0_change_52 : decode cX0_change 52 = .ok (.aload_n 0, 1) := by decide +kernel
theorem dX0_change_53 : decode cX0_change 53 = .ok (.getfield 18, 3) := by decide +kernel
theorem dX0_change_56 : decode cX0_change 56 = .ok (.istore_n 3, 1) := by decide +kernel
theorem dX0_change_57 : decode cX0_change 57 = .ok (.aload_n 0, 1) := by decide +kernel
theorem dX0_change_58 : decode cX0_change 58 = .ok (.iload_n 2, 1) := by decide +kernel
theorem dX0_change_59 : decode cX0_change 59 = .ok (.putfield 18, 3) := by decide +kernel
theorem dX0_change_62 : decode cX0_change 62 = .ok (.iload_n 3, 1) := by decide +kernel
theorem dX0_change_63 : decode cX0_change 63 = .ok (.ireturn, 1) := by decide +kernel
set_option maxRecDepth 20000 in
theorem ggX0_isClosed_J9_floorMod_7cf53 : GoodIn wsX0_isClosed wsJ9_floorMod_7cf53 := goodIn_r _ [5] (by decide +kernel) (by decide +kernel)
set_option maxRecDepth 20000 in
theorem gX0_isClosed_J9_floorMod_7cf53 : GoodIn wsX0_isClosed (va_wsS RX0 21 yJ9_floorMod_7cf53 wsJ9_floorMod_7cf53) := goodIn_app (goodIn_of _ (by decide +kernel)) ggX0_isClosed_J9_floorMod_7cf53
theorem dX0_isClosed_0 : decode cX0_isClosed 0 = .ok (.aload_n 0, 1) := by decide +kernel
theorem dX0_isClosed_1 : decode cX0_isClosed 1 = .ok (.getfield 18, 3) := by decide +kernel
theorem dX0_isClosed_4 : decode cX0_isClosed 4 = .ok (.iload_n 1, 1) := by decide +kernel
theorem dX0_isClosed_5 : decode cX0_isClosed 5 = .ok (.bipush 7, 2) := by decide +kernel
theorem dX0_isClosed_7 : decode cX0_isClosed 7 = .ok (.invokestatic 21, 3) := by decide +kernel
theorem dX0_isClosed_10 : decode cX0_isClosed 10 = .ok (.ishr, 1) := by decide +kernel
theorem dX0_isClosed_11 : decode cX0_isClosed 11 = .ok (.iconst 1, 1) := by decide +kernel
theorem dX0_isClosed_12 : decode cX0_isClosed 12 = .ok (.iand, 1) := by decide +kernel
theorem dX0_isClosed_13 : decode cX0_isClosed 13 = .ok (.iconst 1, 1) := by decide +kernel
theorem dX0_isClosed_14 : decode cX0_isClosed 14 = .ok (.if_icmp .ne 7, 3) := by decide +kernel
theorem dX0_isClosed_17 : decode cX0_isClosed 17 = .ok (.iconst 1, 1) := by decide +kernel
theorem dX0_isClosed_18 : decode cX0_isClosed 18 = .ok (.goto 4, 3) := by decide +kernel
theorem dX0_isClosed_21 : decode cX0_isClosed 21 = .ok (.iconst 0, 1) := by decide +kernel
theorem dX0_isClosed_22 : decode cX0_isClosed 22 = .ok (.ireturn, 1) := by decide +kernel
theorem dX0_become_0 : decode cX0_become 0 = .ok (.aload_n 0, 1) := by decide +kernel
theorem dX0_become_1 : decode cX0_become 1 = .ok (.aload_n 1, 1) := by decide +kernel
theorem dX0_become_2 : decode cX0_become 2 = .ok (.getfield 27, 3) := by decide +kernel
theorem dX0_become_5 : decode cX0_become 5 = .ok (.putfield 27, 3) := by decide +kernel
theorem dX0_become_8 : decode cX0_become 8 = .ok (.aload_n 0, 1) := by decide +kernel
theorem dX0_become_9 : decode cX0_become 9 = .ok (.aload_n 1, 1) := by decide +kernel
theorem dX0_become_10 : decode cX0_become 10 = .ok (.getfield 9, 3) := by decide +kernel
theorem dX0_become_13 : decode cX0_become 13 = .ok (.putfield 9, 3) := by decide +kernel
theorem dX0_become_16 : decode cX0_become 16 = .ok (.aload_n 0, 1) := by decide +kernel
theorem dX0_become_17 : decode cX0_become 17 = .ok (.aload_n 1, 1) := by decide +kernel
theorem dX0_become_18 : decode cX0_become 18 = .ok (.getfield 15, 3) := by decide +kernel
theorem dX0_become_21 : decode cX0_become 21 = .ok (.putfield 15, 3) := by decide +kernel
theorem dX0_become_24 : decode cX0_become 24 = .ok (.aload_n 0, 1) := by decide +kernel
theorem dX0_become_25 : decode cX0_become 25 = .ok (.aload_n 1, 1) := by decide +kernel
theorem dX0_become_26 : decode cX0_become 26 = .ok (.getfield 18, 3) := by decide +kernel
theorem dX0_become_29 : decode cX0_become 29 = .ok (.putfield 18, 3) := by decide +kernel
theorem dX0_become_32 : decode cX0_become 32 = .ok (.return_, 1) := by decide +kernel
