set_option maxRecDepth 20000 in
theorem ggX7_init_X4_init : GoodIn wsX7_init wsX4_init := goodIn_r _ [18, 19, 2, 3, 20, 21, 22, 23, 24, 25, 26, 27, 28, 29, 30, 31, 32, 33, 34, 35, 36, 37, 38, 39, 40, 41, 42, 43, 44, 45, 46, 47, 48, 49, 50, 51, 52, 53, 54, 55, 56, 57, 58, 59, 60, 61, 62, 85, 86, 87, 88, 73, 74, 75, 76, 89, 90, 91, 92, 93, 94, 95, 96] (by decide +kernel) (by decide +kernel)
set_option maxRecDepth 20000 in
theorem gX7_init_X4_init_n9 : GoodIn wsX7_init (wsX4_init) := ggX7_init_X4_init
set_option maxRecDepth 20000 in
theorem ggX7_init_X6_init : GoodIn wsX7_init wsX6_init := goodIn_r _ [65, 66, 2, 3, 67, 50, 51, 52, 68, 69, 83] (by decide +kernel) (by decide +kernel)
set_option maxRecDepth 20000 in
theorem gX7_init_X6_init : GoodIn wsX7_init (wsX6_init) := ggX7_init_X6_init
set_option maxRecDepth 20000 in
theorem ggX7_init_X5_init : GoodIn wsX7_init wsX5_init := goodIn_r _ [71, 72, 2, 3] (by decide +kernel) (by decide +kernel)
set_option maxRecDepth 20000 in
theorem gX7_init_X5_init_n30 : GoodIn wsX7_init (wsX5_init) := ggX7_init_X5_init
theorem dX7_init_0 : decode cX7_init 0 = .ok (.aload_n 0, 1) := by decide +kernel
theorem dX7_init_1 : decode cX7_init 1 = .ok (.invokespecial 1, 3) := by decide +kernel
theorem dX7_init_4 : decode cX7_init 4 = .ok (.aload_n 0, 1) := by decide +kernel
theorem dX7_init_5 : decode cX7_init 5 = .ok (.new 7, 3) := by decide +kernel
theorem dX7_init_8 : decode cX7_init 8 = .ok (.dup, 1) := by decide +kernel
theorem dX7_init_9 : decode cX7_init 9 = .ok (.invokespecial 9, 3) := by decide +kernel
theorem dX7_init_12 : decode cX7_init 12 = .ok (.putfield 10, 3) := by decide +kernel
theorem dX7_init_15 : decode cX7_init 15 = .ok (.aload_n 0, 1) := by decide +kernel
theorem dX7_init_16 : decode cX7_init 16 = .ok (.new 16, 3) := by decide +kernel
theorem dX7_init_19 : decode cX7_init 19 = .ok (.dup, 1) := by decide +kernel
theorem dX7_init_20 : decode cX7_init 20 = .ok (.bipush 8, 2) := by decide +kernel
theorem dX7_init_22 : decode cX7_init 22 = .ok (.invokespecial 18, 3) := by decide +kernel
theorem dX7_init_25 : decode cX7_init 25 = .ok (.putfield 21, 3) := by decide +kernel
theorem dX7_init_28 : decode cX7_init 28 = .ok (.aload_n 0, 1) := by decide +kernel
theorem dX7_init_29 : decode cX7_init 29 = .ok (.new 16, 3) := by decide +kernel
theorem dX7_init_32 : decode cX7_init 32 = .ok (.dup, 1) := by decide +kernel
theorem dX7_init_33 : decode cX7_init 33 = .ok (.iconst 2, 1) := by decide +kernel
theorem dX7_init_34 : decode cX7_init 34 = .ok (.invokespecial 18, 3) := by decide +kernel
theorem dX7_init_37 : decode cX7_init 37 = .ok (.putfield 25, 3) := by decide +kernel
theorem dX7_init_40 : decode cX7_init 40 = .ok (.aload_n 0, 1) := by decide +kernel
theorem dX7_init_41 : decode cX7_init 41 = .ok (.new 28, 3) := by decide +kernel
theorem dX7_init_44 : decode cX7_init 44 = .ok (.dup, 1) := by decide +kernel
theorem dX7_init_45 : decode cX7_init 45 = .ok (.invokespecial 30, 3) := by decide +kernel
theorem dX7_init_48 : decode cX7_init 48 = .ok (.putfield 31, 3) := by decide +kernel
theorem dX7_init_51 : decode cX7_init 51 = .ok (.return_, 1) := by decide +kernel
set_option maxRecDepth 20000 in
theorem ggX7_copy_X7_isBelow : GoodIn wsX7_copy wsX7_isBelow := goodIn_r _ [7] (by decide +kernel) (by decide +kernel)
set_option maxRecDepth 20000 in
theorem gX7_copy_X7_isBelow : GoodIn wsX7_copy (va_wsS RX7 35 yX7_isBelow wsX7_isBelow) := goodIn_app (goodIn_of _ (by decide +kernel)) ggX7_copy_X7_isBelow
set_option maxRecDepth 20000 in
theorem ggX7_copy_X7_remember : GoodIn wsX7_copy wsX7_remember := goodIn_r _ [11, 12, 13, 2, 14, 15, 16, 17, 18, 19, 20, 21, 22, 23, 24, 25, 26, 27, 5, 6, 7, 28, 29, 30, 31, 32, 33, 34, 35, 36, 37, 38, 39, 40, 41, 42, 43, 44, 45, 46, 47, 48, 49, 50, 51, 52, 53, 54, 55, 56, 57, 58, 59, 60, 61, 62, 63, 64, 65, 66, 67, 68, 69, 70, 71, 72, 73, 74, 75, 76, 77, 78, 79, 80, 81, 82, 83, 84, 85, 86, 87, 88, 89, 90, 91, 92, 93, 94, 95, 96, 97, 98, 99, 100, 101, 102, 103, 104, 105, 106, 107, 108, 109, 191, 192, 193, 194, 195, 196, 203, 197, 198, 199, 200, 204, 205, 206, 207, 201, 202, 208, 209, 210, 211, 212, 213] (by decide +kernel) (by decide +kernel)
set_option maxRecDepth 20000 in
theorem gX7_copy_X7_remember : GoodIn wsX7_copy (wsV RX7 51 RX7 yX7_remember wsX7_remember) := goodIn_app (goodIn_of _ (by decide +kernel)) ggX7_copy_X7_remember
set_option maxRecDepth 20000 in
theorem ggX7_copy_X4_addCopy : GoodIn wsX7_copy wsX4_addCopy := goodIn_r _ [113, 40, 114, 115, 116, 39, 117, 89, 57, 118, 119, 120, 56, 121, 65, 66, 68, 122, 123, 124, 125, 126, 127, 128, 27, 129, 44, 130, 131, 132, 43, 133, 103, 134, 135, 136, 137, 73, 138, 139, 140, 141, 142, 143, 144, 145, 146, 147, 148, 149, 150, 151, 152, 153, 154, 155, 156, 157, 158, 159, 160, 161, 162, 163, 164, 165, 166, 167, 6, 168, 169, 170, 17, 171, 15, 16, 18, 172, 173, 174, 175, 36, 79, 176, 177, 178, 179, 180, 181, 182, 183, 184, 5, 7, 185, 186, 187, 188, 35, 189, 84, 49, 190, 197, 198, 199, 200, 201, 202, 211, 212, 213, 208, 209, 210, 204, 205, 206, 207] (by decide +kernel) (by decide +kernel)
set_option maxRecDepth 20000 in
theorem gX7_copy_X4_addCopy : GoodIn wsX7_copy (wsV RX7 54 RX4 yX4_addCopy wsX4_addCopy) := goodIn_app (goodIn_of _ (by decide +kernel)) ggX7_copy_X4_addCopy
theorem dX7_copy_0 : decode cX7_copy 0 = .ok (.iload_n 1, 1) := by decide +kernel
theorem dX7_copy_1 : decode cX7_copy 1 = .ok (.bipush 6, 2) := by decide +kernel
theorem dX7_copy_3 : decode cX7_copy 3 = .ok (.invokestatic 35, 3) := by decide +kernel
theorem dX7_copy_6 : decode cX7_copy 6 = .ok (.ifCond .eq 11, 3) := by decide +kernel
theorem dX7_copy_9 : decode cX7_copy 9 = .ok (.iload_n 2, 1) := by decide +kernel
theorem dX7_copy_10 : decode cX7_copy 10 = .ok (.iconst 4, 1) := by decide +kernel
theorem dX7_copy_11 : decode cX7_copy 11 = .ok (.invokestatic 35, 3) := by decide +kernel
theorem dX7_copy_14 : decode cX7_copy 14 = .ok (.ifCond .ne 6, 3) := by decide +kernel
theorem dX7_copy_17 : decode cX7_copy 17 = .ok (.ldc 39, 2) := by decide +kernel
theorem dX7_copy_19 : decode cX7_copy 19 = .ok (.ireturn, 1) := by decide +kernel
theorem dX7_copy_20 : decode cX7_copy 20 = .ok (.aload_n 0, 1) := by decide +kernel
theorem dX7_copy_21 : decode cX7_copy 21 = .ok (.getfield 10, 3) := by decide +kernel
theorem dX7_copy_24 : decode cX7_copy 24 = .ok (.getfield 40, 3) := by decide +kernel
theorem dX7_copy_27 : decode cX7_copy 27 = .ok (.getfield 44, 3) := by decide +kernel
theorem dX7_copy_30 : decode cX7_copy 30 = .ok (.bipush 16, 2) := by decide +kernel
theorem dX7_copy_32 : decode cX7_copy 32 = .ok (.if_icmp .lt 6, 3) := by decide +kernel
theorem dX7_copy_35 : decode cX7_copy 35 = .ok (.ldc 50, 2) := by decide +kernel
theorem dX7_copy_37 : decode cX7_copy 37 = .ok (.ireturn, 1) := by decide +kernel
theorem dX7_copy_38 : decode cX7_copy 38 = .ok (.aload_n 0, 1) := by decide +kernel
theorem dX7_copy_39 : decode cX7_copy 39 = .ok (.invokevirtual 51, 3) := by decide +kernel
theorem dX7_copy_42 : decode cX7_copy 42 = .ok (.aload_n 0, 1) := by decide +kernel
theorem dX7_copy_43 : decode cX7_copy 43 = .ok (.getfield 10, 3) := by decide +kernel
theorem dX7_copy_46 : decode cX7_copy 46 = .ok (.iload_n 1, 1) := by decide +kernel
theorem dX7_copy_47 : decode cX7_copy 47 = .ok (.iload_n 2, 1) := by decide +kernel
theorem dX7_copy_48 : decode cX7_copy 48 = .ok (.invokevirtual 54, 3) := by decide +kernel
theorem dX7_copy_51 : decode cX7_copy 51 = .ok (.ireturn, 1) := by decide +kernel
set_option maxRecDepth 20000 in
theorem ggX7_lend_X7_refusalToLend : GoodIn wsX7_lend wsX7_refusalToLend := goodIn_r _ [6, 7, 1, 8, 9, 10, 11, 5, 12, 13, 14, 15, 16, 17, 18, 19, 20, 21, 22, 23, 24, 25, 26, 27, 28, 29, 30, 31, 32, 33, 34, 35, 36, 37, 38, 39, 40, 41, 42, 43, 44, 45, 46, 47, 48, 49, 50, 51, 52, 53, 54, 55, 56, 57, 58, 59, 60, 61, 62, 63, 64, 65, 66, 67, 68, 69, 70, 71, 72, 73, 74, 197, 198, 199, 200, 201, 202, 203, 204, 205, 206, 207, 208, 209, 210, 211, 212, 213, 214] (by decide +kernel) (by decide +kernel)
set_option maxRecDepth 20000 in
theorem gX7_lend_X7_refusalToLend : GoodIn wsX7_lend (wsV RX7 58 RX7 yX7_refusalToLend wsX7_refusalToLend) := goodIn_app (goodIn_of _ (by decide +kernel)) ggX7_lend_X7_refusalToLend
set_option maxRecDepth 20000 in
theorem ggX7_lend_X7_remember : GoodIn wsX7_lend wsX7_remember := goodIn_r _ [78, 79, 80, 1, 81, 82, 83, 84, 85, 86, 87, 88, 89, 90, 91, 92, 93, 19, 14, 5, 15, 94, 95, 96, 97, 98, 99, 100, 101, 102, 103, 104, 26, 21, 105, 106, 44, 22, 107, 108, 109, 110, 111, 112, 113, 114, 115, 116, 117, 32, 28, 118, 119, 120, 121, 122, 123, 124, 34, 35, 125, 36, 126, 127, 128, 129, 51, 130, 131, 132, 133, 134, 135, 136, 137, 138, 139, 140, 141, 142, 143, 144, 61, 145, 146, 147, 148, 149, 150, 151, 152, 153, 154, 155, 156, 157, 46, 158, 159, 160, 161, 162, 163, 197, 198, 199, 200, 201, 202, 215, 203, 204, 205, 206, 216, 217, 218, 219, 207, 208, 212, 213, 214, 209, 210, 211] (by decide +kernel) (by decide +kernel)
set_option maxRecDepth 20000 in
theorem gX7_lend_X7_remember : GoodIn wsX7_lend (wsV RX7 51 RX7 yX7_remember wsX7_remember) := goodIn_app (goodIn_of _ (by decide +kernel)) ggX7_lend_X7_remember
theorem dX7_lend_0 : decode cX7_lend 0 = .ok (.aload_n 0, 1) := by decide +kernel
theorem dX7_lend_1 : decode cX7_lend 1 = .ok (.iload_n 1, 1) := by decide +kernel
theorem dX7_lend_2 : decode cX7_lend 2 = .ok (.iload_n 2, 1) := by decide +kernel
theorem dX7_lend_3 : decode cX7_lend 3 = .ok (.invokevirtual 58, 3) := by decide +kernel
theorem dX7_lend_6 : decode cX7_lend 6 = .ok (.istore_n 3, 1) := by decide +kernel
theorem dX7_lend_7 : decode cX7_lend 7 = .ok (.iload_n 3, 1) := by decide +kernel
theorem dX7_lend_8 : decode cX7_lend 8 = .ok (.ifCond .eq 5, 3) := by decide +kernel
theorem dX7_lend_11 : decode cX7_lend 11 = .ok (.iload_n 3, 1) := by decide +kernel
theorem dX7_lend_12 : decode cX7_lend 12 = .ok (.ireturn, 1) := by decide +kernel
theorem dX7_lend_13 : decode cX7_lend 13 = .ok (.aload_n 0, 1) := by decide +kernel
theorem dX7_lend_14 : decode cX7_lend 14 = .ok (.invokevirtual 51, 3) := by decide +kernel
theorem dX7_lend_17 : decode cX7_lend 17 = .ok (.aload_n 0, 1) := by decide +kernel
theorem dX7_lend_18 : decode cX7_lend 18 = .ok (.getfield 10, 3) := by decide +kernel
theorem dX7_lend_21 : decode cX7_lend 21 = .ok (.iload_n 1, 1) := by decide +kernel
theorem dX7_lend_22 : decode cX7_lend 22 = .ok (.iload_n 2, 1) := by decide +kernel
theorem dX7_lend_23 : decode cX7_lend 23 = .ok (.invokevirtual 61, 3) := by decide +kernel
theorem dX7_lend_26 : decode cX7_lend 26 = .ok (.ireturn, 1) := by decide +kernel
set_option maxRecDepth 20000 in
theorem ggX7_giveBack_X7_refusalToTakeBack : GoodIn wsX7_giveBack wsX7_refusalToTakeBack := goodIn_r _ [6, 7, 1, 8, 9, 10, 11, 5, 12, 13, 14, 15, 16, 17, 18, 19, 20, 21, 22, 23, 24, 25, 26, 27, 28, 29, 205, 206, 207, 208, 209, 210, 211, 212, 213, 214, 215, 216, 217, 218, 219] (by decide +kernel) (by decide +kernel)
set_option maxRecDepth 20000 in
theorem gX7_giveBack_X7_refusalToTakeBack : GoodIn wsX7_giveBack (wsV RX7 64 RX7 yX7_refusalToTakeBack wsX7_refusalToTakeBack) := goodIn_app (goodIn_of _ (by decide +kernel)) ggX7_giveBack_X7_refusalToTakeBack
set_option maxRecDepth 20000 in
theorem ggX7_giveBack_X7_remember : GoodIn wsX7_giveBack wsX7_remember := goodIn_r _ [33, 34, 35, 1, 36, 37, 38, 39, 40, 41, 42, 43, 44, 45, 46, 47, 48, 49, 14, 5, 15, 50, 51, 52, 53, 54, 55, 56, 57, 58, 59, 60, 19, 61, 62, 63, 64, 65, 66, 67, 68, 69, 70, 71, 72, 73, 74, 75, 76, 25, 21, 77, 78, 79, 80, 81, 82, 83, 27, 28, 84, 29, 85, 86, 87, 88, 89, 90, 91, 92, 93, 94, 95, 96, 97, 98, 99, 100, 101, 102, 103, 104, 105, 106, 107, 108, 109, 110, 111, 112, 113, 114, 115, 116, 117, 118, 119, 120, 121, 122, 123, 124, 125, 205, 206, 207, 208, 209, 210, 220, 211, 212, 213, 214, 221, 222, 223, 224, 215, 216, 225, 226, 227, 217, 218, 219] (by decide +kernel) (by decide +kernel)
set_option maxRecDepth 20000 in
theorem gX7_giveBack_X7_remember : GoodIn wsX7_giveBack (wsV RX7 51 RX7 yX7_remember wsX7_remember) := goodIn_app (goodIn_of _ (by decide +kernel)) ggX7_giveBack_X7_remember
theorem dX7_giveBack_0 : decode cX7_giveBack 0 = .ok (.aload_n 0, 1) := by decide +kernel
theorem dX7_giveBack_1 : decode cX7_giveBack 1 = .ok (.iload_n 1, 1) := by decide +kernel
theorem dX7_giveBack_2 : decode cX7_giveBack 2 = .ok (.iload_n 2, 1) := by decide +kernel
theorem dX7_giveBack_3 : decode cX7_giveBack 3 = .ok (.invokevirtual 64, 3) := by decide +kernel
theorem dX7_giveBack_6 : decode cX7_giveBack 6 = .ok (.istore_n 3, 1) := by decide +kernel
theorem dX7_giveBack_7 : decode cX7_giveBack 7 = .ok (.iload_n 3, 1) := by decide +kernel
theorem dX7_giveBack_8 : decode cX7_giveBack 8 = .ok (.ifCond .eq 5, 3) := by decide +kernel
theorem dX7_giveBack_11 : decode cX7_giveBack 11 = .ok (.iload_n 3, 1) := by decide +kernel
theorem dX7_giveBack_12 : decode cX7_giveBack 12 = .ok (.ireturn, 1) := by decide +kernel
theorem dX7_giveBack_13 : decode cX7_giveBack 13 = .ok (.aload_n 0, 1) := by decide +kernel
theorem dX7_giveBack_14 : decode cX7_giveBack 14 = .ok (.invokevirtual 51, 3) := by decide +kernel
theorem dX7_giveBack_17 : decode cX7_giveBack 17 = .ok (.aload_n 0, 1) := by decide +kernel
theorem dX7_giveBack_18 : decode cX7_giveBack 18 = .ok (.getfield 10, 3) := by decide +kernel
theorem dX7_giveBack_21 : decode cX7_giveBack 21 = .ok (.iload_n 1, 1) := by decide +kernel
theorem dX7_giveBack_22 : decode cX7_giveBack 22 = .ok (.iload_n 2, 1) := by decide +kernel
theorem dX7_giveBack_23 : decode cX7_giveBack 23 = .ok (.invokevirtual 67, 3) := by decide +kernel
theorem dX7_giveBack_26 : decode cX7_giveBack 26 = .ok (.ireturn, 1) := by decide +kernel
set_option maxRecDepth 20000 in
theorem ggX7_renew_X7_isCopy : GoodIn wsX7_renew wsX7_isCopy := goodIn_r _ [8, 2, 9, 10, 7, 11, 185, 186, 187, 188, 189, 190, 191, 192, 193, 194, 195, 196] (by decide +kernel) (by decide +kernel)
set_option maxRecDepth 20000 in
theorem gX7_renew_X7_isCopy : GoodIn wsX7_renew (wsV RX7 70 RX7 yX7_isCopy wsX7_isCopy) := goodIn_app (goodIn_of _ (by decide +kernel)) ggX7_renew_X7_isCopy
set_option maxRecDepth 20000 in
theorem ggX7_renew_X3_rowLength : GoodIn wsX7_renew wsX3_rowLength := goodIn_r _ [34, 35, 36, 37, 38, 33, 39, 40, 41, 19, 20, 21, 22, 23, 24, 25, 200, 201, 202, 197, 198, 199] (by decide +kernel) (by decide +kernel)
set_option maxRecDepth 20000 in
theorem gX7_renew_X3_rowLength : GoodIn wsX7_renew (wsV RX7 85 RX3 yX3_rowLength wsX3_rowLength) := goodIn_app (goodIn_of _ (by decide +kernel)) ggX7_renew_X3_rowLength
set_option maxRecDepth 20000 in
theorem ggX7_renew_X7_remember : GoodIn wsX7_renew wsX7_remember := goodIn_r _ [45, 46, 47, 2, 48, 49, 50, 51, 52, 53, 54, 55, 56, 57, 58, 59, 60, 61, 10, 7, 11, 62, 63, 64, 65, 66, 67, 68, 69, 70, 71, 72, 15, 73, 74, 75, 33, 76, 77, 78, 79, 80, 81, 82, 83, 84, 85, 86, 87, 21, 17, 88, 89, 90, 91, 92, 93, 94, 23, 24, 95, 25, 96, 97, 98, 99, 40, 100, 101, 102, 103, 104, 105, 106, 107, 108, 109, 110, 111, 112, 113, 114, 115, 116, 117, 118, 119, 120, 121, 122, 123, 124, 125, 126, 127, 128, 35, 129, 130, 131, 132, 133, 134, 185, 186, 187, 188, 189, 190, 203, 191, 192, 193, 194, 204, 205, 206, 207, 195, 196, 200, 201, 202, 197, 198, 199] (by decide +kernel) (by decide +kernel)
set_option maxRecDepth 20000 in
theorem gX7_renew_X7_remember : GoodIn wsX7_renew (wsV RX7 51 RX7 yX7_remember wsX7_remember) := goodIn_app (goodIn_of _ (by decide +kernel)) ggX7_renew_X7_remember
theorem dX7_renew_0 : decode cX7_renew 0 = .ok (.aload_n 0, 1) := by decide +kernel
theorem dX7_renew_1 : decode cX7_renew 1 = .ok (.iload_n 1, 1) := by decide +kernel
theorem dX7_renew_2 : decode cX7_renew 2 = .ok (.invokevirtual 70, 3) := by decide +kernel
theorem dX7_renew_5 : decode cX7_renew 5 = .ok (.ifCond .ne 6, 3) := by decide +kernel
theorem dX7_renew_8 : decode cX7_renew 8 = .ok (.ldc 39, 2) := by decide +kernel
theorem dX7_renew_10 : decode cX7_renew 10 = .ok (.ireturn, 1) := by decide +kernel
theorem dX7_renew_11 : decode cX7_renew 11 = .ok (.aload_n 0, 1) := by decide +kernel
theorem dX7_renew_12 : decode cX7_renew 12 = .ok (.getfield 10, 3) := by decide +kernel
theorem dX7_renew_15 : decode cX7_renew 15 = .ok (.getfield 40, 3) := by decide +kernel
theorem dX7_renew_18 : decode cX7_renew 18 = .ok (.iload_n 1, 1) := by decide +kernel
theorem dX7_renew_19 : decode cX7_renew 19 = .ok (.invokevirtual 74, 3) := by decide +kernel
theorem dX7_renew_22 : decode cX7_renew 22 = .ok (.iconst 1, 1) := by decide +kernel
theorem dX7_renew_23 : decode cX7_renew 23 = .ok (.if_icmp .ne 27, 3) := by decide +kernel
theorem dX7_renew_26 : decode cX7_renew 26 = .ok (.aload_n 0, 1) := by decide +kernel
theorem dX7_renew_27 : decode cX7_renew 27 = .ok (.getfield 10, 3) := by decide +kernel
theorem dX7_renew_30 : decode cX7_renew 30 = .ok (.getfield 78, 3) := by decide +kernel
theorem dX7_renew_33 : decode cX7_renew 33 = .ok (.aload_n 0, 1) := by decide +kernel
theorem dX7_renew_34 : decode cX7_renew 34 = .ok (.getfield 10, 3) := by decide +kernel
theorem dX7_renew_37 : decode cX7_renew 37 = .ok (.getfield 40, 3) := by decide +kernel
theorem dX7_renew_40 : decode cX7_renew 40 = .ok (.iload_n 1, 1) := by decide +kernel
theorem dX7_renew_41 : decode cX7_renew 41 = .ok (.invokevirtual 82, 3) := by decide +kernel
theorem dX7_renew_44 : decode cX7_renew 44 = .ok (.invokevirtual 85, 3) := by decide +kernel
theorem dX7_renew_47 : decode cX7_renew 47 = .ok (.ifCond .le 6, 3) := by decide +kernel
theorem dX7_renew_50 : decode cX7_renew 50 = .ok (.ldc 90, 2) := by decide +kernel
theorem dX7_renew_52 : decode cX7_renew 52 = .ok (.ireturn, 1) := by decide +kernel
theorem dX7_renew_53 : decode cX7_renew 53 = .ok (.aload_n 0, 1) := by decide +kernel
theorem dX7_renew_54 : decode cX7_renew 54 = .ok (.invokevirtual 51, 3) := by decide +kernel
theorem dX7_renew_57 : decode cX7_renew 57 = .ok (.aload_n 0, 1) := by decide +kernel
theorem dX7_renew_58 : decode cX7_renew 58 = .ok (.getfield 10, 3) := by decide +kernel
theorem dX7_renew_61 : decode cX7_renew 61 = .ok (.iload_n 1, 1) := by decide +kernel
theorem dX7_renew_62 : decode cX7_renew 62 = .ok (.invokevirtual 91, 3) := by decide +kernel
theorem dX7_renew_65 : decode cX7_renew 65 = .ok (.ireturn, 1) := by decide +kernel
set_option maxRecDepth 20000 in
theorem ggX7_lose_X7_isCopy : GoodIn wsX7_lose wsX7_isCopy := goodIn_r _ [8, 2, 9, 10, 7, 11, 201, 202, 203, 204, 205, 206, 207, 208, 209, 210, 211, 212] (by decide +kernel) (by decide +kernel)
set_option maxRecDepth 20000 in
theorem gX7_lose_X7_isCopy : GoodIn wsX7_lose (wsV RX7 70 RX7 yX7_isCopy wsX7_isCopy) := goodIn_app (goodIn_of _ (by decide +kernel)) ggX7_lose_X7_isCopy
set_option maxRecDepth 20000 in
theorem ggX7_lose_X7_remember : GoodIn wsX7_lose wsX7_remember := goodIn_r _ [29, 30, 31, 2, 32, 33, 34, 35, 36, 37, 38, 39, 40, 41, 42, 43, 44, 45, 10, 7, 11, 46, 47, 48, 49, 50, 51, 52, 53, 54, 55, 56, 15, 57, 58, 59, 60, 61, 62, 63, 64, 65, 66, 67, 68, 69, 70, 71, 72, 21, 17, 73, 74, 75, 76, 77, 78, 79, 23, 24, 80, 25, 81, 82, 83, 84, 85, 86, 87, 88, 89, 90, 91, 92, 93, 94, 95, 96, 97, 98, 99, 100, 101, 102, 103, 104, 105, 106, 107, 108, 109, 110, 111, 112, 113, 114, 115, 116, 117, 118, 119, 120, 121, 201, 202, 203, 204, 205, 206, 216, 207, 208, 209, 210, 217, 218, 219, 220, 211, 212, 221, 222, 223, 213, 214, 215] (by decide +kernel) (by decide +kernel)
set_option maxRecDepth 20000 in
theorem gX7_lose_X7_remember : GoodIn wsX7_lose (wsV RX7 51 RX7 yX7_remember wsX7_remember) := goodIn_app (goodIn_of _ (by decide +kernel)) ggX7_lose_X7_remember
theorem dX7_lose_0 : decode cX7_lose 0 = .ok (.aload_n 0, 1) := by decide +kernel
theorem dX7_lose_1 : decode cX7_lose 1 = .ok (.iload_n 1, 1) := by decide +kernel
theorem dX7_lose_2 : decode cX7_lose 2 = .ok (.invokevirtual 70, 3) := by decide +kernel
theorem dX7_lose_5 : decode cX7_lose 5 = .ok (.ifCond .ne 6, 3) := by decide +kernel
theorem dX7_lose_8 : decode cX7_lose 8 = .ok (.ldc 39, 2) := by decide +kernel
theorem dX7_lose_10 : decode cX7_lose 10 = .ok (.ireturn, 1) := by decide +kernel
theorem dX7_lose_11 : decode cX7_lose 11 = .ok (.aload_n 0, 1) := by decide +kernel
theorem dX7_lose_12 : decode cX7_lose 12 = .ok (.getfield 10, 3) := by decide +kernel
theorem dX7_lose_15 : decode cX7_lose 15 = .ok (.getfield 40, 3) := by decide +kernel
theorem dX7_lose_18 : decode cX7_lose 18 = .ok (.iload_n 1, 1) := by decide +kernel
theorem dX7_lose_19 : decode cX7_lose 19 = .ok (.invokevirtual 74, 3) := by decide +kernel
theorem dX7_lose_22 : decode cX7_lose 22 = .ok (.iconst 4, 1) := by decide +kernel
theorem dX7_lose_23 : decode cX7_lose 23 = .ok (.if_icmp .ne 6, 3) := by decide +kernel
theorem dX7_lose_26 : decode cX7_lose 26 = .ok (.ldc 90, 2) := by decide +kernel
theorem dX7_lose_28 : decode cX7_lose 28 = .ok (.ireturn, 1) := by decide +kernel
theorem dX7_lose_29 : decode cX7_lose 29 = .ok (.aload_n 0, 1) := by decide +kernel
theorem dX7_lose_30 : decode cX7_lose 30 = .ok (.invokevirtual 51, 3) := by decide +kernel
theorem dX7_lose_33 : decode cX7_lose 33 = .ok (.aload_n 0, 1) := by decide +kernel
theorem dX7_lose_34 : decode cX7_lose 34 = .ok (.getfield 10, 3) := by decide +kernel
theorem dX7_lose_37 : decode cX7_lose 37 = .ok (.iload_n 1, 1) := by decide +kernel
theorem dX7_lose_38 : decode cX7_lose 38 = .ok (.invokevirtual 94, 3) := by decide +kernel
theorem dX7_lose_41 : decode cX7_lose 41 = .ok (.ireturn, 1) := by decide +kernel
set_option maxRecDepth 20000 in
theorem ggX7_hold_X7_refusalToHold : GoodIn wsX7_hold wsX7_refusalToHold := goodIn_r _ [6, 7, 8, 1, 9, 10, 11, 12, 5, 13, 14, 15, 16, 17, 18, 19, 20, 21, 22, 23, 24, 25, 26, 27, 28, 29, 30, 31, 32, 33, 34, 35, 36, 37, 38, 39, 40, 41, 42, 43, 44, 45, 46, 47, 48, 49, 50, 51, 52, 53, 54, 55, 56, 57, 58, 59, 60, 61, 62, 63, 64, 224, 225, 226, 227, 228, 229, 230, 231, 232, 233, 234, 235, 236, 237, 238, 239, 240, 241] (by decide +kernel) (by decide +kernel)
set_option maxRecDepth 20000 in
theorem gX7_hold_X7_refusalToHold : GoodIn wsX7_hold (wsV RX7 97 RX7 yX7_refusalToHold wsX7_refusalToHold) := goodIn_app (goodIn_of _ (by decide +kernel)) ggX7_hold_X7_refusalToHold
set_option maxRecDepth 20000 in
theorem ggX7_hold_X7_remember : GoodIn wsX7_hold wsX7_remember := goodIn_r _ [68, 69, 70, 1, 71, 72, 73, 74, 75, 76, 77, 78, 79, 80, 81, 82, 83, 84, 12, 5, 13, 85, 86, 87, 88, 89, 90, 91, 92, 93, 94, 95, 17, 96, 97, 98, 52, 99, 100, 101, 102, 103, 104, 105, 106, 107, 108, 109, 110, 32, 28, 111, 112, 113, 114, 115, 116, 117, 34, 35, 118, 36, 119, 120, 121, 122, 59, 123, 124, 125, 126, 127, 128, 129, 130, 131, 132, 133, 134, 135, 136, 137, 19, 138, 139, 140, 141, 142, 143, 144, 145, 146, 147, 148, 149, 150, 54, 151, 152, 153, 154, 155, 156, 224, 225, 226, 227, 228, 229, 242, 230, 231, 232, 233, 243, 244, 245, 246, 237, 238, 234, 235, 236, 239, 240, 241] (by decide +kernel) (by decide +kernel)
set_option maxRecDepth 20000 in
theorem gX7_hold_X7_remember : GoodIn wsX7_hold (wsV RX7 51 RX7 yX7_remember wsX7_remember) := goodIn_app (goodIn_of _ (by decide +kernel)) ggX7_hold_X7_remember
set_option maxRecDepth 20000 in
theorem ggX7_hold_X4_addHold : GoodIn wsX7_hold wsX4_addHold := goodIn_r _ [160, 99, 93, 161, 162, 163, 52, 164, 151, 59, 54, 165, 166, 167, 32, 168, 34, 35, 36, 169, 170, 171, 84, 172, 96, 173, 174, 175, 176, 177, 178, 179, 180, 60, 30, 31, 33, 181, 182, 183, 184, 185, 186, 187, 188, 189, 190, 191, 17, 192, 19, 45, 46, 47, 48, 28, 29, 24, 25, 26, 27, 193, 194, 195, 196, 197, 5, 198, 199, 200, 74, 201, 72, 73, 75, 202, 203, 204, 205, 128, 206, 207, 208, 209, 210, 211, 212, 213, 214, 12, 13, 215, 216, 217, 92, 218, 133, 104, 219, 220, 221, 222, 223, 230, 231, 232, 233, 243, 244, 245, 246, 234, 235, 236, 239, 240, 241, 237, 238] (by decide +kernel) (by decide +kernel)
set_option maxRecDepth 20000 in
theorem gX7_hold_X4_addHold : GoodIn wsX7_hold (wsV RX7 101 RX4 yX4_addHold wsX4_addHold) := goodIn_app (goodIn_of _ (by decide +kernel)) ggX7_hold_X4_addHold
theorem dX7_hold_0 : decode cX7_hold 0 = .ok (.aload_n 0, 1) := by decide +kernel
theorem dX7_hold_1 : decode cX7_hold 1 = .ok (.iload_n 1, 1) := by decide +kernel
theorem dX7_hold_2 : decode cX7_hold 2 = .ok (.iload_n 2, 1) := by decide +kernel
theorem dX7_hold_3 : decode cX7_hold 3 = .ok (.iload_n 3, 1) := by decide +kernel
theorem dX7_hold_4 : decode cX7_hold 4 = .ok (.iload 4, 2) := by decide +kernel
theorem dX7_hold_6 : decode cX7_hold 6 = .ok (.invokevirtual 97, 3) := by decide +kernel
theorem dX7_hold_9 : decode cX7_hold 9 = .ok (.istore 5, 2) := by decide +kernel
theorem dX7_hold_11 : decode cX7_hold 11 = .ok (.iload 5, 2) := by decide +kernel
theorem dX7_hold_13 : decode cX7_hold 13 = .ok (.ifCond .eq 6, 3) := by decide +kernel
theorem dX7_hold_16 : decode cX7_hold 16 = .ok (.iload 5, 2) := by decide +kernel
theorem dX7_hold_18 : decode cX7_hold 18 = .ok (.ireturn, 1) := by decide +kernel
theorem dX7_hold_19 : decode cX7_hold 19 = .ok (.aload_n 0, 1) := by decide +kernel
theorem dX7_hold_20 : decode cX7_hold 20 = .ok (.invokevirtual 51, 3) := by decide +kernel
theorem dX7_hold_23 : decode cX7_hold 23 = .ok (.aload_n 0, 1) := by decide +kernel
theorem dX7_hold_24 : decode cX7_hold 24 = .ok (.getfield 10, 3) := by decide +kernel
theorem dX7_hold_27 : decode cX7_hold 27 = .ok (.iload_n 1, 1) := by decide +kernel
theorem dX7_hold_28 : decode cX7_hold 28 = .ok (.iload_n 2, 1) := by decide +kernel
theorem dX7_hold_29 : decode cX7_hold 29 = .ok (.iload_n 3, 1) := by decide +kernel
theorem dX7_hold_30 : decode cX7_hold 30 = .ok (.iload 4, 2) := by decide +kernel
theorem dX7_hold_32 : decode cX7_hold 32 = .ok (.invokevirtual 101, 3) := by decide +kernel
theorem dX7_hold_35 : decode cX7_hold 35 = .ok (.ireturn, 1) := by decide +kernel
set_option maxRecDepth 20000 in
theorem ggX7_giveUp_X3_slotOf : GoodIn wsX7_giveUp wsX3_slotOf := goodIn_r _ [7, 8, 9, 10, 11, 6, 12, 13, 14, 15, 16, 17, 18, 19, 20, 21, 211, 212, 213, 214, 215, 216] (by decide +kernel) (by decide +kernel)
set_option maxRecDepth 20000 in
theorem gX7_giveUp_X3_slotOf : GoodIn wsX7_giveUp (wsV RX7 104 RX3 yX3_slotOf wsX3_slotOf) := goodIn_app (goodIn_of _ (by decide +kernel)) ggX7_giveUp_X3_slotOf
set_option maxRecDepth 20000 in
theorem ggX7_giveUp_X7_remember : GoodIn wsX7_giveUp wsX7_remember := goodIn_r _ [26, 27, 28, 1, 29, 30, 31, 32, 33, 34, 35, 36, 37, 38, 39, 40, 41, 42, 43, 25, 44, 45, 46, 47, 48, 49, 50, 51, 52, 53, 54, 55, 56, 57, 58, 59, 6, 60, 61, 62, 63, 64, 65, 66, 67, 68, 69, 70, 71, 17, 72, 73, 74, 75, 76, 77, 78, 79, 19, 20, 80, 21, 81, 82, 83, 84, 13, 85, 86, 87, 88, 89, 90, 91, 92, 93, 94, 95, 96, 97, 98, 99, 100, 101, 102, 103, 104, 105, 106, 107, 108, 109, 110, 111, 112, 113, 8, 114, 115, 116, 117, 118, 119, 201, 202, 203, 204, 205, 206, 217, 207, 208, 209, 210, 218, 219, 220, 221, 222, 223, 211, 212, 213, 214, 215, 216] (by decide +kernel) (by decide +kernel)
set_option maxRecDepth 20000 in
theorem gX7_giveUp_X7_remember : GoodIn wsX7_giveUp (wsV RX7 51 RX7 yX7_remember wsX7_remember) := goodIn_app (goodIn_of _ (by decide +kernel)) ggX7_giveUp_X7_remember
theorem dX7_giveUp_0 : decode cX7_giveUp 0 = .ok (.aload_n 0, 1) := by decide +kernel
theorem dX7_giveUp_1 : decode cX7_giveUp 1 = .ok (.getfield 10, 3) := by decide +kernel
theorem dX7_giveUp_4 : decode cX7_giveUp 4 = .ok (.getfield 78, 3) := by decide +kernel
theorem dX7_giveUp_7 : decode cX7_giveUp 7 = .ok (.iload_n 1, 1) := by decide +kernel
theorem dX7_giveUp_8 : decode cX7_giveUp 8 = .ok (.invokevirtual 104, 3) := by decide +kernel
theorem dX7_giveUp_11 : decode cX7_giveUp 11 = .ok (.istore_n 2, 1) := by decide +kernel
theorem dX7_giveUp_12 : decode cX7_giveUp 12 = .ok (.iload_n 2, 1) := by decide +kernel
theorem dX7_giveUp_13 : decode cX7_giveUp 13 = .ok (.iconst (-1), 1) := by decide +kernel
theorem dX7_giveUp_14 : decode cX7_giveUp 14 = .ok (.if_icmp .ne 6, 3) := by decide +kernel
theorem dX7_giveUp_17 : decode cX7_giveUp 17 = .ok (.ldc 39, 2) := by decide +kernel
theorem dX7_giveUp_19 : decode cX7_giveUp 19 = .ok (.ireturn, 1) := by decide +kernel
theorem dX7_giveUp_20 : decode cX7_giveUp 20 = .ok (.aload_n 0, 1) := by decide +kernel
theorem dX7_giveUp_21 : decode cX7_giveUp 21 = .ok (.invokevirtual 51, 3) := by decide +kernel
theorem dX7_giveUp_24 : decode cX7_giveUp 24 = .ok (.aload_n 0, 1) := by decide +kernel
theorem dX7_giveUp_25 : decode cX7_giveUp 25 = .ok (.getfield 10, 3) := by decide +kernel
theorem dX7_giveUp_28 : decode cX7_giveUp 28 = .ok (.iload_n 2, 1) := by decide +kernel
theorem dX7_giveUp_29 : decode cX7_giveUp 29 = .ok (.invokevirtual 107, 3) := by decide +kernel
theorem dX7_giveUp_32 : decode cX7_giveUp 32 = .ok (.ireturn, 1) := by decide +kernel
set_option maxRecDepth 20000 in
theorem ggX7_pass_X7_remember : GoodIn wsX7_pass wsX7_remember := goodIn_r _ [8, 9, 10, 2, 11, 12, 13, 14, 15, 16, 17, 18, 19, 20, 21, 22, 23, 24, 25, 7, 26, 27, 28, 29, 30, 31, 32, 33, 34, 35, 36, 37, 38, 39, 40, 41, 42, 43, 44, 45, 46, 47, 48, 49, 50, 51, 52, 53, 54, 55, 56, 57, 58, 59, 60, 61, 62, 63, 64, 65, 66, 67, 68, 69, 70, 71, 72, 73, 74, 75, 76, 77, 78, 79, 80, 81, 82, 83, 84, 85, 86, 87, 88, 89, 90, 91, 92, 93, 94, 95, 96, 97, 98, 99, 100, 101, 102, 103, 104, 105, 106, 107, 108, 211, 212, 213, 214, 215, 216, 225, 217, 218, 219, 220, 221, 222, 223, 224, 226, 227, 228, 229, 230, 231, 232, 233] (by decide +kernel) (by decide +kernel)
set_option maxRecDepth 20000 in
theorem gX7_pass_X7_remember : GoodIn wsX7_pass (wsV RX7 51 RX7 yX7_remember wsX7_remember) := goodIn_app (goodIn_of _ (by decide +kernel)) ggX7_pass_X7_remember
set_option maxRecDepth 20000 in
theorem ggX7_pass_X4_dayPasses : GoodIn wsX7_pass wsX4_dayPasses := goodIn_r _ [112, 35, 78, 39, 113, 114, 115, 24, 116, 43, 117, 118, 119, 38, 120, 56, 121, 122, 123, 55, 124, 64, 65, 67, 125, 126, 127, 128, 129, 130, 131, 132, 133, 134, 135, 136, 137, 138, 139, 34, 140, 83, 48, 141, 142, 143, 144, 145, 146, 147, 148, 149, 150, 151, 42, 152, 102, 153, 154, 155, 156, 72, 157, 158, 159, 160, 161, 25, 7, 26, 162, 163, 164, 165, 94, 95, 96, 97, 166, 167, 168, 169, 170, 171, 172, 173, 174, 175, 176, 177, 178, 179, 180, 181, 182, 183, 184, 185, 186, 187, 188, 189, 88, 190, 191, 192, 193, 194, 195, 196, 197, 198, 199, 14, 200, 12, 13, 15, 201, 202, 203, 204, 205, 206, 207, 208, 209, 210, 217, 218, 219, 220, 221, 222, 223, 224, 226, 227, 231, 232, 233, 228, 229, 230] (by decide +kernel) (by decide +kernel)
set_option maxRecDepth 20000 in
theorem gX7_pass_X4_dayPasses : GoodIn wsX7_pass (wsV RX7 120 RX4 yX4_dayPasses wsX4_dayPasses) := goodIn_app (goodIn_of _ (by decide +kernel)) ggX7_pass_X4_dayPasses
theorem dX7_pass_0 : decode cX7_pass 0 = .ok (.iload_n 1, 1) := by decide +kernel
theorem dX7_pass_1 : decode cX7_pass 1 = .ok (.iconst 1, 1) := by decide +kernel
theorem dX7_pass_2 : decode cX7_pass 2 = .ok (.if_icmp .lt 9, 3) := by decide +kernel
theorem dX7_pass_5 : decode cX7_pass 5 = .ok (.iload_n 1, 1) := by decide +kernel
theorem dX7_pass_6 : decode cX7_pass 6 = .ok (.bipush 30, 2) := by decide +kernel
theorem dX7_pass_8 : decode cX7_pass 8 = .ok (.if_icmp .le 6, 3) := by decide +kernel
theorem dX7_pass_11 : decode cX7_pass 11 = .ok (.ldc 110, 2) := by decide +kernel
theorem dX7_pass_13 : decode cX7_pass 13 = .ok (.ireturn, 1) := by decide +kernel
theorem dX7_pass_14 : decode cX7_pass 14 = .ok (.aload_n 0, 1) := by decide +kernel
theorem dX7_pass_15 : decode cX7_pass 15 = .ok (.getfield 10, 3) := by decide +kernel
theorem dX7_pass_18 : decode cX7_pass 18 = .ok (.getfield 111, 3) := by decide +kernel
theorem dX7_pass_21 : decode cX7_pass 21 = .ok (.getfield 115, 3) := by decide +kernel
theorem dX7_pass_24 : decode cX7_pass 24 = .ok (.iload_n 1, 1) := by decide +kernel
theorem dX7_pass_25 : decode cX7_pass 25 = .ok (.iadd, 1) := by decide +kernel
theorem dX7_pass_26 : decode cX7_pass 26 = .ok (.sipush 9999, 3) := by decide +kernel
theorem dX7_pass_29 : decode cX7_pass 29 = .ok (.if_icmp .le 6, 3) := by decide +kernel
theorem dX7_pass_32 : decode cX7_pass 32 = .ok (.ldc 90, 2) := by decide +kernel
theorem dX7_pass_34 : decode cX7_pass 34 = .ok (.ireturn, 1) := by decide +kernel
theorem dX7_pass_35 : decode cX7_pass 35 = .ok (.aload_n 0, 1) := by decide +kernel
theorem dX7_pass_36 : decode cX7_pass 36 = .ok (.invokevirtual 51, 3) := by decide +kernel
theorem dX7_pass_39 : decode cX7_pass 39 = .ok (.iconst 0, 1) := by decide +kernel
theorem dX7_pass_40 : decode cX7_pass 40 = .ok (.istore_n 2, 1) := by decide +kernel
theorem dX7_pass_41 : decode cX7_pass 41 = .ok (.iload_n 2, 1) := by decide +kernel
theorem dX7_pass_42 : decode cX7_pass 42 = .ok (.iload_n 1, 1) := by decide +kernel
theorem dX7_pass_43 : decode cX7_pass 43 = .ok (.if_icmp .ge 16, 3) := by decide +kernel
theorem dX7_pass_46 : decode cX7_pass 46 = .ok (.aload_n 0, 1) := by decide +kernel
theorem dX7_pass_47 : decode cX7_pass 47 = .ok (.getfield 10, 3) := by decide +kernel
theorem dX7_pass_50 : decode cX7_pass 50 = .ok (.invokevirtual 120, 3) := by decide +kernel
theorem dX7_pass_53 : decode cX7_pass 53 = .ok (.iinc 2 1, 3) := by decide +kernel
theorem dX7_pass_56 : decode cX7_pass 56 = .ok (.goto (-15), 3) := by decide +kernel
theorem dX7_pass_59 : decode cX7_pass 59 = .ok (.aload_n 0, 1) := by decide +kernel
theorem dX7_pass_60 : decode cX7_pass 60 = .ok (.getfield 10, 3) := by decide +kernel
theorem dX7_pass_63 : decode cX7_pass 63 = .ok (.getfield 111, 3) := by decide +kernel
theorem dX7_pass_66 : decode cX7_pass 66 = .ok (.getfield 115, 3) := by decide +kernel
theorem dX7_pass_69 : decode cX7_pass 69 = .ok (.ireturn, 1) := by decide +kernel
set_option maxRecDepth 20000 in
theorem ggX7_set_X0_allows : GoodIn wsX7_set wsX0_allows := goodIn_r _ [6] (by decide +kernel) (by decide +kernel)
set_option maxRecDepth 20000 in
theorem gX7_set_X0_allows : GoodIn wsX7_set (va_wsS RX7 123 yX0_allows wsX0_allows) := goodIn_app (goodIn_of _ (by decide +kernel)) ggX7_set_X0_allows
set_option maxRecDepth 20000 in
theorem ggX7_set_X7_remember : GoodIn wsX7_set wsX7_remember := goodIn_r _ [11, 12, 13, 2, 14, 15, 16, 17, 18, 19, 20, 21, 22, 23, 24, 25, 26, 27, 28, 10, 29, 30, 31, 32, 33, 34, 35, 36, 5, 37, 38, 39, 40, 41, 42, 43, 44, 45, 46, 47, 48, 49, 50, 51, 52, 53, 54, 55, 56, 57, 58, 59, 60, 61, 62, 63, 64, 65, 66, 67, 68, 69, 70, 71, 72, 73, 74, 75, 76, 77, 78, 79, 80, 81, 82, 83, 84, 85, 86, 87, 88, 89, 90, 91, 92, 93, 94, 95, 96, 97, 98, 99, 100, 101, 102, 103, 104, 105, 106, 107, 108, 109, 110, 115, 116, 117, 118, 119, 120, 125, 121, 122, 123, 124, 126, 127, 128, 129, 130, 131, 132, 133, 134, 135, 136, 137] (by decide +kernel) (by decide +kernel)
set_option maxRecDepth 20000 in
theorem gX7_set_X7_remember : GoodIn wsX7_set (wsV RX7 51 RX7 yX7_remember wsX7_remember) := goodIn_app (goodIn_of _ (by decide +kernel)) ggX7_set_X7_remember
set_option maxRecDepth 20000 in
theorem ggX7_set_X0_change : GoodIn wsX7_set wsX0_change := goodIn_r _ [114, 49, 50, 51, 126, 127, 128, 129] (by decide +kernel) (by decide +kernel)
set_option maxRecDepth 20000 in
theorem gX7_set_X0_change : GoodIn wsX7_set (wsV RX7 126 RX0 yX0_change wsX0_change) := goodIn_app (goodIn_of _ (by decide +kernel)) ggX7_set_X0_change
theorem dX7_set_0 : decode cX7_set 0 = .ok (.iload_n 1, 1) := by decide +kernel
theorem dX7_set_1 : decode cX7_set 1 = .ok (.iload_n 2, 1) := by decide +kernel
theorem dX7_set_2 : decode cX7_set 2 = .ok (.invokestatic 123, 3) := by decide +kernel
theorem dX7_set_5 : decode cX7_set 5 = .ok (.ifCond .ne 6, 3) := by decide +kernel
theorem dX7_set_8 : decode cX7_set 8 = .ok (.ldc 110, 2) := by decide +kernel
theorem dX7_set_10 : decode cX7_set 10 = .ok (.ireturn, 1) := by decide +kernel
theorem dX7_set_11 : decode cX7_set 11 = .ok (.aload_n 0, 1) := by decide +kernel
theorem dX7_set_12 : decode cX7_set 12 = .ok (.invokevirtual 51, 3) := by decide +kernel
theorem dX7_set_15 : decode cX7_set 15 = .ok (.aload_n 0, 1) := by decide +kernel
theorem dX7_set_16 : decode cX7_set 16 = .ok (.getfield 10, 3) := by decide +kernel
theorem dX7_set_19 : decode cX7_set 19 = .ok (.getfield 111, 3) := by decide +kernel
theorem dX7_set_22 : decode cX7_set 22 = .ok (.iload_n 1, 1) := by decide +kernel
theorem dX7_set_23 : decode cX7_set 23 = .ok (.iload_n 2, 1) := by decide +kernel
theorem dX7_set_24 : decode cX7_set 24 = .ok (.invokevirtual 126, 3) := by decide +kernel
theorem dX7_set_27 : decode cX7_set 27 = .ok (.ireturn, 1) := by decide +kernel
set_option maxRecDepth 20000 in
theorem ggX7_drift_X7_remember : GoodIn wsX7_drift wsX7_remember := goodIn_r _ [9, 10, 11, 4, 12, 13, 14, 15, 16, 17, 18, 19, 20, 21, 22, 23, 24, 25, 26, 8, 27, 28, 29, 30, 31, 32, 33, 34, 35, 36, 37, 38, 39, 40, 41, 42, 43, 44, 45, 46, 47, 48, 49, 50, 51, 52, 53, 54, 55, 56, 57, 58, 59, 60, 61, 62, 63, 64, 65, 66, 67, 68, 69, 70, 71, 72, 73, 74, 75, 76, 77, 78, 79, 80, 81, 82, 83, 84, 85, 86, 87, 88, 89, 90, 91, 92, 93, 94, 95, 96, 97, 98, 99, 100, 101, 102, 103, 104, 105, 106, 107, 108, 109, 326, 327, 328, 329, 330, 331, 340, 332, 333, 334, 335, 336, 337, 338, 339, 341, 342, 343, 344, 345, 346, 347, 348] (by decide +kernel) (by decide +kernel)
set_option maxRecDepth 20000 in
theorem gX7_drift_X7_remember : GoodIn wsX7_drift (wsV RX7 51 RX7 yX7_remember wsX7_remember) := goodIn_app (goodIn_of _ (by decide +kernel)) ggX7_drift_X7_remember
set_option maxRecDepth 20000 in
theorem ggX7_drift_X5_begin : GoodIn wsX7_drift wsX5_begin := goodIn_r _ [114, 115, 349] (by decide +kernel) (by decide +kernel)
set_option maxRecDepth 20000 in
theorem gX7_drift_X5_begin : GoodIn wsX7_drift (wsV RX7 130 RX5 yX5_begin wsX5_begin) := goodIn_app (goodIn_of _ (by decide +kernel)) ggX7_drift_X5_begin
set_option maxRecDepth 20000 in
theorem ggX7_drift_X5_below : GoodIn wsX7_drift wsX5_below := goodIn_r _ [119, 115, 120, 121, 349] (by decide +kernel) (by decide +kernel)
set_option maxRecDepth 20000 in
theorem gX7_drift_X5_below : GoodIn wsX7_drift (wsV RX7 133 RX5 yX5_below wsX5_below) := goodIn_app (goodIn_of _ (by decide +kernel)) ggX7_drift_X5_below
set_option maxRecDepth 20000 in
theorem ggX7_drift_X7_drawHold : GoodIn wsX7_drift wsX7_drawHold := goodIn_r _ [125, 3, 4, 116, 117, 118, 113, 119, 115, 120, 121, 126, 127, 128, 8, 129, 130, 2, 131, 132, 133, 26, 27, 134, 135, 136, 39, 137, 89, 138, 139, 140, 141, 142, 143, 144, 145, 57, 146, 147, 148, 56, 149, 65, 66, 68, 150, 151, 152, 153, 154, 155, 156, 157, 158, 159, 160, 161, 162, 163, 164, 43, 165, 103, 166, 167, 168, 169, 73, 170, 171, 172, 173, 174, 175, 176, 177, 25, 178, 44, 36, 179, 180, 181, 182, 104, 183, 184, 185, 186, 187, 188, 189, 190, 40, 191, 192, 193, 194, 195, 196, 197, 198, 199, 200, 201, 202, 203, 204, 205, 206, 207, 208, 209, 210, 211, 212, 213, 214, 215, 216, 217, 218, 15, 219, 13, 14, 16, 220, 221, 222, 223, 79, 224, 225, 226, 227, 228, 229, 230, 231, 232, 233, 234, 235, 35, 236, 84, 49, 237, 238, 239, 240, 241, 326, 327, 328, 329, 330, 331, 349, 332, 333, 334, 335, 343, 344, 345, 341, 342, 346, 347, 348, 336, 337, 338, 339] (by decide +kernel) (by decide +kernel)
set_option maxRecDepth 20000 in
theorem gX7_drift_X7_drawHold : GoodIn wsX7_drift (wsV RX7 136 RX7 yX7_drawHold wsX7_drawHold) := goodIn_app (goodIn_of _ (by decide +kernel)) ggX7_drift_X7_drawHold
set_option maxRecDepth 20000 in
theorem ggX7_drift_X7_drawLending : GoodIn wsX7_drift wsX7_drawLending := goodIn_r _ [245, 4, 3, 116, 117, 118, 113, 119, 115, 120, 121, 246, 247, 248, 8, 249, 130, 131, 250, 251, 252, 253, 133, 26, 27, 254, 255, 256, 25, 257, 40, 44, 258, 143, 144, 39, 145, 57, 146, 147, 148, 56, 149, 65, 66, 68, 259, 151, 152, 153, 260, 261, 262, 43, 263, 103, 264, 226, 227, 228, 73, 170, 265, 167, 168, 169, 134, 135, 136, 137, 89, 138, 139, 140, 141, 142, 150, 266, 267, 268, 269, 270, 271, 272, 273, 274, 275, 276, 36, 277, 278, 279, 280, 281, 282, 283, 284, 95, 96, 97, 98, 285, 286, 287, 35, 288, 84, 48, 289, 290, 291, 292, 50, 293, 107, 108, 109, 224, 212, 213, 214, 237, 238, 239, 240, 241, 184, 185, 186, 326, 327, 328, 329, 330, 331, 332, 333, 334, 335, 341, 342, 349, 346, 347, 348, 343, 344, 345, 336, 337, 338, 339] (by decide +kernel) (by decide +kernel)
set_option maxRecDepth 20000 in
theorem gX7_drift_X7_drawLending : GoodIn wsX7_drift (wsV RX7 139 RX7 yX7_drawLending wsX7_drawLending) := goodIn_app (goodIn_of _ (by decide +kernel)) ggX7_drift_X7_drawLending
set_option maxRecDepth 20000 in
theorem ggX7_drift_X7_drawGivingBack : GoodIn wsX7_drift wsX7_drawGivingBack := goodIn_r _ [297, 4, 3, 116, 117, 118, 113, 119, 115, 120, 121, 298, 299, 300, 8, 301, 130, 131, 250, 251, 252, 253, 133, 26, 27, 302, 143, 144, 39, 145, 57, 146, 147, 148, 56, 149, 65, 66, 68, 303, 304, 305, 25, 306, 40, 36, 307, 63, 15, 64, 308, 309, 310, 311, 312, 14, 16, 142, 313, 314, 315, 316, 237, 238, 239, 240, 241, 184, 185, 186, 187, 188, 189, 190, 44, 191, 192, 193, 43, 194, 103, 195, 196, 197, 198, 73, 170, 199, 200, 201, 202, 203, 204, 205, 206, 207, 208, 209, 210, 89, 158, 159, 160, 161, 211, 212, 213, 214, 215, 216, 217, 218, 219, 13, 220, 221, 222, 223, 79, 224, 225, 226, 227, 228, 229, 230, 231, 232, 183, 233, 234, 235, 35, 236, 84, 49, 326, 327, 328, 329, 330, 331, 332, 333, 334, 335, 341, 342, 349, 346, 347, 348, 336, 337, 338, 339, 343, 344, 345] (by decide +kernel) (by decide +kernel)
set_option maxRecDepth 20000 in
theorem gX7_drift_X7_drawGivingBack : GoodIn wsX7_drift (wsV RX7 142 RX7 yX7_drawGivingBack wsX7_drawGivingBack) := goodIn_app (goodIn_of _ (by decide +kernel)) ggX7_drift_X7_drawGivingBack
set_option maxRecDepth 20000 in
theorem ggX7_drift_X4_dayPasses : GoodIn wsX7_drift wsX4_dayPasses := goodIn_r _ [320, 36, 79, 40, 321, 322, 323, 25, 324, 44, 258, 143, 144, 39, 145, 57, 146, 147, 148, 56, 149, 65, 66, 68, 325, 314, 315, 316, 224, 212, 213, 214, 259, 151, 152, 153, 233, 234, 235, 35, 236, 84, 49, 237, 238, 239, 240, 241, 184, 185, 186, 260, 261, 262, 43, 263, 103, 264, 226, 227, 228, 73, 170, 277, 278, 279, 280, 26, 8, 27, 281, 282, 283, 284, 95, 96, 97, 98, 187, 188, 189, 190, 191, 192, 193, 194, 195, 196, 197, 198, 199, 200, 201, 202, 203, 204, 205, 206, 207, 208, 209, 210, 89, 158, 159, 160, 161, 142, 211, 215, 216, 217, 218, 15, 219, 13, 14, 16, 220, 221, 222, 223, 225, 229, 230, 231, 232, 183, 332, 333, 334, 335, 336, 337, 338, 339, 341, 342, 346, 347, 348, 343, 344, 345] (by decide +kernel) (by decide +kernel)
set_option maxRecDepth 20000 in
theorem gX7_drift_X4_dayPasses : GoodIn wsX7_drift (wsV RX7 120 RX4 yX4_dayPasses wsX4_dayPasses) := goodIn_app (goodIn_of _ (by decide +kernel)) ggX7_drift_X4_dayPasses
theorem dX7_drift_0 : decode cX7_drift 0 = .ok (.iload_n 1, 1) := by decide +kernel
theorem dX7_drift_1 : decode cX7_drift 1 = .ok (.iconst 1, 1) := by decide +kernel
theorem dX7_drift_2 : decode cX7_drift 2 = .ok (.if_icmp .lt 20, 3) := by decide +kernel
theorem dX7_drift_5 : decode cX7_drift 5 = .ok (.iload_n 1, 1) := by decide +kernel
theorem dX7_drift_6 : decode cX7_drift 6 = .ok (.bipush 20, 2) := by decide +kernel
theorem dX7_drift_8 : decode cX7_drift 8 = .ok (.if_icmp .gt 14, 3) := by decide +kernel
theorem dX7_drift_11 : decode cX7_drift 11 = .ok (.iload_n 2, 1) := by decide +kernel
theorem dX7_drift_12 : decode cX7_drift 12 = .ok (.iconst 1, 1) := by decide +kernel
theorem dX7_drift_13 : decode cX7_drift 13 = .ok (.if_icmp .lt 9, 3) := by decide +kernel
theorem dX7_drift_16 : decode cX7_drift 16 = .ok (.iload_n 2, 1) := by decide +kernel
theorem dX7_drift_17 : decode cX7_drift 17 = .ok (.ldc 129, 2) := by decide +kernel
theorem dX7_drift_19 : decode cX7_drift 19 = .ok (.if_icmp .le 6, 3) := by decide +kernel
theorem dX7_drift_22 : decode cX7_drift 22 = .ok (.ldc 110, 2) := by decide +kernel
theorem dX7_drift_24 : decode cX7_drift 24 = .ok (.ireturn, 1) := by decide +kernel
theorem dX7_drift_25 : decode cX7_drift 25 = .ok (.aload_n 0, 1) := by decide +kernel
theorem dX7_drift_26 : decode cX7_drift 26 = .ok (.invokevirtual 51, 3) := by decide +kernel
theorem dX7_drift_29 : decode cX7_drift 29 = .ok (.aload_n 0, 1) := by decide +kernel
theorem dX7_drift_30 : decode cX7_drift 30 = .ok (.getfield 31, 3) := by decide +kernel
theorem dX7_drift_33 : decode cX7_drift 33 = .ok (.iload_n 2, 1) := by decide +kernel
theorem dX7_drift_34 : decode cX7_drift 34 = .ok (.invokevirtual 130, 3) := by decide +kernel
theorem dX7_drift_37 : decode cX7_drift 37 = .ok (.iconst 0, 1) := by decide +kernel
theorem dX7_drift_38 : decode cX7_drift 38 = .ok (.istore_n 3, 1) := by decide +kernel
theorem dX7_drift_39 : decode cX7_drift 39 = .ok (.iload_n 3, 1) := by decide +kernel
theorem dX7_drift_40 : decode cX7_drift 40 = .ok (.iload_n 1, 1) := by decide +kernel
theorem dX7_drift_41 : decode cX7_drift 41 = .ok (.if_icmp .ge 73, 3) := by decide +kernel
theorem dX7_drift_44 : decode cX7_drift 44 = .ok (.aload_n 0, 1) := by decide +kernel
theorem dX7_drift_45 : decode cX7_drift 45 = .ok (.getfield 31, 3) := by decide +kernel
theorem dX7_drift_48 : decode cX7_drift 48 = .ok (.iconst 4, 1) := by decide +kernel
theorem dX7_drift_49 : decode cX7_drift 49 = .ok (.invokevirtual 133, 3) := by decide +kernel
theorem dX7_drift_52 : decode cX7_drift 52 = .ok (.tableswitch 49 0 2 #[28, 35, 42], 28) := by decide +kernel
theorem dX7_drift_80 : decode cX7_drift 80 = .ok (.aload_n 0, 1) := by decide +kernel
theorem dX7_drift_81 : decode cX7_drift 81 = .ok (.invokevirtual 136, 3) := by decide +kernel
theorem dX7_drift_84 : decode cX7_drift 84 = .ok (.goto 24, 3) := by decide +kernel
theorem dX7_drift_87 : decode cX7_drift 87 = .ok (.aload_n 0, 1) := by decide +kernel
theorem dX7_drift_88 : decode cX7_drift 88 = .ok (.invokevirtual 139, 3) := by decide +kernel
theorem dX7_drift_91 : decode cX7_drift 91 = .ok (.goto 17, 3) := by decide +kernel
theorem dX7_drift_94 : decode cX7_drift 94 = .ok (.aload_n 0, 1) := by decide +kernel
theorem dX7_drift_95 : decode cX7_drift 95 = .ok (.invokevirtual 142, 3) := by decide +kernel
theorem dX7_drift_98 : decode cX7_drift 98 = .ok (.goto 10, 3) := by decide +kernel
theorem dX7_drift_101 : decode cX7_drift 101 = .ok (.aload_n 0, 1) := by decide +kernel
theorem dX7_drift_102 : decode cX7_drift 102 = .ok (.getfield 10, 3) := by decide +kernel
theorem dX7_drift_105 : decode cX7_drift 105 = .ok (.invokevirtual 120, 3) := by decide +kernel
theorem dX7_drift_108 : decode cX7_drift 108 = .ok (.iinc 3 1, 3) := by decide +kernel
theorem dX7_drift_111 : decode cX7_drift 111 = .ok (.goto (-72), 3) := by decide +kernel
theorem dX7_drift_114 : decode cX7_drift 114 = .ok (.aload_n 0, 1) := by decide +kernel
theorem dX7_drift_115 : decode cX7_drift 115 = .ok (.getfield 10, 3) := by decide +kernel
theorem dX7_drift_118 : decode cX7_drift 118 = .ok (.getfield 111, 3) := by decide +kernel
theorem dX7_drift_121 : decode cX7_drift 121 = .ok (.getfield 115, 3) := by decide +kernel
theorem dX7_drift_124 : decode cX7_drift 124 = .ok (.ireturn, 1) := by decide +kernel
set_option maxRecDepth 20000 in
theorem ggX7_undo_J9_floorMod_7cf53 : GoodIn wsX7_undo wsJ9_floorMod_7cf53 := goodIn_r _ [9] (by decide +kernel) (by decide +kernel)
set_option maxRecDepth 20000 in
theorem gX7_undo_J9_floorMod_7cf53 : GoodIn wsX7_undo (va_wsS RX7 151 yJ9_floorMod_7cf53 wsJ9_floorMod_7cf53) := goodIn_app (goodIn_of _ (by decide +kernel)) ggX7_undo_J9_floorMod_7cf53
theorem dX7_undo_0 : decode cX7_undo 0 = .ok (.aload_n 0, 1) := by decide +kernel
theorem dX7_undo_1 : decode cX7_undo 1 = .ok (.getfield 145, 3) := by decide +kernel
theorem dX7_undo_4 : decode cX7_undo 4 = .ok (.ifCond .gt 6, 3) := by decide +kernel
theorem dX7_undo_7 : decode cX7_undo 7 = .ok (.ldc 90, 2) := by decide +kernel
theorem dX7_undo_9 : decode cX7_undo 9 = .ok (.ireturn, 1) := by decide +kernel
theorem dX7_undo_10 : decode cX7_undo 10 = .ok (.aload_n 0, 1) := by decide +kernel
theorem dX7_undo_11 : decode cX7_undo 11 = .ok (.dup, 1) := by decide +kernel
theorem dX7_undo_12 : decode cX7_undo 12 = .ok (.getfield 145, 3) := by decide +kernel
theorem dX7_undo_15 : decode cX7_undo 15 = .ok (.iconst 1, 1) := by decide +kernel
theorem dX7_undo_16 : decode cX7_undo 16 = .ok (.isub, 1) := by decide +kernel
theorem dX7_undo_17 : decode cX7_undo 17 = .ok (.putfield 145, 3) := by decide +kernel
theorem dX7_undo_20 : decode cX7_undo 20 = .ok (.aload_n 0, 1) := by decide +kernel
theorem dX7_undo_21 : decode cX7_undo 21 = .ok (.aload_n 0, 1) := by decide +kernel
theorem dX7_undo_22 : decode cX7_undo 22 = .ok (.getfield 148, 3) := by decide +kernel
theorem dX7_undo_25 : decode cX7_undo 25 = .ok (.iconst 1, 1) := by decide +kernel
theorem dX7_undo_26 : decode cX7_undo 26 = .ok (.isub, 1) := by decide +kernel
theorem dX7_undo_27 : decode cX7_undo 27 = .ok (.bipush 8, 2) := by decide +kernel
theorem dX7_undo_29 : decode cX7_undo 29 = .ok (.invokestatic 151, 3) := by decide +kernel
theorem dX7_undo_32 : decode cX7_undo 32 = .ok (.putfield 148, 3) := by decide +kernel
theorem dX7_undo_35 : decode cX7_undo 35 = .ok (.aload_n 0, 1) := by decide +kernel
theorem dX7_undo_36 : decode cX7_undo 36 = .ok (.getfield 21, 3) := by decide +kernel
theorem dX7_undo_39 : decode cX7_undo 39 = .ok (.aload_n 0, 1) := by decide +kernel
theorem dX7_undo_40 : decode cX7_undo 40 = .ok (.getfield 148, 3) := by decide +kernel
theorem dX7_undo_43 : decode cX7_undo 43 = .ok (.aload_n 0, 1) := by decide +kernel
theorem dX7_undo_44 : decode cX7_undo 44 = .ok (.getfield 10, 3) := by decide +kernel
theorem dX7_undo_47 : decode cX7_undo 47 = .ok (.invokevirtual 156, 3) := by decide +kernel
theorem dX7_undo_50 : decode cX7_undo 50 = .ok (.aload_n 0, 1) := by decide +kernel
theorem dX7_undo_51 : decode cX7_undo 51 = .ok (.getfield 145, 3) := by decide +kernel
theorem dX7_undo_54 : decode cX7_undo 54 = .ok (.ireturn, 1) := by decide +kernel
set_option maxRecDepth 20000 in
theorem ggX7_told_X1_thatAre : GoodIn wsX7_told wsX1_thatAre := goodIn_r _ [8, 9, 10, 11, 12, 7, 13, 14, 15, 16, 17, 18, 19, 20, 21, 22, 74, 75, 79, 80, 81] (by decide +kernel) (by decide +kernel)
set_option maxRecDepth 20000 in
theorem gX7_told_X1_thatAre : GoodIn wsX7_told (wsV RX7 169 RX1 yX1_thatAre wsX1_thatAre) := goodIn_app (goodIn_of _ (by decide +kernel)) ggX7_told_X1_thatAre
set_option maxRecDepth 20000 in
theorem ggX7_told_X3_waiting : GoodIn wsX7_told wsX3_waiting := goodIn_r _ [27, 28, 29, 30, 31, 26, 32, 33, 34, 16, 17, 18, 19, 20, 21, 22, 76, 77, 78, 79, 80, 81] (by decide +kernel) (by decide +kernel)
set_option maxRecDepth 20000 in
theorem gX7_told_X3_waiting : GoodIn wsX7_told (wsV RX7 173 RX3 yX3_waiting wsX3_waiting) := goodIn_app (goodIn_of _ (by decide +kernel)) ggX7_told_X3_waiting
set_option maxRecDepth 20000 in
theorem ggX7_told_J6_bitCount_0f7a4 : GoodIn wsX7_told wsJ6_bitCount_0f7a4 := goodIn_r _ [38, 39, 40, 41] (by decide +kernel) (by decide +kernel)
set_option maxRecDepth 20000 in
theorem gX7_told_J6_bitCount_0f7a4 : GoodIn wsX7_told (va_wsS RX7 180 yJ6_bitCount_0f7a4 wsJ6_bitCount_0f7a4) := goodIn_app (goodIn_of _ (by decide +kernel)) ggX7_told_J6_bitCount_0f7a4
set_option maxRecDepth 20000 in
theorem ggX7_told_X1_overdue : GoodIn wsX7_told wsX1_overdue := goodIn_r _ [45, 9, 10, 11, 12, 7, 13, 14, 15, 16, 17, 18, 19, 20, 21, 22, 46, 47, 48, 49, 74, 75, 79, 80, 81] (by decide +kernel) (by decide +kernel)
set_option maxRecDepth 20000 in
theorem gX7_told_X1_overdue : GoodIn wsX7_told (wsV RX7 185 RX1 yX1_overdue wsX1_overdue) := goodIn_app (goodIn_of _ (by decide +kernel)) ggX7_told_X1_overdue
set_option maxRecDepth 20000 in
theorem ggX7_told_X0_isClosed : GoodIn wsX7_told wsX0_isClosed := goodIn_r _ [54, 55, 56, 57, 58, 59, 70, 71, 72, 73] (by decide +kernel) (by decide +kernel)
set_option maxRecDepth 20000 in
theorem gX7_told_X0_isClosed : GoodIn wsX7_told (wsV RX7 188 RX0 yX0_isClosed wsX0_isClosed) := goodIn_app (goodIn_of _ (by decide +kernel)) ggX7_told_X0_isClosed
theorem dX7_told_0 : decode cX7_told 0 = .ok (.iload_n 1, 1) := by decide +kernel
theorem dX7_told_1 : decode cX7_told 1 = .ok (.tableswitch 282 0 15 #[79, 90, 101, 112, 123, 134, 146, 158, 170, 182, 194, 205, 216, 227, 248, 277], 79) := by decide +kernel
theorem dX7_told_80 : decode cX7_told 80 = .ok (.aload_n 0, 1) := by decide +kernel
theorem dX7_told_81 : decode cX7_told 81 = .ok (.getfield 10, 3) := by decide +kernel
theorem dX7_told_84 : decode cX7_told 84 = .ok (.getfield 111, 3) := by decide +kernel
theorem dX7_told_87 : decode cX7_told 87 = .ok (.getfield 115, 3) := by decide +kernel
theorem dX7_told_90 : decode cX7_told 90 = .ok (.ireturn, 1) := by decide +kernel
theorem dX7_told_91 : decode cX7_told 91 = .ok (.aload_n 0, 1) := by decide +kernel
theorem dX7_told_92 : decode cX7_told 92 = .ok (.getfield 10, 3) := by decide +kernel
theorem dX7_told_95 : decode cX7_told 95 = .ok (.getfield 111, 3) := by decide +kernel
theorem dX7_told_98 : decode cX7_told 98 = .ok (.getfield 160, 3) := by decide +kernel
theorem dX7_told_101 : decode cX7_told 101 = .ok (.ireturn, 1) := by decide +kernel
theorem dX7_told_102 : decode cX7_told 102 = .ok (.aload_n 0, 1) := by decide +kernel
theorem dX7_told_103 : decode cX7_told 103 = .ok (.getfield 10, 3) := by decide +kernel
theorem dX7_told_106 : decode cX7_told 106 = .ok (.getfield 111, 3) := by decide +kernel
theorem dX7_told_109 : decode cX7_told 109 = .ok (.getfield 163, 3) := by decide +kernel
theorem dX7_told_112 : decode cX7_told 112 = .ok (.ireturn, 1) := by decide +kernel
theorem dX7_told_113 : decode cX7_told 113 = .ok (.aload_n 0, 1) := by decide +kernel
theorem dX7_told_114 : decode cX7_told 114 = .ok (.getfield 10, 3) := by decide +kernel
theorem dX7_told_117 : decode cX7_told 117 = .ok (.getfield 111, 3) := by decide +kernel
theorem dX7_told_120 : decode cX7_told 120 = .ok (.getfield 166, 3) := by decide +kernel
theorem dX7_told_123 : decode cX7_told 123 = .ok (.ireturn, 1) := by decide +kernel
theorem dX7_told_124 : decode cX7_told 124 = .ok (.aload_n 0, 1) := by decide +kernel
theorem dX7_told_125 : decode cX7_told 125 = .ok (.getfield 10, 3) := by decide +kernel
theorem dX7_told_128 : decode cX7_told 128 = .ok (.getfield 40, 3) := by decide +kernel
theorem dX7_told_131 : decode cX7_told 131 = .ok (.getfield 44, 3) := by decide +kernel
theorem dX7_told_134 : decode cX7_told 134 = .ok (.ireturn, 1) := by decide +kernel
theorem dX7_told_135 : decode cX7_told 135 = .ok (.aload_n 0, 1) := by decide +kernel
theorem dX7_told_136 : decode cX7_told 136 = .ok (.getfield 10, 3) := by decide +kernel
theorem dX7_told_139 : decode cX7_told 139 = .ok (.getfield 40, 3) := by decide +kernel
theorem dX7_told_142 : decode cX7_told 142 = .ok (.iconst 0, 1) := by decide +kernel
theorem dX7_told_143 : decode cX7_told 143 = .ok (.invokevirtual 169, 3) := by decide +kernel
theorem dX7_told_146 : decode cX7_told 146 = .ok (.ireturn, 1) := by decide +kernel
theorem dX7_told_147 : decode cX7_told 147 = .ok (.aload_n 0, 1) := by decide +kernel
theorem dX7_told_148 : decode cX7_told 148 = .ok (.getfield 10, 3) := by decide +kernel
theorem dX7_told_151 : decode cX7_told 151 = .ok (.getfield 40, 3) := by decide +kernel
theorem dX7_told_154 : decode cX7_told 154 = .ok (.iconst 1, 1) := by decide +kernel
theorem dX7_told_155 : decode cX7_told 155 = .ok (.invokevirtual 169, 3) := by decide +kernel
theorem dX7_told_158 : decode cX7_told 158 = .ok (.ireturn, 1) := by decide +kernel
theorem dX7_told_159 : decode cX7_told 159 = .ok (.aload_n 0, 1) := by decide +kernel
theorem dX7_told_160 : decode cX7_told 160 = .ok (.getfield 10, 3) := by decide +kernel
theorem dX7_told_163 : decode cX7_told 163 = .ok (.getfield 40, 3) := by decide +kernel
theorem dX7_told_166 : decode cX7_told 166 = .ok (.iconst 2, 1) := by decide +kernel
theorem dX7_told_167 : decode cX7_told 167 = .ok (.invokevirtual 169, 3) := by decide +kernel
theorem dX7_told_170 : decode cX7_told 170 = .ok (.ireturn, 1) := by decide +kernel
theorem dX7_told_171 : decode cX7_told 171 = .ok (.aload_n 0, 1) := by decide +kernel
theorem dX7_told_172 : decode cX7_told 172 = .ok (.getfield 10, 3) := by decide +kernel
theorem dX7_told_175 : decode cX7_told 175 = .ok (.getfield 40, 3) := by decide +kernel
theorem dX7_told_178 : decode cX7_told 178 = .ok (.iconst 3, 1) := by decide +kernel
theorem dX7_told_179 : decode cX7_told 179 = .ok (.invokevirtual 169, 3) := by decide +kernel
theorem dX7_told_182 : decode cX7_told 182 = .ok (.ireturn, 1) := by decide +kernel
theorem dX7_told_183 : decode cX7_told 183 = .ok (.aload_n 0, 1) := by decide +kernel
theorem dX7_told_184 : decode cX7_told 184 = .ok (.getfield 10, 3) := by decide +kernel
theorem dX7_told_187 : decode cX7_told 187 = .ok (.getfield 40, 3) := by decide +kernel
theorem dX7_told_190 : decode cX7_told 190 = .ok (.iconst 4, 1) := by decide +kernel
theorem dX7_told_191 : decode cX7_told 191 = .ok (.invokevirtual 169, 3) := by decide +kernel
theorem dX7_told_194 : decode cX7_told 194 = .ok (.ireturn, 1) := by decide +kernel
theorem dX7_told_195 : decode cX7_told 195 = .ok (.aload_n 0, 1) := by decide +kernel
theorem dX7_told_196 : decode cX7_told 196 = .ok (.getfield 10, 3) := by decide +kernel
theorem dX7_told_199 : decode cX7_told 199 = .ok (.getfield 78, 3) := by decide +kernel
theorem dX7_told_202 : decode cX7_told 202 = .ok (.getfield 172, 3) := by decide +kernel
theorem dX7_told_205 : decode cX7_told 205 = .ok (.ireturn, 1) := by decide +kernel
theorem dX7_told_206 : decode cX7_told 206 = .ok (.aload_n 0, 1) := by decide +kernel
theorem dX7_told_207 : decode cX7_told 207 = .ok (.getfield 10, 3) := by decide +kernel
theorem dX7_told_210 : decode cX7_told 210 = .ok (.getfield 78, 3) := by decide +kernel
theorem dX7_told_213 : decode cX7_told 213 = .ok (.invokevirtual 173, 3) := by decide +kernel
theorem dX7_told_216 : decode cX7_told 216 = .ok (.ireturn, 1) := by decide +kernel
theorem dX7_told_217 : decode cX7_told 217 = .ok (.aload_n 0, 1) := by decide +kernel
