set_option maxHeartbeats 4000000 in
set_option maxRecDepth 100000 in
theorem c_X8_in (l : Launch) (D : va_G) (sz : Nat) (v lo hi : Int64) : mI l yX8_in wsX8_in (rk 0 0 0) D [.long v, .long lo, .long hi] [] sz [] (S := Unit) (fun r _ => (r = 1 ∧ lo ≤ v ∧ v ≤ hi) ∨ (r = 0 ∧ ¬ (lo ≤ v ∧ v ≤ hi))) (fun _ => []) (fun _ => []) := by
  refine mI_of (cc := cX8_in) (maxL := 6) (ty := .boolean) (plainFor_of_name (by decide)) rfl (Nat.le_of_ble_eq_true rfl) ?_
  intro pp ee ss mm bl mt cd AA QQ hx hb hml hts hown hN hA hK hP hD hS hret ls hl
  have hl : lv_has ls 6 [(0, .long v), (2, .long lo), (4, .long hi)] := hl
  refine lv_lload_n hx hb dX8_in_0 rfl (lv_at hl 0 rfl) ?_
  refine lv_lload_n hx hb dX8_in_1 rfl (lv_at hl 1 rfl) ?_
  refine W.lcmp hx hb dX8_in_2 ?_
  refine lv_if_lt (tgt := 17) hx hb dX8_in_3 (by decide) (fun zc3 => ?_) (fun zc3 => ?_)
  · refine lv_iconst (v := 0) hx hb dX8_in_17 (by decide) ?_
    exact hret 0 () rfl (Or.inr ⟨rfl, in_3 zc3⟩) hP (hK.sub [] rfl) hD hS (Nat.le_of_ble_eq_true rfl) (Nat.le_of_ble_eq_true rfl) dX8_in_18
  · refine lv_lload_n hx hb dX8_in_6 rfl (lv_at hl 0 rfl) ?_
    refine lv_lload hx hb dX8_in_7 (lv_at hl 2 rfl) ?_
    refine W.lcmp hx hb dX8_in_9 ?_
    refine lv_if_gt (tgt := 17) hx hb dX8_in_10 (by decide) (fun zc10 => ?_) (fun zc10 => ?_)
    · refine lv_iconst (v := 0) hx hb dX8_in_17 (by decide) ?_
      exact hret 0 () rfl (Or.inr ⟨rfl, in_4 zc10⟩) hP (hK.sub [] rfl) hD hS (Nat.le_of_ble_eq_true rfl) (Nat.le_of_ble_eq_true rfl) dX8_in_18
    · refine lv_iconst (v := 1) hx hb dX8_in_13 (by decide) ?_
      refine lv_goto (tgt := 18) hx hb dX8_in_14 (by decide) ?_
      exact hret 1 () rfl (Or.inl ⟨rfl, in_1 zc3, in_2 zc10⟩) hP (hK.sub [] rfl) hD hS (Nat.le_of_ble_eq_true rfl) (Nat.le_of_ble_eq_true rfl) dX8_in_18
set_option maxHeartbeats 4000000 in
set_option maxRecDepth 100000 in
theorem c_X8_isBranch (l : Launch) (D : va_G) (sz : Nat) (x : Int32) : mI l yX8_isBranch wsX8_isBranch (rk 1 0 0) D [.int x] [] sz [] (S := Unit) (fun r _ => (r = 1 ∧ ok x 4) ∨ (r = 0 ∧ ¬ ok x 4)) (fun _ => []) (fun _ => []) := by
  refine mI_of (cc := cX8_isBranch) (maxL := 1) (ty := .boolean) (plainFor_of_name (by decide)) rfl (Nat.le_of_ble_eq_true rfl) ?_
  intro pp ee ss mm bl mt cd AA QQ hx hb hml hts hown hN hA hK hP hD hS hret ls hl
  have hl : lv_has ls 1 [(0, .int x)] := hl
  refine lv_iload_n hx hb dX8_isBranch_0 rfl (lv_at hl 0 rfl) ?_
  refine lv_i2l (v := (x.toInt64)) hx hb dX8_isBranch_1 (rfl) ?_
  refine lv_lconst (v := 0) hx hb dX8_isBranch_2 (by decide) ?_
  refine lv_ldc2 hx hb hown (hts (.constantLong RX8 27 (3)) (List.mem_of_getElem? (i := 1) rfl)) dX8_isBranch_3 ?_
  refine k_pi (va_runS (As := [.long (x.toInt64), .long 0, .long 3]) (rest := []) ⟨hx, hb, hml, hown, hts⟩ (c_X8_in l D ss.heap.size (x.toInt64) 0 3 ) (va_cwS 3 hts gX8_isBranch_X8_in rfl rfl rfl (by decide +kernel) ⟨(Nat.le_of_ble_eq_true rfl), (Nat.le_of_ble_eq_true rfl)⟩) ⟨mP_blind, m_pre _ hN hK hP hD [] rfl [] rfl (by decide)⟩ rfl rfl hl.1 rfl (lv_room (Nat.le_of_ble_eq_true rfl)) dX8_isBranch_6 ⟨(Nat.le_of_ble_eq_true rfl), (Nat.le_of_ble_eq_true rfl)⟩) hP hD hS hA [] rfl (fun r268 u H locs hw hP hS => ?_)
  rcases hw with ⟨rfl, zw6⟩ | ⟨rfl, zw6⟩
  · exact hret 1 () rfl (Or.inl ⟨rfl, (l_ok (by decide)).mp zw6⟩) hP (hK.sub [] rfl) hD hS (Nat.le_of_ble_eq_true rfl) (Nat.le_of_ble_eq_true rfl) dX8_isBranch_9
  · exact hret 0 () rfl (Or.inr ⟨rfl, fun q => zw6 ((l_ok (by decide)).mpr q)⟩) hP (hK.sub [] rfl) hD hS (Nat.le_of_ble_eq_true rfl) (Nat.le_of_ble_eq_true rfl) dX8_isBranch_9
set_option maxHeartbeats 4000000 in
set_option maxRecDepth 100000 in
theorem c_X8_isTitle (l : Launch) (D : va_G) (sz : Nat) (x : Int32) : mI l yX8_isTitle wsX8_isTitle (rk 1 0 0) D [.int x] [] sz [] (S := Unit) (fun r _ => (r = 1 ∧ ok x 6) ∨ (r = 0 ∧ ¬ ok x 6)) (fun _ => []) (fun _ => []) := by
  refine mI_of (cc := cX8_isTitle) (maxL := 1) (ty := .boolean) (plainFor_of_name (by decide)) rfl (Nat.le_of_ble_eq_true rfl) ?_
  intro pp ee ss mm bl mt cd AA QQ hx hb hml hts hown hN hA hK hP hD hS hret ls hl
  have hl : lv_has ls 1 [(0, .int x)] := hl
  refine lv_iload_n hx hb dX8_isTitle_0 rfl (lv_at hl 0 rfl) ?_
  refine lv_i2l (v := (x.toInt64)) hx hb dX8_isTitle_1 (rfl) ?_
  refine lv_lconst (v := 0) hx hb dX8_isTitle_2 (by decide) ?_
  refine lv_ldc2 hx hb hown (hts (.constantLong RX8 29 (5)) (List.mem_of_getElem? (i := 1) rfl)) dX8_isTitle_3 ?_
  refine k_pi (va_runS (As := [.long (x.toInt64), .long 0, .long 5]) (rest := []) ⟨hx, hb, hml, hown, hts⟩ (c_X8_in l D ss.heap.size (x.toInt64) 0 5 ) (va_cwS 3 hts gX8_isTitle_X8_in rfl rfl rfl (by decide +kernel) ⟨(Nat.le_of_ble_eq_true rfl), (Nat.le_of_ble_eq_true rfl)⟩) ⟨mP_blind, m_pre _ hN hK hP hD [] rfl [] rfl (by decide)⟩ rfl rfl hl.1 rfl (lv_room (Nat.le_of_ble_eq_true rfl)) dX8_isTitle_6 ⟨(Nat.le_of_ble_eq_true rfl), (Nat.le_of_ble_eq_true rfl)⟩) hP hD hS hA [] rfl (fun r269 u H locs hw hP hS => ?_)
  rcases hw with ⟨rfl, zw6⟩ | ⟨rfl, zw6⟩
  · exact hret 1 () rfl (Or.inl ⟨rfl, (l_ok (by decide)).mp zw6⟩) hP (hK.sub [] rfl) hD hS (Nat.le_of_ble_eq_true rfl) (Nat.le_of_ble_eq_true rfl) dX8_isTitle_9
  · exact hret 0 () rfl (Or.inr ⟨rfl, fun q => zw6 ((l_ok (by decide)).mpr q)⟩) hP (hK.sub [] rfl) hD hS (Nat.le_of_ble_eq_true rfl) (Nat.le_of_ble_eq_true rfl) dX8_isTitle_9
set_option maxHeartbeats 4000000 in
set_option maxRecDepth 100000 in
theorem c_X8_isReader (l : Launch) (D : va_G) (sz : Nat) (x : Int32) : mI l yX8_isReader wsX8_isReader (rk 1 0 0) D [.int x] [] sz [] (S := Unit) (fun r _ => (r = 1 ∧ ok x 10) ∨ (r = 0 ∧ ¬ ok x 10)) (fun _ => []) (fun _ => []) := by
  refine mI_of (cc := cX8_isReader) (maxL := 1) (ty := .boolean) (plainFor_of_name (by decide)) rfl (Nat.le_of_ble_eq_true rfl) ?_
  intro pp ee ss mm bl mt cd AA QQ hx hb hml hts hown hN hA hK hP hD hS hret ls hl
  have hl : lv_has ls 1 [(0, .int x)] := hl
  refine lv_iload_n hx hb dX8_isReader_0 rfl (lv_at hl 0 rfl) ?_
  refine lv_i2l (v := (x.toInt64)) hx hb dX8_isReader_1 (rfl) ?_
  refine lv_lconst (v := 0) hx hb dX8_isReader_2 (by decide) ?_
  refine lv_ldc2 hx hb hown (hts (.constantLong RX8 31 (9)) (List.mem_of_getElem? (i := 1) rfl)) dX8_isReader_3 ?_
  refine k_pi (va_runS (As := [.long (x.toInt64), .long 0, .long 9]) (rest := []) ⟨hx, hb, hml, hown, hts⟩ (c_X8_in l D ss.heap.size (x.toInt64) 0 9 ) (va_cwS 3 hts gX8_isReader_X8_in rfl rfl rfl (by decide +kernel) ⟨(Nat.le_of_ble_eq_true rfl), (Nat.le_of_ble_eq_true rfl)⟩) ⟨mP_blind, m_pre _ hN hK hP hD [] rfl [] rfl (by decide)⟩ rfl rfl hl.1 rfl (lv_room (Nat.le_of_ble_eq_true rfl)) dX8_isReader_6 ⟨(Nat.le_of_ble_eq_true rfl), (Nat.le_of_ble_eq_true rfl)⟩) hP hD hS hA [] rfl (fun r270 u H locs hw hP hS => ?_)
  rcases hw with ⟨rfl, zw6⟩ | ⟨rfl, zw6⟩
  · exact hret 1 () rfl (Or.inl ⟨rfl, (l_ok (by decide)).mp zw6⟩) hP (hK.sub [] rfl) hD hS (Nat.le_of_ble_eq_true rfl) (Nat.le_of_ble_eq_true rfl) dX8_isReader_9
  · exact hret 0 () rfl (Or.inr ⟨rfl, fun q => zw6 ((l_ok (by decide)).mpr q)⟩) hP (hK.sub [] rfl) hD hS (Nat.le_of_ble_eq_true rfl) (Nat.le_of_ble_eq_true rfl) dX8_isReader_9
set_option maxHeartbeats 4000000 in
set_option maxRecDepth 100000 in
theorem c_X8_has (l : Launch) (D : va_G) (sz : Nat)  : mI l yX8_has wsX8_has (rk 0 0 0) D [.int 64, .int 0] [] sz [] (S := Unit) (fun r _ => r = 0) (fun _ => []) (fun _ => []) := by
  refine mI_of (cc := cX8_has) (maxL := 2) (ty := .boolean) (plainFor_of_name (by decide)) rfl (Nat.le_of_ble_eq_true rfl) ?_
  intro pp ee ss mm bl mt cd AA QQ hx hb hml hts hown hN hA hK hP hD hS hret ls hl
  have hl : lv_has ls 2 [(0, .int 64), (1, .int 0)] := hl
  refine lv_iload_n hx hb dX8_has_0 rfl (lv_at hl 0 rfl) ?_
  refine lv_iload_n hx hb dX8_has_1 rfl (lv_at hl 1 rfl) ?_
  refine lv_ishr hx hb dX8_has_2 ?_
  refine lv_topi (fun x271 ex271 => ?_)
  have ex271 : x271 = 64 := ex271.trans (by decide)
  subst ex271
  refine lv_iconst (v := 1) hx hb dX8_has_3 (by decide) ?_
  refine lv_iand hx hb dX8_has_4 ?_
  refine lv_topi (fun x272 ex272 => ?_)
  have ex272 : x272 = 0 := ex272.trans (by decide)
  subst ex272
  refine lv_iconst (v := 1) hx hb dX8_has_5 (by decide) ?_
  refine lv_icmp_ne (tgt := 13) hx hb dX8_has_6 (by decide) (fun zc6 => ?_) (fun hc => absurd hc (by decide))
  refine lv_iconst (v := 0) hx hb dX8_has_13 (by decide) ?_
  exact hret 0 () rfl (rfl) hP (hK.sub [] rfl) hD hS (Nat.le_of_ble_eq_true rfl) (Nat.le_of_ble_eq_true rfl) dX8_has_14
set_option maxHeartbeats 4000000 in
set_option maxRecDepth 100000 in
theorem c_X8_isClosed (l : Launch) (D : va_G) (sz : Nat) (m a pa ka za : Nat) (cA : ClassId) (u0 : Int32) (y : Int64) (f : Nat → Int32) (h3 : f 3 = 64) : mI l yX8_isClosed wsX8_isClosed (rk 1 0 0) D [.ref m, .int 0] [(cA, .int)] sz [(m, .inr (8, [.ref a, .ref pa, .int u0, .ref ka, .ref za, .long y])), (a, .inl (cA, 172, .inl f))] (S := Unit) (fun r _ => r = 0) (fun _ => []) (fun _ => [(m, .inr (8, [.ref a, .ref pa, .int u0, .ref ka, .ref za, .long y])), (a, .inl (cA, 172, .inl f))]) := by
  refine mI_of (cc := cX8_isClosed) (maxL := 2) (ty := .boolean) (plainFor_of_name (by decide)) rfl (Nat.le_of_ble_eq_true rfl) ?_
  intro pp ee ss mm bl mt cd AA QQ hx hb hml hts hown hN hA hK hP hD hS hret ls hl
  have hl : lv_has ls 2 [(0, .ref m), (1, .int 0)] := hl
  have inX8 : ∀ w ∈ wsX80, w ∈ wsX8_isClosed := fun _ h => List.mem_cons_of_mem _ (List.mem_append_right _ h)
  refine lv_aload_n hx hb dX8_isClosed_0 rfl (lv_at hl 0 rfl) ?_
  refine va_get (D := D) (ci := 8) (v := .ref a) (C := RX8) (T := TX8) (N := 6) hx hb hts inX8 hown hK hP 0 rfl rfl 0 (by decide) (hts (.fieldLink RX8 7 "LoanHouseModel" "st" "[I") (List.mem_of_getElem? (i := 1) rfl)) (fun _ h9 => h9) rfl dX8_isClosed_1 ?_
  refine lv_iconst (v := 3) hx hb dX8_isClosed_4 (by decide) ?_
  refine va_iald hx hb hK hP 1 0 rfl rfl (vi_ok (by decide)) dX8_isClosed_5 ?_
  refine lv_topi (fun x273 ex273 => ?_)
  have ex273 : x273 = 64 := ex273.trans ((congrArg f (by decide : (3 : Int32).toNatClampNeg = 3)).trans h3)
  subst ex273
  refine lv_iload_n hx hb dX8_isClosed_6 rfl (lv_at hl 1 rfl) ?_
  refine lv_bipush (v := 7) hx hb dX8_isClosed_7 (by decide) ?_
  refine lv_irem hx hb dX8_isClosed_9 (by decide) ?_
  refine lv_topi (fun x274 ex274 => ?_)
  have ex274 : x274 = 0 := ex274.trans (by decide)
  subst ex274
  refine k_pi (va_runS (As := [.int 64, .int 0]) (rest := []) ⟨hx, hb, hml, hown, hts⟩ (c_X8_has l D ss.heap.size  ) (va_cwS 2 hts gX8_isClosed_X8_has rfl rfl rfl (by decide +kernel) ⟨(Nat.le_of_ble_eq_true rfl), (Nat.le_of_ble_eq_true rfl)⟩) ⟨mP_blind, m_pre _ hN hK hP hD [] rfl [] rfl (by decide)⟩ rfl rfl hl.1 rfl (lv_room (Nat.le_of_ble_eq_true rfl)) dX8_isClosed_10 ⟨(Nat.le_of_ble_eq_true rfl), (Nat.le_of_ble_eq_true rfl)⟩) hP hD hS hA [] rfl (fun r275 u H locs hw hP hS => ?_)
  obtain rfl := hw
  exact hret 0 () rfl (rfl) hP (hK.sub [] rfl) hD hS (Nat.le_of_ble_eq_true rfl) (Nat.le_of_ble_eq_true rfl) dX8_isClosed_13
set_option maxHeartbeats 4000000 in
set_option maxRecDepth 100000 in
theorem c_X8_isCopy (l : Launch) (D : va_G) (sz : Nat) (m a pa ka za : Nat) (cA : ClassId) (u0 : Int32) (y : Int64) (f : Nat → Int32) (x : Int32) (h4 : f 4 = 0) : mI l yX8_isCopy wsX8_isCopy (rk 1 0 0) D [.ref m, .int x] [(cA, .int)] sz [(m, .inr (8, [.ref a, .ref pa, .int u0, .ref ka, .ref za, .long y])), (a, .inl (cA, 172, .inl f))] (S := Unit) (fun r _ => r = 0) (fun _ => []) (fun _ => [(m, .inr (8, [.ref a, .ref pa, .int u0, .ref ka, .ref za, .long y])), (a, .inl (cA, 172, .inl f))]) := by
  refine mI_of (cc := cX8_isCopy) (maxL := 2) (ty := .boolean) (plainFor_of_name (by decide)) rfl (Nat.le_of_ble_eq_true rfl) ?_
  intro pp ee ss mm bl mt cd AA QQ hx hb hml hts hown hN hA hK hP hD hS hret ls hl
  have hl : lv_has ls 2 [(0, .ref m), (1, .int x)] := hl
  have inX8 : ∀ w ∈ wsX80, w ∈ wsX8_isCopy := fun _ h => List.mem_cons_of_mem _ (List.mem_append_right _ h)
  refine lv_iload_n hx hb dX8_isCopy_0 rfl (lv_at hl 1 rfl) ?_
  refine lv_i2l (v := (x.toInt64)) hx hb dX8_isCopy_1 (rfl) ?_
  refine lv_lconst (v := 0) hx hb dX8_isCopy_2 (by decide) ?_
  refine lv_aload_n hx hb dX8_isCopy_3 rfl (lv_at hl 0 rfl) ?_
  refine va_get (D := D) (ci := 8) (v := .ref a) (C := RX8) (T := TX8) (N := 6) hx hb hts inX8 hown hK hP 0 rfl rfl 0 (by decide) (hts (.fieldLink RX8 7 "LoanHouseModel" "st" "[I") (List.mem_of_getElem? (i := 1) rfl)) (fun _ h9 => h9) rfl dX8_isCopy_4 ?_
  refine lv_iconst (v := 4) hx hb dX8_isCopy_7 (by decide) ?_
  refine va_iald hx hb hK hP 1 0 rfl rfl (vi_ok (by decide)) dX8_isCopy_8 ?_
  refine lv_topi (fun x276 ex276 => ?_)
  have ex276 : x276 = 0 := ex276.trans ((congrArg f (by decide : (4 : Int32).toNatClampNeg = 4)).trans h4)
  subst ex276
  refine lv_iconst (v := 1) hx hb dX8_isCopy_9 (by decide) ?_
  refine lv_isub hx hb dX8_isCopy_10 ?_
  refine lv_topi (fun x277 ex277 => ?_)
  have ex277 : x277 = (-1) := ex277.trans (by decide)
  subst ex277
  refine lv_i2l (v := (-1)) hx hb dX8_isCopy_11 (by decide) ?_
  refine k_pi (va_runS (As := [.long (x.toInt64), .long 0, .long (-1)]) (rest := []) ⟨hx, hb, hml, hown, hts⟩ (c_X8_in l D ss.heap.size (x.toInt64) 0 (-1) ) (va_cwS 3 hts gX8_isCopy_X8_in rfl rfl rfl (by decide +kernel) ⟨(Nat.le_of_ble_eq_true rfl), (Nat.le_of_ble_eq_true rfl)⟩) ⟨mP_blind, m_pre _ hN hK hP hD [] rfl [] rfl (by decide)⟩ rfl rfl hl.1 rfl (lv_room (Nat.le_of_ble_eq_true rfl)) dX8_isCopy_12 ⟨(Nat.le_of_ble_eq_true rfl), (Nat.le_of_ble_eq_true rfl)⟩) hP hD hS hA [] rfl (fun r278 u H locs hw hP hS => ?_)
  rcases hw with ⟨rfl, zw12⟩ | ⟨rfl, zw12⟩
  · exact hret 1 () rfl (absurd zw12 not_in_m1) hP (hK.sub [] rfl) hD hS (Nat.le_of_ble_eq_true rfl) (Nat.le_of_ble_eq_true rfl) dX8_isCopy_15
  · exact hret 0 () rfl (rfl) hP (hK.sub [] rfl) hD hS (Nat.le_of_ble_eq_true rfl) (Nat.le_of_ble_eq_true rfl) dX8_isCopy_15
set_option maxHeartbeats 4000000 in
set_option maxRecDepth 100000 in
theorem c_X8_holdAt (l : Launch) (D : va_G) (sz : Nat) (m a pa ka za : Nat) (cA : ClassId) (u0 : Int32) (y : Int64) (f : Nat → Int32) (j w : Nat) (hj : j < 12 ∧ w < 7) : mI l yX8_holdAt wsX8_holdAt (rk 0 0 0) D [.ref m, .int (nI j), .int (nI w)] [(cA, .int)] sz [(m, .inr (8, [.ref a, .ref pa, .int u0, .ref ka, .ref za, .long y])), (a, .inl (cA, 172, .inl f))] (S := Unit) (fun _ _ => True) (fun _ => []) (fun _ => [(m, .inr (8, [.ref a, .ref pa, .int u0, .ref ka, .ref za, .long y])), (a, .inl (cA, 172, .inl f))]) := by
  refine mI_of (cc := cX8_holdAt) (maxL := 3) (ty := .int) (plainFor_of_name (by decide)) rfl (Nat.le_of_ble_eq_true rfl) ?_
  intro pp ee ss mm bl mt cd AA QQ hx hb hml hts hown hN hA hK hP hD hS hret ls hl
  have hl : lv_has ls 3 [(0, .ref m), (1, .int (nI j)), (2, .int (nI w))] := hl
  have inX8 : ∀ w ∈ wsX80, w ∈ wsX8_holdAt := fun _ h => List.mem_cons_of_mem _ (List.mem_append_right _ h)
  refine lv_aload_n hx hb dX8_holdAt_0 rfl (lv_at hl 0 rfl) ?_
  refine va_get (D := D) (ci := 8) (v := .ref a) (C := RX8) (T := TX8) (N := 6) hx hb hts inX8 hown hK hP 0 rfl rfl 0 (by decide) (hts (.fieldLink RX8 7 "LoanHouseModel" "st" "[I") (List.mem_of_getElem? (i := 1) rfl)) (fun _ h9 => h9) rfl dX8_holdAt_1 ?_
  refine lv_bipush (v := 88) hx hb dX8_holdAt_4 (by decide) ?_
  refine lv_bipush (v := 7) hx hb dX8_holdAt_6 (by decide) ?_
  refine lv_iload_n hx hb dX8_holdAt_8 rfl (lv_at hl 1 rfl) ?_
  refine lv_imul hx hb dX8_holdAt_9 ?_
  refine lv_topi (fun x279 ex279 => ?_)
  have ex279 : x279 = nI (7 * j) := ex279.trans (pk_mul 7 j)
  subst ex279
  refine lv_iadd hx hb dX8_holdAt_10 ?_
  refine lv_topi (fun x280 ex280 => ?_)
  have ex280 : x280 = nI (88 + 7 * j) := ex280.trans (nI_add 88 _)
  subst ex280
  refine lv_iload_n hx hb dX8_holdAt_11 rfl (lv_at hl 2 rfl) ?_
  refine lv_iadd hx hb dX8_holdAt_12 ?_
  refine lv_topi (fun x281 ex281 => ?_)
  have ex281 : x281 = nI (88 + 7 * j + w) := ex281.trans (nI_add _ _)
  subst ex281
  refine va_iald hx hb hK hP 1 0 rfl rfl (vp_in_nI (by omega) (by decide)) dX8_holdAt_13 ?_
  refine lv_topi (fun x282 ex282 => ?_)
  exact hret x282 () rfl (trivial) hP (hK.sub [] rfl) hD hS (Nat.le_of_ble_eq_true rfl) (Nat.le_of_ble_eq_true rfl) dX8_holdAt_14
set_option maxHeartbeats 4000000 in
set_option maxRecDepth 100000 in
theorem c_X8_waitsFor (l : Launch) (D : va_G) (sz : Nat) (m a pa ka za : Nat) (cA : ClassId) (u0 : Int32) (y : Int64) (f : Nat → Int32) (j : Nat) (t : Int32) (hj : j < 12) : mI l yX8_waitsFor wsX8_waitsFor (rk 1 0 0) D [.ref m, .int (nI j), .int t] [(cA, .int)] sz [(m, .inr (8, [.ref a, .ref pa, .int u0, .ref ka, .ref za, .long y])), (a, .inl (cA, 172, .inl f))] (S := Unit) (fun r _ => r = 1 ∨ r = 0) (fun _ => []) (fun _ => [(m, .inr (8, [.ref a, .ref pa, .int u0, .ref ka, .ref za, .long y])), (a, .inl (cA, 172, .inl f))]) := by
  refine mI_of (cc := cX8_waitsFor) (maxL := 3) (ty := .boolean) (plainFor_of_name (by decide)) rfl (Nat.le_of_ble_eq_true rfl) ?_
  intro pp ee ss mm bl mt cd AA QQ hx hb hml hts hown hN hA hK hP hD hS hret ls hl
  have hl : lv_has ls 3 [(0, .ref m), (1, .int (nI j)), (2, .int t)] := hl
  refine lv_aload_n hx hb dX8_waitsFor_0 rfl (lv_at hl 0 rfl) ?_
  refine lv_iload_n hx hb dX8_waitsFor_1 rfl (lv_at hl 1 rfl) ?_
  refine lv_iconst (v := 2) hx hb dX8_waitsFor_2 (by decide) ?_
  refine k_pi (va_runV (As := [.int (nI j), .int 2]) (rest := []) ⟨hx, hb, hml, hown, hts⟩ (c_X8_holdAt l D ss.heap.size m a pa ka za cA u0 y f j 2 ⟨hj, by decide⟩) (cwV 2 hts gX8_waitsFor_X8_holdAt rfl rfl rfl (by decide +kernel) ⟨(Nat.le_of_ble_eq_true rfl), (Nat.le_of_ble_eq_true rfl)⟩) ⟨mP_blind, va_recv hK hP (ci := 8) (q0 := 0) rfl rfl, m_pre _ hN hK hP hD [0] rfl [0, 1] rfl (by decide)⟩ rfl rfl hl.1 rfl (lv_room (Nat.le_of_ble_eq_true rfl)) dX8_waitsFor_3 ⟨(Nat.le_of_ble_eq_true rfl), (Nat.le_of_ble_eq_true rfl)⟩) hP hD hS hA [0, 1] rfl (fun r283 u H locs hw hP hS => ?_)
  refine lv_iload_n hx hb dX8_waitsFor_6 rfl (lv_at hl 2 rfl) ?_
  refine lv_icmp_ne (tgt := 24) hx hb dX8_waitsFor_7 (by decide) (fun zc7 => ?_) (fun zc7 => ?_)
  · refine lv_iconst (v := 0) hx hb dX8_waitsFor_24 (by decide) ?_
    exact hret 0 () rfl (Or.inr rfl) hP (hK.sub [] rfl) hD hS (Nat.le_of_ble_eq_true rfl) (Nat.le_of_ble_eq_true rfl) dX8_waitsFor_25
  · refine lv_aload_n hx hb dX8_waitsFor_10 rfl (lv_at hl 0 rfl) ?_
    refine lv_iload_n hx hb dX8_waitsFor_11 rfl (lv_at hl 1 rfl) ?_
    refine lv_bipush (v := 6) hx hb dX8_waitsFor_12 (by decide) ?_
    refine k_pi (va_runV (As := [.int (nI j), .int 6]) (rest := []) ⟨hx, hb, hml, hown, hts⟩ (c_X8_holdAt l D H.size m a pa ka za cA u0 y f j 6 ⟨hj, by decide⟩) (cwV 2 hts gX8_waitsFor_X8_holdAt rfl rfl rfl (by decide +kernel) ⟨(Nat.le_of_ble_eq_true rfl), (Nat.le_of_ble_eq_true rfl)⟩) ⟨mP_blind, va_recv hK hP (ci := 8) (q0 := 0) rfl rfl, m_pre _ hN hK hP hD [0] rfl [0, 1] rfl (by decide)⟩ rfl rfl hl.1 rfl (lv_room (Nat.le_of_ble_eq_true rfl)) dX8_waitsFor_14 ⟨(Nat.le_of_ble_eq_true rfl), (Nat.le_of_ble_eq_true rfl)⟩) hP hD hS hA [0, 1] rfl (fun r284 u H locs hw hP hS => ?_)
    refine lv_if_ne (tgt := 24) hx hb dX8_waitsFor_17 (by decide) (fun zc17 => ?_) (fun zc17 => ?_)
    · refine lv_iconst (v := 0) hx hb dX8_waitsFor_24 (by decide) ?_
      exact hret 0 () rfl (Or.inr rfl) hP (hK.sub [] rfl) hD hS (Nat.le_of_ble_eq_true rfl) (Nat.le_of_ble_eq_true rfl) dX8_waitsFor_25
    · refine lv_iconst (v := 1) hx hb dX8_waitsFor_20 (by decide) ?_
      refine lv_goto (tgt := 25) hx hb dX8_waitsFor_21 (by decide) ?_
      exact hret 1 () rfl (Or.inl rfl) hP (hK.sub [] rfl) hD hS (Nat.le_of_ble_eq_true rfl) (Nat.le_of_ble_eq_true rfl) dX8_waitsFor_25
set_option maxHeartbeats 4000000 in
set_option maxRecDepth 100000 in
theorem c_X8_isAhead (l : Launch) (D : va_G) (sz : Nat) (m a pa ka za : Nat) (cA : ClassId) (u0 : Int32) (y : Int64) (f : Nat → Int32) (j i : Nat) (hj : j < 12 ∧ i < 12) : mI l yX8_isAhead wsX8_isAhead (rk 1 0 0) D [.ref m, .int (nI j), .int (nI i)] [(cA, .int)] sz [(m, .inr (8, [.ref a, .ref pa, .int u0, .ref ka, .ref za, .long y])), (a, .inl (cA, 172, .inl f))] (S := Unit) (fun r _ => r = 1 ∨ r = 0) (fun _ => []) (fun _ => [(m, .inr (8, [.ref a, .ref pa, .int u0, .ref ka, .ref za, .long y])), (a, .inl (cA, 172, .inl f))]) := by
  refine mI_of (cc := cX8_isAhead) (maxL := 3) (ty := .boolean) (plainFor_of_name (by decide)) rfl (Nat.le_of_ble_eq_true rfl) ?_
  intro pp ee ss mm bl mt cd AA QQ hx hb hml hts hown hN hA hK hP hD hS hret ls hl
  have hl : lv_has ls 3 [(0, .ref m), (1, .int (nI j)), (2, .int (nI i))] := hl
  refine lv_aload_n hx hb dX8_isAhead_0 rfl (lv_at hl 0 rfl) ?_
  refine lv_iload_n hx hb dX8_isAhead_1 rfl (lv_at hl 1 rfl) ?_
  refine lv_iconst (v := 4) hx hb dX8_isAhead_2 (by decide) ?_
  refine k_pi (va_runV (As := [.int (nI j), .int 4]) (rest := []) ⟨hx, hb, hml, hown, hts⟩ (c_X8_holdAt l D ss.heap.size m a pa ka za cA u0 y f j 4 ⟨hj.1, by decide⟩) (cwV 2 hts gX8_isAhead_X8_holdAt rfl rfl rfl (by decide +kernel) ⟨(Nat.le_of_ble_eq_true rfl), (Nat.le_of_ble_eq_true rfl)⟩) ⟨mP_blind, va_recv hK hP (ci := 8) (q0 := 0) rfl rfl, m_pre _ hN hK hP hD [0] rfl [0, 1] rfl (by decide)⟩ rfl rfl hl.1 rfl (lv_room (Nat.le_of_ble_eq_true rfl)) dX8_isAhead_3 ⟨(Nat.le_of_ble_eq_true rfl), (Nat.le_of_ble_eq_true rfl)⟩) hP hD hS hA [0, 1] rfl (fun r285 u H locs hw hP hS => ?_)
  refine lv_aload_n hx hb dX8_isAhead_6 rfl (lv_at hl 0 rfl) ?_
  refine lv_iload_n hx hb dX8_isAhead_7 rfl (lv_at hl 2 rfl) ?_
  refine lv_iconst (v := 4) hx hb dX8_isAhead_8 (by decide) ?_
  refine k_pi (va_runV (As := [.int (nI i), .int 4]) (rest := [.int r285]) ⟨hx, hb, hml, hown, hts⟩ (c_X8_holdAt l D H.size m a pa ka za cA u0 y f i 4 ⟨hj.2, by decide⟩) (cwV 2 hts gX8_isAhead_X8_holdAt rfl rfl rfl (by decide +kernel) ⟨(Nat.le_of_ble_eq_true rfl), (Nat.le_of_ble_eq_true rfl)⟩) ⟨mP_blind, va_recv hK hP (ci := 8) (q0 := 0) rfl rfl, m_pre _ hN hK hP hD [0] rfl [0, 1] rfl (by decide)⟩ rfl rfl hl.1 rfl (lv_room (Nat.le_of_ble_eq_true rfl)) dX8_isAhead_9 ⟨(Nat.le_of_ble_eq_true rfl), (Nat.le_of_ble_eq_true rfl)⟩) hP hD hS hA [0, 1] rfl (fun r286 u H locs hw hP hS => ?_)
  refine lv_icmp_gt (tgt := 45) hx hb dX8_isAhead_12 (by decide) (fun zc12 => ?_) (fun zc12 => ?_)
  · refine lv_iconst (v := 1) hx hb dX8_isAhead_45 (by decide) ?_
    refine lv_goto (tgt := 50) hx hb dX8_isAhead_46 (by decide) ?_
    exact hret 1 () rfl (Or.inl rfl) hP (hK.sub [] rfl) hD hS (Nat.le_of_ble_eq_true rfl) (Nat.le_of_ble_eq_true rfl) dX8_isAhead_50
  · refine lv_aload_n hx hb dX8_isAhead_15 rfl (lv_at hl 0 rfl) ?_
    refine lv_iload_n hx hb dX8_isAhead_16 rfl (lv_at hl 1 rfl) ?_
    refine lv_iconst (v := 4) hx hb dX8_isAhead_17 (by decide) ?_
    refine k_pi (va_runV (As := [.int (nI j), .int 4]) (rest := []) ⟨hx, hb, hml, hown, hts⟩ (c_X8_holdAt l D H.size m a pa ka za cA u0 y f j 4 ⟨hj.1, by decide⟩) (cwV 2 hts gX8_isAhead_X8_holdAt rfl rfl rfl (by decide +kernel) ⟨(Nat.le_of_ble_eq_true rfl), (Nat.le_of_ble_eq_true rfl)⟩) ⟨mP_blind, va_recv hK hP (ci := 8) (q0 := 0) rfl rfl, m_pre _ hN hK hP hD [0] rfl [0, 1] rfl (by decide)⟩ rfl rfl hl.1 rfl (lv_room (Nat.le_of_ble_eq_true rfl)) dX8_isAhead_18 ⟨(Nat.le_of_ble_eq_true rfl), (Nat.le_of_ble_eq_true rfl)⟩) hP hD hS hA [0, 1] rfl (fun r287 u H locs hw hP hS => ?_)
    refine lv_aload_n hx hb dX8_isAhead_21 rfl (lv_at hl 0 rfl) ?_
    refine lv_iload_n hx hb dX8_isAhead_22 rfl (lv_at hl 2 rfl) ?_
    refine lv_iconst (v := 4) hx hb dX8_isAhead_23 (by decide) ?_
    refine k_pi (va_runV (As := [.int (nI i), .int 4]) (rest := [.int r287]) ⟨hx, hb, hml, hown, hts⟩ (c_X8_holdAt l D H.size m a pa ka za cA u0 y f i 4 ⟨hj.2, by decide⟩) (cwV 2 hts gX8_isAhead_X8_holdAt rfl rfl rfl (by decide +kernel) ⟨(Nat.le_of_ble_eq_true rfl), (Nat.le_of_ble_eq_true rfl)⟩) ⟨mP_blind, va_recv hK hP (ci := 8) (q0 := 0) rfl rfl, m_pre _ hN hK hP hD [0] rfl [0, 1] rfl (by decide)⟩ rfl rfl hl.1 rfl (lv_room (Nat.le_of_ble_eq_true rfl)) dX8_isAhead_24 ⟨(Nat.le_of_ble_eq_true rfl), (Nat.le_of_ble_eq_true rfl)⟩) hP hD hS hA [0, 1] rfl (fun r288 u H locs hw hP hS => ?_)
    refine lv_icmp_ne (tgt := 49) hx hb dX8_isAhead_27 (by decide) (fun zc27 => ?_) (fun zc27 => ?_)
    · refine lv_iconst (v := 0) hx hb dX8_isAhead_49 (by decide) ?_
      exact hret 0 () rfl (Or.inr rfl) hP (hK.sub [] rfl) hD hS (Nat.le_of_ble_eq_true rfl) (Nat.le_of_ble_eq_true rfl) dX8_isAhead_50
    · refine lv_aload_n hx hb dX8_isAhead_30 rfl (lv_at hl 0 rfl) ?_
      refine lv_iload_n hx hb dX8_isAhead_31 rfl (lv_at hl 1 rfl) ?_
      refine lv_iconst (v := 0) hx hb dX8_isAhead_32 (by decide) ?_
      refine k_pi (va_runV (As := [.int (nI j), .int 0]) (rest := []) ⟨hx, hb, hml, hown, hts⟩ (c_X8_holdAt l D H.size m a pa ka za cA u0 y f j 0 ⟨hj.1, by decide⟩) (cwV 2 hts gX8_isAhead_X8_holdAt rfl rfl rfl (by decide +kernel) ⟨(Nat.le_of_ble_eq_true rfl), (Nat.le_of_ble_eq_true rfl)⟩) ⟨mP_blind, va_recv hK hP (ci := 8) (q0 := 0) rfl rfl, m_pre _ hN hK hP hD [0] rfl [0, 1] rfl (by decide)⟩ rfl rfl hl.1 rfl (lv_room (Nat.le_of_ble_eq_true rfl)) dX8_isAhead_33 ⟨(Nat.le_of_ble_eq_true rfl), (Nat.le_of_ble_eq_true rfl)⟩) hP hD hS hA [0, 1] rfl (fun r289 u H locs hw hP hS => ?_)
      refine lv_aload_n hx hb dX8_isAhead_36 rfl (lv_at hl 0 rfl) ?_
      refine lv_iload_n hx hb dX8_isAhead_37 rfl (lv_at hl 2 rfl) ?_
      refine lv_iconst (v := 0) hx hb dX8_isAhead_38 (by decide) ?_
      refine k_pi (va_runV (As := [.int (nI i), .int 0]) (rest := [.int r289]) ⟨hx, hb, hml, hown, hts⟩ (c_X8_holdAt l D H.size m a pa ka za cA u0 y f i 0 ⟨hj.2, by decide⟩) (cwV 2 hts gX8_isAhead_X8_holdAt rfl rfl rfl (by decide +kernel) ⟨(Nat.le_of_ble_eq_true rfl), (Nat.le_of_ble_eq_true rfl)⟩) ⟨mP_blind, va_recv hK hP (ci := 8) (q0 := 0) rfl rfl, m_pre _ hN hK hP hD [0] rfl [0, 1] rfl (by decide)⟩ rfl rfl hl.1 rfl (lv_room (Nat.le_of_ble_eq_true rfl)) dX8_isAhead_39 ⟨(Nat.le_of_ble_eq_true rfl), (Nat.le_of_ble_eq_true rfl)⟩) hP hD hS hA [0, 1] rfl (fun r290 u H locs hw hP hS => ?_)
      refine lv_icmp_ge (tgt := 49) hx hb dX8_isAhead_42 (by decide) (fun zc42 => ?_) (fun zc42 => ?_)
      · refine lv_iconst (v := 0) hx hb dX8_isAhead_49 (by decide) ?_
        exact hret 0 () rfl (Or.inr rfl) hP (hK.sub [] rfl) hD hS (Nat.le_of_ble_eq_true rfl) (Nat.le_of_ble_eq_true rfl) dX8_isAhead_50
      · refine lv_iconst (v := 1) hx hb dX8_isAhead_45 (by decide) ?_
        refine lv_goto (tgt := 50) hx hb dX8_isAhead_46 (by decide) ?_
        exact hret 1 () rfl (Or.inl rfl) hP (hK.sub [] rfl) hD hS (Nat.le_of_ble_eq_true rfl) (Nat.le_of_ble_eq_true rfl) dX8_isAhead_50
set_option maxHeartbeats 4000000 in
set_option maxRecDepth 100000 in
theorem c_X8_firstOf (l : Launch) (D : va_G) (sz : Nat) (m a pa ka za : Nat) (cA : ClassId) (u0 : Int32) (y : Int64) (f : Nat → Int32) (hc : Nat) (t : Int32) (h5 : f 5 = nI hc) (hh : hc ≤ 12) : mI l yX8_firstOf wsX8_firstOf (rk 2 0 0) D [.ref m, .int t] [(cA, .int)] sz [(m, .inr (8, [.ref a, .ref pa, .int u0, .ref ka, .ref za, .long y])), (a, .inl (cA, 172, .inl f))] (S := Unit) (fun r _ => r = -1 ∨ ∃ j : Nat, j < hc ∧ r = nI j) (fun _ => []) (fun _ => [(m, .inr (8, [.ref a, .ref pa, .int u0, .ref ka, .ref za, .long y])), (a, .inl (cA, 172, .inl f))]) := by
  refine mI_of (cc := cX8_firstOf) (maxL := 4) (ty := .int) (plainFor_of_name (by decide)) rfl (Nat.le_of_ble_eq_true rfl) ?_
  intro pp ee ss mm bl mt cd AA QQ hx hb hml hts hown hN hA hK hP hD hS hret ls hl
  have hl : lv_has ls 4 [(0, .ref m), (1, .int t)] := hl
  have inX8 : ∀ w ∈ wsX80, w ∈ wsX8_firstOf := fun _ h => List.mem_cons_of_mem _ (List.mem_append_right _ h)
  refine lv_iconst (v := (-1)) hx hb dX8_firstOf_0 (by decide) ?_
  refine lv_istore_n (lv' := [(2, .int (-1)), (0, .ref m), (1, .int t)]) hx hb dX8_firstOf_1 rfl hl (by decide) rfl (fun ls hl => ?_)
  refine lv_iconst (v := 0) hx hb dX8_firstOf_2 (by decide) ?_
  refine lv_istore_n (lv' := [(3, .int 0), (2, .int (-1)), (0, .ref m), (1, .int t)]) hx hb dX8_firstOf_3 rfl hl (by decide) rfl (fun ls hl => ?_)
  have lp : ∀ (fu : Nat) (i : Nat) (x : Int32), (i ≤ hc) → (x = -1 ∨ ∃ j : Nat, j < hc ∧ x = nI j) → (hc < i + fu) → ∀ (H : Heap) (locs : List Loc) (ls : Array Slot), va_P D vwCl [(m, .inr (8, [.ref a, .ref pa, .int u0, .ref ka, .ref za, .long y])), (a, .inl (cA, 172, .inl f))] H → va_S AA ss.heap H locs → lv_has ls 4 [(3, .int (nI i)), (2, .int x), (0, .ref m), (1, .int t)] → W pp l ee (rk 2 0 0) ss mm ([.ref m, .int t] : List Value).toArray bl mt cd H locs 0 0 QQ (F0 mm 4 ls []) := by
    intro fu
    induction fu with
    | zero =>
      intro i x hi hxb hf H locs ls hP hS hl
      exact absurd hf (by omega)
    | succ fu ih =>
      intro i x hi hxb hf H locs ls hP hS hl
      refine lv_iload_n hx hb dX8_firstOf_4 rfl (lv_at hl 0 rfl) ?_
      refine lv_aload_n hx hb dX8_firstOf_5 rfl (lv_at hl 2 rfl) ?_
      refine va_get (D := D) (ci := 8) (v := .ref a) (C := RX8) (T := TX8) (N := 6) hx hb hts inX8 hown hK hP 0 rfl rfl 0 (by decide) (hts (.fieldLink RX8 7 "LoanHouseModel" "st" "[I") (List.mem_of_getElem? (i := 1) rfl)) (fun _ h9 => h9) rfl dX8_firstOf_6 ?_
      refine lv_iconst (v := 5) hx hb dX8_firstOf_9 (by decide) ?_
      refine va_iald hx hb hK hP 1 0 rfl rfl (vi_ok (by decide)) dX8_firstOf_10 ?_
      refine lv_topi (fun x291 ex291 => ?_)
      have ex291 : x291 = nI hc := ex291.trans ((congrArg f (by decide : (5 : Int32).toNatClampNeg = 5)).trans h5)
      subst ex291
      refine lv_icmp_ge (tgt := 48) hx hb dX8_firstOf_11 (by decide) (fun zc11 => ?_) (fun zc11 => ?_)
      · refine lv_iload_n hx hb dX8_firstOf_48 rfl (lv_at hl 1 rfl) ?_
        exact hret x () rfl (hxb) hP (hK.sub [] rfl) hD hS (Nat.le_of_ble_eq_true rfl) (Nat.le_of_ble_eq_true rfl) dX8_firstOf_49
      · rcases hxb with rfl | ⟨j, hj, rfl⟩
        · refine lv_aload_n hx hb dX8_firstOf_14 rfl (lv_at hl 2 rfl) ?_
          refine lv_iload_n hx hb dX8_firstOf_15 rfl (lv_at hl 0 rfl) ?_
          refine lv_iload_n hx hb dX8_firstOf_16 rfl (lv_at hl 3 rfl) ?_
          refine k_pi (va_runV (As := [.int (nI i), .int t]) (rest := []) ⟨hx, hb, hml, hown, hts⟩ (c_X8_waitsFor l D H.size m a pa ka za cA u0 y f i t (by have := lt_of_nle zc11 hi hh; omega)) (cwV 2 hts gX8_firstOf_X8_waitsFor rfl rfl rfl (by decide +kernel) ⟨(Nat.le_of_ble_eq_true rfl), (Nat.le_of_ble_eq_true rfl)⟩) ⟨mP_blind, va_recv hK hP (ci := 8) (q0 := 0) rfl rfl, m_pre _ hN hK hP hD [0] rfl [0, 1] rfl (by decide)⟩ rfl rfl hl.1 rfl (lv_room (Nat.le_of_ble_eq_true rfl)) dX8_firstOf_17 ⟨(Nat.le_of_ble_eq_true rfl), (Nat.le_of_ble_eq_true rfl)⟩) hP hD hS hA [0, 1] rfl (fun r292 u H locs hw hP hS => ?_)
          rcases hw with rfl | rfl
          · refine lv_if_eq (tgt := 40) hx hb dX8_firstOf_20 (by decide) (fun hc => absurd hc (by decide)) (fun zc20 => ?_)
            refine lv_iload_n hx hb dX8_firstOf_23 rfl (lv_at hl 1 rfl) ?_
            refine lv_if_lt (tgt := 36) hx hb dX8_firstOf_24 (by decide) (fun zc24 => ?_) (fun hc => absurd (by decide) hc)
            refine lv_iload_n hx hb dX8_firstOf_36 rfl (lv_at hl 0 rfl) ?_
            refine lv_goto (tgt := 41) hx hb dX8_firstOf_37 (by decide) ?_
            refine lv_istore_n (lv' := [(2, .int (nI i)), (3, .int (nI i)), (0, .ref m), (1, .int t)]) hx hb dX8_firstOf_41 rfl hl (by decide) rfl (fun ls hl => ?_)
            refine lv_iinc (v := nI (i + 1)) (lv' := [(3, .int (nI (i + 1))), (2, .int (nI i)), (0, .ref m), (1, .int t)]) hx hb dX8_firstOf_42 hl (k := 1) rfl (nI_1 i) (by decide) rfl (fun ls hl => ?_)
            refine lv_goto (tgt := 4) hx hb dX8_firstOf_45 (by decide) ?_
            exact ih (i + 1) (nI i) (by have := lt_of_nle zc11 hi hh; omega) (Or.inr ⟨i, lt_of_nle zc11 hi hh, rfl⟩) (by omega) _ _ ls hP hS (lv_sub hl [0, 1, 2, 3] rfl)
          · refine lv_if_eq (tgt := 40) hx hb dX8_firstOf_20 (by decide) (fun zc20 => ?_) (fun hc => absurd (by decide) hc)
            refine lv_iload_n hx hb dX8_firstOf_40 rfl (lv_at hl 1 rfl) ?_
            refine lv_istore_n (lv' := [(2, .int (-1)), (3, .int (nI i)), (0, .ref m), (1, .int t)]) hx hb dX8_firstOf_41 rfl hl (by decide) rfl (fun ls hl => ?_)
            refine lv_iinc (v := nI (i + 1)) (lv' := [(3, .int (nI (i + 1))), (2, .int (-1)), (0, .ref m), (1, .int t)]) hx hb dX8_firstOf_42 hl (k := 1) rfl (nI_1 i) (by decide) rfl (fun ls hl => ?_)
            refine lv_goto (tgt := 4) hx hb dX8_firstOf_45 (by decide) ?_
            exact ih (i + 1) (-1) (by have := lt_of_nle zc11 hi hh; omega) (Or.inl rfl) (by omega) _ _ ls hP hS (lv_sub hl [0, 1, 2, 3] rfl)
        · refine lv_aload_n hx hb dX8_firstOf_14 rfl (lv_at hl 2 rfl) ?_
          refine lv_iload_n hx hb dX8_firstOf_15 rfl (lv_at hl 0 rfl) ?_
          refine lv_iload_n hx hb dX8_firstOf_16 rfl (lv_at hl 3 rfl) ?_
          refine k_pi (va_runV (As := [.int (nI i), .int t]) (rest := []) ⟨hx, hb, hml, hown, hts⟩ (c_X8_waitsFor l D H.size m a pa ka za cA u0 y f i t (by have := lt_of_nle zc11 hi hh; omega)) (cwV 2 hts gX8_firstOf_X8_waitsFor rfl rfl rfl (by decide +kernel) ⟨(Nat.le_of_ble_eq_true rfl), (Nat.le_of_ble_eq_true rfl)⟩) ⟨mP_blind, va_recv hK hP (ci := 8) (q0 := 0) rfl rfl, m_pre _ hN hK hP hD [0] rfl [0, 1] rfl (by decide)⟩ rfl rfl hl.1 rfl (lv_room (Nat.le_of_ble_eq_true rfl)) dX8_firstOf_17 ⟨(Nat.le_of_ble_eq_true rfl), (Nat.le_of_ble_eq_true rfl)⟩) hP hD hS hA [0, 1] rfl (fun r293 u H locs hw hP hS => ?_)
          rcases hw with rfl | rfl
          · refine lv_if_eq (tgt := 40) hx hb dX8_firstOf_20 (by decide) (fun hc => absurd hc (by decide)) (fun zc20 => ?_)
            refine lv_iload_n hx hb dX8_firstOf_23 rfl (lv_at hl 1 rfl) ?_
            refine lv_if_lt (tgt := 36) hx hb dX8_firstOf_24 (by decide) (fun hc => absurd hc (nI_pos (by omega))) (fun zc24 => ?_)
            refine lv_aload_n hx hb dX8_firstOf_27 rfl (lv_at hl 2 rfl) ?_
            refine lv_iload_n hx hb dX8_firstOf_28 rfl (lv_at hl 0 rfl) ?_
            refine lv_iload_n hx hb dX8_firstOf_29 rfl (lv_at hl 1 rfl) ?_
            refine k_pi (va_runV (As := [.int (nI i), .int (nI j)]) (rest := []) ⟨hx, hb, hml, hown, hts⟩ (c_X8_isAhead l D H.size m a pa ka za cA u0 y f i j ⟨by have := lt_of_nle zc11 hi hh; omega, by omega⟩) (cwV 2 hts gX8_firstOf_X8_isAhead rfl rfl rfl (by decide +kernel) ⟨(Nat.le_of_ble_eq_true rfl), (Nat.le_of_ble_eq_true rfl)⟩) ⟨mP_blind, va_recv hK hP (ci := 8) (q0 := 0) rfl rfl, m_pre _ hN hK hP hD [0] rfl [0, 1] rfl (by decide)⟩ rfl rfl hl.1 rfl (lv_room (Nat.le_of_ble_eq_true rfl)) dX8_firstOf_30 ⟨(Nat.le_of_ble_eq_true rfl), (Nat.le_of_ble_eq_true rfl)⟩) hP hD hS hA [0, 1] rfl (fun r294 u H locs hw hP hS => ?_)
            rcases hw with rfl | rfl
            · refine lv_if_eq (tgt := 40) hx hb dX8_firstOf_33 (by decide) (fun hc => absurd hc (by decide)) (fun zc33 => ?_)
              refine lv_iload_n hx hb dX8_firstOf_36 rfl (lv_at hl 0 rfl) ?_
              refine lv_goto (tgt := 41) hx hb dX8_firstOf_37 (by decide) ?_
              refine lv_istore_n (lv' := [(2, .int (nI i)), (3, .int (nI i)), (0, .ref m), (1, .int t)]) hx hb dX8_firstOf_41 rfl hl (by decide) rfl (fun ls hl => ?_)
              refine lv_iinc (v := nI (i + 1)) (lv' := [(3, .int (nI (i + 1))), (2, .int (nI i)), (0, .ref m), (1, .int t)]) hx hb dX8_firstOf_42 hl (k := 1) rfl (nI_1 i) (by decide) rfl (fun ls hl => ?_)
              refine lv_goto (tgt := 4) hx hb dX8_firstOf_45 (by decide) ?_
              exact ih (i + 1) (nI i) (by have := lt_of_nle zc11 hi hh; omega) (Or.inr ⟨i, lt_of_nle zc11 hi hh, rfl⟩) (by omega) _ _ ls hP hS (lv_sub hl [0, 1, 2, 3] rfl)
            · refine lv_if_eq (tgt := 40) hx hb dX8_firstOf_33 (by decide) (fun zc33 => ?_) (fun hc => absurd (by decide) hc)
              refine lv_iload_n hx hb dX8_firstOf_40 rfl (lv_at hl 1 rfl) ?_
              refine lv_istore_n (lv' := [(2, .int (nI j)), (3, .int (nI i)), (0, .ref m), (1, .int t)]) hx hb dX8_firstOf_41 rfl hl (by decide) rfl (fun ls hl => ?_)
              refine lv_iinc (v := nI (i + 1)) (lv' := [(3, .int (nI (i + 1))), (2, .int (nI j)), (0, .ref m), (1, .int t)]) hx hb dX8_firstOf_42 hl (k := 1) rfl (nI_1 i) (by decide) rfl (fun ls hl => ?_)
              refine lv_goto (tgt := 4) hx hb dX8_firstOf_45 (by decide) ?_
              exact ih (i + 1) (nI j) (by have := lt_of_nle zc11 hi hh; omega) (Or.inr ⟨j, hj, rfl⟩) (by omega) _ _ ls hP hS (lv_sub hl [0, 1, 2, 3] rfl)
          · refine lv_if_eq (tgt := 40) hx hb dX8_firstOf_20 (by decide) (fun zc20 => ?_) (fun hc => absurd (by decide) hc)
            refine lv_iload_n hx hb dX8_firstOf_40 rfl (lv_at hl 1 rfl) ?_
            refine lv_istore_n (lv' := [(2, .int (nI j)), (3, .int (nI i)), (0, .ref m), (1, .int t)]) hx hb dX8_firstOf_41 rfl hl (by decide) rfl (fun ls hl => ?_)
            refine lv_iinc (v := nI (i + 1)) (lv' := [(3, .int (nI (i + 1))), (2, .int (nI j)), (0, .ref m), (1, .int t)]) hx hb dX8_firstOf_42 hl (k := 1) rfl (nI_1 i) (by decide) rfl (fun ls hl => ?_)
            refine lv_goto (tgt := 4) hx hb dX8_firstOf_45 (by decide) ?_
            exact ih (i + 1) (nI j) (by have := lt_of_nle zc11 hi hh; omega) (Or.inr ⟨j, hj, rfl⟩) (by omega) _ _ ls hP hS (lv_sub hl [0, 1, 2, 3] rfl)
  exact lp (hc + 1) 0 (-1) (Nat.zero_le _) (Or.inl rfl) (by omega) _ _ ls hP hS (lv_sub hl [0, 1, 2, 3] rfl)
set_option maxHeartbeats 4000000 in
set_option maxRecDepth 100000 in
theorem c_X8_nearest (l : Launch) (D : va_G) (sz : Nat) (m a pa ka za : Nat) (cA : ClassId) (u0 : Int32) (y : Int64) (f : Nat → Int32) (p q : Int32) (h4 : f 4 = 0) : mI l yX8_nearest wsX8_nearest (rk 0 0 0) D [.ref m, .int p, .int q] [(cA, .int)] sz [(m, .inr (8, [.ref a, .ref pa, .int u0, .ref ka, .ref za, .long y])), (a, .inl (cA, 172, .inl f))] (S := Unit) (fun r _ => r = (-1)) (fun _ => []) (fun _ => [(m, .inr (8, [.ref a, .ref pa, .int u0, .ref ka, .ref za, .long y])), (a, .inl (cA, 172, .inl f))]) := by
  refine mI_of (cc := cX8_nearest) (maxL := 7) (ty := .int) (plainFor_of_name (by decide)) rfl (Nat.le_of_ble_eq_true rfl) ?_
  intro pp ee ss mm bl mt cd AA QQ hx hb hml hts hown hN hA hK hP hD hS hret ls hl
  have hl : lv_has ls 7 [(0, .ref m), (1, .int p), (2, .int q)] := hl
  have inX8 : ∀ w ∈ wsX80, w ∈ wsX8_nearest := fun _ h => List.mem_cons_of_mem _ (List.mem_append_right _ h)
  refine lv_iconst (v := (-1)) hx hb dX8_nearest_0 (by decide) ?_
  refine lv_istore_n (lv' := [(3, .int (-1)), (0, .ref m), (1, .int p), (2, .int q)]) hx hb dX8_nearest_1 rfl hl (by decide) rfl (fun ls hl => ?_)
  refine lv_iconst (v := 0) hx hb dX8_nearest_2 (by decide) ?_
  refine lv_istore (lv' := [(4, .int 0), (3, .int (-1)), (0, .ref m), (1, .int p), (2, .int q)]) hx hb dX8_nearest_3 hl (by decide) rfl (fun ls hl => ?_)
  refine lv_iload hx hb dX8_nearest_5 (lv_at hl 0 rfl) ?_
  refine lv_aload_n hx hb dX8_nearest_7 rfl (lv_at hl 2 rfl) ?_
  refine va_get (D := D) (ci := 8) (v := .ref a) (C := RX8) (T := TX8) (N := 6) hx hb hts inX8 hown hK hP 0 rfl rfl 0 (by decide) (hts (.fieldLink RX8 7 "LoanHouseModel" "st" "[I") (List.mem_of_getElem? (i := 1) rfl)) (fun _ h9 => h9) rfl dX8_nearest_8 ?_
  refine lv_iconst (v := 4) hx hb dX8_nearest_11 (by decide) ?_
  refine va_iald hx hb hK hP 1 0 rfl rfl (vi_ok (by decide)) dX8_nearest_12 ?_
  refine lv_topi (fun x295 ex295 => ?_)
  have ex295 : x295 = 0 := ex295.trans ((congrArg f (by decide : (4 : Int32).toNatClampNeg = 4)).trans h4)
  subst ex295
  refine lv_icmp_ge (tgt := 102) hx hb dX8_nearest_13 (by decide) (fun zc13 => ?_) (fun hc => absurd (by decide) hc)
  refine lv_iload_n hx hb dX8_nearest_102 rfl (lv_at hl 1 rfl) ?_
  exact hret (-1) () rfl (rfl) hP (hK.sub [] rfl) hD hS (Nat.le_of_ble_eq_true rfl) (Nat.le_of_ble_eq_true rfl) dX8_nearest_103
set_option maxHeartbeats 4000000 in
set_option maxRecDepth 100000 in
theorem c_X8_outsOf (l : Launch) (D : va_G) (sz : Nat) (m a pa ka za : Nat) (cA : ClassId) (u0 : Int32) (y : Int64) (f : Nat → Int32) (p : Int32) (h4 : f 4 = 0) : mI l yX8_outsOf wsX8_outsOf (rk 0 0 0) D [.ref m, .int p] [(cA, .int)] sz [(m, .inr (8, [.ref a, .ref pa, .int u0, .ref ka, .ref za, .long y])), (a, .inl (cA, 172, .inl f))] (S := Unit) (fun r _ => r = 0) (fun _ => []) (fun _ => [(m, .inr (8, [.ref a, .ref pa, .int u0, .ref ka, .ref za, .long y])), (a, .inl (cA, 172, .inl f))]) := by
  refine mI_of (cc := cX8_outsOf) (maxL := 4) (ty := .int) (plainFor_of_name (by decide)) rfl (Nat.le_of_ble_eq_true rfl) ?_
  intro pp ee ss mm bl mt cd AA QQ hx hb hml hts hown hN hA hK hP hD hS hret ls hl
  have hl : lv_has ls 4 [(0, .ref m), (1, .int p)] := hl
  have inX8 : ∀ w ∈ wsX80, w ∈ wsX8_outsOf := fun _ h => List.mem_cons_of_mem _ (List.mem_append_right _ h)
  refine lv_iconst (v := 0) hx hb dX8_outsOf_0 (by decide) ?_
  refine lv_istore_n (lv' := [(2, .int 0), (0, .ref m), (1, .int p)]) hx hb dX8_outsOf_1 rfl hl (by decide) rfl (fun ls hl => ?_)
  refine lv_iconst (v := 0) hx hb dX8_outsOf_2 (by decide) ?_
  refine lv_istore_n (lv' := [(3, .int 0), (2, .int 0), (0, .ref m), (1, .int p)]) hx hb dX8_outsOf_3 rfl hl (by decide) rfl (fun ls hl => ?_)
  refine lv_iload_n hx hb dX8_outsOf_4 rfl (lv_at hl 0 rfl) ?_
  refine lv_aload_n hx hb dX8_outsOf_5 rfl (lv_at hl 2 rfl) ?_
  refine va_get (D := D) (ci := 8) (v := .ref a) (C := RX8) (T := TX8) (N := 6) hx hb hts inX8 hown hK hP 0 rfl rfl 0 (by decide) (hts (.fieldLink RX8 7 "LoanHouseModel" "st" "[I") (List.mem_of_getElem? (i := 1) rfl)) (fun _ h9 => h9) rfl dX8_outsOf_6 ?_
  refine lv_iconst (v := 4) hx hb dX8_outsOf_9 (by decide) ?_
  refine va_iald hx hb hK hP 1 0 rfl rfl (vi_ok (by decide)) dX8_outsOf_10 ?_
  refine lv_topi (fun x296 ex296 => ?_)
  have ex296 : x296 = 0 := ex296.trans ((congrArg f (by decide : (4 : Int32).toNatClampNeg = 4)).trans h4)
  subst ex296
  refine lv_icmp_ge (tgt := 50) hx hb dX8_outsOf_11 (by decide) (fun zc11 => ?_) (fun hc => absurd (by decide) hc)
  refine lv_iload_n hx hb dX8_outsOf_50 rfl (lv_at hl 1 rfl) ?_
  exact hret 0 () rfl (rfl) hP (hK.sub [] rfl) hD hS (Nat.le_of_ble_eq_true rfl) (Nat.le_of_ble_eq_true rfl) dX8_outsOf_51
set_option maxHeartbeats 4000000 in
set_option maxRecDepth 100000 in
theorem c_X8_copiesThat (l : Launch) (D : va_G) (sz : Nat) (m a pa ka za : Nat) (cA : ClassId) (u0 : Int32) (y : Int64) (f : Nat → Int32) (p : Int32) (h4 : f 4 = 0) : mI l yX8_copiesThat wsX8_copiesThat (rk 0 0 0) D [.ref m, .int p] [(cA, .int)] sz [(m, .inr (8, [.ref a, .ref pa, .int u0, .ref ka, .ref za, .long y])), (a, .inl (cA, 172, .inl f))] (S := Unit) (fun r _ => r = 0) (fun _ => []) (fun _ => [(m, .inr (8, [.ref a, .ref pa, .int u0, .ref ka, .ref za, .long y])), (a, .inl (cA, 172, .inl f))]) := by
  refine mI_of (cc := cX8_copiesThat) (maxL := 4) (ty := .int) (plainFor_of_name (by decide)) rfl (Nat.le_of_ble_eq_true rfl) ?_
  intro pp ee ss mm bl mt cd AA QQ hx hb hml hts hown hN hA hK hP hD hS hret ls hl
  have hl : lv_has ls 4 [(0, .ref m), (1, .int p)] := hl
  have inX8 : ∀ w ∈ wsX80, w ∈ wsX8_copiesThat := fun _ h => List.mem_cons_of_mem _ (List.mem_append_right _ h)
  refine lv_iconst (v := 0) hx hb dX8_copiesThat_0 (by decide) ?_
  refine lv_istore_n (lv' := [(2, .int 0), (0, .ref m), (1, .int p)]) hx hb dX8_copiesThat_1 rfl hl (by decide) rfl (fun ls hl => ?_)
  refine lv_iconst (v := 0) hx hb dX8_copiesThat_2 (by decide) ?_
  refine lv_istore_n (lv' := [(3, .int 0), (2, .int 0), (0, .ref m), (1, .int p)]) hx hb dX8_copiesThat_3 rfl hl (by decide) rfl (fun ls hl => ?_)
  refine lv_iload_n hx hb dX8_copiesThat_4 rfl (lv_at hl 0 rfl) ?_
  refine lv_aload_n hx hb dX8_copiesThat_5 rfl (lv_at hl 2 rfl) ?_
  refine va_get (D := D) (ci := 8) (v := .ref a) (C := RX8) (T := TX8) (N := 6) hx hb hts inX8 hown hK hP 0 rfl rfl 0 (by decide) (hts (.fieldLink RX8 7 "LoanHouseModel" "st" "[I") (List.mem_of_getElem? (i := 1) rfl)) (fun _ h9 => h9) rfl dX8_copiesThat_6 ?_
  refine lv_iconst (v := 4) hx hb dX8_copiesThat_9 (by decide) ?_
  refine va_iald hx hb hK hP 1 0 rfl rfl (vi_ok (by decide)) dX8_copiesThat_10 ?_
  refine lv_topi (fun x297 ex297 => ?_)
  have ex297 : x297 = 0 := ex297.trans ((congrArg f (by decide : (4 : Int32).toNatClampNeg = 4)).trans h4)
  subst ex297
  refine lv_icmp_ge (tgt := 40) hx hb dX8_copiesThat_11 (by decide) (fun zc11 => ?_) (fun hc => absurd (by decide) hc)
  refine lv_iload_n hx hb dX8_copiesThat_40 rfl (lv_at hl 1 rfl) ?_
  exact hret 0 () rfl (rfl) hP (hK.sub [] rfl) hD hS (Nat.le_of_ble_eq_true rfl) (Nat.le_of_ble_eq_true rfl) dX8_copiesThat_41
