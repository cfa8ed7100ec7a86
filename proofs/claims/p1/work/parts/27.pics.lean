set_option maxHeartbeats 4000000 in
set_option maxRecDepth 100000 in
theorem c_X5_init (l : Launch) (D : va_G) (sz : Nat) (t : Nat) (y : Int64) : mV l yX5_init wsX5_init (rk 1 0 0) D [.ref t] [] sz [(t, .inr (5, [.long y]))] (S := Unit) (fun _ => True) (fun _ => []) (fun _ => [(t, .inr (5, [.long y]))]) := by
  refine mV_of (cc := cX5_init) (maxL := 1) (plainFor_of_name (by decide)) rfl (Nat.le_of_ble_eq_true rfl) ?_
  intro pp ee ss mm bl mt cd AA QQ hx hb hml hts hown hN hA hK hP hD hS hmn hret ls hl
  have hl : lv_has ls 1 [(0, .ref t)] := hl
  refine lv_aload_n hx hb dX5_init_0 rfl (lv_at hl 0 rfl) ?_
  refine W.objInit hx hb hown (hts (.methodLink RX5 1 objectInit) (List.mem_of_getElem? (i := 1) rfl)) (hts (.instanceMethod objectInit) (List.mem_of_getElem? (i := 2) rfl)) (hts (.code objectInit ⟨#[0xb1]⟩ 1 none) (List.mem_of_getElem? (i := 3) rfl)) rfl (by rw [hml]; exact hl.1) rfl dX5_init_1 (Nat.le_of_ble_eq_true rfl) (Nat.le_of_ble_eq_true rfl) ?_
  refine W.eq (g2 := F0 mm 4 ls []) rfl ?_
  exact hret () (trivial) hP (hK.sub [] rfl) hD hS (Nat.le_of_ble_eq_true rfl) (Nat.le_of_ble_eq_true rfl) dX5_init_4
set_option maxHeartbeats 4000000 in
set_option maxRecDepth 100000 in
theorem c_X5_begin (l : Launch) (D : va_G) (sz : Nat) (t : Nat) (y : Int64) (sd : Nat) (hs : sd < 2 ^ 31) : mV l yX5_begin wsX5_begin (rk 0 0 0) D [.ref t, .int (nI sd)] [] sz [(t, .inr (5, [.long y]))] (S := Unit) (fun _ => True) (fun _ => []) (fun _ => [(t, .inr (5, [.long (lN sd)]))]) := by
  refine mV_of (cc := cX5_begin) (maxL := 2) (plainFor_of_name (by decide)) rfl (Nat.le_of_ble_eq_true rfl) ?_
  intro pp ee ss mm bl mt cd AA QQ hx hb hml hts hown hN hA hK hP hD hS hmn hret ls hl
  have hl : lv_has ls 2 [(0, .ref t), (1, .int (nI sd))] := hl
  have inX5 : ∀ w ∈ wsX50, w ∈ wsX5_begin := fun _ h => List.mem_cons_of_mem _ (List.mem_append_right _ h)
  refine lv_aload_n hx hb dX5_begin_0 rfl (lv_at hl 0 rfl) ?_
  refine lv_iload_n hx hb dX5_begin_1 rfl (lv_at hl 1 rfl) ?_
  refine lv_i2l (v := lN sd) hx hb dX5_begin_2 (nI_l hs) ?_
  refine va_put (D := D) (ci := 5) (v := .long (lN sd)) (ty := .long) (C := RX5) (T := TX5) (N := 1) hx hb hts inX5 tyX5 tyX5_ok nmX5 hown hK hP hD hS 0 rfl rfl 0 (by decide) (hts (.fieldLink RX5 7 "LoanHouse$Lots" "x" "J") (List.mem_of_getElem? (i := 1) rfl)) (fun _ h9 => h9) rfl (by decide +kernel) rfl rfl (Nat.le_of_ble_eq_true rfl) dX5_begin_3 (fun H locs hP hD hS => ?_)
  have hP : va_P D vwCl [(t, .inr (5, [.long (lN sd)]))] H := hP
  have hD : va_D AA [(t, .inr (5, [.long (lN sd)]))] := hD
  exact hret () (trivial) (m_P hP (is := [0]) rfl) (hK.sub [] rfl) (hD.sub [0] (by decide) rfl) hS (Nat.le_of_ble_eq_true rfl) (Nat.le_of_ble_eq_true rfl) dX5_begin_6
set_option maxHeartbeats 4000000 in
set_option maxRecDepth 100000 in
theorem c_X5_below (l : Launch) (D : va_G) (sz : Nat) (t : Nat) (y b : Nat) (hy : y < 2147483647) (hb1 : 0 < b ∧ b < 2 ^ 31) : mI l yX5_below wsX5_below (rk 0 0 0) D [.ref t, .int (nI b)] [] sz [(t, .inr (5, [.long (lN y)]))] (S := Unit) (fun r _ => r = nI (nxN y % b)) (fun _ => []) (fun _ => [(t, .inr (5, [.long (lN (nxN y))]))]) := by
  refine mI_of (cc := cX5_below) (maxL := 2) (ty := .int) (plainFor_of_name (by decide)) rfl (Nat.le_of_ble_eq_true rfl) ?_
  intro pp ee ss mm bl mt cd AA QQ hx hb hml hts hown hN hA hK hP hD hS hret ls hl
  have hl : lv_has ls 2 [(0, .ref t), (1, .int (nI b))] := hl
  have inX5 : ∀ w ∈ wsX50, w ∈ wsX5_below := fun _ h => List.mem_cons_of_mem _ (List.mem_append_right _ h)
  refine lv_aload_n hx hb dX5_below_0 rfl (lv_at hl 0 rfl) ?_
  refine lv_aload_n hx hb dX5_below_1 rfl (lv_at hl 0 rfl) ?_
  refine va_get (D := D) (ci := 5) (v := .long (lN y)) (C := RX5) (T := TX5) (N := 1) hx hb hts inX5 hown hK hP 0 rfl rfl 0 (by decide) (hts (.fieldLink RX5 7 "LoanHouse$Lots" "x" "J") (List.mem_of_getElem? (i := 1) rfl)) (fun _ h9 => h9) rfl dX5_below_2 ?_
  refine lv_ldc2 hx hb hown (hts (.constantLong RX5 13 (16807)) (List.mem_of_getElem? (i := 2) rfl)) dX5_below_5 ?_
  refine lv_lmul hx hb dX5_below_8 ?_
  refine lv_topl (fun y108 ey108 => ?_)
  have ey108 : y108 = lN (y * 16807) := ey108.trans (lN_mul y 16807)
  subst ey108
  refine lv_ldc2 hx hb hown (hts (.constantLong RX5 15 (2147483647)) (List.mem_of_getElem? (i := 3) rfl)) dX5_below_9 ?_
  refine lv_lrem hx hb dX5_below_12 (by decide) ?_
  refine lv_topl (fun y109 ey109 => ?_)
  have ey109 : y109 = lN (nxN y) := ey109.trans (pk_lRem (b := 2147483647) (by omega) (by decide) (by decide))
  subst ey109
  refine va_put (D := D) (ci := 5) (v := .long (lN (nxN y))) (ty := .long) (C := RX5) (T := TX5) (N := 1) hx hb hts inX5 tyX5 tyX5_ok nmX5 hown hK hP hD hS 0 rfl rfl 0 (by decide) (hts (.fieldLink RX5 7 "LoanHouse$Lots" "x" "J") (List.mem_of_getElem? (i := 1) rfl)) (fun _ h9 => h9) rfl (by decide +kernel) rfl rfl (Nat.le_of_ble_eq_true rfl) dX5_below_13 (fun H locs hP hD hS => ?_)
  have hP : va_P D vwCl [(t, .inr (5, [.long (lN (nxN y))]))] H := hP
  have hD : va_D AA [(t, .inr (5, [.long (lN (nxN y))]))] := hD
  refine lv_iload_n hx hb dX5_below_16 rfl (lv_at hl 1 rfl) ?_
  refine lv_if_le (tgt := 31) hx hb dX5_below_17 (by decide) (fun hc => absurd hc (nI_nle hb1.1 hb1.2)) (fun zc17 => ?_)
  refine lv_aload_n hx hb dX5_below_20 rfl (lv_at hl 0 rfl) ?_
  refine va_get (D := D) (ci := 5) (v := .long (lN (nxN y))) (C := RX5) (T := TX5) (N := 1) hx hb hts inX5 hown hK hP 0 rfl rfl 0 (by decide) (hts (.fieldLink RX5 7 "LoanHouse$Lots" "x" "J") (List.mem_of_getElem? (i := 1) rfl)) (fun _ h9 => h9) rfl dX5_below_21 ?_
  refine lv_iload_n hx hb dX5_below_24 rfl (lv_at hl 1 rfl) ?_
  refine lv_i2l (v := lN b) hx hb dX5_below_25 (nI_l hb1.2) ?_
  refine lv_lrem hx hb dX5_below_26 (lN_ne0 hb1.1 hb1.2) ?_
  refine lv_topl (fun y110 ey110 => ?_)
  have ey110 : y110 = lN (nxN y % b) := ey110.trans (pk_lRem (by have := nxN_lt y; omega) hb1.1 (by omega))
  subst ey110
  refine lv_l2i (v := nI (nxN y % b)) hx hb dX5_below_27 (lN_i _) ?_
  refine lv_goto (tgt := 32) hx hb dX5_below_28 (by decide) ?_
  exact hret (nI (nxN y % b)) () rfl (rfl) (m_P hP (is := [0]) rfl) (hK.sub [] rfl) (hD.sub [0] (by decide) rfl) hS (Nat.le_of_ble_eq_true rfl) (Nat.le_of_ble_eq_true rfl) dX5_below_32
set_option maxHeartbeats 4000000 in
set_option maxRecDepth 100000 in
theorem c_X6_init_8 (l : Launch) (D : va_G) (sz : Nat) (q : Nat) : mV l yX6_init wsX6_init (rk 1 1 8) D [.ref q, .int 8] [] sz [(q, .inr (6, [.null]))] (S := Nat × ClassId) (fun _ => True) (fun u => [(u.2, .object "LoanHouse$House")]) (fun u => [(q, .inr (6, [.ref u.1])), (u.1, .inl (u.2, 8, .inr (.inr (.inr (.inr (fun _ => none))))))]) := by
  refine mV_of (cc := cX6_init) (maxL := 2) (plainFor_of_name (by decide)) rfl (Nat.le_of_ble_eq_true rfl) ?_
  intro pp ee ss mm bl mt cd AA QQ hx hb hml hts hown hN hA hK hP hD hS hmn hret ls hl
  have hl : lv_has ls 2 [(0, .ref q), (1, .int 8)] := hl
  have inX6 : ∀ w ∈ wsX60, w ∈ wsX6_init := fun _ h => List.mem_cons_of_mem _ (List.mem_append_right _ h)
  refine lv_aload_n hx hb dX6_init_0 rfl (lv_at hl 0 rfl) ?_
  refine W.objInit hx hb hown (hts (.methodLink RX6 1 objectInit) (List.mem_of_getElem? (i := 1) rfl)) (hts (.instanceMethod objectInit) (List.mem_of_getElem? (i := 2) rfl)) (hts (.code objectInit ⟨#[0xb1]⟩ 1 none) (List.mem_of_getElem? (i := 3) rfl)) rfl (by rw [hml]; exact hl.1) rfl dX6_init_1 (Nat.le_of_ble_eq_true rfl) (Nat.le_of_ble_eq_true rfl) ?_
  refine W.eq (g2 := F0 mm 4 ls []) rfl ?_
  refine lv_aload_n hx hb dX6_init_4 rfl (lv_at hl 0 rfl) ?_
  refine lv_iload_n hx hb dX6_init_5 rfl (lv_at hl 1 rfl) ?_
  refine lv_iconst (v := 0) hx hb dX6_init_6 (by decide) ?_
  refine va_mmax hx hb (hml.trans hl.1.symm) hown (hts (.methodLink RX6 7 Lib.Math.max.name) (List.mem_of_getElem? (i := 4) rfl)) (hts (.static Lib.Math.max.name) (List.mem_of_getElem? (i := 5) rfl)) (hts (.initialized "java/lang/Math") (List.mem_of_getElem? (i := 6) rfl)) (hts (.code Lib.Math.max.name Lib.Math.max.code 2 (some .int)) (List.mem_of_getElem? (i := 7) rfl)) (Nat.le_of_ble_eq_true rfl) (Nat.le_of_ble_eq_true rfl) (Nat.le_of_ble_eq_true rfl) (Nat.le_of_ble_eq_true rfl) dX6_init_7 ?_
  refine lv_topi (fun x111 ex111 => ?_)
  have ex111 : x111 = 8 := ex111.trans (by decide)
  subst ex111
  refine va_newq (C := "LoanHouse$House") (N' := 8) hx hb hown (hts (.classLink RX6 13 RX4) (List.mem_of_getElem? (i := 8) rfl)) hN.2 hK hP hD hS hA (by decide) (by decide) (by decide) (Nat.le_of_ble_eq_true rfl) (Nat.le_of_ble_eq_true rfl) dX6_init_10 (fun q112 cA113 H hK hP hD hS => ?_)
  have hP : va_P D vwCl [(q, .inr (6, [.null])), (q112, .inl (cA113, 8, .inr (.inr (.inr (.inr (fun _ => none))))))] H := hP
  have hD : va_D AA [(q, .inr (6, [.null])), (q112, .inl (cA113, 8, .inr (.inr (.inr (.inr (fun _ => none))))))] := hD
  have hK : va_K D vwCl [(cA113, .object "LoanHouse$House")] ss := hK
  refine W.widen (k := 1) (n := 8) (Nat.le_of_ble_eq_true rfl) (Nat.le_of_ble_eq_true rfl) ?_
  refine va_putF (D := D) (ci := 6) (v := .ref q112) (ty := .array (.object "LoanHouse$House")) (C := RX6) (T := TX6) (N := 1) hx hb hts inX6 tyX6 tyX6_ok nmX6 hown hK hP hD hS 0 rfl rfl 0 (by decide) (hts (.fieldLink RX6 15 "LoanHouse$Pictures" "places" "[LLoanHouse$House;") (List.mem_of_getElem? (i := 9) rfl)) (fun _ h9 => h9) rfl hmn rfl (by decide +kernel) rfl rfl (Nat.le_of_ble_eq_true rfl) dX6_init_13 (fun H locs hP hD hS => ?_)
  have hP : va_P D vwCl [(q, .inr (6, [.ref q112])), (q112, .inl (cA113, 8, .inr (.inr (.inr (.inr (fun _ => none))))))] H := hP
  have hD : va_D AA [(q, .inr (6, [.ref q112])), (q112, .inl (cA113, 8, .inr (.inr (.inr (.inr (fun _ => none))))))] := hD
  exact hret (q112, cA113) (trivial) (m_P hP (is := [0, 1]) rfl) (hK.sub [0] rfl) (hD.sub [0, 1] (by decide) rfl) hS (Nat.le_of_ble_eq_true rfl) (Nat.le_of_ble_eq_true rfl) dX6_init_16
set_option maxHeartbeats 4000000 in
set_option maxRecDepth 100000 in
theorem c_X6_init_2 (l : Launch) (D : va_G) (sz : Nat) (q : Nat) : mV l yX6_init wsX6_init (rk 1 1 2) D [.ref q, .int 2] [] sz [(q, .inr (6, [.null]))] (S := Nat × ClassId) (fun _ => True) (fun u => [(u.2, .object "LoanHouse$House")]) (fun u => [(q, .inr (6, [.ref u.1])), (u.1, .inl (u.2, 2, .inr (.inr (.inr (.inr (fun _ => none))))))]) := by
  refine mV_of (cc := cX6_init) (maxL := 2) (plainFor_of_name (by decide)) rfl (Nat.le_of_ble_eq_true rfl) ?_
  intro pp ee ss mm bl mt cd AA QQ hx hb hml hts hown hN hA hK hP hD hS hmn hret ls hl
  have hl : lv_has ls 2 [(0, .ref q), (1, .int 2)] := hl
  have inX6 : ∀ w ∈ wsX60, w ∈ wsX6_init := fun _ h => List.mem_cons_of_mem _ (List.mem_append_right _ h)
  refine lv_aload_n hx hb dX6_init_0 rfl (lv_at hl 0 rfl) ?_
  refine W.objInit hx hb hown (hts (.methodLink RX6 1 objectInit) (List.mem_of_getElem? (i := 1) rfl)) (hts (.instanceMethod objectInit) (List.mem_of_getElem? (i := 2) rfl)) (hts (.code objectInit ⟨#[0xb1]⟩ 1 none) (List.mem_of_getElem? (i := 3) rfl)) rfl (by rw [hml]; exact hl.1) rfl dX6_init_1 (Nat.le_of_ble_eq_true rfl) (Nat.le_of_ble_eq_true rfl) ?_
  refine W.eq (g2 := F0 mm 4 ls []) rfl ?_
  refine lv_aload_n hx hb dX6_init_4 rfl (lv_at hl 0 rfl) ?_
  refine lv_iload_n hx hb dX6_init_5 rfl (lv_at hl 1 rfl) ?_
  refine lv_iconst (v := 0) hx hb dX6_init_6 (by decide) ?_
  refine va_mmax hx hb (hml.trans hl.1.symm) hown (hts (.methodLink RX6 7 Lib.Math.max.name) (List.mem_of_getElem? (i := 4) rfl)) (hts (.static Lib.Math.max.name) (List.mem_of_getElem? (i := 5) rfl)) (hts (.initialized "java/lang/Math") (List.mem_of_getElem? (i := 6) rfl)) (hts (.code Lib.Math.max.name Lib.Math.max.code 2 (some .int)) (List.mem_of_getElem? (i := 7) rfl)) (Nat.le_of_ble_eq_true rfl) (Nat.le_of_ble_eq_true rfl) (Nat.le_of_ble_eq_true rfl) (Nat.le_of_ble_eq_true rfl) dX6_init_7 ?_
  refine lv_topi (fun x114 ex114 => ?_)
  have ex114 : x114 = 2 := ex114.trans (by decide)
  subst ex114
  refine va_newq (C := "LoanHouse$House") (N' := 2) hx hb hown (hts (.classLink RX6 13 RX4) (List.mem_of_getElem? (i := 8) rfl)) hN.2 hK hP hD hS hA (by decide) (by decide) (by decide) (Nat.le_of_ble_eq_true rfl) (Nat.le_of_ble_eq_true rfl) dX6_init_10 (fun q115 cA116 H hK hP hD hS => ?_)
  have hP : va_P D vwCl [(q, .inr (6, [.null])), (q115, .inl (cA116, 2, .inr (.inr (.inr (.inr (fun _ => none))))))] H := hP
  have hD : va_D AA [(q, .inr (6, [.null])), (q115, .inl (cA116, 2, .inr (.inr (.inr (.inr (fun _ => none))))))] := hD
  have hK : va_K D vwCl [(cA116, .object "LoanHouse$House")] ss := hK
  refine W.widen (k := 1) (n := 2) (Nat.le_of_ble_eq_true rfl) (Nat.le_of_ble_eq_true rfl) ?_
  refine va_putF (D := D) (ci := 6) (v := .ref q115) (ty := .array (.object "LoanHouse$House")) (C := RX6) (T := TX6) (N := 1) hx hb hts inX6 tyX6 tyX6_ok nmX6 hown hK hP hD hS 0 rfl rfl 0 (by decide) (hts (.fieldLink RX6 15 "LoanHouse$Pictures" "places" "[LLoanHouse$House;") (List.mem_of_getElem? (i := 9) rfl)) (fun _ h9 => h9) rfl hmn rfl (by decide +kernel) rfl rfl (Nat.le_of_ble_eq_true rfl) dX6_init_13 (fun H locs hP hD hS => ?_)
  have hP : va_P D vwCl [(q, .inr (6, [.ref q115])), (q115, .inl (cA116, 2, .inr (.inr (.inr (.inr (fun _ => none))))))] H := hP
  have hD : va_D AA [(q, .inr (6, [.ref q115])), (q115, .inl (cA116, 2, .inr (.inr (.inr (.inr (fun _ => none))))))] := hD
  exact hret (q115, cA116) (trivial) (m_P hP (is := [0, 1]) rfl) (hK.sub [0] rfl) (hD.sub [0, 1] (by decide) rfl) hS (Nat.le_of_ble_eq_true rfl) (Nat.le_of_ble_eq_true rfl) dX6_init_16
set_option maxHeartbeats 4000000 in
set_option maxRecDepth 100000 in
theorem c_X6_has (l : Launch) (D : va_G) (sz : Nat) (q pa : Nat) (cH : ClassId) (i : Int32) : mI l yX6_has wsX6_has (rk 1 0 0) D [.ref q, .int i] [(cH, .object "LoanHouse$House")] sz [(q, .inr (6, [.ref pa])), (pa, .inl (cH, 2, .inr (.inr (.inr (.inr (fun _ => none))))))] (S := Unit) (fun r _ => r = 0) (fun _ => []) (fun _ => [(q, .inr (6, [.ref pa])), (pa, .inl (cH, 2, .inr (.inr (.inr (.inr (fun _ => none))))))]) := by
  refine mI_of (cc := cX6_has) (maxL := 2) (ty := .boolean) (plainFor_of_name (by decide)) rfl (Nat.le_of_ble_eq_true rfl) ?_
  intro pp ee ss mm bl mt cd AA QQ hx hb hml hts hown hN hA hK hP hD hS hret ls hl
  have hl : lv_has ls 2 [(0, .ref q), (1, .int i)] := hl
  have inX6 : ∀ w ∈ wsX60, w ∈ wsX6_has := fun _ h => List.mem_cons_of_mem _ (List.mem_append_right _ h)
  refine lv_iload_n hx hb dX6_has_0 rfl (lv_at hl 1 rfl) ?_
  refine lv_aload_n hx hb dX6_has_1 rfl (lv_at hl 0 rfl) ?_
  refine va_get (D := D) (ci := 6) (v := .ref pa) (C := RX6) (T := TX6) (N := 1) hx hb hts inX6 hown hK hP 0 rfl rfl 0 (by decide) (hts (.fieldLink RX6 15 "LoanHouse$Pictures" "places" "[LLoanHouse$House;") (List.mem_of_getElem? (i := 1) rfl)) (fun _ h9 => h9) rfl dX6_has_2 ?_
  refine va_alen hx hb hK hP 1 0 rfl rfl (v := 2) (by decide) dX6_has_5 ?_
  refine k_pi (va_runSN (As := [.int i, .int 2]) (rest := []) ⟨hx, hb, hml, hown, hts⟩ (c_isBelow l D ss.heap.size i 2 ) ⟨va_cnB 2 hts gX6_has_X7_isBelow_n21 rfl rfl rfl (hN.at 18 rfl) (hts (.initialized RX7) (List.mem_of_getElem? (i := 3) rfl)) (by decide +kernel) ⟨(Nat.le_of_ble_eq_true rfl), (Nat.le_of_ble_eq_true rfl)⟩, (hts (.static yX7_isBelow) (List.mem_of_getElem? (i := 2) rfl)), trivial⟩ ⟨mP_blind, m_pre _ hN hK hP hD [] rfl [] rfl (by decide)⟩ rfl rfl hl.1 rfl (lv_room (Nat.le_of_ble_eq_true rfl)) dX6_has_6 ⟨(Nat.le_of_ble_eq_true rfl), (Nat.le_of_ble_eq_true rfl)⟩) hP hD hS hA [] rfl (fun r117 u H locs hw hP hS => ?_)
  rcases hw with ⟨rfl, zw6⟩ | ⟨rfl, zw6⟩
  · refine lv_if_eq (tgt := 25) hx hb dX6_has_9 (by decide) (fun hc => absurd hc (by decide)) (fun zc9 => ?_)
    refine lv_aload_n hx hb dX6_has_12 rfl (lv_at hl 0 rfl) ?_
    refine va_get (D := D) (ci := 6) (v := .ref pa) (C := RX6) (T := TX6) (N := 1) hx hb hts inX6 hown hK hP 0 rfl rfl 0 (by decide) (hts (.fieldLink RX6 15 "LoanHouse$Pictures" "places" "[LLoanHouse$House;") (List.mem_of_getElem? (i := 1) rfl)) (fun _ h9 => h9) rfl dX6_has_13 ?_
    refine lv_iload_n hx hb dX6_has_16 rfl (lv_at hl 1 rfl) ?_
    refine va_aldq hx hb hK hP 1 0 rfl rfl (in_of zw6) dX6_has_17 ?_
    refine W.eq (g2 := F0 mm 18 ls [.null]) rfl ?_
    refine lv_ifnullN (tgt := 25) hx hb dX6_has_18 (by decide) ?_
    refine lv_iconst (v := 0) hx hb dX6_has_25 (by decide) ?_
    exact hret 0 () rfl (rfl) hP (hK.sub [] rfl) hD hS (Nat.le_of_ble_eq_true rfl) (Nat.le_of_ble_eq_true rfl) dX6_has_26
  · refine lv_if_eq (tgt := 25) hx hb dX6_has_9 (by decide) (fun zc9 => ?_) (fun hc => absurd (by decide) hc)
    refine lv_iconst (v := 0) hx hb dX6_has_25 (by decide) ?_
    exact hret 0 () rfl (rfl) hP (hK.sub [] rfl) hD hS (Nat.le_of_ble_eq_true rfl) (Nat.le_of_ble_eq_true rfl) dX6_has_26
set_option maxHeartbeats 4000000 in
set_option maxRecDepth 100000 in
theorem c_X6_take_8 (l : Launch) (D : va_G) (sz : Nat) (q pa : Nat) (cH : ClassId) (i : Int32) (h k c g1 a1 o g2 a2 : Nat) (cA1 cA2 : ClassId) (now tm pt cl cnt hc nx tr : Int32) (f1 f2 : Nat → Int32) (hi : 0 ≤ i ∧ i < 8) : mV l yX6_take wsX6_take (rk 4 8 183) D [.ref q, .int i, .ref h] [(cH, .object "LoanHouse$House"), (cA1, .int), (cA2, .int)] sz [(q, .inr (6, [.ref pa])), (pa, .inl (cH, 8, .inr (.inr (.inr (.inr (fun _ => none)))))), (h, .inr (4, [.ref k, .ref c, .ref o, .int tr])), (k, .inr (0, [.int now, .int tm, .int pt, .int cl])), (c, .inr (1, [.ref g1, .int cnt])), (g1, .inr (2, [.int 16, .int 5, .ref a1])), (a1, .inl (cA1, 80, .inl f1)), (o, .inr (3, [.ref g2, .int hc, .int nx])), (g2, .inr (2, [.int 12, .int 7, .ref a2])), (a2, .inl (cA2, 84, .inl f2))] (S := Unit) (fun _ => True) (fun _ => []) (fun _ => [(h, .inr (4, [.ref k, .ref c, .ref o, .int tr])), (k, .inr (0, [.int now, .int tm, .int pt, .int cl])), (c, .inr (1, [.ref g1, .int cnt])), (g1, .inr (2, [.int 16, .int 5, .ref a1])), (a1, .inl (cA1, 80, .inl f1)), (o, .inr (3, [.ref g2, .int hc, .int nx])), (g2, .inr (2, [.int 12, .int 7, .ref a2])), (a2, .inl (cA2, 84, .inl f2))]) := by
  refine mV_of (cc := cX6_take) (maxL := 4) (plainFor_of_name (by decide)) rfl (Nat.le_of_ble_eq_true rfl) ?_
  intro pp ee ss mm bl mt cd AA QQ hx hb hml hts hown hN hA hK hP hD hS hmn hret ls hl
  have hl : lv_has ls 4 [(0, .ref q), (1, .int i), (2, .ref h)] := hl
  have inX4 : ∀ w ∈ wsX40, w ∈ wsX6_take := fun _ h => List.mem_cons_of_mem _ (List.mem_append_left _ (List.mem_append_left _ (List.mem_append_left _ (List.mem_append_left _ (List.mem_append_right _ h)))))
  have inX6 : ∀ w ∈ wsX60, w ∈ wsX6_take := fun _ h => List.mem_cons_of_mem _ (List.mem_append_left _ (List.mem_append_left _ (List.mem_append_left _ (List.mem_append_left _ (List.mem_append_left _ (List.mem_append_right _ h))))))
  refine lv_iload_n hx hb dX6_take_0 rfl (lv_at hl 1 rfl) ?_
  refine lv_aload_n hx hb dX6_take_1 rfl (lv_at hl 0 rfl) ?_
  refine va_get (D := D) (ci := 6) (v := .ref pa) (C := RX6) (T := TX6) (N := 1) hx hb hts inX6 hown hK hP 0 rfl rfl 0 (by decide) (hts (.fieldLink RX6 15 "LoanHouse$Pictures" "places" "[LLoanHouse$House;") (List.mem_of_getElem? (i := 1) rfl)) (fun _ h9 => h9) rfl dX6_take_2 ?_
  refine va_alen hx hb hK hP 1 0 rfl rfl (v := 8) (by decide) dX6_take_5 ?_
  refine k_pi (va_runSN (As := [.int i, .int 8]) (rest := []) ⟨hx, hb, hml, hown, hts⟩ (c_isBelow l D ss.heap.size i 8 ) ⟨va_cnB 2 hts gX6_take_X7_isBelow_n21 rfl rfl rfl (hN.at 18 rfl) (hts (.initialized RX7) (List.mem_of_getElem? (i := 6) rfl)) (by decide +kernel) ⟨(Nat.le_of_ble_eq_true rfl), (Nat.le_of_ble_eq_true rfl)⟩, (hts (.static yX7_isBelow) (List.mem_of_getElem? (i := 5) rfl)), trivial⟩ ⟨mP_blind, m_pre _ hN hK hP hD [] rfl [] rfl (by decide)⟩ rfl rfl hl.1 rfl (lv_room (Nat.le_of_ble_eq_true rfl)) dX6_take_6 ⟨(Nat.le_of_ble_eq_true rfl), (Nat.le_of_ble_eq_true rfl)⟩) hP hD hS hA [] rfl (fun r118 u H locs hw hP hS => ?_)
  rcases hw with ⟨rfl, zw6⟩ | ⟨rfl, zw6⟩
  · refine lv_if_ne (tgt := 13) hx hb dX6_take_9 (by decide) (fun zc9 => ?_) (fun hc => absurd hc (by decide))
    refine lv_aload_n hx hb dX6_take_13 rfl (lv_at hl 0 rfl) ?_
    refine va_get (D := D) (ci := 6) (v := .ref pa) (C := RX6) (T := TX6) (N := 1) hx hb hts inX6 hown hK hP 0 rfl rfl 0 (by decide) (hts (.fieldLink RX6 15 "LoanHouse$Pictures" "places" "[LLoanHouse$House;") (List.mem_of_getElem? (i := 1) rfl)) (fun _ h9 => h9) rfl dX6_take_14 ?_
    refine lv_iload_n hx hb dX6_take_17 rfl (lv_at hl 1 rfl) ?_
    refine va_aldq hx hb hK hP 1 0 rfl rfl (in_of zw6) dX6_take_18 ?_
    refine W.eq (g2 := F0 mm 19 ls [.null]) rfl ?_
    refine lv_astore_nN (lv' := [(3, .null), (0, .ref q), (1, .int i), (2, .ref h)]) hx hb dX6_take_19 rfl hl (by decide) rfl (fun ls hl => ?_)
    refine lv_aload_nN hx hb dX6_take_20 rfl (lv_at hl 0 rfl) ?_
    refine lv_ifnonnullN hx hb dX6_take_21 ?_
    refine va_new (ci := 4) (fs := [.null, .null, .null, .int 0]) (C := RX4) (T := TX4) (N := 4) hx hb hts inX4 tyX4 tyX4_ok hown (hts (.classLink RX6 13 RX4) (List.mem_of_getElem? (i := 2) rfl)) (hts (.instantiable RX4 4) (List.mem_of_getElem? (i := 3) rfl)) (hts (.initialized RX4) (List.mem_of_getElem? (i := 4) rfl)) hK hP hD hS hA rfl (fun j hj => by rcases (show j = 0 ∨ j = 1 ∨ j = 2 ∨ j = 3 by omega) with rfl | rfl | rfl | rfl <;> rfl) (Nat.le_of_ble_eq_true rfl) (Nat.le_of_ble_eq_true rfl) dX6_take_24 (fun q119 H hP hD hS => ?_)
    have hP : va_P D vwCl [(q, .inr (6, [.ref pa])), (pa, .inl (cH, 8, .inr (.inr (.inr (.inr (fun _ => none)))))), (h, .inr (4, [.ref k, .ref c, .ref o, .int tr])), (k, .inr (0, [.int now, .int tm, .int pt, .int cl])), (c, .inr (1, [.ref g1, .int cnt])), (g1, .inr (2, [.int 16, .int 5, .ref a1])), (a1, .inl (cA1, 80, .inl f1)), (o, .inr (3, [.ref g2, .int hc, .int nx])), (g2, .inr (2, [.int 12, .int 7, .ref a2])), (a2, .inl (cA2, 84, .inl f2)), (q119, .inr (4, [.null, .null, .null, .int 0]))] H := hP
    have hD : va_D AA [(q, .inr (6, [.ref pa])), (pa, .inl (cH, 8, .inr (.inr (.inr (.inr (fun _ => none)))))), (h, .inr (4, [.ref k, .ref c, .ref o, .int tr])), (k, .inr (0, [.int now, .int tm, .int pt, .int cl])), (c, .inr (1, [.ref g1, .int cnt])), (g1, .inr (2, [.int 16, .int 5, .ref a1])), (a1, .inl (cA1, 80, .inl f1)), (o, .inr (3, [.ref g2, .int hc, .int nx])), (g2, .inr (2, [.int 12, .int 7, .ref a2])), (a2, .inl (cA2, 84, .inl f2)), (q119, .inr (4, [.null, .null, .null, .int 0]))] := hD
    refine W.widen (k := 1) (n := 4) (Nat.le_of_ble_eq_true rfl) (Nat.le_of_ble_eq_true rfl) ?_
    refine lv_dup hx hb dX6_take_27 rfl ?_
    refine k_v (wr := [(q, .inr (6, [.ref pa])), (pa, .inl (cH, 8, .inr (.inr (.inr (.inr (fun _ => none)))))), (h, .inr (4, [.ref k, .ref c, .ref o, .int tr])), (k, .inr (0, [.int now, .int tm, .int pt, .int cl])), (c, .inr (1, [.ref g1, .int cnt])), (g1, .inr (2, [.int 16, .int 5, .ref a1])), (a1, .inl (cA1, 80, .inl f1)), (o, .inr (3, [.ref g2, .int hc, .int nx])), (g2, .inr (2, [.int 12, .int 7, .ref a2])), (a2, .inl (cA2, 84, .inl f2))]) (va_runIN (As := []) (rest := [.ref q119]) ⟨hx, hb, hml, hown, hts⟩ (c_X4_init l D H.size q119 ) ⟨va_cnB 0 hts gX6_take_X4_init_n27 rfl rfl rfl (hN.at 19 rfl) (hts (.initialized RX4) (List.mem_of_getElem? (i := 4) rfl)) (by decide +kernel) ⟨(Nat.le_of_ble_eq_true rfl), (Nat.le_of_ble_eq_true rfl)⟩, rfl, (hts (.instanceMethod yX4_init) (List.mem_of_getElem? (i := 8) rfl))⟩ ⟨mP_blind, m_pre _ hN hK hP hD [] rfl [10] rfl (by decide)⟩ rfl rfl hl.1 rfl (lv_room (Nat.le_of_ble_eq_true rfl)) dX6_take_28 ⟨(Nat.le_of_ble_eq_true rfl), (Nat.le_of_ble_eq_true rfl)⟩) hP hD hS hA [10] [0, 1, 2, 3, 4, 5, 6, 7, 8, 9] rfl rfl (by decide) (by decide) (fun u H locs hw hK1 hP hD hS => ?_)
    obtain ⟨k121, c122, g1123, a1124, cA1125, f1126, o127, g2128, a2129, cA2130, f2131⟩ := u
    have hK : va_K D vwCl [(cH, .object "LoanHouse$House"), (cA1, .int), (cA2, .int), (cA1125, .int), (cA2130, .int)] ss := hK.app hK1
    have hP : va_P D vwCl [(q, .inr (6, [.ref pa])), (pa, .inl (cH, 8, .inr (.inr (.inr (.inr (fun _ => none)))))), (h, .inr (4, [.ref k, .ref c, .ref o, .int tr])), (k, .inr (0, [.int now, .int tm, .int pt, .int cl])), (c, .inr (1, [.ref g1, .int cnt])), (g1, .inr (2, [.int 16, .int 5, .ref a1])), (a1, .inl (cA1, 80, .inl f1)), (o, .inr (3, [.ref g2, .int hc, .int nx])), (g2, .inr (2, [.int 12, .int 7, .ref a2])), (a2, .inl (cA2, 84, .inl f2)), (q119, .inr (4, [.ref k121, .ref c122, .ref o127, .int 0])), (k121, .inr (0, [.int 0, .int 14, .int 3, .int 64])), (c122, .inr (1, [.ref g1123, .int 0])), (g1123, .inr (2, [.int 16, .int 5, .ref a1124])), (a1124, .inl (cA1125, 80, .inl f1126)), (o127, .inr (3, [.ref g2128, .int 0, .int 0])), (g2128, .inr (2, [.int 12, .int 7, .ref a2129])), (a2129, .inl (cA2130, 84, .inl f2131))] H := hP
    have hD : va_D AA [(q, .inr (6, [.ref pa])), (pa, .inl (cH, 8, .inr (.inr (.inr (.inr (fun _ => none)))))), (h, .inr (4, [.ref k, .ref c, .ref o, .int tr])), (k, .inr (0, [.int now, .int tm, .int pt, .int cl])), (c, .inr (1, [.ref g1, .int cnt])), (g1, .inr (2, [.int 16, .int 5, .ref a1])), (a1, .inl (cA1, 80, .inl f1)), (o, .inr (3, [.ref g2, .int hc, .int nx])), (g2, .inr (2, [.int 12, .int 7, .ref a2])), (a2, .inl (cA2, 84, .inl f2)), (q119, .inr (4, [.ref k121, .ref c122, .ref o127, .int 0])), (k121, .inr (0, [.int 0, .int 14, .int 3, .int 64])), (c122, .inr (1, [.ref g1123, .int 0])), (g1123, .inr (2, [.int 16, .int 5, .ref a1124])), (a1124, .inl (cA1125, 80, .inl f1126)), (o127, .inr (3, [.ref g2128, .int 0, .int 0])), (g2128, .inr (2, [.int 12, .int 7, .ref a2129])), (a2129, .inl (cA2130, 84, .inl f2131))] := hD
    try dsimp only at hw
    refine W.widen (k := 8) (n := 183) (Nat.le_of_ble_eq_true rfl) (Nat.le_of_ble_eq_true rfl) ?_
    refine lv_astore_n (lv' := [(3, .ref q119), (0, .ref q), (1, .int i), (2, .ref h)]) hx hb dX6_take_31 rfl hl (by decide) rfl (fun ls hl => ?_)
    refine lv_aload_n hx hb dX6_take_32 rfl (lv_at hl 1 rfl) ?_
    refine va_get (D := D) (ci := 6) (v := .ref pa) (C := RX6) (T := TX6) (N := 1) hx hb hts inX6 hown hK hP 0 rfl rfl 0 (by decide) (hts (.fieldLink RX6 15 "LoanHouse$Pictures" "places" "[LLoanHouse$House;") (List.mem_of_getElem? (i := 1) rfl)) (fun _ h9 => h9) rfl dX6_take_33 ?_
    refine lv_iload_n hx hb dX6_take_36 rfl (lv_at hl 2 rfl) ?_
    refine lv_aload_n hx hb dX6_take_37 rfl (lv_at hl 0 rfl) ?_
    refine va_astq hx hb hK hP hD hS 1 0 10 4 rfl rfl rfl rfl (in_of zw6) dX6_take_38 (fun H locs hP hD hS => ?_)
    have hP : va_P D vwCl [(q, .inr (6, [.ref pa])), (pa, .inl (cH, 8, .inr (.inr (.inr (.inr (va_up (fun _ => none) i.toNatClampNeg (some q119))))))), (h, .inr (4, [.ref k, .ref c, .ref o, .int tr])), (k, .inr (0, [.int now, .int tm, .int pt, .int cl])), (c, .inr (1, [.ref g1, .int cnt])), (g1, .inr (2, [.int 16, .int 5, .ref a1])), (a1, .inl (cA1, 80, .inl f1)), (o, .inr (3, [.ref g2, .int hc, .int nx])), (g2, .inr (2, [.int 12, .int 7, .ref a2])), (a2, .inl (cA2, 84, .inl f2)), (q119, .inr (4, [.ref k121, .ref c122, .ref o127, .int 0])), (k121, .inr (0, [.int 0, .int 14, .int 3, .int 64])), (c122, .inr (1, [.ref g1123, .int 0])), (g1123, .inr (2, [.int 16, .int 5, .ref a1124])), (a1124, .inl (cA1125, 80, .inl f1126)), (o127, .inr (3, [.ref g2128, .int 0, .int 0])), (g2128, .inr (2, [.int 12, .int 7, .ref a2129])), (a2129, .inl (cA2130, 84, .inl f2131))] H := hP
    have hD : va_D AA [(q, .inr (6, [.ref pa])), (pa, .inl (cH, 8, .inr (.inr (.inr (.inr (va_up (fun _ => none) i.toNatClampNeg (some q119))))))), (h, .inr (4, [.ref k, .ref c, .ref o, .int tr])), (k, .inr (0, [.int now, .int tm, .int pt, .int cl])), (c, .inr (1, [.ref g1, .int cnt])), (g1, .inr (2, [.int 16, .int 5, .ref a1])), (a1, .inl (cA1, 80, .inl f1)), (o, .inr (3, [.ref g2, .int hc, .int nx])), (g2, .inr (2, [.int 12, .int 7, .ref a2])), (a2, .inl (cA2, 84, .inl f2)), (q119, .inr (4, [.ref k121, .ref c122, .ref o127, .int 0])), (k121, .inr (0, [.int 0, .int 14, .int 3, .int 64])), (c122, .inr (1, [.ref g1123, .int 0])), (g1123, .inr (2, [.int 16, .int 5, .ref a1124])), (a1124, .inl (cA1125, 80, .inl f1126)), (o127, .inr (3, [.ref g2128, .int 0, .int 0])), (g2128, .inr (2, [.int 12, .int 7, .ref a2129])), (a2129, .inl (cA2130, 84, .inl f2131))] := hD
    refine lv_aload_n hx hb dX6_take_39 rfl (lv_at hl 0 rfl) ?_
    refine lv_aload_n hx hb dX6_take_40 rfl (lv_at hl 3 rfl) ?_
    refine k_v (wr := [(q, .inr (6, [.ref pa])), (pa, .inl (cH, 8, .inr (.inr (.inr (.inr (va_up (fun _ => none) i.toNatClampNeg (some q119)))))))]) (va_runV (As := [.ref h]) (rest := []) ⟨hx, hb, hml, hown, hts⟩ (c_X4_become l D H.size q119 k121 c122 g1123 a1124 o127 g2128 a2129 cA1125 cA2130 0 14 3 64 0 0 0 0 f1126 f2131 h k c g1 a1 o g2 a2 cA1 cA2 now tm pt cl cnt hc nx tr f1 f2 ) (cwV 1 hts gX6_take_X4_become rfl rfl rfl (by decide +kernel) ⟨(Nat.le_of_ble_eq_true rfl), (Nat.le_of_ble_eq_true rfl)⟩) ⟨mP_blind, va_recv hK hP (ci := 4) (q0 := 10) rfl rfl, m_pre _ hN hK hP hD [3, 4, 1, 2] rfl [10, 11, 12, 13, 14, 15, 16, 17, 2, 3, 4, 5, 6, 7, 8, 9] rfl (by decide)⟩ rfl rfl hl.1 rfl (lv_room (Nat.le_of_ble_eq_true rfl)) dX6_take_41 ⟨(Nat.le_of_ble_eq_true rfl), (Nat.le_of_ble_eq_true rfl)⟩) hP hD hS hA [10, 11, 12, 13, 14, 15, 16, 17, 2, 3, 4, 5, 6, 7, 8, 9] [0, 1] rfl rfl (by decide) (by decide) (fun u H locs hw hK1 hP hD hS => ?_)
    have hP : va_P D vwCl [(q, .inr (6, [.ref pa])), (pa, .inl (cH, 8, .inr (.inr (.inr (.inr (va_up (fun _ => none) i.toNatClampNeg (some q119))))))), (h, .inr (4, [.ref k, .ref c, .ref o, .int tr])), (k, .inr (0, [.int now, .int tm, .int pt, .int cl])), (c, .inr (1, [.ref g1, .int cnt])), (g1, .inr (2, [.int 16, .int 5, .ref a1])), (a1, .inl (cA1, 80, .inl f1)), (o, .inr (3, [.ref g2, .int hc, .int nx])), (g2, .inr (2, [.int 12, .int 7, .ref a2])), (a2, .inl (cA2, 84, .inl f2))] H := hP
    have hD : va_D AA [(q, .inr (6, [.ref pa])), (pa, .inl (cH, 8, .inr (.inr (.inr (.inr (va_up (fun _ => none) i.toNatClampNeg (some q119))))))), (h, .inr (4, [.ref k, .ref c, .ref o, .int tr])), (k, .inr (0, [.int now, .int tm, .int pt, .int cl])), (c, .inr (1, [.ref g1, .int cnt])), (g1, .inr (2, [.int 16, .int 5, .ref a1])), (a1, .inl (cA1, 80, .inl f1)), (o, .inr (3, [.ref g2, .int hc, .int nx])), (g2, .inr (2, [.int 12, .int 7, .ref a2])), (a2, .inl (cA2, 84, .inl f2))] := hD
    try dsimp only at hw
    refine W.widen (k := 8) (n := 183) (Nat.le_of_ble_eq_true rfl) (Nat.le_of_ble_eq_true rfl) ?_
    exact hret () (trivial) (m_P hP (is := [2, 3, 4, 5, 6, 7, 8, 9]) rfl) (hK.sub [] rfl) (hD.sub [2, 3, 4, 5, 6, 7, 8, 9] (by decide) rfl) hS (Nat.le_of_ble_eq_true rfl) (Nat.le_of_ble_eq_true rfl) dX6_take_44
  · refine lv_if_ne (tgt := 13) hx hb dX6_take_9 (by decide) (fun hc => absurd (by decide) hc) (fun zc9 => ?_)
    exact absurd hi zw6
set_option maxHeartbeats 4000000 in
set_option maxRecDepth 100000 in
theorem c_X6_take_2 (l : Launch) (D : va_G) (sz : Nat) (q pa : Nat) (cH : ClassId) (i : Int32) (h k c g1 a1 o g2 a2 : Nat) (cA1 cA2 : ClassId) (now tm pt cl cnt hc nx tr : Int32) (f1 f2 : Nat → Int32) (hi : 0 ≤ i ∧ i < 2) : mV l yX6_take wsX6_take (rk 4 8 183) D [.ref q, .int i, .ref h] [(cH, .object "LoanHouse$House"), (cA1, .int), (cA2, .int)] sz [(q, .inr (6, [.ref pa])), (pa, .inl (cH, 2, .inr (.inr (.inr (.inr (fun _ => none)))))), (h, .inr (4, [.ref k, .ref c, .ref o, .int tr])), (k, .inr (0, [.int now, .int tm, .int pt, .int cl])), (c, .inr (1, [.ref g1, .int cnt])), (g1, .inr (2, [.int 16, .int 5, .ref a1])), (a1, .inl (cA1, 80, .inl f1)), (o, .inr (3, [.ref g2, .int hc, .int nx])), (g2, .inr (2, [.int 12, .int 7, .ref a2])), (a2, .inl (cA2, 84, .inl f2))] (S := Unit) (fun _ => True) (fun _ => []) (fun _ => [(h, .inr (4, [.ref k, .ref c, .ref o, .int tr])), (k, .inr (0, [.int now, .int tm, .int pt, .int cl])), (c, .inr (1, [.ref g1, .int cnt])), (g1, .inr (2, [.int 16, .int 5, .ref a1])), (a1, .inl (cA1, 80, .inl f1)), (o, .inr (3, [.ref g2, .int hc, .int nx])), (g2, .inr (2, [.int 12, .int 7, .ref a2])), (a2, .inl (cA2, 84, .inl f2))]) := by
  refine mV_of (cc := cX6_take) (maxL := 4) (plainFor_of_name (by decide)) rfl (Nat.le_of_ble_eq_true rfl) ?_
  intro pp ee ss mm bl mt cd AA QQ hx hb hml hts hown hN hA hK hP hD hS hmn hret ls hl
  have hl : lv_has ls 4 [(0, .ref q), (1, .int i), (2, .ref h)] := hl
  have inX4 : ∀ w ∈ wsX40, w ∈ wsX6_take := fun _ h => List.mem_cons_of_mem _ (List.mem_append_left _ (List.mem_append_left _ (List.mem_append_left _ (List.mem_append_left _ (List.mem_append_right _ h)))))
  have inX6 : ∀ w ∈ wsX60, w ∈ wsX6_take := fun _ h => List.mem_cons_of_mem _ (List.mem_append_left _ (List.mem_append_left _ (List.mem_append_left _ (List.mem_append_left _ (List.mem_append_left _ (List.mem_append_right _ h))))))
  refine lv_iload_n hx hb dX6_take_0 rfl (lv_at hl 1 rfl) ?_
  refine lv_aload_n hx hb dX6_take_1 rfl (lv_at hl 0 rfl) ?_
  refine va_get (D := D) (ci := 6) (v := .ref pa) (C := RX6) (T := TX6) (N := 1) hx hb hts inX6 hown hK hP 0 rfl rfl 0 (by decide) (hts (.fieldLink RX6 15 "LoanHouse$Pictures" "places" "[LLoanHouse$House;") (List.mem_of_getElem? (i := 1) rfl)) (fun _ h9 => h9) rfl dX6_take_2 ?_
  refine va_alen hx hb hK hP 1 0 rfl rfl (v := 2) (by decide) dX6_take_5 ?_
  refine k_pi (va_runSN (As := [.int i, .int 2]) (rest := []) ⟨hx, hb, hml, hown, hts⟩ (c_isBelow l D ss.heap.size i 2 ) ⟨va_cnB 2 hts gX6_take_X7_isBelow_n21 rfl rfl rfl (hN.at 18 rfl) (hts (.initialized RX7) (List.mem_of_getElem? (i := 6) rfl)) (by decide +kernel) ⟨(Nat.le_of_ble_eq_true rfl), (Nat.le_of_ble_eq_true rfl)⟩, (hts (.static yX7_isBelow) (List.mem_of_getElem? (i := 5) rfl)), trivial⟩ ⟨mP_blind, m_pre _ hN hK hP hD [] rfl [] rfl (by decide)⟩ rfl rfl hl.1 rfl (lv_room (Nat.le_of_ble_eq_true rfl)) dX6_take_6 ⟨(Nat.le_of_ble_eq_true rfl), (Nat.le_of_ble_eq_true rfl)⟩) hP hD hS hA [] rfl (fun r133 u H locs hw hP hS => ?_)
  rcases hw with ⟨rfl, zw6⟩ | ⟨rfl, zw6⟩
  · refine lv_if_ne (tgt := 13) hx hb dX6_take_9 (by decide) (fun zc9 => ?_) (fun hc => absurd hc (by decide))
    refine lv_aload_n hx hb dX6_take_13 rfl (lv_at hl 0 rfl) ?_
    refine va_get (D := D) (ci := 6) (v := .ref pa) (C := RX6) (T := TX6) (N := 1) hx hb hts inX6 hown hK hP 0 rfl rfl 0 (by decide) (hts (.fieldLink RX6 15 "LoanHouse$Pictures" "places" "[LLoanHouse$House;") (List.mem_of_getElem? (i := 1) rfl)) (fun _ h9 => h9) rfl dX6_take_14 ?_
    refine lv_iload_n hx hb dX6_take_17 rfl (lv_at hl 1 rfl) ?_
    refine va_aldq hx hb hK hP 1 0 rfl rfl (in_of zw6) dX6_take_18 ?_
    refine W.eq (g2 := F0 mm 19 ls [.null]) rfl ?_
    refine lv_astore_nN (lv' := [(3, .null), (0, .ref q), (1, .int i), (2, .ref h)]) hx hb dX6_take_19 rfl hl (by decide) rfl (fun ls hl => ?_)
    refine lv_aload_nN hx hb dX6_take_20 rfl (lv_at hl 0 rfl) ?_
    refine lv_ifnonnullN hx hb dX6_take_21 ?_
    refine va_new (ci := 4) (fs := [.null, .null, .null, .int 0]) (C := RX4) (T := TX4) (N := 4) hx hb hts inX4 tyX4 tyX4_ok hown (hts (.classLink RX6 13 RX4) (List.mem_of_getElem? (i := 2) rfl)) (hts (.instantiable RX4 4) (List.mem_of_getElem? (i := 3) rfl)) (hts (.initialized RX4) (List.mem_of_getElem? (i := 4) rfl)) hK hP hD hS hA rfl (fun j hj => by rcases (show j = 0 ∨ j = 1 ∨ j = 2 ∨ j = 3 by omega) with rfl | rfl | rfl | rfl <;> rfl) (Nat.le_of_ble_eq_true rfl) (Nat.le_of_ble_eq_true rfl) dX6_take_24 (fun q134 H hP hD hS => ?_)
    have hP : va_P D vwCl [(q, .inr (6, [.ref pa])), (pa, .inl (cH, 2, .inr (.inr (.inr (.inr (fun _ => none)))))), (h, .inr (4, [.ref k, .ref c, .ref o, .int tr])), (k, .inr (0, [.int now, .int tm, .int pt, .int cl])), (c, .inr (1, [.ref g1, .int cnt])), (g1, .inr (2, [.int 16, .int 5, .ref a1])), (a1, .inl (cA1, 80, .inl f1)), (o, .inr (3, [.ref g2, .int hc, .int nx])), (g2, .inr (2, [.int 12, .int 7, .ref a2])), (a2, .inl (cA2, 84, .inl f2)), (q134, .inr (4, [.null, .null, .null, .int 0]))] H := hP
    have hD : va_D AA [(q, .inr (6, [.ref pa])), (pa, .inl (cH, 2, .inr (.inr (.inr (.inr (fun _ => none)))))), (h, .inr (4, [.ref k, .ref c, .ref o, .int tr])), (k, .inr (0, [.int now, .int tm, .int pt, .int cl])), (c, .inr (1, [.ref g1, .int cnt])), (g1, .inr (2, [.int 16, .int 5, .ref a1])), (a1, .inl (cA1, 80, .inl f1)), (o, .inr (3, [.ref g2, .int hc, .int nx])), (g2, .inr (2, [.int 12, .int 7, .ref a2])), (a2, .inl (cA2, 84, .inl f2)), (q134, .inr (4, [.null, .null, .null, .int 0]))] := hD
    refine W.widen (k := 1) (n := 4) (Nat.le_of_ble_eq_true rfl) (Nat.le_of_ble_eq_true rfl) ?_
    refine lv_dup hx hb dX6_take_27 rfl ?_
    refine k_v (wr := [(q, .inr (6, [.ref pa])), (pa, .inl (cH, 2, .inr (.inr (.inr (.inr (fun _ => none)))))), (h, .inr (4, [.ref k, .ref c, .ref o, .int tr])), (k, .inr (0, [.int now, .int tm, .int pt, .int cl])), (c, .inr (1, [.ref g1, .int cnt])), (g1, .inr (2, [.int 16, .int 5, .ref a1])), (a1, .inl (cA1, 80, .inl f1)), (o, .inr (3, [.ref g2, .int hc, .int nx])), (g2, .inr (2, [.int 12, .int 7, .ref a2])), (a2, .inl (cA2, 84, .inl f2))]) (va_runIN (As := []) (rest := [.ref q134]) ⟨hx, hb, hml, hown, hts⟩ (c_X4_init l D H.size q134 ) ⟨va_cnB 0 hts gX6_take_X4_init_n27 rfl rfl rfl (hN.at 19 rfl) (hts (.initialized RX4) (List.mem_of_getElem? (i := 4) rfl)) (by decide +kernel) ⟨(Nat.le_of_ble_eq_true rfl), (Nat.le_of_ble_eq_true rfl)⟩, rfl, (hts (.instanceMethod yX4_init) (List.mem_of_getElem? (i := 8) rfl))⟩ ⟨mP_blind, m_pre _ hN hK hP hD [] rfl [10] rfl (by decide)⟩ rfl rfl hl.1 rfl (lv_room (Nat.le_of_ble_eq_true rfl)) dX6_take_28 ⟨(Nat.le_of_ble_eq_true rfl), (Nat.le_of_ble_eq_true rfl)⟩) hP hD hS hA [10] [0, 1, 2, 3, 4, 5, 6, 7, 8, 9] rfl rfl (by decide) (by decide) (fun u H locs hw hK1 hP hD hS => ?_)
    obtain ⟨k136, c137, g1138, a1139, cA1140, f1141, o142, g2143, a2144, cA2145, f2146⟩ := u
    have hK : va_K D vwCl [(cH, .object "LoanHouse$House"), (cA1, .int), (cA2, .int), (cA1140, .int), (cA2145, .int)] ss := hK.app hK1
    have hP : va_P D vwCl [(q, .inr (6, [.ref pa])), (pa, .inl (cH, 2, .inr (.inr (.inr (.inr (fun _ => none)))))), (h, .inr (4, [.ref k, .ref c, .ref o, .int tr])), (k, .inr (0, [.int now, .int tm, .int pt, .int cl])), (c, .inr (1, [.ref g1, .int cnt])), (g1, .inr (2, [.int 16, .int 5, .ref a1])), (a1, .inl (cA1, 80, .inl f1)), (o, .inr (3, [.ref g2, .int hc, .int nx])), (g2, .inr (2, [.int 12, .int 7, .ref a2])), (a2, .inl (cA2, 84, .inl f2)), (q134, .inr (4, [.ref k136, .ref c137, .ref o142, .int 0])), (k136, .inr (0, [.int 0, .int 14, .int 3, .int 64])), (c137, .inr (1, [.ref g1138, .int 0])), (g1138, .inr (2, [.int 16, .int 5, .ref a1139])), (a1139, .inl (cA1140, 80, .inl f1141)), (o142, .inr (3, [.ref g2143, .int 0, .int 0])), (g2143, .inr (2, [.int 12, .int 7, .ref a2144])), (a2144, .inl (cA2145, 84, .inl f2146))] H := hP
    have hD : va_D AA [(q, .inr (6, [.ref pa])), (pa, .inl (cH, 2, .inr (.inr (.inr (.inr (fun _ => none)))))), (h, .inr (4, [.ref k, .ref c, .ref o, .int tr])), (k, .inr (0, [.int now, .int tm, .int pt, .int cl])), (c, .inr (1, [.ref g1, .int cnt])), (g1, .inr (2, [.int 16, .int 5, .ref a1])), (a1, .inl (cA1, 80, .inl f1)), (o, .inr (3, [.ref g2, .int hc, .int nx])), (g2, .inr (2, [.int 12, .int 7, .ref a2])), (a2, .inl (cA2, 84, .inl f2)), (q134, .inr (4, [.ref k136, .ref c137, .ref o142, .int 0])), (k136, .inr (0, [.int 0, .int 14, .int 3, .int 64])), (c137, .inr (1, [.ref g1138, .int 0])), (g1138, .inr (2, [.int 16, .int 5, .ref a1139])), (a1139, .inl (cA1140, 80, .inl f1141)), (o142, .inr (3, [.ref g2143, .int 0, .int 0])), (g2143, .inr (2, [.int 12, .int 7, .ref a2144])), (a2144, .inl (cA2145, 84, .inl f2146))] := hD
    try dsimp only at hw
    refine W.widen (k := 8) (n := 183) (Nat.le_of_ble_eq_true rfl) (Nat.le_of_ble_eq_true rfl) ?_
    refine lv_astore_n (lv' := [(3, .ref q134), (0, .ref q), (1, .int i), (2, .ref h)]) hx hb dX6_take_31 rfl hl (by decide) rfl (fun ls hl => ?_)
    refine lv_aload_n hx hb dX6_take_32 rfl (lv_at hl 1 rfl) ?_
    refine va_get (D := D) (ci := 6) (v := .ref pa) (C := RX6) (T := TX6) (N := 1) hx hb hts inX6 hown hK hP 0 rfl rfl 0 (by decide) (hts (.fieldLink RX6 15 "LoanHouse$Pictures" "places" "[LLoanHouse$House;") (List.mem_of_getElem? (i := 1) rfl)) (fun _ h9 => h9) rfl dX6_take_33 ?_
    refine lv_iload_n hx hb dX6_take_36 rfl (lv_at hl 2 rfl) ?_
    refine lv_aload_n hx hb dX6_take_37 rfl (lv_at hl 0 rfl) ?_
    refine va_astq hx hb hK hP hD hS 1 0 10 4 rfl rfl rfl rfl (in_of zw6) dX6_take_38 (fun H locs hP hD hS => ?_)
    have hP : va_P D vwCl [(q, .inr (6, [.ref pa])), (pa, .inl (cH, 2, .inr (.inr (.inr (.inr (va_up (fun _ => none) i.toNatClampNeg (some q134))))))), (h, .inr (4, [.ref k, .ref c, .ref o, .int tr])), (k, .inr (0, [.int now, .int tm, .int pt, .int cl])), (c, .inr (1, [.ref g1, .int cnt])), (g1, .inr (2, [.int 16, .int 5, .ref a1])), (a1, .inl (cA1, 80, .inl f1)), (o, .inr (3, [.ref g2, .int hc, .int nx])), (g2, .inr (2, [.int 12, .int 7, .ref a2])), (a2, .inl (cA2, 84, .inl f2)), (q134, .inr (4, [.ref k136, .ref c137, .ref o142, .int 0])), (k136, .inr (0, [.int 0, .int 14, .int 3, .int 64])), (c137, .inr (1, [.ref g1138, .int 0])), (g1138, .inr (2, [.int 16, .int 5, .ref a1139])), (a1139, .inl (cA1140, 80, .inl f1141)), (o142, .inr (3, [.ref g2143, .int 0, .int 0])), (g2143, .inr (2, [.int 12, .int 7, .ref a2144])), (a2144, .inl (cA2145, 84, .inl f2146))] H := hP
    have hD : va_D AA [(q, .inr (6, [.ref pa])), (pa, .inl (cH, 2, .inr (.inr (.inr (.inr (va_up (fun _ => none) i.toNatClampNeg (some q134))))))), (h, .inr (4, [.ref k, .ref c, .ref o, .int tr])), (k, .inr (0, [.int now, .int tm, .int pt, .int cl])), (c, .inr (1, [.ref g1, .int cnt])), (g1, .inr (2, [.int 16, .int 5, .ref a1])), (a1, .inl (cA1, 80, .inl f1)), (o, .inr (3, [.ref g2, .int hc, .int nx])), (g2, .inr (2, [.int 12, .int 7, .ref a2])), (a2, .inl (cA2, 84, .inl f2)), (q134, .inr (4, [.ref k136, .ref c137, .ref o142, .int 0])), (k136, .inr (0, [.int 0, .int 14, .int 3, .int 64])), (c137, .inr (1, [.ref g1138, .int 0])), (g1138, .inr (2, [.int 16, .int 5, .ref a1139])), (a1139, .inl (cA1140, 80, .inl f1141)), (o142, .inr (3, [.ref g2143, .int 0, .int 0])), (g2143, .inr (2, [.int 12, .int 7, .ref a2144])), (a2144, .inl (cA2145, 84, .inl f2146))] := hD
    refine lv_aload_n hx hb dX6_take_39 rfl (lv_at hl 0 rfl) ?_
    refine lv_aload_n hx hb dX6_take_40 rfl (lv_at hl 3 rfl) ?_
    refine k_v (wr := [(q, .inr (6, [.ref pa])), (pa, .inl (cH, 2, .inr (.inr (.inr (.inr (va_up (fun _ => none) i.toNatClampNeg (some q134)))))))]) (va_runV (As := [.ref h]) (rest := []) ⟨hx, hb, hml, hown, hts⟩ (c_X4_become l D H.size q134 k136 c137 g1138 a1139 o142 g2143 a2144 cA1140 cA2145 0 14 3 64 0 0 0 0 f1141 f2146 h k c g1 a1 o g2 a2 cA1 cA2 now tm pt cl cnt hc nx tr f1 f2 ) (cwV 1 hts gX6_take_X4_become rfl rfl rfl (by decide +kernel) ⟨(Nat.le_of_ble_eq_true rfl), (Nat.le_of_ble_eq_true rfl)⟩) ⟨mP_blind, va_recv hK hP (ci := 4) (q0 := 10) rfl rfl, m_pre _ hN hK hP hD [3, 4, 1, 2] rfl [10, 11, 12, 13, 14, 15, 16, 17, 2, 3, 4, 5, 6, 7, 8, 9] rfl (by decide)⟩ rfl rfl hl.1 rfl (lv_room (Nat.le_of_ble_eq_true rfl)) dX6_take_41 ⟨(Nat.le_of_ble_eq_true rfl), (Nat.le_of_ble_eq_true rfl)⟩) hP hD hS hA [10, 11, 12, 13, 14, 15, 16, 17, 2, 3, 4, 5, 6, 7, 8, 9] [0, 1] rfl rfl (by decide) (by decide) (fun u H locs hw hK1 hP hD hS => ?_)
    have hP : va_P D vwCl [(q, .inr (6, [.ref pa])), (pa, .inl (cH, 2, .inr (.inr (.inr (.inr (va_up (fun _ => none) i.toNatClampNeg (some q134))))))), (h, .inr (4, [.ref k, .ref c, .ref o, .int tr])), (k, .inr (0, [.int now, .int tm, .int pt, .int cl])), (c, .inr (1, [.ref g1, .int cnt])), (g1, .inr (2, [.int 16, .int 5, .ref a1])), (a1, .inl (cA1, 80, .inl f1)), (o, .inr (3, [.ref g2, .int hc, .int nx])), (g2, .inr (2, [.int 12, .int 7, .ref a2])), (a2, .inl (cA2, 84, .inl f2))] H := hP
    have hD : va_D AA [(q, .inr (6, [.ref pa])), (pa, .inl (cH, 2, .inr (.inr (.inr (.inr (va_up (fun _ => none) i.toNatClampNeg (some q134))))))), (h, .inr (4, [.ref k, .ref c, .ref o, .int tr])), (k, .inr (0, [.int now, .int tm, .int pt, .int cl])), (c, .inr (1, [.ref g1, .int cnt])), (g1, .inr (2, [.int 16, .int 5, .ref a1])), (a1, .inl (cA1, 80, .inl f1)), (o, .inr (3, [.ref g2, .int hc, .int nx])), (g2, .inr (2, [.int 12, .int 7, .ref a2])), (a2, .inl (cA2, 84, .inl f2))] := hD
    try dsimp only at hw
    refine W.widen (k := 8) (n := 183) (Nat.le_of_ble_eq_true rfl) (Nat.le_of_ble_eq_true rfl) ?_
    exact hret () (trivial) (m_P hP (is := [2, 3, 4, 5, 6, 7, 8, 9]) rfl) (hK.sub [] rfl) (hD.sub [2, 3, 4, 5, 6, 7, 8, 9] (by decide) rfl) hS (Nat.le_of_ble_eq_true rfl) (Nat.le_of_ble_eq_true rfl) dX6_take_44
  · refine lv_if_ne (tgt := 13) hx hb dX6_take_9 (by decide) (fun hc => absurd (by decide) hc) (fun zc9 => ?_)
    exact absurd hi zw6
set_option maxHeartbeats 4000000 in
set_option maxRecDepth 100000 in
theorem c_bitCount (l : Launch) (D : va_G) (sz : Nat)  : mI l yJ6_bitCount_0f7a4 wsJ6_bitCount_0f7a4 (rk 0 0 0) D [.int 0] [] sz [] (S := Unit) (fun r _ => r = 0) (fun _ => []) (fun _ => []) := by
  refine mI_of (cc := cJ6_bitCount_0f7a4) (maxL := 1) (ty := .int) (plainFor_of_name (by decide)) rfl (Nat.le_of_ble_eq_true rfl) ?_
  intro pp ee ss mm bl mt cd AA QQ hx hb hml hts hown hN hA hK hP hD hS hret ls hl
  have hl : lv_has ls 1 [(0, .int 0)] := hl
  refine lv_iload_n hx hb dJ6_bitCount_0f7a4_0 rfl (lv_at hl 0 rfl) ?_
  refine lv_iload_n hx hb dJ6_bitCount_0f7a4_1 rfl (lv_at hl 0 rfl) ?_
  refine lv_iconst (v := 1) hx hb dJ6_bitCount_0f7a4_2 (by decide) ?_
  refine lv_iushr (v := 0) hx hb dJ6_bitCount_0f7a4_3 (by decide) ?_
  refine lv_ldcw hx hb hown (hts (.constant RJ6 265 (1431655765)) (List.mem_of_getElem? (i := 1) rfl)) dJ6_bitCount_0f7a4_4 ?_
  refine lv_iand hx hb dJ6_bitCount_0f7a4_7 ?_
  refine lv_topi (fun x199 ex199 => ?_)
  have ex199 : x199 = 0 := ex199.trans (by decide)
  subst ex199
  refine lv_isub hx hb dJ6_bitCount_0f7a4_8 ?_
  refine lv_topi (fun x200 ex200 => ?_)
  have ex200 : x200 = 0 := ex200.trans (by decide)
  subst ex200
  refine lv_istore_n (lv' := [(0, .int 0)]) hx hb dJ6_bitCount_0f7a4_9 rfl hl (by decide) rfl (fun ls hl => ?_)
  refine lv_iload_n hx hb dJ6_bitCount_0f7a4_10 rfl (lv_at hl 0 rfl) ?_
  refine lv_ldcw hx hb hown (hts (.constant RJ6 266 (858993459)) (List.mem_of_getElem? (i := 2) rfl)) dJ6_bitCount_0f7a4_11 ?_
  refine lv_iand hx hb dJ6_bitCount_0f7a4_14 ?_
  refine lv_topi (fun x201 ex201 => ?_)
  have ex201 : x201 = 0 := ex201.trans (by decide)
  subst ex201
  refine lv_iload_n hx hb dJ6_bitCount_0f7a4_15 rfl (lv_at hl 0 rfl) ?_
  refine lv_iconst (v := 2) hx hb dJ6_bitCount_0f7a4_16 (by decide) ?_
  refine lv_iushr (v := 0) hx hb dJ6_bitCount_0f7a4_17 (by decide) ?_
  refine lv_ldcw hx hb hown (hts (.constant RJ6 266 (858993459)) (List.mem_of_getElem? (i := 2) rfl)) dJ6_bitCount_0f7a4_18 ?_
  refine lv_iand hx hb dJ6_bitCount_0f7a4_21 ?_
  refine lv_topi (fun x202 ex202 => ?_)
  have ex202 : x202 = 0 := ex202.trans (by decide)
  subst ex202
  refine lv_iadd hx hb dJ6_bitCount_0f7a4_22 ?_
  refine lv_topi (fun x203 ex203 => ?_)
  have ex203 : x203 = 0 := ex203.trans (by decide)
  subst ex203
  refine lv_istore_n (lv' := [(0, .int 0)]) hx hb dJ6_bitCount_0f7a4_23 rfl hl (by decide) rfl (fun ls hl => ?_)
  refine lv_iload_n hx hb dJ6_bitCount_0f7a4_24 rfl (lv_at hl 0 rfl) ?_
  refine lv_iload_n hx hb dJ6_bitCount_0f7a4_25 rfl (lv_at hl 0 rfl) ?_
  refine lv_iconst (v := 4) hx hb dJ6_bitCount_0f7a4_26 (by decide) ?_
  refine lv_iushr (v := 0) hx hb dJ6_bitCount_0f7a4_27 (by decide) ?_
  refine lv_iadd hx hb dJ6_bitCount_0f7a4_28 ?_
  refine lv_topi (fun x204 ex204 => ?_)
  have ex204 : x204 = 0 := ex204.trans (by decide)
  subst ex204
  refine lv_ldcw hx hb hown (hts (.constant RJ6 267 (252645135)) (List.mem_of_getElem? (i := 3) rfl)) dJ6_bitCount_0f7a4_29 ?_
  refine lv_iand hx hb dJ6_bitCount_0f7a4_32 ?_
  refine lv_topi (fun x205 ex205 => ?_)
  have ex205 : x205 = 0 := ex205.trans (by decide)
  subst ex205
  refine lv_istore_n (lv' := [(0, .int 0)]) hx hb dJ6_bitCount_0f7a4_33 rfl hl (by decide) rfl (fun ls hl => ?_)
  refine lv_iload_n hx hb dJ6_bitCount_0f7a4_34 rfl (lv_at hl 0 rfl) ?_
  refine lv_iload_n hx hb dJ6_bitCount_0f7a4_35 rfl (lv_at hl 0 rfl) ?_
  refine lv_bipush (v := 8) hx hb dJ6_bitCount_0f7a4_36 (by decide) ?_
  refine lv_iushr (v := 0) hx hb dJ6_bitCount_0f7a4_38 (by decide) ?_
  refine lv_iadd hx hb dJ6_bitCount_0f7a4_39 ?_
  refine lv_topi (fun x206 ex206 => ?_)
  have ex206 : x206 = 0 := ex206.trans (by decide)
  subst ex206
  refine lv_istore_n (lv' := [(0, .int 0)]) hx hb dJ6_bitCount_0f7a4_40 rfl hl (by decide) rfl (fun ls hl => ?_)
  refine lv_iload_n hx hb dJ6_bitCount_0f7a4_41 rfl (lv_at hl 0 rfl) ?_
  refine lv_iload_n hx hb dJ6_bitCount_0f7a4_42 rfl (lv_at hl 0 rfl) ?_
  refine lv_bipush (v := 16) hx hb dJ6_bitCount_0f7a4_43 (by decide) ?_
  refine lv_iushr (v := 0) hx hb dJ6_bitCount_0f7a4_45 (by decide) ?_
  refine lv_iadd hx hb dJ6_bitCount_0f7a4_46 ?_
  refine lv_topi (fun x207 ex207 => ?_)
  have ex207 : x207 = 0 := ex207.trans (by decide)
  subst ex207
  refine lv_istore_n (lv' := [(0, .int 0)]) hx hb dJ6_bitCount_0f7a4_47 rfl hl (by decide) rfl (fun ls hl => ?_)
  refine lv_iload_n hx hb dJ6_bitCount_0f7a4_48 rfl (lv_at hl 0 rfl) ?_
  refine lv_bipush (v := 63) hx hb dJ6_bitCount_0f7a4_49 (by decide) ?_
  refine lv_iand hx hb dJ6_bitCount_0f7a4_51 ?_
  refine lv_topi (fun x208 ex208 => ?_)
  have ex208 : x208 = 0 := ex208.trans (by decide)
  subst ex208
  exact hret 0 () rfl (rfl) hP (hK.sub [] rfl) hD hS (Nat.le_of_ble_eq_true rfl) (Nat.le_of_ble_eq_true rfl) dJ6_bitCount_0f7a4_52
