set_option maxHeartbeats 4000000 in
set_option maxRecDepth 100000 in
theorem c_X8_renew (l : Launch) (D : va_G) (sz : Nat) (m a pa ka za : Nat) (cA : ClassId) (u0 : Int32) (y : Int64) (f : Nat → Int32) (p : Int32) (h4 : f 4 = 0) : mI l yX8_renew wsX8_renew (rk 2 0 0) D [.ref m, .int p] [(cA, .int)] sz [(m, .inr (8, [.ref a, .ref pa, .int u0, .ref ka, .ref za, .long y])), (a, .inl (cA, 172, .inl f))] (S := Unit) (fun r _ => r = (-1000000001)) (fun _ => []) (fun _ => [(m, .inr (8, [.ref a, .ref pa, .int u0, .ref ka, .ref za, .long y])), (a, .inl (cA, 172, .inl f))]) := by
  refine mI_of (cc := cX8_renew) (maxL := 3) (ty := .int) (plainFor_of_name (by decide)) rfl (Nat.le_of_ble_eq_true rfl) ?_
  intro pp ee ss mm bl mt cd AA QQ hx hb hml hts hown hN hA hK hP hD hS hret ls hl
  have hl : lv_has ls 3 [(0, .ref m), (1, .int p)] := hl
  refine lv_aload_n hx hb dX8_renew_0 rfl (lv_at hl 0 rfl) ?_
  refine lv_iload_n hx hb dX8_renew_1 rfl (lv_at hl 1 rfl) ?_
  refine k_pi (va_runV (As := [.int p]) (rest := []) ⟨hx, hb, hml, hown, hts⟩ (c_X8_isCopy l D ss.heap.size m a pa ka za cA u0 y f p h4) (cwV 1 hts gX8_renew_X8_isCopy rfl rfl rfl (by decide +kernel) ⟨(Nat.le_of_ble_eq_true rfl), (Nat.le_of_ble_eq_true rfl)⟩) ⟨mP_blind, va_recv hK hP (ci := 8) (q0 := 0) rfl rfl, m_pre _ hN hK hP hD [0] rfl [0, 1] rfl (by decide)⟩ rfl rfl hl.1 rfl (lv_room (Nat.le_of_ble_eq_true rfl)) dX8_renew_2 ⟨(Nat.le_of_ble_eq_true rfl), (Nat.le_of_ble_eq_true rfl)⟩) hP hD hS hA [0, 1] rfl (fun r334 u H locs hw hP hS => ?_)
  obtain rfl := hw
  refine lv_if_ne (tgt := 11) hx hb dX8_renew_5 (by decide) (fun hc => absurd (by decide) hc) (fun zc5 => ?_)
  refine lv_ldc hx hb hown (hts (.constant RX8 92 (-1000000001)) (List.mem_of_getElem? (i := 1) rfl)) dX8_renew_8 ?_
  exact hret (-1000000001) () rfl (rfl) hP (hK.sub [] rfl) hD hS (Nat.le_of_ble_eq_true rfl) (Nat.le_of_ble_eq_true rfl) dX8_renew_10
set_option maxHeartbeats 4000000 in
set_option maxRecDepth 100000 in
theorem c_X8_lose (l : Launch) (D : va_G) (sz : Nat) (m a pa ka za : Nat) (cA : ClassId) (u0 : Int32) (y : Int64) (f : Nat → Int32) (p : Int32) (h4 : f 4 = 0) : mI l yX8_lose wsX8_lose (rk 2 0 0) D [.ref m, .int p] [(cA, .int)] sz [(m, .inr (8, [.ref a, .ref pa, .int u0, .ref ka, .ref za, .long y])), (a, .inl (cA, 172, .inl f))] (S := Unit) (fun r _ => r = (-1000000001)) (fun _ => []) (fun _ => [(m, .inr (8, [.ref a, .ref pa, .int u0, .ref ka, .ref za, .long y])), (a, .inl (cA, 172, .inl f))]) := by
  refine mI_of (cc := cX8_lose) (maxL := 3) (ty := .int) (plainFor_of_name (by decide)) rfl (Nat.le_of_ble_eq_true rfl) ?_
  intro pp ee ss mm bl mt cd AA QQ hx hb hml hts hown hN hA hK hP hD hS hret ls hl
  have hl : lv_has ls 3 [(0, .ref m), (1, .int p)] := hl
  refine lv_aload_n hx hb dX8_lose_0 rfl (lv_at hl 0 rfl) ?_
  refine lv_iload_n hx hb dX8_lose_1 rfl (lv_at hl 1 rfl) ?_
  refine k_pi (va_runV (As := [.int p]) (rest := []) ⟨hx, hb, hml, hown, hts⟩ (c_X8_isCopy l D ss.heap.size m a pa ka za cA u0 y f p h4) (cwV 1 hts gX8_lose_X8_isCopy rfl rfl rfl (by decide +kernel) ⟨(Nat.le_of_ble_eq_true rfl), (Nat.le_of_ble_eq_true rfl)⟩) ⟨mP_blind, va_recv hK hP (ci := 8) (q0 := 0) rfl rfl, m_pre _ hN hK hP hD [0] rfl [0, 1] rfl (by decide)⟩ rfl rfl hl.1 rfl (lv_room (Nat.le_of_ble_eq_true rfl)) dX8_lose_2 ⟨(Nat.le_of_ble_eq_true rfl), (Nat.le_of_ble_eq_true rfl)⟩) hP hD hS hA [0, 1] rfl (fun r335 u H locs hw hP hS => ?_)
  obtain rfl := hw
  refine lv_if_ne (tgt := 11) hx hb dX8_lose_5 (by decide) (fun hc => absurd (by decide) hc) (fun zc5 => ?_)
  refine lv_ldc hx hb hown (hts (.constant RX8 92 (-1000000001)) (List.mem_of_getElem? (i := 1) rfl)) dX8_lose_8 ?_
  exact hret (-1000000001) () rfl (rfl) hP (hK.sub [] rfl) hD hS (Nat.le_of_ble_eq_true rfl) (Nat.le_of_ble_eq_true rfl) dX8_lose_10
set_option maxHeartbeats 4000000 in
set_option maxRecDepth 100000 in
theorem c_X8_copyOf (l : Launch) (D : va_G) (sz : Nat) (m a pa ka za : Nat) (cA : ClassId) (u0 : Int32) (y : Int64) (f : Nat → Int32) (p q : Int32) (h4 : f 4 = 0) : mI l yX8_copyOf wsX8_copyOf (rk 2 0 0) D [.ref m, .int p, .int q] [(cA, .int)] sz [(m, .inr (8, [.ref a, .ref pa, .int u0, .ref ka, .ref za, .long y])), (a, .inl (cA, 172, .inl f))] (S := Unit) (fun r _ => r = (-1000000001)) (fun _ => []) (fun _ => [(m, .inr (8, [.ref a, .ref pa, .int u0, .ref ka, .ref za, .long y])), (a, .inl (cA, 172, .inl f))]) := by
  refine mI_of (cc := cX8_copyOf) (maxL := 4) (ty := .int) (plainFor_of_name (by decide)) rfl (Nat.le_of_ble_eq_true rfl) ?_
  intro pp ee ss mm bl mt cd AA QQ hx hb hml hts hown hN hA hK hP hD hS hret ls hl
  have hl : lv_has ls 4 [(0, .ref m), (1, .int p), (2, .int q)] := hl
  refine lv_aload_n hx hb dX8_copyOf_0 rfl (lv_at hl 0 rfl) ?_
  refine lv_iload_n hx hb dX8_copyOf_1 rfl (lv_at hl 1 rfl) ?_
  refine k_pi (va_runV (As := [.int p]) (rest := []) ⟨hx, hb, hml, hown, hts⟩ (c_X8_isCopy l D ss.heap.size m a pa ka za cA u0 y f p h4) (cwV 1 hts gX8_copyOf_X8_isCopy rfl rfl rfl (by decide +kernel) ⟨(Nat.le_of_ble_eq_true rfl), (Nat.le_of_ble_eq_true rfl)⟩) ⟨mP_blind, va_recv hK hP (ci := 8) (q0 := 0) rfl rfl, m_pre _ hN hK hP hD [0] rfl [0, 1] rfl (by decide)⟩ rfl rfl hl.1 rfl (lv_room (Nat.le_of_ble_eq_true rfl)) dX8_copyOf_2 ⟨(Nat.le_of_ble_eq_true rfl), (Nat.le_of_ble_eq_true rfl)⟩) hP hD hS hA [0, 1] rfl (fun r336 u H locs hw hP hS => ?_)
  obtain rfl := hw
  refine lv_if_ne (tgt := 11) hx hb dX8_copyOf_5 (by decide) (fun hc => absurd (by decide) hc) (fun zc5 => ?_)
  refine lv_ldc hx hb hown (hts (.constant RX8 92 (-1000000001)) (List.mem_of_getElem? (i := 1) rfl)) dX8_copyOf_8 ?_
  exact hret (-1000000001) () rfl (rfl) hP (hK.sub [] rfl) hD hS (Nat.le_of_ble_eq_true rfl) (Nat.le_of_ble_eq_true rfl) dX8_copyOf_10
set_option maxHeartbeats 4000000 in
set_option maxRecDepth 100000 in
theorem c_X8_giveUp (l : Launch) (D : va_G) (sz : Nat) (m a pa ka za : Nat) (cA : ClassId) (u0 : Int32) (y : Int64) (f : Nat → Int32) (p : Int32) (h5 : f 5 = 0) : mI l yX8_giveUp wsX8_giveUp (rk 1 0 0) D [.ref m, .int p] [(cA, .int)] sz [(m, .inr (8, [.ref a, .ref pa, .int u0, .ref ka, .ref za, .long y])), (a, .inl (cA, 172, .inl f))] (S := Unit) (fun r _ => r = (-1000000001)) (fun _ => []) (fun _ => [(m, .inr (8, [.ref a, .ref pa, .int u0, .ref ka, .ref za, .long y])), (a, .inl (cA, 172, .inl f))]) := by
  refine mI_of (cc := cX8_giveUp) (maxL := 4) (ty := .int) (plainFor_of_name (by decide)) rfl (Nat.le_of_ble_eq_true rfl) ?_
  intro pp ee ss mm bl mt cd AA QQ hx hb hml hts hown hN hA hK hP hD hS hret ls hl
  have hl : lv_has ls 4 [(0, .ref m), (1, .int p)] := hl
  refine lv_aload_n hx hb dX8_giveUp_0 rfl (lv_at hl 0 rfl) ?_
  refine lv_iload_n hx hb dX8_giveUp_1 rfl (lv_at hl 1 rfl) ?_
  refine k_pi (va_runV (As := [.int p]) (rest := []) ⟨hx, hb, hml, hown, hts⟩ (c_X8_findHold l D ss.heap.size m a pa ka za cA u0 y f p h5) (cwV 1 hts gX8_giveUp_X8_findHold rfl rfl rfl (by decide +kernel) ⟨(Nat.le_of_ble_eq_true rfl), (Nat.le_of_ble_eq_true rfl)⟩) ⟨mP_blind, va_recv hK hP (ci := 8) (q0 := 0) rfl rfl, m_pre _ hN hK hP hD [0] rfl [0, 1] rfl (by decide)⟩ rfl rfl hl.1 rfl (lv_room (Nat.le_of_ble_eq_true rfl)) dX8_giveUp_2 ⟨(Nat.le_of_ble_eq_true rfl), (Nat.le_of_ble_eq_true rfl)⟩) hP hD hS hA [0, 1] rfl (fun r337 u H locs hw hP hS => ?_)
  obtain rfl := hw
  refine lv_istore_n (lv' := [(2, .int (-1)), (0, .ref m), (1, .int p)]) hx hb dX8_giveUp_5 rfl hl (by decide) rfl (fun ls hl => ?_)
  refine lv_iload_n hx hb dX8_giveUp_6 rfl (lv_at hl 0 rfl) ?_
  refine lv_if_ge (tgt := 13) hx hb dX8_giveUp_7 (by decide) (fun hc => absurd hc (by decide)) (fun zc7 => ?_)
  refine lv_ldc hx hb hown (hts (.constant RX8 92 (-1000000001)) (List.mem_of_getElem? (i := 1) rfl)) dX8_giveUp_10 ?_
  exact hret (-1000000001) () rfl (rfl) hP (hK.sub [] rfl) hD hS (Nat.le_of_ble_eq_true rfl) (Nat.le_of_ble_eq_true rfl) dX8_giveUp_12
set_option maxHeartbeats 4000000 in
set_option maxRecDepth 100000 in
theorem c_X8_holdOf (l : Launch) (D : va_G) (sz : Nat) (m a pa ka za : Nat) (cA : ClassId) (u0 : Int32) (y : Int64) (f : Nat → Int32) (p q : Int32) (h5 : f 5 = 0) : mI l yX8_holdOf wsX8_holdOf (rk 1 0 0) D [.ref m, .int p, .int q] [(cA, .int)] sz [(m, .inr (8, [.ref a, .ref pa, .int u0, .ref ka, .ref za, .long y])), (a, .inl (cA, 172, .inl f))] (S := Unit) (fun r _ => r = (-1000000001)) (fun _ => []) (fun _ => [(m, .inr (8, [.ref a, .ref pa, .int u0, .ref ka, .ref za, .long y])), (a, .inl (cA, 172, .inl f))]) := by
  refine mI_of (cc := cX8_holdOf) (maxL := 4) (ty := .int) (plainFor_of_name (by decide)) rfl (Nat.le_of_ble_eq_true rfl) ?_
  intro pp ee ss mm bl mt cd AA QQ hx hb hml hts hown hN hA hK hP hD hS hret ls hl
  have hl : lv_has ls 4 [(0, .ref m), (1, .int p), (2, .int q)] := hl
  refine lv_aload_n hx hb dX8_holdOf_0 rfl (lv_at hl 0 rfl) ?_
  refine lv_iload_n hx hb dX8_holdOf_1 rfl (lv_at hl 1 rfl) ?_
  refine k_pi (va_runV (As := [.int p]) (rest := []) ⟨hx, hb, hml, hown, hts⟩ (c_X8_findHold l D ss.heap.size m a pa ka za cA u0 y f p h5) (cwV 1 hts gX8_holdOf_X8_findHold rfl rfl rfl (by decide +kernel) ⟨(Nat.le_of_ble_eq_true rfl), (Nat.le_of_ble_eq_true rfl)⟩) ⟨mP_blind, va_recv hK hP (ci := 8) (q0 := 0) rfl rfl, m_pre _ hN hK hP hD [0] rfl [0, 1] rfl (by decide)⟩ rfl rfl hl.1 rfl (lv_room (Nat.le_of_ble_eq_true rfl)) dX8_holdOf_2 ⟨(Nat.le_of_ble_eq_true rfl), (Nat.le_of_ble_eq_true rfl)⟩) hP hD hS hA [0, 1] rfl (fun r338 u H locs hw hP hS => ?_)
  obtain rfl := hw
  refine lv_istore_n (lv' := [(3, .int (-1)), (0, .ref m), (1, .int p), (2, .int q)]) hx hb dX8_holdOf_5 rfl hl (by decide) rfl (fun ls hl => ?_)
  refine lv_iload_n hx hb dX8_holdOf_6 rfl (lv_at hl 0 rfl) ?_
  refine lv_if_ge (tgt := 13) hx hb dX8_holdOf_7 (by decide) (fun hc => absurd hc (by decide)) (fun zc7 => ?_)
  refine lv_ldc hx hb hown (hts (.constant RX8 92 (-1000000001)) (List.mem_of_getElem? (i := 1) rfl)) dX8_holdOf_10 ?_
  exact hret (-1000000001) () rfl (rfl) hP (hK.sub [] rfl) hD hS (Nat.le_of_ble_eq_true rfl) (Nat.le_of_ble_eq_true rfl) dX8_holdOf_12
set_option maxHeartbeats 4000000 in
set_option maxRecDepth 100000 in
theorem c_X8_undo (l : Launch) (D : va_G) (sz : Nat) (m a pa ka za : Nat) (y : Int64) : mI l yX8_undo wsX8_undo (rk 0 0 0) D [.ref m] [] sz [(m, .inr (8, [.ref a, .ref pa, .int 0, .ref ka, .ref za, .long y]))] (S := Unit) (fun r _ => r = (-1000000003)) (fun _ => []) (fun _ => [(m, .inr (8, [.ref a, .ref pa, .int 0, .ref ka, .ref za, .long y]))]) := by
  refine mI_of (cc := cX8_undo) (maxL := 2) (ty := .int) (plainFor_of_name (by decide)) rfl (Nat.le_of_ble_eq_true rfl) ?_
  intro pp ee ss mm bl mt cd AA QQ hx hb hml hts hown hN hA hK hP hD hS hret ls hl
  have hl : lv_has ls 2 [(0, .ref m)] := hl
  have inX8 : ∀ w ∈ wsX80, w ∈ wsX8_undo := fun _ h => List.mem_cons_of_mem _ (List.mem_append_right _ h)
  refine lv_aload_n hx hb dX8_undo_0 rfl (lv_at hl 0 rfl) ?_
  refine va_get (D := D) (ci := 8) (v := .int 0) (C := RX8) (T := TX8) (N := 6) hx hb hts inX8 hown hK hP 0 rfl rfl 2 (by decide) (hts (.fieldLink RX8 82 "LoanHouseModel" "undoMany" "I") (List.mem_of_getElem? (i := 1) rfl)) (fun _ h9 => h9) rfl dX8_undo_1 ?_
  refine lv_if_ne (tgt := 10) hx hb dX8_undo_4 (by decide) (fun hc => absurd (by decide) hc) (fun zc4 => ?_)
  refine lv_ldc hx hb hown (hts (.constant RX8 115 (-1000000003)) (List.mem_of_getElem? (i := 2) rfl)) dX8_undo_7 ?_
  exact hret (-1000000003) () rfl (rfl) hP (hK.sub [] rfl) hD hS (Nat.le_of_ble_eq_true rfl) (Nat.le_of_ble_eq_true rfl) dX8_undo_9
set_option maxHeartbeats 4000000 in
set_option maxRecDepth 100000 in
theorem c_X8_setCopy (l : Launch) (D : va_G) (sz : Nat) (m a pa ka za : Nat) (cA : ClassId) (u0 : Int32) (y : Int64) (f : Nat → Int32) (s0 zw0 d0 : Int32) (h5 : f 5 = 0) : mV l yX8_setCopy wsX8_setCopy (rk 0 0 0) D [.ref m, .int 0, .int s0, .int zw0, .int d0] [(cA, .int)] sz [(m, .inr (8, [.ref a, .ref pa, .int u0, .ref ka, .ref za, .long y])), (a, .inl (cA, 172, .inl f))] (S := Nat → Int32) (fun g => g 5 = 0) (fun _ => []) (fun g => [(m, .inr (8, [.ref a, .ref pa, .int u0, .ref ka, .ref za, .long y])), (a, .inl (cA, 172, .inl g))]) := by
  refine mV_of (cc := cX8_setCopy) (maxL := 5) (plainFor_of_name (by decide)) rfl (Nat.le_of_ble_eq_true rfl) ?_
  intro pp ee ss mm bl mt cd AA QQ hx hb hml hts hown hN hA hK hP hD hS hmn hret ls hl
  have hl : lv_has ls 5 [(0, .ref m), (1, .int 0), (2, .int s0), (3, .int zw0), (4, .int d0)] := hl
  have inX8 : ∀ w ∈ wsX80, w ∈ wsX8_setCopy := fun _ h => List.mem_cons_of_mem _ (List.mem_append_right _ h)
  refine lv_aload_n hx hb dX8_setCopy_0 rfl (lv_at hl 0 rfl) ?_
  refine va_get (D := D) (ci := 8) (v := .ref a) (C := RX8) (T := TX8) (N := 6) hx hb hts inX8 hown hK hP 0 rfl rfl 0 (by decide) (hts (.fieldLink RX8 7 "LoanHouseModel" "st" "[I") (List.mem_of_getElem? (i := 1) rfl)) (fun _ h9 => h9) rfl dX8_setCopy_1 ?_
  refine lv_bipush (v := 8) hx hb dX8_setCopy_4 (by decide) ?_
  refine lv_iconst (v := 5) hx hb dX8_setCopy_6 (by decide) ?_
  refine lv_iload_n hx hb dX8_setCopy_7 rfl (lv_at hl 1 rfl) ?_
  refine lv_imul hx hb dX8_setCopy_8 ?_
  refine lv_topi (fun x339 ex339 => ?_)
  have ex339 : x339 = 0 := ex339.trans (by decide)
  subst ex339
  refine lv_iadd hx hb dX8_setCopy_9 ?_
  refine lv_topi (fun x340 ex340 => ?_)
  have ex340 : x340 = 8 := ex340.trans (by decide)
  subst ex340
  refine lv_iconst (v := 2) hx hb dX8_setCopy_10 (by decide) ?_
  refine lv_iadd hx hb dX8_setCopy_11 ?_
  refine lv_topi (fun x341 ex341 => ?_)
  have ex341 : x341 = 10 := ex341.trans (by decide)
  subst ex341
  refine lv_iload_n hx hb dX8_setCopy_12 rfl (lv_at hl 2 rfl) ?_
  refine va_iast hx hb hK hP hD hS 1 0 rfl rfl (vi_ok (by decide)) dX8_setCopy_13 (fun H locs hP hD hS => ?_)
  have hP : va_P D vwCl [(m, .inr (8, [.ref a, .ref pa, .int u0, .ref ka, .ref za, .long y])), (a, .inl (cA, 172, .inl (upd f (10 : Int32).toNatClampNeg s0)))] H := hP
  have hD : va_D AA [(m, .inr (8, [.ref a, .ref pa, .int u0, .ref ka, .ref za, .long y])), (a, .inl (cA, 172, .inl (upd f (10 : Int32).toNatClampNeg s0)))] := hD
  obtain ⟨f342, ef342⟩ : ∃ g : Nat → Int32, g = upd f (10 : Int32).toNatClampNeg s0 := ⟨_, rfl⟩
  rw [← ef342] at hP hD
  have hf342_5 : f342 5 = 0 := by rw [ef342]; exact (pk_un (by decide)).trans h5
  refine lv_aload_n hx hb dX8_setCopy_14 rfl (lv_at hl 0 rfl) ?_
  refine va_get (D := D) (ci := 8) (v := .ref a) (C := RX8) (T := TX8) (N := 6) hx hb hts inX8 hown hK hP 0 rfl rfl 0 (by decide) (hts (.fieldLink RX8 7 "LoanHouseModel" "st" "[I") (List.mem_of_getElem? (i := 1) rfl)) (fun _ h9 => h9) rfl dX8_setCopy_15 ?_
  refine lv_bipush (v := 8) hx hb dX8_setCopy_18 (by decide) ?_
  refine lv_iconst (v := 5) hx hb dX8_setCopy_20 (by decide) ?_
  refine lv_iload_n hx hb dX8_setCopy_21 rfl (lv_at hl 1 rfl) ?_
  refine lv_imul hx hb dX8_setCopy_22 ?_
  refine lv_topi (fun x343 ex343 => ?_)
  have ex343 : x343 = 0 := ex343.trans (by decide)
  subst ex343
  refine lv_iadd hx hb dX8_setCopy_23 ?_
  refine lv_topi (fun x344 ex344 => ?_)
  have ex344 : x344 = 8 := ex344.trans (by decide)
  subst ex344
  refine lv_iconst (v := 3) hx hb dX8_setCopy_24 (by decide) ?_
  refine lv_iadd hx hb dX8_setCopy_25 ?_
  refine lv_topi (fun x345 ex345 => ?_)
  have ex345 : x345 = 11 := ex345.trans (by decide)
  subst ex345
  refine lv_iload_n hx hb dX8_setCopy_26 rfl (lv_at hl 3 rfl) ?_
  refine va_iast hx hb hK hP hD hS 1 0 rfl rfl (vi_ok (by decide)) dX8_setCopy_27 (fun H locs hP hD hS => ?_)
  have hP : va_P D vwCl [(m, .inr (8, [.ref a, .ref pa, .int u0, .ref ka, .ref za, .long y])), (a, .inl (cA, 172, .inl (upd f342 (11 : Int32).toNatClampNeg zw0)))] H := hP
  have hD : va_D AA [(m, .inr (8, [.ref a, .ref pa, .int u0, .ref ka, .ref za, .long y])), (a, .inl (cA, 172, .inl (upd f342 (11 : Int32).toNatClampNeg zw0)))] := hD
  obtain ⟨f346, ef346⟩ : ∃ g : Nat → Int32, g = upd f342 (11 : Int32).toNatClampNeg zw0 := ⟨_, rfl⟩
  rw [← ef346] at hP hD
  have hf346_5 : f346 5 = 0 := by rw [ef346]; exact (pk_un (by decide)).trans hf342_5
  refine lv_aload_n hx hb dX8_setCopy_28 rfl (lv_at hl 0 rfl) ?_
  refine va_get (D := D) (ci := 8) (v := .ref a) (C := RX8) (T := TX8) (N := 6) hx hb hts inX8 hown hK hP 0 rfl rfl 0 (by decide) (hts (.fieldLink RX8 7 "LoanHouseModel" "st" "[I") (List.mem_of_getElem? (i := 1) rfl)) (fun _ h9 => h9) rfl dX8_setCopy_29 ?_
  refine lv_bipush (v := 8) hx hb dX8_setCopy_32 (by decide) ?_
  refine lv_iconst (v := 5) hx hb dX8_setCopy_34 (by decide) ?_
  refine lv_iload_n hx hb dX8_setCopy_35 rfl (lv_at hl 1 rfl) ?_
  refine lv_imul hx hb dX8_setCopy_36 ?_
  refine lv_topi (fun x347 ex347 => ?_)
  have ex347 : x347 = 0 := ex347.trans (by decide)
  subst ex347
  refine lv_iadd hx hb dX8_setCopy_37 ?_
  refine lv_topi (fun x348 ex348 => ?_)
  have ex348 : x348 = 8 := ex348.trans (by decide)
  subst ex348
  refine lv_iconst (v := 4) hx hb dX8_setCopy_38 (by decide) ?_
  refine lv_iadd hx hb dX8_setCopy_39 ?_
  refine lv_topi (fun x349 ex349 => ?_)
  have ex349 : x349 = 12 := ex349.trans (by decide)
  subst ex349
  refine lv_iload hx hb dX8_setCopy_40 (lv_at hl 4 rfl) ?_
  refine va_iast hx hb hK hP hD hS 1 0 rfl rfl (vi_ok (by decide)) dX8_setCopy_42 (fun H locs hP hD hS => ?_)
  have hP : va_P D vwCl [(m, .inr (8, [.ref a, .ref pa, .int u0, .ref ka, .ref za, .long y])), (a, .inl (cA, 172, .inl (upd f346 (12 : Int32).toNatClampNeg d0)))] H := hP
  have hD : va_D AA [(m, .inr (8, [.ref a, .ref pa, .int u0, .ref ka, .ref za, .long y])), (a, .inl (cA, 172, .inl (upd f346 (12 : Int32).toNatClampNeg d0)))] := hD
  obtain ⟨f350, ef350⟩ : ∃ g : Nat → Int32, g = upd f346 (12 : Int32).toNatClampNeg d0 := ⟨_, rfl⟩
  rw [← ef350] at hP hD
  have hf350_5 : f350 5 = 0 := by rw [ef350]; exact (pk_un (by decide)).trans hf346_5
  exact hret f350 (hf350_5) (m_P hP (is := [0, 1]) rfl) (hK.sub [] rfl) (hD.sub [0, 1] (by decide) rfl) hS (Nat.le_of_ble_eq_true rfl) (Nat.le_of_ble_eq_true rfl) dX8_setCopy_43
set_option maxHeartbeats 4000000 in
set_option maxRecDepth 100000 in
theorem c_X8_copy (l : Launch) (D : va_G) (sz : Nat) (m a pa ka za : Nat) (cA cP : ClassId) (y : Int64) (f fp : Nat → Int32) (t b : Int32) (hF : st0 f) : mI l yX8_copy wsX8_copy (rk 4 0 0) D [.ref m, .int t, .int b] [(cA, .int), (cP, .int)] sz [(m, .inr (8, [.ref a, .ref pa, .int 0, .ref ka, .ref za, .long y])), (a, .inl (cA, 172, .inl f)), (pa, .inl (cP, 1376, .inl fp))] (S := Unit) (fun r _ => q2 (ok t 6 ∧ ok b 4) 0 (-1000000001) r) (fun _ => []) (fun _ => []) := by
  refine mI_of (cc := cX8_copy) (maxL := 4) (ty := .int) (plainFor_of_name (by decide)) rfl (Nat.le_of_ble_eq_true rfl) ?_
  intro pp ee ss mm bl mt cd AA QQ hx hb hml hts hown hN hA hK hP hD hS hret ls hl
  have hl : lv_has ls 4 [(0, .ref m), (1, .int t), (2, .int b)] := hl
  have inX8 : ∀ w ∈ wsX80, w ∈ wsX8_copy := fun _ h => List.mem_cons_of_mem _ (List.mem_append_right _ h)
  refine lv_iload_n hx hb dX8_copy_0 rfl (lv_at hl 1 rfl) ?_
  refine k_pi (va_runS (As := [.int t]) (rest := []) ⟨hx, hb, hml, hown, hts⟩ (c_X8_isTitle l D ss.heap.size t ) (va_cwS 1 hts gX8_copy_X8_isTitle rfl rfl rfl (by decide +kernel) ⟨(Nat.le_of_ble_eq_true rfl), (Nat.le_of_ble_eq_true rfl)⟩) ⟨mP_blind, m_pre _ hN hK hP hD [] rfl [] rfl (by decide)⟩ rfl rfl hl.1 rfl (lv_room (Nat.le_of_ble_eq_true rfl)) dX8_copy_1 ⟨(Nat.le_of_ble_eq_true rfl), (Nat.le_of_ble_eq_true rfl)⟩) hP hD hS hA [] rfl (fun r351 u H locs hw hP hS => ?_)
  rcases hw with ⟨rfl, zw1⟩ | ⟨rfl, zw1⟩
  · refine lv_if_eq (tgt := 14) hx hb dX8_copy_4 (by decide) (fun hc => absurd hc (by decide)) (fun zc4 => ?_)
    refine lv_iload_n hx hb dX8_copy_7 rfl (lv_at hl 2 rfl) ?_
    refine k_pi (va_runS (As := [.int b]) (rest := []) ⟨hx, hb, hml, hown, hts⟩ (c_X8_isBranch l D H.size b ) (va_cwS 1 hts gX8_copy_X8_isBranch rfl rfl rfl (by decide +kernel) ⟨(Nat.le_of_ble_eq_true rfl), (Nat.le_of_ble_eq_true rfl)⟩) ⟨mP_blind, m_pre _ hN hK hP hD [] rfl [] rfl (by decide)⟩ rfl rfl hl.1 rfl (lv_room (Nat.le_of_ble_eq_true rfl)) dX8_copy_8 ⟨(Nat.le_of_ble_eq_true rfl), (Nat.le_of_ble_eq_true rfl)⟩) hP hD hS hA [] rfl (fun r352 u H locs hw hP hS => ?_)
    rcases hw with ⟨rfl, zw8⟩ | ⟨rfl, zw8⟩
    · refine lv_if_ne (tgt := 17) hx hb dX8_copy_11 (by decide) (fun zc11 => ?_) (fun hc => absurd hc (by decide))
      refine lv_aload_n hx hb dX8_copy_17 rfl (lv_at hl 0 rfl) ?_
      refine va_get (D := D) (ci := 8) (v := .ref a) (C := RX8) (T := TX8) (N := 6) hx hb hts inX8 hown hK hP 0 rfl rfl 0 (by decide) (hts (.fieldLink RX8 7 "LoanHouseModel" "st" "[I") (List.mem_of_getElem? (i := 2) rfl)) (fun _ h9 => h9) rfl dX8_copy_18 ?_
      refine lv_iconst (v := 4) hx hb dX8_copy_21 (by decide) ?_
      refine va_iald hx hb hK hP 1 0 rfl rfl (vi_ok (by decide)) dX8_copy_22 ?_
      refine lv_topi (fun x353 ex353 => ?_)
      have ex353 : x353 = 0 := ex353.trans ((congrArg f (by decide : (4 : Int32).toNatClampNeg = 4)).trans hF.2.2.2.2.1)
      subst ex353
      refine lv_bipush (v := 16) hx hb dX8_copy_23 (by decide) ?_
      refine lv_icmp_ne (tgt := 31) hx hb dX8_copy_25 (by decide) (fun zc25 => ?_) (fun hc => absurd hc (by decide))
      refine lv_aload_n hx hb dX8_copy_31 rfl (lv_at hl 0 rfl) ?_
      refine k_v (wr := []) (va_runV (As := []) (rest := []) ⟨hx, hb, hml, hown, hts⟩ (c_X8_note l D H.size m a pa ka za cA cP y f fp ) (cwV 0 hts gX8_copy_X8_note rfl rfl rfl (by decide +kernel) ⟨(Nat.le_of_ble_eq_true rfl), (Nat.le_of_ble_eq_true rfl)⟩) ⟨mP_blind, va_recv hK hP (ci := 8) (q0 := 0) rfl rfl, m_pre _ hN hK hP hD [0, 1] rfl [0, 1, 2] rfl (by decide)⟩ rfl rfl hl.1 rfl (lv_room (Nat.le_of_ble_eq_true rfl)) dX8_copy_32 ⟨(Nat.le_of_ble_eq_true rfl), (Nat.le_of_ble_eq_true rfl)⟩) hP hD hS hA [0, 1, 2] [] rfl rfl (by decide) (by decide) (fun u H locs hw hK1 hP hD hS => ?_)
      have hP : va_P D vwCl [(m, .inr (8, [.ref a, .ref pa, .int 1, .ref ka, .ref za, .long y])), (a, .inl (cA, 172, .inl f))] H := hP
      have hD : va_D AA [(m, .inr (8, [.ref a, .ref pa, .int 1, .ref ka, .ref za, .long y])), (a, .inl (cA, 172, .inl f))] := hD
      try dsimp only at hw
      refine W.widen (k := 0) (n := 0) (Nat.le_of_ble_eq_true rfl) (Nat.le_of_ble_eq_true rfl) ?_
      refine lv_aload_n hx hb dX8_copy_35 rfl (lv_at hl 0 rfl) ?_
      refine va_get (D := D) (ci := 8) (v := .ref a) (C := RX8) (T := TX8) (N := 6) hx hb hts inX8 hown hK hP 0 rfl rfl 0 (by decide) (hts (.fieldLink RX8 7 "LoanHouseModel" "st" "[I") (List.mem_of_getElem? (i := 2) rfl)) (fun _ h9 => h9) rfl dX8_copy_36 ?_
      refine lv_iconst (v := 4) hx hb dX8_copy_39 (by decide) ?_
      refine va_iald hx hb hK hP 1 0 rfl rfl (vi_ok (by decide)) dX8_copy_40 ?_
      refine lv_topi (fun x355 ex355 => ?_)
      have ex355 : x355 = 0 := ex355.trans ((congrArg f (by decide : (4 : Int32).toNatClampNeg = 4)).trans hF.2.2.2.2.1)
      subst ex355
      refine lv_istore_n (lv' := [(3, .int 0), (0, .ref m), (1, .int t), (2, .int b)]) hx hb dX8_copy_41 rfl hl (by decide) rfl (fun ls hl => ?_)
      refine lv_aload_n hx hb dX8_copy_42 rfl (lv_at hl 1 rfl) ?_
      refine va_get (D := D) (ci := 8) (v := .ref a) (C := RX8) (T := TX8) (N := 6) hx hb hts inX8 hown hK hP 0 rfl rfl 0 (by decide) (hts (.fieldLink RX8 7 "LoanHouseModel" "st" "[I") (List.mem_of_getElem? (i := 2) rfl)) (fun _ h9 => h9) rfl dX8_copy_43 ?_
      refine lv_iconst (v := 4) hx hb dX8_copy_46 (by decide) ?_
      refine lv_dup2_11 hx hb dX8_copy_47 rfl rfl ?_
      refine va_iald hx hb hK hP 1 0 rfl rfl (vi_ok (by decide)) dX8_copy_48 ?_
      refine lv_topi (fun x356 ex356 => ?_)
      have ex356 : x356 = 0 := ex356.trans ((congrArg f (by decide : (4 : Int32).toNatClampNeg = 4)).trans hF.2.2.2.2.1)
      subst ex356
      refine lv_iconst (v := 1) hx hb dX8_copy_49 (by decide) ?_
      refine lv_iadd hx hb dX8_copy_50 ?_
      refine lv_topi (fun x357 ex357 => ?_)
      have ex357 : x357 = 1 := ex357.trans (by decide)
      subst ex357
      refine va_iast hx hb hK hP hD hS 1 0 rfl rfl (vi_ok (by decide)) dX8_copy_51 (fun H locs hP hD hS => ?_)
      have hP : va_P D vwCl [(m, .inr (8, [.ref a, .ref pa, .int 1, .ref ka, .ref za, .long y])), (a, .inl (cA, 172, .inl (upd f (4 : Int32).toNatClampNeg 1)))] H := hP
      have hD : va_D AA [(m, .inr (8, [.ref a, .ref pa, .int 1, .ref ka, .ref za, .long y])), (a, .inl (cA, 172, .inl (upd f (4 : Int32).toNatClampNeg 1)))] := hD
      obtain ⟨f358, ef358⟩ : ∃ g : Nat → Int32, g = upd f (4 : Int32).toNatClampNeg 1 := ⟨_, rfl⟩
      rw [← ef358] at hP hD
      have hf358_0 : f358 0 = 0 := by rw [ef358]; exact (pk_un (by decide)).trans hF.1
      have hf358_1 : f358 1 = 14 := by rw [ef358]; exact (pk_un (by decide)).trans hF.2.1
      have hf358_2 : f358 2 = 3 := by rw [ef358]; exact (pk_un (by decide)).trans hF.2.2.1
      have hf358_3 : f358 3 = 64 := by rw [ef358]; exact (pk_un (by decide)).trans hF.2.2.2.1
      have hf358_4 : f358 4 = 1 := by rw [ef358, show (4 : Int32).toNatClampNeg = 4 from by decide]; exact pk_us
      have hf358_5 : f358 5 = 0 := by rw [ef358]; exact (pk_un (by decide)).trans hF.2.2.2.2.2.1
      have hf358_6 : f358 6 = 0 := by rw [ef358]; exact (pk_un (by decide)).trans hF.2.2.2.2.2.2.1
      have hf358_7 : f358 7 = 0 := by rw [ef358]; exact (pk_un (by decide)).trans hF.2.2.2.2.2.2.2
      refine lv_aload_n hx hb dX8_copy_52 rfl (lv_at hl 1 rfl) ?_
      refine va_get (D := D) (ci := 8) (v := .ref a) (C := RX8) (T := TX8) (N := 6) hx hb hts inX8 hown hK hP 0 rfl rfl 0 (by decide) (hts (.fieldLink RX8 7 "LoanHouseModel" "st" "[I") (List.mem_of_getElem? (i := 2) rfl)) (fun _ h9 => h9) rfl dX8_copy_53 ?_
      refine lv_bipush (v := 8) hx hb dX8_copy_56 (by decide) ?_
      refine lv_iconst (v := 5) hx hb dX8_copy_58 (by decide) ?_
      refine lv_iload_n hx hb dX8_copy_59 rfl (lv_at hl 0 rfl) ?_
      refine lv_imul hx hb dX8_copy_60 ?_
      refine lv_topi (fun x359 ex359 => ?_)
      have ex359 : x359 = 0 := ex359.trans (by decide)
      subst ex359
      refine lv_iadd hx hb dX8_copy_61 ?_
      refine lv_topi (fun x360 ex360 => ?_)
      have ex360 : x360 = 8 := ex360.trans (by decide)
      subst ex360
      refine lv_iconst (v := 0) hx hb dX8_copy_62 (by decide) ?_
      refine lv_iadd hx hb dX8_copy_63 ?_
      refine lv_topi (fun x361 ex361 => ?_)
      have ex361 : x361 = 8 := ex361.trans (by decide)
      subst ex361
      refine lv_iload_n hx hb dX8_copy_64 rfl (lv_at hl 2 rfl) ?_
      refine va_iast hx hb hK hP hD hS 1 0 rfl rfl (vi_ok (by decide)) dX8_copy_65 (fun H locs hP hD hS => ?_)
      have hP : va_P D vwCl [(m, .inr (8, [.ref a, .ref pa, .int 1, .ref ka, .ref za, .long y])), (a, .inl (cA, 172, .inl (upd f358 (8 : Int32).toNatClampNeg t)))] H := hP
      have hD : va_D AA [(m, .inr (8, [.ref a, .ref pa, .int 1, .ref ka, .ref za, .long y])), (a, .inl (cA, 172, .inl (upd f358 (8 : Int32).toNatClampNeg t)))] := hD
      obtain ⟨f362, ef362⟩ : ∃ g : Nat → Int32, g = upd f358 (8 : Int32).toNatClampNeg t := ⟨_, rfl⟩
      rw [← ef362] at hP hD
      have hf362_0 : f362 0 = 0 := by rw [ef362]; exact (pk_un (by decide)).trans hf358_0
      have hf362_1 : f362 1 = 14 := by rw [ef362]; exact (pk_un (by decide)).trans hf358_1
      have hf362_2 : f362 2 = 3 := by rw [ef362]; exact (pk_un (by decide)).trans hf358_2
      have hf362_3 : f362 3 = 64 := by rw [ef362]; exact (pk_un (by decide)).trans hf358_3
      have hf362_4 : f362 4 = 1 := by rw [ef362]; exact (pk_un (by decide)).trans hf358_4
      have hf362_5 : f362 5 = 0 := by rw [ef362]; exact (pk_un (by decide)).trans hf358_5
      have hf362_6 : f362 6 = 0 := by rw [ef362]; exact (pk_un (by decide)).trans hf358_6
      have hf362_7 : f362 7 = 0 := by rw [ef362]; exact (pk_un (by decide)).trans hf358_7
      refine lv_aload_n hx hb dX8_copy_66 rfl (lv_at hl 1 rfl) ?_
      refine va_get (D := D) (ci := 8) (v := .ref a) (C := RX8) (T := TX8) (N := 6) hx hb hts inX8 hown hK hP 0 rfl rfl 0 (by decide) (hts (.fieldLink RX8 7 "LoanHouseModel" "st" "[I") (List.mem_of_getElem? (i := 2) rfl)) (fun _ h9 => h9) rfl dX8_copy_67 ?_
      refine lv_bipush (v := 8) hx hb dX8_copy_70 (by decide) ?_
      refine lv_iconst (v := 5) hx hb dX8_copy_72 (by decide) ?_
      refine lv_iload_n hx hb dX8_copy_73 rfl (lv_at hl 0 rfl) ?_
      refine lv_imul hx hb dX8_copy_74 ?_
      refine lv_topi (fun x363 ex363 => ?_)
      have ex363 : x363 = 0 := ex363.trans (by decide)
      subst ex363
      refine lv_iadd hx hb dX8_copy_75 ?_
      refine lv_topi (fun x364 ex364 => ?_)
      have ex364 : x364 = 8 := ex364.trans (by decide)
      subst ex364
      refine lv_iconst (v := 1) hx hb dX8_copy_76 (by decide) ?_
      refine lv_iadd hx hb dX8_copy_77 ?_
      refine lv_topi (fun x365 ex365 => ?_)
      have ex365 : x365 = 9 := ex365.trans (by decide)
      subst ex365
      refine lv_iload_n hx hb dX8_copy_78 rfl (lv_at hl 3 rfl) ?_
      refine va_iast hx hb hK hP hD hS 1 0 rfl rfl (vi_ok (by decide)) dX8_copy_79 (fun H locs hP hD hS => ?_)
      have hP : va_P D vwCl [(m, .inr (8, [.ref a, .ref pa, .int 1, .ref ka, .ref za, .long y])), (a, .inl (cA, 172, .inl (upd f362 (9 : Int32).toNatClampNeg b)))] H := hP
      have hD : va_D AA [(m, .inr (8, [.ref a, .ref pa, .int 1, .ref ka, .ref za, .long y])), (a, .inl (cA, 172, .inl (upd f362 (9 : Int32).toNatClampNeg b)))] := hD
      obtain ⟨f366, ef366⟩ : ∃ g : Nat → Int32, g = upd f362 (9 : Int32).toNatClampNeg b := ⟨_, rfl⟩
      rw [← ef366] at hP hD
      have hf366_0 : f366 0 = 0 := by rw [ef366]; exact (pk_un (by decide)).trans hf362_0
      have hf366_1 : f366 1 = 14 := by rw [ef366]; exact (pk_un (by decide)).trans hf362_1
      have hf366_2 : f366 2 = 3 := by rw [ef366]; exact (pk_un (by decide)).trans hf362_2
      have hf366_3 : f366 3 = 64 := by rw [ef366]; exact (pk_un (by decide)).trans hf362_3
      have hf366_4 : f366 4 = 1 := by rw [ef366]; exact (pk_un (by decide)).trans hf362_4
      have hf366_5 : f366 5 = 0 := by rw [ef366]; exact (pk_un (by decide)).trans hf362_5
      have hf366_6 : f366 6 = 0 := by rw [ef366]; exact (pk_un (by decide)).trans hf362_6
      have hf366_7 : f366 7 = 0 := by rw [ef366]; exact (pk_un (by decide)).trans hf362_7
      refine lv_aload_n hx hb dX8_copy_80 rfl (lv_at hl 1 rfl) ?_
      refine lv_iload_n hx hb dX8_copy_81 rfl (lv_at hl 0 rfl) ?_
      refine lv_iconst (v := 0) hx hb dX8_copy_82 (by decide) ?_
      refine lv_iconst (v := 0) hx hb dX8_copy_83 (by decide) ?_
      refine lv_iconst (v := 0) hx hb dX8_copy_84 (by decide) ?_
      refine k_v (wr := []) (va_runV (As := [.int 0, .int 0, .int 0, .int 0]) (rest := []) ⟨hx, hb, hml, hown, hts⟩ (c_X8_setCopy l D H.size m a pa ka za cA 1 y f366 0 0 0 hf366_5) (cwV 4 hts gX8_copy_X8_setCopy rfl rfl rfl (by decide +kernel) ⟨(Nat.le_of_ble_eq_true rfl), (Nat.le_of_ble_eq_true rfl)⟩) ⟨mP_blind, va_recv hK hP (ci := 8) (q0 := 0) rfl rfl, m_pre _ hN hK hP hD [0] rfl [0, 1] rfl (by decide)⟩ rfl rfl hl.1 rfl (lv_room (Nat.le_of_ble_eq_true rfl)) dX8_copy_85 ⟨(Nat.le_of_ble_eq_true rfl), (Nat.le_of_ble_eq_true rfl)⟩) hP hD hS hA [0, 1] [] rfl rfl (by decide) (by decide) (fun u H locs hw hK1 hP hD hS => ?_)
      obtain ⟨g368, rfl⟩ : ∃ z, z = u := ⟨_, rfl⟩
      have hP : va_P D vwCl [(m, .inr (8, [.ref a, .ref pa, .int 1, .ref ka, .ref za, .long y])), (a, .inl (cA, 172, .inl g368))] H := hP
      have hD : va_D AA [(m, .inr (8, [.ref a, .ref pa, .int 1, .ref ka, .ref za, .long y])), (a, .inl (cA, 172, .inl g368))] := hD
      try dsimp only at hw
      refine W.widen (k := 0) (n := 0) (Nat.le_of_ble_eq_true rfl) (Nat.le_of_ble_eq_true rfl) ?_
      have zw85 := hw
      refine lv_aload_n hx hb dX8_copy_88 rfl (lv_at hl 1 rfl) ?_
      refine k_pv (va_runV (As := []) (rest := []) ⟨hx, hb, hml, hown, hts⟩ (c_X8_serve l D H.size m a pa ka za cA 1 y g368 0 zw85 (by decide) (Or.inl rfl)) (cwV 0 hts gX8_copy_X8_serve rfl rfl rfl (by decide +kernel) ⟨(Nat.le_of_ble_eq_true rfl), (Nat.le_of_ble_eq_true rfl)⟩) ⟨mP_blind, va_recv hK hP (ci := 8) (q0 := 0) rfl rfl, m_pre _ hN hK hP hD [0] rfl [0, 1] rfl (by decide)⟩ rfl rfl hl.1 rfl (lv_room (Nat.le_of_ble_eq_true rfl)) dX8_copy_89 ⟨(Nat.le_of_ble_eq_true rfl), (Nat.le_of_ble_eq_true rfl)⟩) hP hD hS hA [0, 1] rfl (fun u H locs hw hP hS => ?_)
      refine lv_iload_n hx hb dX8_copy_92 rfl (lv_at hl 0 rfl) ?_
      exact hret 0 () rfl (Or.inl ⟨⟨zw1, zw8⟩, rfl⟩) (m_P hP (is := []) rfl) (hK.sub [] rfl) (hD.sub [] (by decide) rfl) hS (Nat.le_of_ble_eq_true rfl) (Nat.le_of_ble_eq_true rfl) dX8_copy_93
    · refine lv_if_ne (tgt := 17) hx hb dX8_copy_11 (by decide) (fun hc => absurd (by decide) hc) (fun zc11 => ?_)
      refine lv_ldc hx hb hown (hts (.constant RX8 92 (-1000000001)) (List.mem_of_getElem? (i := 1) rfl)) dX8_copy_14 ?_
      exact hret (-1000000001) () rfl (Or.inr ⟨fun q => zw8 q.2, rfl⟩) (m_P hP (is := []) rfl) (hK.sub [] rfl) (hD.sub [] (by decide) rfl) hS (Nat.le_of_ble_eq_true rfl) (Nat.le_of_ble_eq_true rfl) dX8_copy_16
  · refine lv_if_eq (tgt := 14) hx hb dX8_copy_4 (by decide) (fun zc4 => ?_) (fun hc => absurd (by decide) hc)
    refine lv_ldc hx hb hown (hts (.constant RX8 92 (-1000000001)) (List.mem_of_getElem? (i := 1) rfl)) dX8_copy_14 ?_
    exact hret (-1000000001) () rfl (Or.inr ⟨fun q => zw1 q.1, rfl⟩) (m_P hP (is := []) rfl) (hK.sub [] rfl) (hD.sub [] (by decide) rfl) hS (Nat.le_of_ble_eq_true rfl) (Nat.le_of_ble_eq_true rfl) dX8_copy_16
