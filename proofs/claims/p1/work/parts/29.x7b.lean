set_option maxHeartbeats 4000000 in
set_option maxRecDepth 100000 in
theorem c_X7_copy (l : Launch) (D : va_G) (sz : Nat) (x ps pa im lt : Nat) (cP : ClassId) (h k c g1 a1 o g2 a2 : Nat) (cA1 cA2 : ClassId) (f1 f2 : Nat → Int32) (t b : Int32) : mI l yX7_copy wsX7_copy (rk 6 8 183) D [.ref x, .int t, .int b] [(cP, .object "LoanHouse$House"), (cA1, .int), (cA2, .int)] sz [(x, .inr (7, [.ref h, .ref ps, .ref im, .ref lt, .int 0, .int 0])), (ps, .inr (6, [.ref pa])), (pa, .inl (cP, 8, .inr (.inr (.inr (.inr (fun _ => none)))))), (h, .inr (4, [.ref k, .ref c, .ref o, .int 0])), (k, .inr (0, [.int 0, .int 14, .int 3, .int 64])), (c, .inr (1, [.ref g1, .int 0])), (g1, .inr (2, [.int 16, .int 5, .ref a1])), (a1, .inl (cA1, 80, .inl f1)), (o, .inr (3, [.ref g2, .int 0, .int 0])), (g2, .inr (2, [.int 12, .int 7, .ref a2])), (a2, .inl (cA2, 84, .inl f2))] (S := Unit) (fun r _ => q2 (ok t 6 ∧ ok b 4) 0 (-1000000001) r) (fun _ => []) (fun _ => []) := by
  refine mI_of (cc := cX7_copy) (maxL := 3) (ty := .int) (plainFor_of_name (by decide)) rfl (Nat.le_of_ble_eq_true rfl) ?_
  intro pp ee ss mm bl mt cd AA QQ hx hb hml hts hown hN hA hK hP hD hS hret ls hl
  have hl : lv_has ls 3 [(0, .ref x), (1, .int t), (2, .int b)] := hl
  have inX1 : ∀ w ∈ wsX10, w ∈ wsX7_copy := fun _ h => List.mem_cons_of_mem _ (List.mem_append_left _ (List.mem_append_left _ (List.mem_append_left _ (List.mem_append_left _ (List.mem_append_right _ h)))))
  have inX4 : ∀ w ∈ wsX40, w ∈ wsX7_copy := fun _ h => List.mem_cons_of_mem _ (List.mem_append_left _ (List.mem_append_left _ (List.mem_append_left _ (List.mem_append_left _ (List.mem_append_left _ (List.mem_append_right _ h))))))
  have inX7 : ∀ w ∈ wsX70, w ∈ wsX7_copy := fun _ h => List.mem_cons_of_mem _ (List.mem_append_left _ (List.mem_append_left _ (List.mem_append_left _ (List.mem_append_left _ (List.mem_append_left _ (List.mem_append_left _ (List.mem_append_right _ h)))))))
  refine lv_iload_n hx hb dX7_copy_0 rfl (lv_at hl 1 rfl) ?_
  refine lv_bipush (v := 6) hx hb dX7_copy_1 (by decide) ?_
  refine k_pi (va_runS (As := [.int t, .int 6]) (rest := []) ⟨hx, hb, hml, hown, hts⟩ (c_isBelow l D ss.heap.size t 6 ) (va_cwS 2 hts gX7_copy_X7_isBelow rfl rfl rfl (by decide +kernel) ⟨(Nat.le_of_ble_eq_true rfl), (Nat.le_of_ble_eq_true rfl)⟩) ⟨mP_blind, m_pre _ hN hK hP hD [] rfl [] rfl (by decide)⟩ rfl rfl hl.1 rfl (lv_room (Nat.le_of_ble_eq_true rfl)) dX7_copy_3 ⟨(Nat.le_of_ble_eq_true rfl), (Nat.le_of_ble_eq_true rfl)⟩) hP hD hS hA [] rfl (fun r186 u H locs hw hP hS => ?_)
  rcases hw with ⟨rfl, zw3⟩ | ⟨rfl, zw3⟩
  · refine lv_if_eq (tgt := 17) hx hb dX7_copy_6 (by decide) (fun hc => absurd hc (by decide)) (fun zc6 => ?_)
    refine lv_iload_n hx hb dX7_copy_9 rfl (lv_at hl 2 rfl) ?_
    refine lv_iconst (v := 4) hx hb dX7_copy_10 (by decide) ?_
    refine k_pi (va_runS (As := [.int b, .int 4]) (rest := []) ⟨hx, hb, hml, hown, hts⟩ (c_isBelow l D H.size b 4 ) (va_cwS 2 hts gX7_copy_X7_isBelow rfl rfl rfl (by decide +kernel) ⟨(Nat.le_of_ble_eq_true rfl), (Nat.le_of_ble_eq_true rfl)⟩) ⟨mP_blind, m_pre _ hN hK hP hD [] rfl [] rfl (by decide)⟩ rfl rfl hl.1 rfl (lv_room (Nat.le_of_ble_eq_true rfl)) dX7_copy_11 ⟨(Nat.le_of_ble_eq_true rfl), (Nat.le_of_ble_eq_true rfl)⟩) hP hD hS hA [] rfl (fun r187 u H locs hw hP hS => ?_)
    rcases hw with ⟨rfl, zw11⟩ | ⟨rfl, zw11⟩
    · refine lv_if_ne (tgt := 20) hx hb dX7_copy_14 (by decide) (fun zc14 => ?_) (fun hc => absurd hc (by decide))
      refine lv_aload_n hx hb dX7_copy_20 rfl (lv_at hl 0 rfl) ?_
      refine va_get (D := D) (ci := 7) (v := .ref h) (C := RX7) (T := TX7) (N := 6) hx hb hts inX7 hown hK hP 0 rfl rfl 0 (by decide) (hts (.fieldLink RX7 10 "LoanHouse" "house" "LLoanHouse$House;") (List.mem_of_getElem? (i := 2) rfl)) (fun _ h9 => h9) rfl dX7_copy_21 ?_
      refine va_getN (D := D) (ci := 4) (v := .ref c) (host := "LoanHouse") (C := RX4) (T := TX4) (N := 4) hx hb hts inX4 hown hK hP 3 rfl rfl 1 (by decide) (va_Nw.use rfl (hN.at 10 rfl)) (fun _ h9 => h9) rfl dX7_copy_24 ?_
      refine va_getN (D := D) (ci := 1) (v := .int 0) (host := "LoanHouse") (C := RX1) (T := TX1) (N := 2) hx hb hts inX1 hown hK hP 5 rfl rfl 1 (by decide) (va_Nw.use rfl (hN.at 5 rfl)) (fun _ h9 => h9) rfl dX7_copy_27 ?_
      refine lv_bipush (v := 16) hx hb dX7_copy_30 (by decide) ?_
      refine lv_icmp_lt (tgt := 38) hx hb dX7_copy_32 (by decide) (fun zc32 => ?_) (fun hc => absurd (by decide) hc)
      refine lv_aload_n hx hb dX7_copy_38 rfl (lv_at hl 0 rfl) ?_
      refine k_v (wr := []) (va_runV (As := []) (rest := []) ⟨hx, hb, hml, hown, hts⟩ (c_X7_remember l D H.size x ps pa im lt cP h k c g1 a1 o g2 a2 cA1 cA2 0 14 3 64 0 0 0 0 f1 f2 ) (cwV 0 hts gX7_copy_X7_remember rfl rfl rfl (by decide +kernel) ⟨(Nat.le_of_ble_eq_true rfl), (Nat.le_of_ble_eq_true rfl)⟩) ⟨mP_blind, va_recv hK hP (ci := 7) (q0 := 0) rfl rfl, m_pre _ hN hK hP hD [0, 1, 2] rfl [0, 1, 2, 3, 4, 5, 6, 7, 8, 9, 10] rfl (by decide)⟩ rfl rfl hl.1 rfl (lv_room (Nat.le_of_ble_eq_true rfl)) dX7_copy_39 ⟨(Nat.le_of_ble_eq_true rfl), (Nat.le_of_ble_eq_true rfl)⟩) hP hD hS hA [0, 1, 2, 3, 4, 5, 6, 7, 8, 9, 10] [] rfl rfl (by decide) (by decide) (fun u H locs hw hK1 hP hD hS => ?_)
      obtain ⟨np189, rfl⟩ : ∃ z, z = u := ⟨_, rfl⟩
      have hP : va_P D vwCl [(x, .inr (7, [.ref h, .ref ps, .ref im, .ref lt, .int 1, .int np189])), (h, .inr (4, [.ref k, .ref c, .ref o, .int 0])), (k, .inr (0, [.int 0, .int 14, .int 3, .int 64])), (c, .inr (1, [.ref g1, .int 0])), (g1, .inr (2, [.int 16, .int 5, .ref a1])), (a1, .inl (cA1, 80, .inl f1)), (o, .inr (3, [.ref g2, .int 0, .int 0])), (g2, .inr (2, [.int 12, .int 7, .ref a2])), (a2, .inl (cA2, 84, .inl f2))] H := hP
      have hD : va_D AA [(x, .inr (7, [.ref h, .ref ps, .ref im, .ref lt, .int 1, .int np189])), (h, .inr (4, [.ref k, .ref c, .ref o, .int 0])), (k, .inr (0, [.int 0, .int 14, .int 3, .int 64])), (c, .inr (1, [.ref g1, .int 0])), (g1, .inr (2, [.int 16, .int 5, .ref a1])), (a1, .inl (cA1, 80, .inl f1)), (o, .inr (3, [.ref g2, .int 0, .int 0])), (g2, .inr (2, [.int 12, .int 7, .ref a2])), (a2, .inl (cA2, 84, .inl f2))] := hD
      try dsimp only at hw
      refine W.widen (k := 8) (n := 183) (Nat.le_of_ble_eq_true rfl) (Nat.le_of_ble_eq_true rfl) ?_
      refine lv_aload_n hx hb dX7_copy_42 rfl (lv_at hl 0 rfl) ?_
      refine va_get (D := D) (ci := 7) (v := .ref h) (C := RX7) (T := TX7) (N := 6) hx hb hts inX7 hown hK hP 0 rfl rfl 0 (by decide) (hts (.fieldLink RX7 10 "LoanHouse" "house" "LLoanHouse$House;") (List.mem_of_getElem? (i := 2) rfl)) (fun _ h9 => h9) rfl dX7_copy_43 ?_
      refine lv_iload_n hx hb dX7_copy_46 rfl (lv_at hl 1 rfl) ?_
      refine lv_iload_n hx hb dX7_copy_47 rfl (lv_at hl 2 rfl) ?_
      refine k_i (wr := [(x, .inr (7, [.ref h, .ref ps, .ref im, .ref lt, .int 1, .int np189])), (k, .inr (0, [.int 0, .int 14, .int 3, .int 64]))]) (va_runV (As := [.int t, .int b]) (rest := []) ⟨hx, hb, hml, hown, hts⟩ (c_X4_addCopy l D H.size h k c g1 a1 o g2 a2 cA1 cA2 0 0 f1 f2 t b ) (cwV 2 hts gX7_copy_X4_addCopy rfl rfl rfl (by decide +kernel) ⟨(Nat.le_of_ble_eq_true rfl), (Nat.le_of_ble_eq_true rfl)⟩) ⟨mP_blind, va_recv hK hP (ci := 4) (q0 := 1) rfl rfl, m_pre _ hN hK hP hD [1, 2] rfl [1, 3, 4, 5, 6, 7, 8] rfl (by decide)⟩ rfl rfl hl.1 rfl (lv_room (Nat.le_of_ble_eq_true rfl)) dX7_copy_48 ⟨(Nat.le_of_ble_eq_true rfl), (Nat.le_of_ble_eq_true rfl)⟩) hP hD hS hA [1, 3, 4, 5, 6, 7, 8] [0, 2] rfl rfl (by decide) (by decide) (fun r190 u H locs hw hK1 hP hD hS => ?_)
      have hP : va_P D vwCl [(x, .inr (7, [.ref h, .ref ps, .ref im, .ref lt, .int 1, .int np189])), (k, .inr (0, [.int 0, .int 14, .int 3, .int 64]))] H := hP
      have hD : va_D AA [(x, .inr (7, [.ref h, .ref ps, .ref im, .ref lt, .int 1, .int np189])), (k, .inr (0, [.int 0, .int 14, .int 3, .int 64]))] := hD
      try dsimp only at hw
      refine W.widen (k := 8) (n := 183) (Nat.le_of_ble_eq_true rfl) (Nat.le_of_ble_eq_true rfl) ?_
      obtain rfl := hw
      exact hret 0 () rfl (Or.inl ⟨⟨zw3, zw11⟩, rfl⟩) (m_P hP (is := []) rfl) (hK.sub [] rfl) (hD.sub [] (by decide) rfl) hS (Nat.le_of_ble_eq_true rfl) (Nat.le_of_ble_eq_true rfl) dX7_copy_51
    · refine lv_if_ne (tgt := 20) hx hb dX7_copy_14 (by decide) (fun hc => absurd (by decide) hc) (fun zc14 => ?_)
      refine lv_ldc hx hb hown (hts (.constant RX7 39 (-1000000001)) (List.mem_of_getElem? (i := 1) rfl)) dX7_copy_17 ?_
      exact hret (-1000000001) () rfl (Or.inr ⟨fun q => zw11 q.2, rfl⟩) (m_P hP (is := []) rfl) (hK.sub [] rfl) (hD.sub [] (by decide) rfl) hS (Nat.le_of_ble_eq_true rfl) (Nat.le_of_ble_eq_true rfl) dX7_copy_19
  · refine lv_if_eq (tgt := 17) hx hb dX7_copy_6 (by decide) (fun zc6 => ?_) (fun hc => absurd (by decide) hc)
    refine lv_ldc hx hb hown (hts (.constant RX7 39 (-1000000001)) (List.mem_of_getElem? (i := 1) rfl)) dX7_copy_17 ?_
    exact hret (-1000000001) () rfl (Or.inr ⟨fun q => zw3 q.1, rfl⟩) (m_P hP (is := []) rfl) (hK.sub [] rfl) (hD.sub [] (by decide) rfl) hS (Nat.le_of_ble_eq_true rfl) (Nat.le_of_ble_eq_true rfl) dX7_copy_19
set_option maxHeartbeats 4000000 in
set_option maxRecDepth 100000 in
theorem c_X7_set (l : Launch) (D : va_G) (sz : Nat) (x ps pa im lt : Nat) (cP : ClassId) (h k c g1 a1 o g2 a2 : Nat) (cA1 cA2 : ClassId) (f1 f2 : Nat → Int32) (w v : Int32) : mI l yX7_set wsX7_set (rk 6 8 183) D [.ref x, .int w, .int v] [(cP, .object "LoanHouse$House"), (cA1, .int), (cA2, .int)] sz [(x, .inr (7, [.ref h, .ref ps, .ref im, .ref lt, .int 0, .int 0])), (ps, .inr (6, [.ref pa])), (pa, .inl (cP, 8, .inr (.inr (.inr (.inr (fun _ => none)))))), (h, .inr (4, [.ref k, .ref c, .ref o, .int 0])), (k, .inr (0, [.int 0, .int 14, .int 3, .int 64])), (c, .inr (1, [.ref g1, .int 0])), (g1, .inr (2, [.int 16, .int 5, .ref a1])), (a1, .inl (cA1, 80, .inl f1)), (o, .inr (3, [.ref g2, .int 0, .int 0])), (g2, .inr (2, [.int 12, .int 7, .ref a2])), (a2, .inl (cA2, 84, .inl f2))] (S := Unit) (fun r _ => q2 (p_set w v) (if w = 0 then 14 else if w = 1 then 3 else 64) (-1000000002) r) (fun _ => []) (fun _ => []) := by
  refine mI_of (cc := cX7_set) (maxL := 3) (ty := .int) (plainFor_of_name (by decide)) rfl (Nat.le_of_ble_eq_true rfl) ?_
  intro pp ee ss mm bl mt cd AA QQ hx hb hml hts hown hN hA hK hP hD hS hret ls hl
  have hl : lv_has ls 3 [(0, .ref x), (1, .int w), (2, .int v)] := hl
  have inX4 : ∀ w ∈ wsX40, w ∈ wsX7_set := fun _ h => List.mem_cons_of_mem _ (List.mem_append_left _ (List.mem_append_left _ (List.mem_append_left _ (List.mem_append_left _ (List.mem_append_left _ (List.mem_append_right _ h))))))
  have inX7 : ∀ w ∈ wsX70, w ∈ wsX7_set := fun _ h => List.mem_cons_of_mem _ (List.mem_append_left _ (List.mem_append_left _ (List.mem_append_left _ (List.mem_append_left _ (List.mem_append_left _ (List.mem_append_left _ (List.mem_append_right _ h)))))))
  refine lv_iload_n hx hb dX7_set_0 rfl (lv_at hl 1 rfl) ?_
  refine lv_iload_n hx hb dX7_set_1 rfl (lv_at hl 2 rfl) ?_
  refine k_pi (va_runS (As := [.int w, .int v]) (rest := []) ⟨hx, hb, hml, hown, hts⟩ (c_X0_allows l D ss.heap.size w v ) (va_cwS 2 hts gX7_set_X0_allows rfl rfl rfl (by decide +kernel) ⟨(Nat.le_of_ble_eq_true rfl), (Nat.le_of_ble_eq_true rfl)⟩) ⟨mP_blind, m_pre _ hN hK hP hD [] rfl [] rfl (by decide)⟩ rfl rfl hl.1 rfl (lv_room (Nat.le_of_ble_eq_true rfl)) dX7_set_2 ⟨(Nat.le_of_ble_eq_true rfl), (Nat.le_of_ble_eq_true rfl)⟩) hP hD hS hA [] rfl (fun r191 u H locs hw hP hS => ?_)
  rcases hw with ⟨rfl, zw2⟩ | ⟨rfl, zw2⟩
  · refine lv_if_ne (tgt := 11) hx hb dX7_set_5 (by decide) (fun zc5 => ?_) (fun hc => absurd hc (by decide))
    refine lv_aload_n hx hb dX7_set_11 rfl (lv_at hl 0 rfl) ?_
    refine k_v (wr := []) (va_runV (As := []) (rest := []) ⟨hx, hb, hml, hown, hts⟩ (c_X7_remember l D H.size x ps pa im lt cP h k c g1 a1 o g2 a2 cA1 cA2 0 14 3 64 0 0 0 0 f1 f2 ) (cwV 0 hts gX7_set_X7_remember rfl rfl rfl (by decide +kernel) ⟨(Nat.le_of_ble_eq_true rfl), (Nat.le_of_ble_eq_true rfl)⟩) ⟨mP_blind, va_recv hK hP (ci := 7) (q0 := 0) rfl rfl, m_pre _ hN hK hP hD [0, 1, 2] rfl [0, 1, 2, 3, 4, 5, 6, 7, 8, 9, 10] rfl (by decide)⟩ rfl rfl hl.1 rfl (lv_room (Nat.le_of_ble_eq_true rfl)) dX7_set_12 ⟨(Nat.le_of_ble_eq_true rfl), (Nat.le_of_ble_eq_true rfl)⟩) hP hD hS hA [0, 1, 2, 3, 4, 5, 6, 7, 8, 9, 10] [] rfl rfl (by decide) (by decide) (fun u H locs hw hK1 hP hD hS => ?_)
    obtain ⟨np193, rfl⟩ : ∃ z, z = u := ⟨_, rfl⟩
    have hP : va_P D vwCl [(x, .inr (7, [.ref h, .ref ps, .ref im, .ref lt, .int 1, .int np193])), (h, .inr (4, [.ref k, .ref c, .ref o, .int 0])), (k, .inr (0, [.int 0, .int 14, .int 3, .int 64])), (c, .inr (1, [.ref g1, .int 0])), (g1, .inr (2, [.int 16, .int 5, .ref a1])), (a1, .inl (cA1, 80, .inl f1)), (o, .inr (3, [.ref g2, .int 0, .int 0])), (g2, .inr (2, [.int 12, .int 7, .ref a2])), (a2, .inl (cA2, 84, .inl f2))] H := hP
    have hD : va_D AA [(x, .inr (7, [.ref h, .ref ps, .ref im, .ref lt, .int 1, .int np193])), (h, .inr (4, [.ref k, .ref c, .ref o, .int 0])), (k, .inr (0, [.int 0, .int 14, .int 3, .int 64])), (c, .inr (1, [.ref g1, .int 0])), (g1, .inr (2, [.int 16, .int 5, .ref a1])), (a1, .inl (cA1, 80, .inl f1)), (o, .inr (3, [.ref g2, .int 0, .int 0])), (g2, .inr (2, [.int 12, .int 7, .ref a2])), (a2, .inl (cA2, 84, .inl f2))] := hD
    try dsimp only at hw
    refine W.widen (k := 8) (n := 183) (Nat.le_of_ble_eq_true rfl) (Nat.le_of_ble_eq_true rfl) ?_
    refine lv_aload_n hx hb dX7_set_15 rfl (lv_at hl 0 rfl) ?_
    refine va_get (D := D) (ci := 7) (v := .ref h) (C := RX7) (T := TX7) (N := 6) hx hb hts inX7 hown hK hP 0 rfl rfl 0 (by decide) (hts (.fieldLink RX7 10 "LoanHouse" "house" "LLoanHouse$House;") (List.mem_of_getElem? (i := 2) rfl)) (fun _ h9 => h9) rfl dX7_set_16 ?_
    refine va_getN (D := D) (ci := 4) (v := .ref k) (host := "LoanHouse") (C := RX4) (T := TX4) (N := 4) hx hb hts inX4 hown hK hP 1 rfl rfl 0 (by decide) (va_Nw.use rfl (hN.at 9 rfl)) (fun _ h9 => h9) rfl dX7_set_19 ?_
    refine lv_iload_n hx hb dX7_set_22 rfl (lv_at hl 1 rfl) ?_
    refine lv_iload_n hx hb dX7_set_23 rfl (lv_at hl 2 rfl) ?_
    refine k_i (wr := [(x, .inr (7, [.ref h, .ref ps, .ref im, .ref lt, .int 1, .int np193])), (h, .inr (4, [.ref k, .ref c, .ref o, .int 0])), (c, .inr (1, [.ref g1, .int 0])), (g1, .inr (2, [.int 16, .int 5, .ref a1])), (a1, .inl (cA1, 80, .inl f1)), (o, .inr (3, [.ref g2, .int 0, .int 0])), (g2, .inr (2, [.int 12, .int 7, .ref a2])), (a2, .inl (cA2, 84, .inl f2))]) (va_runV (As := [.int w, .int v]) (rest := []) ⟨hx, hb, hml, hown, hts⟩ (c_X0_change l D H.size k 0 14 3 64 w v ) (cwV 2 hts gX7_set_X0_change rfl rfl rfl (by decide +kernel) ⟨(Nat.le_of_ble_eq_true rfl), (Nat.le_of_ble_eq_true rfl)⟩) ⟨mP_blind, va_recv hK hP (ci := 0) (q0 := 2) rfl rfl, m_pre _ hN hK hP hD [] rfl [2] rfl (by decide)⟩ rfl rfl hl.1 rfl (lv_room (Nat.le_of_ble_eq_true rfl)) dX7_set_24 ⟨(Nat.le_of_ble_eq_true rfl), (Nat.le_of_ble_eq_true rfl)⟩) hP hD hS hA [2] [0, 1, 3, 4, 5, 6, 7, 8] rfl rfl (by decide) (by decide) (fun r194 u H locs hw hK1 hP hD hS => ?_)
    have hP : va_P D vwCl [(x, .inr (7, [.ref h, .ref ps, .ref im, .ref lt, .int 1, .int np193])), (h, .inr (4, [.ref k, .ref c, .ref o, .int 0])), (c, .inr (1, [.ref g1, .int 0])), (g1, .inr (2, [.int 16, .int 5, .ref a1])), (a1, .inl (cA1, 80, .inl f1)), (o, .inr (3, [.ref g2, .int 0, .int 0])), (g2, .inr (2, [.int 12, .int 7, .ref a2])), (a2, .inl (cA2, 84, .inl f2))] H := hP
    have hD : va_D AA [(x, .inr (7, [.ref h, .ref ps, .ref im, .ref lt, .int 1, .int np193])), (h, .inr (4, [.ref k, .ref c, .ref o, .int 0])), (c, .inr (1, [.ref g1, .int 0])), (g1, .inr (2, [.int 16, .int 5, .ref a1])), (a1, .inl (cA1, 80, .inl f1)), (o, .inr (3, [.ref g2, .int 0, .int 0])), (g2, .inr (2, [.int 12, .int 7, .ref a2])), (a2, .inl (cA2, 84, .inl f2))] := hD
    try dsimp only at hw
    refine W.widen (k := 8) (n := 183) (Nat.le_of_ble_eq_true rfl) (Nat.le_of_ble_eq_true rfl) ?_
    have zw24 := hw
    exact hret r194 () rfl (Or.inl ⟨zw2, zw24⟩) (m_P hP (is := []) rfl) (hK.sub [] rfl) (hD.sub [] (by decide) rfl) hS (Nat.le_of_ble_eq_true rfl) (Nat.le_of_ble_eq_true rfl) dX7_set_27
  · refine lv_if_ne (tgt := 11) hx hb dX7_set_5 (by decide) (fun hc => absurd (by decide) hc) (fun zc5 => ?_)
    refine lv_ldc hx hb hown (hts (.constant RX7 110 (-1000000002)) (List.mem_of_getElem? (i := 1) rfl)) dX7_set_8 ?_
    exact hret (-1000000002) () rfl (Or.inr ⟨zw2, rfl⟩) (m_P hP (is := []) rfl) (hK.sub [] rfl) (hD.sub [] (by decide) rfl) hS (Nat.le_of_ble_eq_true rfl) (Nat.le_of_ble_eq_true rfl) dX7_set_10
set_option maxHeartbeats 4000000 in
set_option maxRecDepth 100000 in
theorem c_X7_keep (l : Launch) (D : va_G) (sz : Nat) (x ps im ia lt : Nat) (cI : ClassId) (h k c g1 a1 o g2 a2 : Nat) (cA1 cA2 : ClassId) (f1 f2 : Nat → Int32) (i : Int32) : mI l yX7_keep wsX7_keep (rk 5 8 183) D [.ref x, .int i] [(cI, .object "LoanHouse$House"), (cA1, .int), (cA2, .int)] sz [(x, .inr (7, [.ref h, .ref ps, .ref im, .ref lt, .int 0, .int 0])), (im, .inr (6, [.ref ia])), (ia, .inl (cI, 2, .inr (.inr (.inr (.inr (fun _ => none)))))), (h, .inr (4, [.ref k, .ref c, .ref o, .int 0])), (k, .inr (0, [.int 0, .int 14, .int 3, .int 64])), (c, .inr (1, [.ref g1, .int 0])), (g1, .inr (2, [.int 16, .int 5, .ref a1])), (a1, .inl (cA1, 80, .inl f1)), (o, .inr (3, [.ref g2, .int 0, .int 0])), (g2, .inr (2, [.int 12, .int 7, .ref a2])), (a2, .inl (cA2, 84, .inl f2))] (S := Unit) (fun r _ => q2 (ok i 2) 0 (-1000000001) r) (fun _ => []) (fun _ => []) := by
  refine mI_of (cc := cX7_keep) (maxL := 2) (ty := .int) (plainFor_of_name (by decide)) rfl (Nat.le_of_ble_eq_true rfl) ?_
  intro pp ee ss mm bl mt cd AA QQ hx hb hml hts hown hN hA hK hP hD hS hret ls hl
  have hl : lv_has ls 2 [(0, .ref x), (1, .int i)] := hl
  have inX0 : ∀ w ∈ wsX00, w ∈ wsX7_keep := fun _ h => List.mem_cons_of_mem _ (List.mem_append_left _ (List.mem_append_left _ (List.mem_append_left _ (List.mem_append_left _ (List.mem_append_right _ h)))))
  have inX4 : ∀ w ∈ wsX40, w ∈ wsX7_keep := fun _ h => List.mem_cons_of_mem _ (List.mem_append_left _ (List.mem_append_left _ (List.mem_append_left _ (List.mem_append_left _ (List.mem_append_left _ (List.mem_append_right _ h))))))
  have inX7 : ∀ w ∈ wsX70, w ∈ wsX7_keep := fun _ h => List.mem_cons_of_mem _ (List.mem_append_left _ (List.mem_append_left _ (List.mem_append_left _ (List.mem_append_left _ (List.mem_append_left _ (List.mem_append_left _ (List.mem_append_right _ h)))))))
  refine lv_iload_n hx hb dX7_keep_0 rfl (lv_at hl 1 rfl) ?_
  refine lv_iconst (v := 2) hx hb dX7_keep_1 (by decide) ?_
  refine k_pi (va_runS (As := [.int i, .int 2]) (rest := []) ⟨hx, hb, hml, hown, hts⟩ (c_isBelow l D ss.heap.size i 2 ) (va_cwS 2 hts gX7_keep_X7_isBelow rfl rfl rfl (by decide +kernel) ⟨(Nat.le_of_ble_eq_true rfl), (Nat.le_of_ble_eq_true rfl)⟩) ⟨mP_blind, m_pre _ hN hK hP hD [] rfl [] rfl (by decide)⟩ rfl rfl hl.1 rfl (lv_room (Nat.le_of_ble_eq_true rfl)) dX7_keep_2 ⟨(Nat.le_of_ble_eq_true rfl), (Nat.le_of_ble_eq_true rfl)⟩) hP hD hS hA [] rfl (fun r195 u H locs hw hP hS => ?_)
  rcases hw with ⟨rfl, zw2⟩ | ⟨rfl, zw2⟩
  · refine lv_if_ne (tgt := 11) hx hb dX7_keep_5 (by decide) (fun zc5 => ?_) (fun hc => absurd hc (by decide))
    refine lv_aload_n hx hb dX7_keep_11 rfl (lv_at hl 0 rfl) ?_
    refine va_get (D := D) (ci := 7) (v := .ref im) (C := RX7) (T := TX7) (N := 6) hx hb hts inX7 hown hK hP 0 rfl rfl 2 (by decide) (hts (.fieldLink RX7 25 "LoanHouse" "images" "LLoanHouse$Pictures;") (List.mem_of_getElem? (i := 2) rfl)) (fun _ h9 => h9) rfl dX7_keep_12 ?_
    refine lv_iload_n hx hb dX7_keep_15 rfl (lv_at hl 1 rfl) ?_
    refine lv_aload_n hx hb dX7_keep_16 rfl (lv_at hl 0 rfl) ?_
    refine va_get (D := D) (ci := 7) (v := .ref h) (C := RX7) (T := TX7) (N := 6) hx hb hts inX7 hown hK hP 0 rfl rfl 0 (by decide) (hts (.fieldLink RX7 10 "LoanHouse" "house" "LLoanHouse$House;") (List.mem_of_getElem? (i := 3) rfl)) (fun _ h9 => h9) rfl dX7_keep_17 ?_
    refine k_v (wr := [(x, .inr (7, [.ref h, .ref ps, .ref im, .ref lt, .int 0, .int 0]))]) (va_runV (As := [.int i, .ref h]) (rest := []) ⟨hx, hb, hml, hown, hts⟩ (c_X6_take_2 l D H.size im ia cI i h k c g1 a1 o g2 a2 cA1 cA2 0 14 3 64 0 0 0 0 f1 f2 zw2) (cwV 2 hts gX7_keep_X6_take rfl rfl rfl (by decide +kernel) ⟨(Nat.le_of_ble_eq_true rfl), (Nat.le_of_ble_eq_true rfl)⟩) ⟨mP_blind, va_recv hK hP (ci := 6) (q0 := 1) rfl rfl, m_pre _ hN hK hP hD [0, 1, 2] rfl [1, 2, 3, 4, 5, 6, 7, 8, 9, 10] rfl (by decide)⟩ rfl rfl hl.1 rfl (lv_room (Nat.le_of_ble_eq_true rfl)) dX7_keep_20 ⟨(Nat.le_of_ble_eq_true rfl), (Nat.le_of_ble_eq_true rfl)⟩) hP hD hS hA [1, 2, 3, 4, 5, 6, 7, 8, 9, 10] [0] rfl rfl (by decide) (by decide) (fun u H locs hw hK1 hP hD hS => ?_)
    have hP : va_P D vwCl [(x, .inr (7, [.ref h, .ref ps, .ref im, .ref lt, .int 0, .int 0])), (h, .inr (4, [.ref k, .ref c, .ref o, .int 0])), (k, .inr (0, [.int 0, .int 14, .int 3, .int 64])), (c, .inr (1, [.ref g1, .int 0])), (g1, .inr (2, [.int 16, .int 5, .ref a1])), (a1, .inl (cA1, 80, .inl f1)), (o, .inr (3, [.ref g2, .int 0, .int 0])), (g2, .inr (2, [.int 12, .int 7, .ref a2])), (a2, .inl (cA2, 84, .inl f2))] H := hP
    have hD : va_D AA [(x, .inr (7, [.ref h, .ref ps, .ref im, .ref lt, .int 0, .int 0])), (h, .inr (4, [.ref k, .ref c, .ref o, .int 0])), (k, .inr (0, [.int 0, .int 14, .int 3, .int 64])), (c, .inr (1, [.ref g1, .int 0])), (g1, .inr (2, [.int 16, .int 5, .ref a1])), (a1, .inl (cA1, 80, .inl f1)), (o, .inr (3, [.ref g2, .int 0, .int 0])), (g2, .inr (2, [.int 12, .int 7, .ref a2])), (a2, .inl (cA2, 84, .inl f2))] := hD
    try dsimp only at hw
    refine W.widen (k := 8) (n := 183) (Nat.le_of_ble_eq_true rfl) (Nat.le_of_ble_eq_true rfl) ?_
    refine lv_aload_n hx hb dX7_keep_23 rfl (lv_at hl 0 rfl) ?_
    refine lv_iconst (v := 0) hx hb dX7_keep_24 (by decide) ?_
    refine va_put (D := D) (ci := 7) (v := .int 0) (ty := .int) (C := RX7) (T := TX7) (N := 6) hx hb hts inX7 tyX7 tyX7_ok nmX7 hown hK hP hD hS 0 rfl rfl 4 (by decide) (hts (.fieldLink RX7 145 "LoanHouse" "undoable" "I") (List.mem_of_getElem? (i := 4) rfl)) (fun _ h9 => h9) rfl (by decide +kernel) rfl rfl (Nat.le_of_ble_eq_true rfl) dX7_keep_25 (fun H locs hP hD hS => ?_)
    have hP : va_P D vwCl [(x, .inr (7, [.ref h, .ref ps, .ref im, .ref lt, .int 0, .int 0])), (h, .inr (4, [.ref k, .ref c, .ref o, .int 0])), (k, .inr (0, [.int 0, .int 14, .int 3, .int 64])), (c, .inr (1, [.ref g1, .int 0])), (g1, .inr (2, [.int 16, .int 5, .ref a1])), (a1, .inl (cA1, 80, .inl f1)), (o, .inr (3, [.ref g2, .int 0, .int 0])), (g2, .inr (2, [.int 12, .int 7, .ref a2])), (a2, .inl (cA2, 84, .inl f2))] H := hP
    have hD : va_D AA [(x, .inr (7, [.ref h, .ref ps, .ref im, .ref lt, .int 0, .int 0])), (h, .inr (4, [.ref k, .ref c, .ref o, .int 0])), (k, .inr (0, [.int 0, .int 14, .int 3, .int 64])), (c, .inr (1, [.ref g1, .int 0])), (g1, .inr (2, [.int 16, .int 5, .ref a1])), (a1, .inl (cA1, 80, .inl f1)), (o, .inr (3, [.ref g2, .int 0, .int 0])), (g2, .inr (2, [.int 12, .int 7, .ref a2])), (a2, .inl (cA2, 84, .inl f2))] := hD
    refine lv_aload_n hx hb dX7_keep_28 rfl (lv_at hl 0 rfl) ?_
    refine va_get (D := D) (ci := 7) (v := .ref h) (C := RX7) (T := TX7) (N := 6) hx hb hts inX7 hown hK hP 0 rfl rfl 0 (by decide) (hts (.fieldLink RX7 10 "LoanHouse" "house" "LLoanHouse$House;") (List.mem_of_getElem? (i := 3) rfl)) (fun _ h9 => h9) rfl dX7_keep_29 ?_
    refine va_getN (D := D) (ci := 4) (v := .ref k) (host := "LoanHouse") (C := RX4) (T := TX4) (N := 4) hx hb hts inX4 hown hK hP 1 rfl rfl 0 (by decide) (va_Nw.use rfl (hN.at 9 rfl)) (fun _ h9 => h9) rfl dX7_keep_32 ?_
    refine va_getN (D := D) (ci := 0) (v := .int 0) (host := "LoanHouse") (C := RX0) (T := TX0) (N := 4) hx hb hts inX0 hown hK hP 2 rfl rfl 0 (by decide) (va_Nw.use rfl (hN.at 1 rfl)) (fun _ h9 => h9) rfl dX7_keep_35 ?_
    exact hret 0 () rfl (Or.inl ⟨zw2, rfl⟩) (m_P hP (is := []) rfl) (hK.sub [] rfl) (hD.sub [] (by decide) rfl) hS (Nat.le_of_ble_eq_true rfl) (Nat.le_of_ble_eq_true rfl) dX7_keep_38
  · refine lv_if_ne (tgt := 11) hx hb dX7_keep_5 (by decide) (fun hc => absurd (by decide) hc) (fun zc5 => ?_)
    refine lv_ldc hx hb hown (hts (.constant RX7 39 (-1000000001)) (List.mem_of_getElem? (i := 1) rfl)) dX7_keep_8 ?_
    exact hret (-1000000001) () rfl (Or.inr ⟨zw2, rfl⟩) (m_P hP (is := []) rfl) (hK.sub [] rfl) (hD.sub [] (by decide) rfl) hS (Nat.le_of_ble_eq_true rfl) (Nat.le_of_ble_eq_true rfl) dX7_keep_10
set_option maxHeartbeats 4000000 in
set_option maxRecDepth 100000 in
theorem c_X7_goBack (l : Launch) (D : va_G) (sz : Nat) (x h ps im ia lt : Nat) (cI : ClassId) (i : Int32) : mI l yX7_goBack wsX7_goBack (rk 2 0 0) D [.ref x, .int i] [(cI, .object "LoanHouse$House")] sz [(x, .inr (7, [.ref h, .ref ps, .ref im, .ref lt, .int 0, .int 0])), (im, .inr (6, [.ref ia])), (ia, .inl (cI, 2, .inr (.inr (.inr (.inr (fun _ => none))))))] (S := Unit) (fun r _ => q2 (ok i 2) (-1000000003) (-1000000001) r) (fun _ => []) (fun _ => [(x, .inr (7, [.ref h, .ref ps, .ref im, .ref lt, .int 0, .int 0])), (im, .inr (6, [.ref ia])), (ia, .inl (cI, 2, .inr (.inr (.inr (.inr (fun _ => none))))))]) := by
  refine mI_of (cc := cX7_goBack) (maxL := 2) (ty := .int) (plainFor_of_name (by decide)) rfl (Nat.le_of_ble_eq_true rfl) ?_
  intro pp ee ss mm bl mt cd AA QQ hx hb hml hts hown hN hA hK hP hD hS hret ls hl
  have hl : lv_has ls 2 [(0, .ref x), (1, .int i)] := hl
  have inX7 : ∀ w ∈ wsX70, w ∈ wsX7_goBack := fun _ h => List.mem_cons_of_mem _ (List.mem_append_left _ (List.mem_append_left _ (List.mem_append_left _ (List.mem_append_left _ (List.mem_append_left _ (List.mem_append_left _ (List.mem_append_right _ h)))))))
  refine lv_iload_n hx hb dX7_goBack_0 rfl (lv_at hl 1 rfl) ?_
  refine lv_iconst (v := 2) hx hb dX7_goBack_1 (by decide) ?_
  refine k_pi (va_runS (As := [.int i, .int 2]) (rest := []) ⟨hx, hb, hml, hown, hts⟩ (c_isBelow l D ss.heap.size i 2 ) (va_cwS 2 hts gX7_goBack_X7_isBelow rfl rfl rfl (by decide +kernel) ⟨(Nat.le_of_ble_eq_true rfl), (Nat.le_of_ble_eq_true rfl)⟩) ⟨mP_blind, m_pre _ hN hK hP hD [] rfl [] rfl (by decide)⟩ rfl rfl hl.1 rfl (lv_room (Nat.le_of_ble_eq_true rfl)) dX7_goBack_2 ⟨(Nat.le_of_ble_eq_true rfl), (Nat.le_of_ble_eq_true rfl)⟩) hP hD hS hA [] rfl (fun r197 u H locs hw hP hS => ?_)
  rcases hw with ⟨rfl, zw2⟩ | ⟨rfl, zw2⟩
  · refine lv_if_ne (tgt := 11) hx hb dX7_goBack_5 (by decide) (fun zc5 => ?_) (fun hc => absurd hc (by decide))
    refine lv_aload_n hx hb dX7_goBack_11 rfl (lv_at hl 0 rfl) ?_
    refine va_get (D := D) (ci := 7) (v := .ref im) (C := RX7) (T := TX7) (N := 6) hx hb hts inX7 hown hK hP 0 rfl rfl 2 (by decide) (hts (.fieldLink RX7 25 "LoanHouse" "images" "LLoanHouse$Pictures;") (List.mem_of_getElem? (i := 2) rfl)) (fun _ h9 => h9) rfl dX7_goBack_12 ?_
    refine lv_iload_n hx hb dX7_goBack_15 rfl (lv_at hl 1 rfl) ?_
    refine k_pi (va_runV (As := [.int i]) (rest := []) ⟨hx, hb, hml, hown, hts⟩ (c_X6_has l D H.size im ia cI i ) (cwV 1 hts gX7_goBack_X6_has rfl rfl rfl (by decide +kernel) ⟨(Nat.le_of_ble_eq_true rfl), (Nat.le_of_ble_eq_true rfl)⟩) ⟨mP_blind, va_recv hK hP (ci := 6) (q0 := 1) rfl rfl, m_pre _ hN hK hP hD [0] rfl [1, 2] rfl (by decide)⟩ rfl rfl hl.1 rfl (lv_room (Nat.le_of_ble_eq_true rfl)) dX7_goBack_16 ⟨(Nat.le_of_ble_eq_true rfl), (Nat.le_of_ble_eq_true rfl)⟩) hP hD hS hA [1, 2] rfl (fun r198 u H locs hw hP hS => ?_)
    obtain rfl := hw
    refine lv_if_ne (tgt := 25) hx hb dX7_goBack_19 (by decide) (fun hc => absurd (by decide) hc) (fun zc19 => ?_)
    refine lv_ldc hx hb hown (hts (.constant RX7 90 (-1000000003)) (List.mem_of_getElem? (i := 3) rfl)) dX7_goBack_22 ?_
    exact hret (-1000000003) () rfl (Or.inl ⟨zw2, rfl⟩) hP (hK.sub [] rfl) hD hS (Nat.le_of_ble_eq_true rfl) (Nat.le_of_ble_eq_true rfl) dX7_goBack_24
  · refine lv_if_ne (tgt := 11) hx hb dX7_goBack_5 (by decide) (fun hc => absurd (by decide) hc) (fun zc5 => ?_)
    refine lv_ldc hx hb hown (hts (.constant RX7 39 (-1000000001)) (List.mem_of_getElem? (i := 1) rfl)) dX7_goBack_8 ?_
    exact hret (-1000000001) () rfl (Or.inr ⟨zw2, rfl⟩) hP (hK.sub [] rfl) hD hS (Nat.le_of_ble_eq_true rfl) (Nat.le_of_ble_eq_true rfl) dX7_goBack_10
set_option maxHeartbeats 4000000 in
set_option maxRecDepth 100000 in
theorem c_X7_told (l : Launch) (D : va_G) (sz : Nat) (x h ps im lt k c o g1 g2 : Nat) (w : Int32) : mI l yX7_told wsX7_told (rk 2 0 0) D [.ref x, .int w] [] sz [(x, .inr (7, [.ref h, .ref ps, .ref im, .ref lt, .int 0, .int 0])), (h, .inr (4, [.ref k, .ref c, .ref o, .int 0])), (k, .inr (0, [.int 0, .int 14, .int 3, .int 64])), (c, .inr (1, [.ref g1, .int 0])), (o, .inr (3, [.ref g2, .int 0, .int 0]))] (S := Unit) (fun r _ => r = a_told w) (fun _ => []) (fun _ => [(x, .inr (7, [.ref h, .ref ps, .ref im, .ref lt, .int 0, .int 0])), (h, .inr (4, [.ref k, .ref c, .ref o, .int 0])), (k, .inr (0, [.int 0, .int 14, .int 3, .int 64])), (c, .inr (1, [.ref g1, .int 0])), (o, .inr (3, [.ref g2, .int 0, .int 0]))]) := by
  refine mI_of (cc := cX7_told) (maxL := 2) (ty := .int) (plainFor_of_name (by decide)) rfl (Nat.le_of_ble_eq_true rfl) ?_
  intro pp ee ss mm bl mt cd AA QQ hx hb hml hts hown hN hA hK hP hD hS hret ls hl
  have hl : lv_has ls 2 [(0, .ref x), (1, .int w)] := hl
  have inX0 : ∀ w ∈ wsX00, w ∈ wsX7_told := fun _ h => List.mem_cons_of_mem _ (List.mem_append_left _ (List.mem_append_left _ (List.mem_append_left _ (List.mem_append_right _ h))))
  have inX1 : ∀ w ∈ wsX10, w ∈ wsX7_told := fun _ h => List.mem_cons_of_mem _ (List.mem_append_left _ (List.mem_append_left _ (List.mem_append_right _ h)))
  have inX3 : ∀ w ∈ wsX30, w ∈ wsX7_told := fun _ h => List.mem_cons_of_mem _ (List.mem_append_left _ (List.mem_append_right _ h))
  have inX4 : ∀ w ∈ wsX40, w ∈ wsX7_told := fun _ h => List.mem_cons_of_mem _ (List.mem_append_left _ (List.mem_append_left _ (List.mem_append_left _ (List.mem_append_left _ (List.mem_append_right _ h)))))
  have inX7 : ∀ w ∈ wsX70, w ∈ wsX7_told := fun _ h => List.mem_cons_of_mem _ (List.mem_append_left _ (List.mem_append_left _ (List.mem_append_left _ (List.mem_append_left _ (List.mem_append_left _ (List.mem_append_right _ h))))))
  refine lv_iload_n hx hb dX7_told_0 rfl (lv_at hl 1 rfl) ?_
  refine sw_split w 16 (by decide) (fun kq hkq hsw => ?_) (fun hsw => ?_)
  · subst hsw
    match kq, hkq with
    | 0, _ =>
      refine lv_tableIn (off := 79) (tgt := 80) hx hb dX7_told_1 (by decide) (by decide) (by decide) (by decide) ?_
      refine lv_aload_n hx hb dX7_told_80 rfl (lv_at hl 0 rfl) ?_
      refine va_get (D := D) (ci := 7) (v := .ref h) (C := RX7) (T := TX7) (N := 6) hx hb hts inX7 hown hK hP 0 rfl rfl 0 (by decide) (hts (.fieldLink RX7 10 "LoanHouse" "house" "LLoanHouse$House;") (List.mem_of_getElem? (i := 1) rfl)) (fun _ h9 => h9) rfl dX7_told_81 ?_
      refine va_getN (D := D) (ci := 4) (v := .ref k) (host := "LoanHouse") (C := RX4) (T := TX4) (N := 4) hx hb hts inX4 hown hK hP 1 rfl rfl 0 (by decide) (va_Nw.use rfl (hN.at 9 rfl)) (fun _ h9 => h9) rfl dX7_told_84 ?_
      refine va_getN (D := D) (ci := 0) (v := .int 0) (host := "LoanHouse") (C := RX0) (T := TX0) (N := 4) hx hb hts inX0 hown hK hP 2 rfl rfl 0 (by decide) (va_Nw.use rfl (hN.at 1 rfl)) (fun _ h9 => h9) rfl dX7_told_87 ?_
      exact hret 0 () rfl (by decide) hP (hK.sub [] rfl) hD hS (Nat.le_of_ble_eq_true rfl) (Nat.le_of_ble_eq_true rfl) dX7_told_90
    | 1, _ =>
      refine lv_tableIn (off := 90) (tgt := 91) hx hb dX7_told_1 (by decide) (by decide) (by decide) (by decide) ?_
      refine lv_aload_n hx hb dX7_told_91 rfl (lv_at hl 0 rfl) ?_
      refine va_get (D := D) (ci := 7) (v := .ref h) (C := RX7) (T := TX7) (N := 6) hx hb hts inX7 hown hK hP 0 rfl rfl 0 (by decide) (hts (.fieldLink RX7 10 "LoanHouse" "house" "LLoanHouse$House;") (List.mem_of_getElem? (i := 1) rfl)) (fun _ h9 => h9) rfl dX7_told_92 ?_
      refine va_getN (D := D) (ci := 4) (v := .ref k) (host := "LoanHouse") (C := RX4) (T := TX4) (N := 4) hx hb hts inX4 hown hK hP 1 rfl rfl 0 (by decide) (va_Nw.use rfl (hN.at 9 rfl)) (fun _ h9 => h9) rfl dX7_told_95 ?_
      refine va_getN (D := D) (ci := 0) (v := .int 14) (host := "LoanHouse") (C := RX0) (T := TX0) (N := 4) hx hb hts inX0 hown hK hP 2 rfl rfl 1 (by decide) (va_Nw.use rfl (hN.at 2 rfl)) (fun _ h9 => h9) rfl dX7_told_98 ?_
      exact hret 14 () rfl (by decide) hP (hK.sub [] rfl) hD hS (Nat.le_of_ble_eq_true rfl) (Nat.le_of_ble_eq_true rfl) dX7_told_101
    | 2, _ =>
      refine lv_tableIn (off := 101) (tgt := 102) hx hb dX7_told_1 (by decide) (by decide) (by decide) (by decide) ?_
      refine lv_aload_n hx hb dX7_told_102 rfl (lv_at hl 0 rfl) ?_
      refine va_get (D := D) (ci := 7) (v := .ref h) (C := RX7) (T := TX7) (N := 6) hx hb hts inX7 hown hK hP 0 rfl rfl 0 (by decide) (hts (.fieldLink RX7 10 "LoanHouse" "house" "LLoanHouse$House;") (List.mem_of_getElem? (i := 1) rfl)) (fun _ h9 => h9) rfl dX7_told_103 ?_
      refine va_getN (D := D) (ci := 4) (v := .ref k) (host := "LoanHouse") (C := RX4) (T := TX4) (N := 4) hx hb hts inX4 hown hK hP 1 rfl rfl 0 (by decide) (va_Nw.use rfl (hN.at 9 rfl)) (fun _ h9 => h9) rfl dX7_told_106 ?_
      refine va_getN (D := D) (ci := 0) (v := .int 3) (host := "LoanHouse") (C := RX0) (T := TX0) (N := 4) hx hb hts inX0 hown hK hP 2 rfl rfl 2 (by decide) (va_Nw.use rfl (hN.at 3 rfl)) (fun _ h9 => h9) rfl dX7_told_109 ?_
      exact hret 3 () rfl (by decide) hP (hK.sub [] rfl) hD hS (Nat.le_of_ble_eq_true rfl) (Nat.le_of_ble_eq_true rfl) dX7_told_112
    | 3, _ =>
      refine lv_tableIn (off := 112) (tgt := 113) hx hb dX7_told_1 (by decide) (by decide) (by decide) (by decide) ?_
      refine lv_aload_n hx hb dX7_told_113 rfl (lv_at hl 0 rfl) ?_
      refine va_get (D := D) (ci := 7) (v := .ref h) (C := RX7) (T := TX7) (N := 6) hx hb hts inX7 hown hK hP 0 rfl rfl 0 (by decide) (hts (.fieldLink RX7 10 "LoanHouse" "house" "LLoanHouse$House;") (List.mem_of_getElem? (i := 1) rfl)) (fun _ h9 => h9) rfl dX7_told_114 ?_
      refine va_getN (D := D) (ci := 4) (v := .ref k) (host := "LoanHouse") (C := RX4) (T := TX4) (N := 4) hx hb hts inX4 hown hK hP 1 rfl rfl 0 (by decide) (va_Nw.use rfl (hN.at 9 rfl)) (fun _ h9 => h9) rfl dX7_told_117 ?_
      refine va_getN (D := D) (ci := 0) (v := .int 64) (host := "LoanHouse") (C := RX0) (T := TX0) (N := 4) hx hb hts inX0 hown hK hP 2 rfl rfl 3 (by decide) (va_Nw.use rfl (hN.at 4 rfl)) (fun _ h9 => h9) rfl dX7_told_120 ?_
      exact hret 64 () rfl (by decide) hP (hK.sub [] rfl) hD hS (Nat.le_of_ble_eq_true rfl) (Nat.le_of_ble_eq_true rfl) dX7_told_123
    | 4, _ =>
      refine lv_tableIn (off := 123) (tgt := 124) hx hb dX7_told_1 (by decide) (by decide) (by decide) (by decide) ?_
      refine lv_aload_n hx hb dX7_told_124 rfl (lv_at hl 0 rfl) ?_
      refine va_get (D := D) (ci := 7) (v := .ref h) (C := RX7) (T := TX7) (N := 6) hx hb hts inX7 hown hK hP 0 rfl rfl 0 (by decide) (hts (.fieldLink RX7 10 "LoanHouse" "house" "LLoanHouse$House;") (List.mem_of_getElem? (i := 1) rfl)) (fun _ h9 => h9) rfl dX7_told_125 ?_
      refine va_getN (D := D) (ci := 4) (v := .ref c) (host := "LoanHouse") (C := RX4) (T := TX4) (N := 4) hx hb hts inX4 hown hK hP 1 rfl rfl 1 (by decide) (va_Nw.use rfl (hN.at 10 rfl)) (fun _ h9 => h9) rfl dX7_told_128 ?_
      refine va_getN (D := D) (ci := 1) (v := .int 0) (host := "LoanHouse") (C := RX1) (T := TX1) (N := 2) hx hb hts inX1 hown hK hP 3 rfl rfl 1 (by decide) (va_Nw.use rfl (hN.at 5 rfl)) (fun _ h9 => h9) rfl dX7_told_131 ?_
      exact hret 0 () rfl (by decide) hP (hK.sub [] rfl) hD hS (Nat.le_of_ble_eq_true rfl) (Nat.le_of_ble_eq_true rfl) dX7_told_134
    | 5, _ =>
      refine lv_tableIn (off := 134) (tgt := 135) hx hb dX7_told_1 (by decide) (by decide) (by decide) (by decide) ?_
      refine lv_aload_n hx hb dX7_told_135 rfl (lv_at hl 0 rfl) ?_
      refine va_get (D := D) (ci := 7) (v := .ref h) (C := RX7) (T := TX7) (N := 6) hx hb hts inX7 hown hK hP 0 rfl rfl 0 (by decide) (hts (.fieldLink RX7 10 "LoanHouse" "house" "LLoanHouse$House;") (List.mem_of_getElem? (i := 1) rfl)) (fun _ h9 => h9) rfl dX7_told_136 ?_
      refine va_getN (D := D) (ci := 4) (v := .ref c) (host := "LoanHouse") (C := RX4) (T := TX4) (N := 4) hx hb hts inX4 hown hK hP 1 rfl rfl 1 (by decide) (va_Nw.use rfl (hN.at 10 rfl)) (fun _ h9 => h9) rfl dX7_told_139 ?_
      refine lv_iconst (v := 0) hx hb dX7_told_142 (by decide) ?_
      refine k_pi (va_runV (As := [.int 0]) (rest := []) ⟨hx, hb, hml, hown, hts⟩ (c_X1_thatAre l D ss.heap.size c g1 0 ) (cwV 1 hts gX7_told_X1_thatAre rfl rfl rfl (by decide +kernel) ⟨(Nat.le_of_ble_eq_true rfl), (Nat.le_of_ble_eq_true rfl)⟩) ⟨mP_blind, va_recv hK hP (ci := 1) (q0 := 3) rfl rfl, m_pre _ hN hK hP hD [] rfl [3] rfl (by decide)⟩ rfl rfl hl.1 rfl (lv_room (Nat.le_of_ble_eq_true rfl)) dX7_told_143 ⟨(Nat.le_of_ble_eq_true rfl), (Nat.le_of_ble_eq_true rfl)⟩) hP hD hS hA [3] rfl (fun r209 u H locs hw hP hS => ?_)
      obtain rfl := hw
      exact hret 0 () rfl (by decide) hP (hK.sub [] rfl) hD hS (Nat.le_of_ble_eq_true rfl) (Nat.le_of_ble_eq_true rfl) dX7_told_146
    | 6, _ =>
      refine lv_tableIn (off := 146) (tgt := 147) hx hb dX7_told_1 (by decide) (by decide) (by decide) (by decide) ?_
      refine lv_aload_n hx hb dX7_told_147 rfl (lv_at hl 0 rfl) ?_
      refine va_get (D := D) (ci := 7) (v := .ref h) (C := RX7) (T := TX7) (N := 6) hx hb hts inX7 hown hK hP 0 rfl rfl 0 (by decide) (hts (.fieldLink RX7 10 "LoanHouse" "house" "LLoanHouse$House;") (List.mem_of_getElem? (i := 1) rfl)) (fun _ h9 => h9) rfl dX7_told_148 ?_
      refine va_getN (D := D) (ci := 4) (v := .ref c) (host := "LoanHouse") (C := RX4) (T := TX4) (N := 4) hx hb hts inX4 hown hK hP 1 rfl rfl 1 (by decide) (va_Nw.use rfl (hN.at 10 rfl)) (fun _ h9 => h9) rfl dX7_told_151 ?_
      refine lv_iconst (v := 1) hx hb dX7_told_154 (by decide) ?_
      refine k_pi (va_runV (As := [.int 1]) (rest := []) ⟨hx, hb, hml, hown, hts⟩ (c_X1_thatAre l D ss.heap.size c g1 1 ) (cwV 1 hts gX7_told_X1_thatAre rfl rfl rfl (by decide +kernel) ⟨(Nat.le_of_ble_eq_true rfl), (Nat.le_of_ble_eq_true rfl)⟩) ⟨mP_blind, va_recv hK hP (ci := 1) (q0 := 3) rfl rfl, m_pre _ hN hK hP hD [] rfl [3] rfl (by decide)⟩ rfl rfl hl.1 rfl (lv_room (Nat.le_of_ble_eq_true rfl)) dX7_told_155 ⟨(Nat.le_of_ble_eq_true rfl), (Nat.le_of_ble_eq_true rfl)⟩) hP hD hS hA [3] rfl (fun r210 u H locs hw hP hS => ?_)
      obtain rfl := hw
      exact hret 0 () rfl (by decide) hP (hK.sub [] rfl) hD hS (Nat.le_of_ble_eq_true rfl) (Nat.le_of_ble_eq_true rfl) dX7_told_158
    | 7, _ =>
      refine lv_tableIn (off := 158) (tgt := 159) hx hb dX7_told_1 (by decide) (by decide) (by decide) (by decide) ?_
      refine lv_aload_n hx hb dX7_told_159 rfl (lv_at hl 0 rfl) ?_
      refine va_get (D := D) (ci := 7) (v := .ref h) (C := RX7) (T := TX7) (N := 6) hx hb hts inX7 hown hK hP 0 rfl rfl 0 (by decide) (hts (.fieldLink RX7 10 "LoanHouse" "house" "LLoanHouse$House;") (List.mem_of_getElem? (i := 1) rfl)) (fun _ h9 => h9) rfl dX7_told_160 ?_
      refine va_getN (D := D) (ci := 4) (v := .ref c) (host := "LoanHouse") (C := RX4) (T := TX4) (N := 4) hx hb hts inX4 hown hK hP 1 rfl rfl 1 (by decide) (va_Nw.use rfl (hN.at 10 rfl)) (fun _ h9 => h9) rfl dX7_told_163 ?_
      refine lv_iconst (v := 2) hx hb dX7_told_166 (by decide) ?_
      refine k_pi (va_runV (As := [.int 2]) (rest := []) ⟨hx, hb, hml, hown, hts⟩ (c_X1_thatAre l D ss.heap.size c g1 2 ) (cwV 1 hts gX7_told_X1_thatAre rfl rfl rfl (by decide +kernel) ⟨(Nat.le_of_ble_eq_true rfl), (Nat.le_of_ble_eq_true rfl)⟩) ⟨mP_blind, va_recv hK hP (ci := 1) (q0 := 3) rfl rfl, m_pre _ hN hK hP hD [] rfl [3] rfl (by decide)⟩ rfl rfl hl.1 rfl (lv_room (Nat.le_of_ble_eq_true rfl)) dX7_told_167 ⟨(Nat.le_of_ble_eq_true rfl), (Nat.le_of_ble_eq_true rfl)⟩) hP hD hS hA [3] rfl (fun r211 u H locs hw hP hS => ?_)
      obtain rfl := hw
      exact hret 0 () rfl (by decide) hP (hK.sub [] rfl) hD hS (Nat.le_of_ble_eq_true rfl) (Nat.le_of_ble_eq_true rfl) dX7_told_170
    | 8, _ =>
      refine lv_tableIn (off := 170) (tgt := 171) hx hb dX7_told_1 (by decide) (by decide) (by decide) (by decide) ?_
      refine lv_aload_n hx hb dX7_told_171 rfl (lv_at hl 0 rfl) ?_
      refine va_get (D := D) (ci := 7) (v := .ref h) (C := RX7) (T := TX7) (N := 6) hx hb hts inX7 hown hK hP 0 rfl rfl 0 (by decide) (hts (.fieldLink RX7 10 "LoanHouse" "house" "LLoanHouse$House;") (List.mem_of_getElem? (i := 1) rfl)) (fun _ h9 => h9) rfl dX7_told_172 ?_
      refine va_getN (D := D) (ci := 4) (v := .ref c) (host := "LoanHouse") (C := RX4) (T := TX4) (N := 4) hx hb hts inX4 hown hK hP 1 rfl rfl 1 (by decide) (va_Nw.use rfl (hN.at 10 rfl)) (fun _ h9 => h9) rfl dX7_told_175 ?_
      refine lv_iconst (v := 3) hx hb dX7_told_178 (by decide) ?_
      refine k_pi (va_runV (As := [.int 3]) (rest := []) ⟨hx, hb, hml, hown, hts⟩ (c_X1_thatAre l D ss.heap.size c g1 3 ) (cwV 1 hts gX7_told_X1_thatAre rfl rfl rfl (by decide +kernel) ⟨(Nat.le_of_ble_eq_true rfl), (Nat.le_of_ble_eq_true rfl)⟩) ⟨mP_blind, va_recv hK hP (ci := 1) (q0 := 3) rfl rfl, m_pre _ hN hK hP hD [] rfl [3] rfl (by decide)⟩ rfl rfl hl.1 rfl (lv_room (Nat.le_of_ble_eq_true rfl)) dX7_told_179 ⟨(Nat.le_of_ble_eq_true rfl), (Nat.le_of_ble_eq_true rfl)⟩) hP hD hS hA [3] rfl (fun r212 u H locs hw hP hS => ?_)
      obtain rfl := hw
      exact hret 0 () rfl (by decide) hP (hK.sub [] rfl) hD hS (Nat.le_of_ble_eq_true rfl) (Nat.le_of_ble_eq_true rfl) dX7_told_182
    | 9, _ =>
      refine lv_tableIn (off := 182) (tgt := 183) hx hb dX7_told_1 (by decide) (by decide) (by decide) (by decide) ?_
      refine lv_aload_n hx hb dX7_told_183 rfl (lv_at hl 0 rfl) ?_
      refine va_get (D := D) (ci := 7) (v := .ref h) (C := RX7) (T := TX7) (N := 6) hx hb hts inX7 hown hK hP 0 rfl rfl 0 (by decide) (hts (.fieldLink RX7 10 "LoanHouse" "house" "LLoanHouse$House;") (List.mem_of_getElem? (i := 1) rfl)) (fun _ h9 => h9) rfl dX7_told_184 ?_
      refine va_getN (D := D) (ci := 4) (v := .ref c) (host := "LoanHouse") (C := RX4) (T := TX4) (N := 4) hx hb hts inX4 hown hK hP 1 rfl rfl 1 (by decide) (va_Nw.use rfl (hN.at 10 rfl)) (fun _ h9 => h9) rfl dX7_told_187 ?_
      refine lv_iconst (v := 4) hx hb dX7_told_190 (by decide) ?_
      refine k_pi (va_runV (As := [.int 4]) (rest := []) ⟨hx, hb, hml, hown, hts⟩ (c_X1_thatAre l D ss.heap.size c g1 4 ) (cwV 1 hts gX7_told_X1_thatAre rfl rfl rfl (by decide +kernel) ⟨(Nat.le_of_ble_eq_true rfl), (Nat.le_of_ble_eq_true rfl)⟩) ⟨mP_blind, va_recv hK hP (ci := 1) (q0 := 3) rfl rfl, m_pre _ hN hK hP hD [] rfl [3] rfl (by decide)⟩ rfl rfl hl.1 rfl (lv_room (Nat.le_of_ble_eq_true rfl)) dX7_told_191 ⟨(Nat.le_of_ble_eq_true rfl), (Nat.le_of_ble_eq_true rfl)⟩) hP hD hS hA [3] rfl (fun r213 u H locs hw hP hS => ?_)
      obtain rfl := hw
      exact hret 0 () rfl (by decide) hP (hK.sub [] rfl) hD hS (Nat.le_of_ble_eq_true rfl) (Nat.le_of_ble_eq_true rfl) dX7_told_194
    | 10, _ =>
      refine lv_tableIn (off := 194) (tgt := 195) hx hb dX7_told_1 (by decide) (by decide) (by decide) (by decide) ?_
      refine lv_aload_n hx hb dX7_told_195 rfl (lv_at hl 0 rfl) ?_
      refine va_get (D := D) (ci := 7) (v := .ref h) (C := RX7) (T := TX7) (N := 6) hx hb hts inX7 hown hK hP 0 rfl rfl 0 (by decide) (hts (.fieldLink RX7 10 "LoanHouse" "house" "LLoanHouse$House;") (List.mem_of_getElem? (i := 1) rfl)) (fun _ h9 => h9) rfl dX7_told_196 ?_
      refine va_getN (D := D) (ci := 4) (v := .ref o) (host := "LoanHouse") (C := RX4) (T := TX4) (N := 4) hx hb hts inX4 hown hK hP 1 rfl rfl 2 (by decide) (va_Nw.use rfl (hN.at 11 rfl)) (fun _ h9 => h9) rfl dX7_told_199 ?_
      refine va_getN (D := D) (ci := 3) (v := .int 0) (host := "LoanHouse") (C := RX3) (T := TX3) (N := 3) hx hb hts inX3 hown hK hP 4 rfl rfl 1 (by decide) (va_Nw.use rfl (hN.at 8 rfl)) (fun _ h9 => h9) rfl dX7_told_202 ?_
      exact hret 0 () rfl (by decide) hP (hK.sub [] rfl) hD hS (Nat.le_of_ble_eq_true rfl) (Nat.le_of_ble_eq_true rfl) dX7_told_205
    | 11, _ =>
      refine lv_tableIn (off := 205) (tgt := 206) hx hb dX7_told_1 (by decide) (by decide) (by decide) (by decide) ?_
      refine lv_aload_n hx hb dX7_told_206 rfl (lv_at hl 0 rfl) ?_
      refine va_get (D := D) (ci := 7) (v := .ref h) (C := RX7) (T := TX7) (N := 6) hx hb hts inX7 hown hK hP 0 rfl rfl 0 (by decide) (hts (.fieldLink RX7 10 "LoanHouse" "house" "LLoanHouse$House;") (List.mem_of_getElem? (i := 1) rfl)) (fun _ h9 => h9) rfl dX7_told_207 ?_
      refine va_getN (D := D) (ci := 4) (v := .ref o) (host := "LoanHouse") (C := RX4) (T := TX4) (N := 4) hx hb hts inX4 hown hK hP 1 rfl rfl 2 (by decide) (va_Nw.use rfl (hN.at 11 rfl)) (fun _ h9 => h9) rfl dX7_told_210 ?_
      refine k_pi (va_runV (As := []) (rest := []) ⟨hx, hb, hml, hown, hts⟩ (c_X3_waiting l D ss.heap.size o g2 0 ) (cwV 0 hts gX7_told_X3_waiting rfl rfl rfl (by decide +kernel) ⟨(Nat.le_of_ble_eq_true rfl), (Nat.le_of_ble_eq_true rfl)⟩) ⟨mP_blind, va_recv hK hP (ci := 3) (q0 := 4) rfl rfl, m_pre _ hN hK hP hD [] rfl [4] rfl (by decide)⟩ rfl rfl hl.1 rfl (lv_room (Nat.le_of_ble_eq_true rfl)) dX7_told_213 ⟨(Nat.le_of_ble_eq_true rfl), (Nat.le_of_ble_eq_true rfl)⟩) hP hD hS hA [4] rfl (fun r214 u H locs hw hP hS => ?_)
      obtain rfl := hw
      exact hret 0 () rfl (by decide) hP (hK.sub [] rfl) hD hS (Nat.le_of_ble_eq_true rfl) (Nat.le_of_ble_eq_true rfl) dX7_told_216
    | 12, _ =>
      refine lv_tableIn (off := 216) (tgt := 217) hx hb dX7_told_1 (by decide) (by decide) (by decide) (by decide) ?_
      refine lv_aload_n hx hb dX7_told_217 rfl (lv_at hl 0 rfl) ?_
      refine va_get (D := D) (ci := 7) (v := .ref h) (C := RX7) (T := TX7) (N := 6) hx hb hts inX7 hown hK hP 0 rfl rfl 0 (by decide) (hts (.fieldLink RX7 10 "LoanHouse" "house" "LLoanHouse$House;") (List.mem_of_getElem? (i := 1) rfl)) (fun _ h9 => h9) rfl dX7_told_218 ?_
      refine va_getN (D := D) (ci := 4) (v := .int 0) (host := "LoanHouse") (C := RX4) (T := TX4) (N := 4) hx hb hts inX4 hown hK hP 1 rfl rfl 3 (by decide) (va_Nw.use rfl (hN.at 12 rfl)) (fun _ h9 => h9) rfl dX7_told_221 ?_
      refine k_pi (va_runS (As := [.int 0]) (rest := []) ⟨hx, hb, hml, hown, hts⟩ (c_bitCount l D ss.heap.size  ) (va_cwS 1 hts gX7_told_J6_bitCount_0f7a4 rfl rfl rfl (by decide +kernel) ⟨(Nat.le_of_ble_eq_true rfl), (Nat.le_of_ble_eq_true rfl)⟩) ⟨mP_blind, m_pre _ hN hK hP hD [] rfl [] rfl (by decide)⟩ rfl rfl hl.1 rfl (lv_room (Nat.le_of_ble_eq_true rfl)) dX7_told_224 ⟨(Nat.le_of_ble_eq_true rfl), (Nat.le_of_ble_eq_true rfl)⟩) hP hD hS hA [] rfl (fun r215 u H locs hw hP hS => ?_)
      obtain rfl := hw
      exact hret 0 () rfl (by decide) hP (hK.sub [] rfl) hD hS (Nat.le_of_ble_eq_true rfl) (Nat.le_of_ble_eq_true rfl) dX7_told_227
    | 13, _ =>
      refine lv_tableIn (off := 227) (tgt := 228) hx hb dX7_told_1 (by decide) (by decide) (by decide) (by decide) ?_
      refine lv_aload_n hx hb dX7_told_228 rfl (lv_at hl 0 rfl) ?_
      refine va_get (D := D) (ci := 7) (v := .ref h) (C := RX7) (T := TX7) (N := 6) hx hb hts inX7 hown hK hP 0 rfl rfl 0 (by decide) (hts (.fieldLink RX7 10 "LoanHouse" "house" "LLoanHouse$House;") (List.mem_of_getElem? (i := 1) rfl)) (fun _ h9 => h9) rfl dX7_told_229 ?_
      refine va_getN (D := D) (ci := 4) (v := .ref c) (host := "LoanHouse") (C := RX4) (T := TX4) (N := 4) hx hb hts inX4 hown hK hP 1 rfl rfl 1 (by decide) (va_Nw.use rfl (hN.at 10 rfl)) (fun _ h9 => h9) rfl dX7_told_232 ?_
      refine lv_aload_n hx hb dX7_told_235 rfl (lv_at hl 0 rfl) ?_
      refine va_get (D := D) (ci := 7) (v := .ref h) (C := RX7) (T := TX7) (N := 6) hx hb hts inX7 hown hK hP 0 rfl rfl 0 (by decide) (hts (.fieldLink RX7 10 "LoanHouse" "house" "LLoanHouse$House;") (List.mem_of_getElem? (i := 1) rfl)) (fun _ h9 => h9) rfl dX7_told_236 ?_
      refine va_getN (D := D) (ci := 4) (v := .ref k) (host := "LoanHouse") (C := RX4) (T := TX4) (N := 4) hx hb hts inX4 hown hK hP 1 rfl rfl 0 (by decide) (va_Nw.use rfl (hN.at 9 rfl)) (fun _ h9 => h9) rfl dX7_told_239 ?_
      refine va_getN (D := D) (ci := 0) (v := .int 0) (host := "LoanHouse") (C := RX0) (T := TX0) (N := 4) hx hb hts inX0 hown hK hP 2 rfl rfl 0 (by decide) (va_Nw.use rfl (hN.at 1 rfl)) (fun _ h9 => h9) rfl dX7_told_242 ?_
      refine k_pi (va_runV (As := [.int 0]) (rest := []) ⟨hx, hb, hml, hown, hts⟩ (c_X1_overdue l D ss.heap.size c g1 0 ) (cwV 1 hts gX7_told_X1_overdue rfl rfl rfl (by decide +kernel) ⟨(Nat.le_of_ble_eq_true rfl), (Nat.le_of_ble_eq_true rfl)⟩) ⟨mP_blind, va_recv hK hP (ci := 1) (q0 := 3) rfl rfl, m_pre _ hN hK hP hD [] rfl [3] rfl (by decide)⟩ rfl rfl hl.1 rfl (lv_room (Nat.le_of_ble_eq_true rfl)) dX7_told_245 ⟨(Nat.le_of_ble_eq_true rfl), (Nat.le_of_ble_eq_true rfl)⟩) hP hD hS hA [3] rfl (fun r216 u H locs hw hP hS => ?_)
      obtain rfl := hw
      exact hret 0 () rfl (by decide) hP (hK.sub [] rfl) hD hS (Nat.le_of_ble_eq_true rfl) (Nat.le_of_ble_eq_true rfl) dX7_told_248
    | 14, _ =>
      refine lv_tableIn (off := 248) (tgt := 249) hx hb dX7_told_1 (by decide) (by decide) (by decide) (by decide) ?_
      refine lv_aload_n hx hb dX7_told_249 rfl (lv_at hl 0 rfl) ?_
      refine va_get (D := D) (ci := 7) (v := .ref h) (C := RX7) (T := TX7) (N := 6) hx hb hts inX7 hown hK hP 0 rfl rfl 0 (by decide) (hts (.fieldLink RX7 10 "LoanHouse" "house" "LLoanHouse$House;") (List.mem_of_getElem? (i := 1) rfl)) (fun _ h9 => h9) rfl dX7_told_250 ?_
      refine va_getN (D := D) (ci := 4) (v := .ref k) (host := "LoanHouse") (C := RX4) (T := TX4) (N := 4) hx hb hts inX4 hown hK hP 1 rfl rfl 0 (by decide) (va_Nw.use rfl (hN.at 9 rfl)) (fun _ h9 => h9) rfl dX7_told_253 ?_
      refine lv_aload_n hx hb dX7_told_256 rfl (lv_at hl 0 rfl) ?_
      refine va_get (D := D) (ci := 7) (v := .ref h) (C := RX7) (T := TX7) (N := 6) hx hb hts inX7 hown hK hP 0 rfl rfl 0 (by decide) (hts (.fieldLink RX7 10 "LoanHouse" "house" "LLoanHouse$House;") (List.mem_of_getElem? (i := 1) rfl)) (fun _ h9 => h9) rfl dX7_told_257 ?_
      refine va_getN (D := D) (ci := 4) (v := .ref k) (host := "LoanHouse") (C := RX4) (T := TX4) (N := 4) hx hb hts inX4 hown hK hP 1 rfl rfl 0 (by decide) (va_Nw.use rfl (hN.at 9 rfl)) (fun _ h9 => h9) rfl dX7_told_260 ?_
      refine va_getN (D := D) (ci := 0) (v := .int 0) (host := "LoanHouse") (C := RX0) (T := TX0) (N := 4) hx hb hts inX0 hown hK hP 2 rfl rfl 0 (by decide) (va_Nw.use rfl (hN.at 1 rfl)) (fun _ h9 => h9) rfl dX7_told_263 ?_
      refine k_pi (va_runV (As := [.int 0]) (rest := []) ⟨hx, hb, hml, hown, hts⟩ (c_X0_isClosed l D ss.heap.size k 0 14 3 ) (cwV 1 hts gX7_told_X0_isClosed rfl rfl rfl (by decide +kernel) ⟨(Nat.le_of_ble_eq_true rfl), (Nat.le_of_ble_eq_true rfl)⟩) ⟨mP_blind, va_recv hK hP (ci := 0) (q0 := 2) rfl rfl, m_pre _ hN hK hP hD [] rfl [2] rfl (by decide)⟩ rfl rfl hl.1 rfl (lv_room (Nat.le_of_ble_eq_true rfl)) dX7_told_266 ⟨(Nat.le_of_ble_eq_true rfl), (Nat.le_of_ble_eq_true rfl)⟩) hP hD hS hA [2] rfl (fun r217 u H locs hw hP hS => ?_)
      obtain rfl := hw
      refine lv_if_eq (tgt := 276) hx hb dX7_told_269 (by decide) (fun zc269 => ?_) (fun hc => absurd (by decide) hc)
      refine lv_iconst (v := 0) hx hb dX7_told_276 (by decide) ?_
      exact hret 0 () rfl (by decide) hP (hK.sub [] rfl) hD hS (Nat.le_of_ble_eq_true rfl) (Nat.le_of_ble_eq_true rfl) dX7_told_277
    | 15, _ =>
      refine lv_tableIn (off := 277) (tgt := 278) hx hb dX7_told_1 (by decide) (by decide) (by decide) (by decide) ?_
      refine lv_aload_n hx hb dX7_told_278 rfl (lv_at hl 0 rfl) ?_
      refine va_get (D := D) (ci := 7) (v := .int 0) (C := RX7) (T := TX7) (N := 6) hx hb hts inX7 hown hK hP 0 rfl rfl 4 (by decide) (hts (.fieldLink RX7 145 "LoanHouse" "undoable" "I") (List.mem_of_getElem? (i := 2) rfl)) (fun _ h9 => h9) rfl dX7_told_279 ?_
      exact hret 0 () rfl (by decide) hP (hK.sub [] rfl) hD hS (Nat.le_of_ble_eq_true rfl) (Nat.le_of_ble_eq_true rfl) dX7_told_282
    | kq + 16, hkq => exact absurd hkq (by omega)
  · refine lv_tableOut (tgt := 283) hx hb dX7_told_1 (by omega) (by decide) ?_
    refine lv_ldc hx hb hown (hts (.constant RX7 110 (-1000000002)) (List.mem_of_getElem? (i := 3) rfl)) dX7_told_283 ?_
    exact hret (-1000000002) () rfl (told_out hsw) hP (hK.sub [] rfl) hD hS (Nat.le_of_ble_eq_true rfl) (Nat.le_of_ble_eq_true rfl) dX7_told_285
set_option maxHeartbeats 4000000 in
set_option maxRecDepth 100000 in
theorem c_X7_titleOf (l : Launch) (D : va_G) (sz : Nat) (x h ps im lt k c o g1 g2 a2 : Nat) (cA2 : ClassId) (f2 : Nat → Int32) (t w : Int32) : mI l yX7_titleOf wsX7_titleOf (rk 3 0 0) D [.ref x, .int t, .int w] [(cA2, .int)] sz [(x, .inr (7, [.ref h, .ref ps, .ref im, .ref lt, .int 0, .int 0])), (h, .inr (4, [.ref k, .ref c, .ref o, .int 0])), (k, .inr (0, [.int 0, .int 14, .int 3, .int 64])), (c, .inr (1, [.ref g1, .int 0])), (o, .inr (3, [.ref g2, .int 0, .int 0])), (g2, .inr (2, [.int 12, .int 7, .ref a2])), (a2, .inl (cA2, 84, .inl f2))] (S := Unit) (fun r _ => q2 (ok t 6) (a_title w) (-1000000001) r) (fun _ => []) (fun _ => [(x, .inr (7, [.ref h, .ref ps, .ref im, .ref lt, .int 0, .int 0])), (h, .inr (4, [.ref k, .ref c, .ref o, .int 0])), (k, .inr (0, [.int 0, .int 14, .int 3, .int 64])), (c, .inr (1, [.ref g1, .int 0])), (o, .inr (3, [.ref g2, .int 0, .int 0])), (g2, .inr (2, [.int 12, .int 7, .ref a2])), (a2, .inl (cA2, 84, .inl f2))]) := by
  refine mI_of (cc := cX7_titleOf) (maxL := 3) (ty := .int) (plainFor_of_name (by decide)) rfl (Nat.le_of_ble_eq_true rfl) ?_
  intro pp ee ss mm bl mt cd AA QQ hx hb hml hts hown hN hA hK hP hD hS hret ls hl
  have hl : lv_has ls 3 [(0, .ref x), (1, .int t), (2, .int w)] := hl
  have inX0 : ∀ w ∈ wsX00, w ∈ wsX7_titleOf := fun _ h => List.mem_cons_of_mem _ (List.mem_append_left _ (List.mem_append_left _ (List.mem_append_left _ (List.mem_append_right _ h))))
  have inX4 : ∀ w ∈ wsX40, w ∈ wsX7_titleOf := fun _ h => List.mem_cons_of_mem _ (List.mem_append_left _ (List.mem_append_left _ (List.mem_append_left _ (List.mem_append_left _ (List.mem_append_right _ h)))))
  have inX7 : ∀ w ∈ wsX70, w ∈ wsX7_titleOf := fun _ h => List.mem_cons_of_mem _ (List.mem_append_left _ (List.mem_append_left _ (List.mem_append_left _ (List.mem_append_left _ (List.mem_append_left _ (List.mem_append_right _ h))))))
  refine lv_iload_n hx hb dX7_titleOf_0 rfl (lv_at hl 1 rfl) ?_
  refine lv_bipush (v := 6) hx hb dX7_titleOf_1 (by decide) ?_
  refine k_pi (va_runS (As := [.int t, .int 6]) (rest := []) ⟨hx, hb, hml, hown, hts⟩ (c_isBelow l D ss.heap.size t 6 ) (va_cwS 2 hts gX7_titleOf_X7_isBelow rfl rfl rfl (by decide +kernel) ⟨(Nat.le_of_ble_eq_true rfl), (Nat.le_of_ble_eq_true rfl)⟩) ⟨mP_blind, m_pre _ hN hK hP hD [] rfl [] rfl (by decide)⟩ rfl rfl hl.1 rfl (lv_room (Nat.le_of_ble_eq_true rfl)) dX7_titleOf_3 ⟨(Nat.le_of_ble_eq_true rfl), (Nat.le_of_ble_eq_true rfl)⟩) hP hD hS hA [] rfl (fun r218 u H locs hw hP hS => ?_)
  rcases hw with ⟨rfl, zw3⟩ | ⟨rfl, zw3⟩
  · refine lv_if_ne (tgt := 12) hx hb dX7_titleOf_6 (by decide) (fun zc6 => ?_) (fun hc => absurd hc (by decide))
    refine lv_iload_n hx hb dX7_titleOf_12 rfl (lv_at hl 2 rfl) ?_
    refine sw_split w 5 (by decide) (fun kq hkq hsw => ?_) (fun hsw => ?_)
    · subst hsw
      match kq, hkq with
      | 0, _ =>
        refine lv_tableIn (off := 35) (tgt := 48) hx hb dX7_titleOf_13 (by decide) (by decide) (by decide) (by decide) ?_
        refine lv_aload_n hx hb dX7_titleOf_48 rfl (lv_at hl 0 rfl) ?_
        refine va_get (D := D) (ci := 7) (v := .ref h) (C := RX7) (T := TX7) (N := 6) hx hb hts inX7 hown hK hP 0 rfl rfl 0 (by decide) (hts (.fieldLink RX7 10 "LoanHouse" "house" "LLoanHouse$House;") (List.mem_of_getElem? (i := 2) rfl)) (fun _ h9 => h9) rfl dX7_titleOf_49 ?_
        refine va_getN (D := D) (ci := 4) (v := .ref c) (host := "LoanHouse") (C := RX4) (T := TX4) (N := 4) hx hb hts inX4 hown hK hP 1 rfl rfl 1 (by decide) (va_Nw.use rfl (hN.at 10 rfl)) (fun _ h9 => h9) rfl dX7_titleOf_52 ?_
        refine lv_iload_n hx hb dX7_titleOf_55 rfl (lv_at hl 1 rfl) ?_
        refine k_pi (va_runV (As := [.int t]) (rest := []) ⟨hx, hb, hml, hown, hts⟩ (c_X1_ofTitle l D H.size c g1 t ) (cwV 1 hts gX7_titleOf_X1_ofTitle rfl rfl rfl (by decide +kernel) ⟨(Nat.le_of_ble_eq_true rfl), (Nat.le_of_ble_eq_true rfl)⟩) ⟨mP_blind, va_recv hK hP (ci := 1) (q0 := 3) rfl rfl, m_pre _ hN hK hP hD [] rfl [3] rfl (by decide)⟩ rfl rfl hl.1 rfl (lv_room (Nat.le_of_ble_eq_true rfl)) dX7_titleOf_56 ⟨(Nat.le_of_ble_eq_true rfl), (Nat.le_of_ble_eq_true rfl)⟩) hP hD hS hA [3] rfl (fun r219 u H locs hw hP hS => ?_)
        obtain rfl := hw
        exact hret 0 () rfl (Or.inl ⟨zw3, by decide⟩) hP (hK.sub [] rfl) hD hS (Nat.le_of_ble_eq_true rfl) (Nat.le_of_ble_eq_true rfl) dX7_titleOf_59
      | 1, _ =>
        refine lv_tableIn (off := 47) (tgt := 60) hx hb dX7_titleOf_13 (by decide) (by decide) (by decide) (by decide) ?_
        refine lv_aload_n hx hb dX7_titleOf_60 rfl (lv_at hl 0 rfl) ?_
        refine va_get (D := D) (ci := 7) (v := .ref h) (C := RX7) (T := TX7) (N := 6) hx hb hts inX7 hown hK hP 0 rfl rfl 0 (by decide) (hts (.fieldLink RX7 10 "LoanHouse" "house" "LLoanHouse$House;") (List.mem_of_getElem? (i := 2) rfl)) (fun _ h9 => h9) rfl dX7_titleOf_61 ?_
        refine va_getN (D := D) (ci := 4) (v := .ref c) (host := "LoanHouse") (C := RX4) (T := TX4) (N := 4) hx hb hts inX4 hown hK hP 1 rfl rfl 1 (by decide) (va_Nw.use rfl (hN.at 10 rfl)) (fun _ h9 => h9) rfl dX7_titleOf_64 ?_
        refine lv_iload_n hx hb dX7_titleOf_67 rfl (lv_at hl 1 rfl) ?_
        refine k_pi (va_runV (As := [.int t]) (rest := []) ⟨hx, hb, hml, hown, hts⟩ (c_X1_ofTitle l D H.size c g1 t ) (cwV 1 hts gX7_titleOf_X1_ofTitle rfl rfl rfl (by decide +kernel) ⟨(Nat.le_of_ble_eq_true rfl), (Nat.le_of_ble_eq_true rfl)⟩) ⟨mP_blind, va_recv hK hP (ci := 1) (q0 := 3) rfl rfl, m_pre _ hN hK hP hD [] rfl [3] rfl (by decide)⟩ rfl rfl hl.1 rfl (lv_room (Nat.le_of_ble_eq_true rfl)) dX7_titleOf_68 ⟨(Nat.le_of_ble_eq_true rfl), (Nat.le_of_ble_eq_true rfl)⟩) hP hD hS hA [3] rfl (fun r220 u H locs hw hP hS => ?_)
        obtain rfl := hw
        refine lv_aload_n hx hb dX7_titleOf_71 rfl (lv_at hl 0 rfl) ?_
        refine va_get (D := D) (ci := 7) (v := .ref h) (C := RX7) (T := TX7) (N := 6) hx hb hts inX7 hown hK hP 0 rfl rfl 0 (by decide) (hts (.fieldLink RX7 10 "LoanHouse" "house" "LLoanHouse$House;") (List.mem_of_getElem? (i := 2) rfl)) (fun _ h9 => h9) rfl dX7_titleOf_72 ?_
        refine va_getN (D := D) (ci := 4) (v := .ref c) (host := "LoanHouse") (C := RX4) (T := TX4) (N := 4) hx hb hts inX4 hown hK hP 1 rfl rfl 1 (by decide) (va_Nw.use rfl (hN.at 10 rfl)) (fun _ h9 => h9) rfl dX7_titleOf_75 ?_
        refine lv_iconst (v := 0) hx hb dX7_titleOf_78 (by decide) ?_
        refine k_pi (va_runV (As := [.int 0]) (rest := [.int 0]) ⟨hx, hb, hml, hown, hts⟩ (c_X1_thatAre l D H.size c g1 0 ) (cwV 1 hts gX7_titleOf_X1_thatAre rfl rfl rfl (by decide +kernel) ⟨(Nat.le_of_ble_eq_true rfl), (Nat.le_of_ble_eq_true rfl)⟩) ⟨mP_blind, va_recv hK hP (ci := 1) (q0 := 3) rfl rfl, m_pre _ hN hK hP hD [] rfl [3] rfl (by decide)⟩ rfl rfl hl.1 rfl (lv_room (Nat.le_of_ble_eq_true rfl)) dX7_titleOf_79 ⟨(Nat.le_of_ble_eq_true rfl), (Nat.le_of_ble_eq_true rfl)⟩) hP hD hS hA [3] rfl (fun r221 u H locs hw hP hS => ?_)
        obtain rfl := hw
        refine lv_iand hx hb dX7_titleOf_82 ?_
        refine lv_topi (fun x222 ex222 => ?_)
        have ex222 : x222 = 0 := ex222.trans (by decide)
        subst ex222
        exact hret 0 () rfl (Or.inl ⟨zw3, by decide⟩) hP (hK.sub [] rfl) hD hS (Nat.le_of_ble_eq_true rfl) (Nat.le_of_ble_eq_true rfl) dX7_titleOf_83
      | 2, _ =>
        refine lv_tableIn (off := 71) (tgt := 84) hx hb dX7_titleOf_13 (by decide) (by decide) (by decide) (by decide) ?_
        refine lv_aload_n hx hb dX7_titleOf_84 rfl (lv_at hl 0 rfl) ?_
        refine va_get (D := D) (ci := 7) (v := .ref h) (C := RX7) (T := TX7) (N := 6) hx hb hts inX7 hown hK hP 0 rfl rfl 0 (by decide) (hts (.fieldLink RX7 10 "LoanHouse" "house" "LLoanHouse$House;") (List.mem_of_getElem? (i := 2) rfl)) (fun _ h9 => h9) rfl dX7_titleOf_85 ?_
        refine va_getN (D := D) (ci := 4) (v := .ref o) (host := "LoanHouse") (C := RX4) (T := TX4) (N := 4) hx hb hts inX4 hown hK hP 1 rfl rfl 2 (by decide) (va_Nw.use rfl (hN.at 11 rfl)) (fun _ h9 => h9) rfl dX7_titleOf_88 ?_
        refine lv_iload_n hx hb dX7_titleOf_91 rfl (lv_at hl 1 rfl) ?_
        refine k_pi (va_runV (As := [.int t]) (rest := []) ⟨hx, hb, hml, hown, hts⟩ (c_X3_rowLength l D H.size o g2 0 t ) (cwV 1 hts gX7_titleOf_X3_rowLength rfl rfl rfl (by decide +kernel) ⟨(Nat.le_of_ble_eq_true rfl), (Nat.le_of_ble_eq_true rfl)⟩) ⟨mP_blind, va_recv hK hP (ci := 3) (q0 := 4) rfl rfl, m_pre _ hN hK hP hD [] rfl [4] rfl (by decide)⟩ rfl rfl hl.1 rfl (lv_room (Nat.le_of_ble_eq_true rfl)) dX7_titleOf_92 ⟨(Nat.le_of_ble_eq_true rfl), (Nat.le_of_ble_eq_true rfl)⟩) hP hD hS hA [4] rfl (fun r223 u H locs hw hP hS => ?_)
        obtain rfl := hw
        exact hret 0 () rfl (Or.inl ⟨zw3, by decide⟩) hP (hK.sub [] rfl) hD hS (Nat.le_of_ble_eq_true rfl) (Nat.le_of_ble_eq_true rfl) dX7_titleOf_95
      | 3, _ =>
        refine lv_tableIn (off := 83) (tgt := 96) hx hb dX7_titleOf_13 (by decide) (by decide) (by decide) (by decide) ?_
        refine lv_aload_n hx hb dX7_titleOf_96 rfl (lv_at hl 0 rfl) ?_
        refine va_get (D := D) (ci := 7) (v := .ref h) (C := RX7) (T := TX7) (N := 6) hx hb hts inX7 hown hK hP 0 rfl rfl 0 (by decide) (hts (.fieldLink RX7 10 "LoanHouse" "house" "LLoanHouse$House;") (List.mem_of_getElem? (i := 2) rfl)) (fun _ h9 => h9) rfl dX7_titleOf_97 ?_
        refine va_getN (D := D) (ci := 4) (v := .ref o) (host := "LoanHouse") (C := RX4) (T := TX4) (N := 4) hx hb hts inX4 hown hK hP 1 rfl rfl 2 (by decide) (va_Nw.use rfl (hN.at 11 rfl)) (fun _ h9 => h9) rfl dX7_titleOf_100 ?_
        refine lv_aload_n hx hb dX7_titleOf_103 rfl (lv_at hl 0 rfl) ?_
        refine va_get (D := D) (ci := 7) (v := .ref h) (C := RX7) (T := TX7) (N := 6) hx hb hts inX7 hown hK hP 0 rfl rfl 0 (by decide) (hts (.fieldLink RX7 10 "LoanHouse" "house" "LLoanHouse$House;") (List.mem_of_getElem? (i := 2) rfl)) (fun _ h9 => h9) rfl dX7_titleOf_104 ?_
        refine va_getN (D := D) (ci := 4) (v := .ref o) (host := "LoanHouse") (C := RX4) (T := TX4) (N := 4) hx hb hts inX4 hown hK hP 1 rfl rfl 2 (by decide) (va_Nw.use rfl (hN.at 11 rfl)) (fun _ h9 => h9) rfl dX7_titleOf_107 ?_
        refine lv_iload_n hx hb dX7_titleOf_110 rfl (lv_at hl 1 rfl) ?_
        refine k_pi (va_runV (As := [.int t]) (rest := [.ref o]) ⟨hx, hb, hml, hown, hts⟩ (c_X3_firstOfRow l D H.size o g2 a2 cA2 0 0 f2 t (by decide)) (cwV 1 hts gX7_titleOf_X3_firstOfRow rfl rfl rfl (by decide +kernel) ⟨(Nat.le_of_ble_eq_true rfl), (Nat.le_of_ble_eq_true rfl)⟩) ⟨mP_blind, va_recv hK hP (ci := 3) (q0 := 4) rfl rfl, m_pre _ hN hK hP hD [0] rfl [4, 5, 6] rfl (by decide)⟩ rfl rfl hl.1 rfl (lv_room (Nat.le_of_ble_eq_true rfl)) dX7_titleOf_111 ⟨(Nat.le_of_ble_eq_true rfl), (Nat.le_of_ble_eq_true rfl)⟩) hP hD hS hA [4, 5, 6] rfl (fun r224 u H locs hw hP hS => ?_)
        have zw111 := hw
        refine k_pi (va_runV (As := [.int r224]) (rest := []) ⟨hx, hb, hml, hown, hts⟩ (c_X3_number l D H.size o g2 a2 cA2 0 0 f2 r224 ) (cwV 1 hts gX7_titleOf_X3_number rfl rfl rfl (by decide +kernel) ⟨(Nat.le_of_ble_eq_true rfl), (Nat.le_of_ble_eq_true rfl)⟩) ⟨mP_blind, va_recv hK hP (ci := 3) (q0 := 4) rfl rfl, m_pre _ hN hK hP hD [0] rfl [4, 5, 6] rfl (by decide)⟩ rfl rfl hl.1 rfl (lv_room (Nat.le_of_ble_eq_true rfl)) dX7_titleOf_114 ⟨(Nat.le_of_ble_eq_true rfl), (Nat.le_of_ble_eq_true rfl)⟩) hP hD hS hA [4, 5, 6] rfl (fun r225 u H locs hw hP hS => ?_)
        have zw114 := hw
        exact hret r225 () rfl (Or.inl ⟨zw3, (zw114 (by rw [zw111 rfl]; decide)).trans (by decide)⟩) hP (hK.sub [] rfl) hD hS (Nat.le_of_ble_eq_true rfl) (Nat.le_of_ble_eq_true rfl) dX7_titleOf_117
      | 4, _ =>
        refine lv_tableIn (off := 105) (tgt := 118) hx hb dX7_titleOf_13 (by decide) (by decide) (by decide) (by decide) ?_
        refine lv_aload_n hx hb dX7_titleOf_118 rfl (lv_at hl 0 rfl) ?_
        refine va_get (D := D) (ci := 7) (v := .ref h) (C := RX7) (T := TX7) (N := 6) hx hb hts inX7 hown hK hP 0 rfl rfl 0 (by decide) (hts (.fieldLink RX7 10 "LoanHouse" "house" "LLoanHouse$House;") (List.mem_of_getElem? (i := 2) rfl)) (fun _ h9 => h9) rfl dX7_titleOf_119 ?_
        refine va_getN (D := D) (ci := 4) (v := .ref o) (host := "LoanHouse") (C := RX4) (T := TX4) (N := 4) hx hb hts inX4 hown hK hP 1 rfl rfl 2 (by decide) (va_Nw.use rfl (hN.at 11 rfl)) (fun _ h9 => h9) rfl dX7_titleOf_122 ?_
        refine lv_iload_n hx hb dX7_titleOf_125 rfl (lv_at hl 1 rfl) ?_
        refine lv_aload_n hx hb dX7_titleOf_126 rfl (lv_at hl 0 rfl) ?_
        refine va_get (D := D) (ci := 7) (v := .ref h) (C := RX7) (T := TX7) (N := 6) hx hb hts inX7 hown hK hP 0 rfl rfl 0 (by decide) (hts (.fieldLink RX7 10 "LoanHouse" "house" "LLoanHouse$House;") (List.mem_of_getElem? (i := 2) rfl)) (fun _ h9 => h9) rfl dX7_titleOf_127 ?_
        refine va_getN (D := D) (ci := 4) (v := .ref k) (host := "LoanHouse") (C := RX4) (T := TX4) (N := 4) hx hb hts inX4 hown hK hP 1 rfl rfl 0 (by decide) (va_Nw.use rfl (hN.at 9 rfl)) (fun _ h9 => h9) rfl dX7_titleOf_130 ?_
        refine va_getN (D := D) (ci := 0) (v := .int 0) (host := "LoanHouse") (C := RX0) (T := TX0) (N := 4) hx hb hts inX0 hown hK hP 2 rfl rfl 0 (by decide) (va_Nw.use rfl (hN.at 1 rfl)) (fun _ h9 => h9) rfl dX7_titleOf_133 ?_
        refine k_pi (va_runV (As := [.int t, .int 0]) (rest := []) ⟨hx, hb, hml, hown, hts⟩ (c_X3_longestWait l D H.size o g2 0 t 0 ) (cwV 2 hts gX7_titleOf_X3_longestWait rfl rfl rfl (by decide +kernel) ⟨(Nat.le_of_ble_eq_true rfl), (Nat.le_of_ble_eq_true rfl)⟩) ⟨mP_blind, va_recv hK hP (ci := 3) (q0 := 4) rfl rfl, m_pre _ hN hK hP hD [] rfl [4] rfl (by decide)⟩ rfl rfl hl.1 rfl (lv_room (Nat.le_of_ble_eq_true rfl)) dX7_titleOf_136 ⟨(Nat.le_of_ble_eq_true rfl), (Nat.le_of_ble_eq_true rfl)⟩) hP hD hS hA [4] rfl (fun r226 u H locs hw hP hS => ?_)
        obtain rfl := hw
        exact hret 0 () rfl (Or.inl ⟨zw3, by decide⟩) hP (hK.sub [] rfl) hD hS (Nat.le_of_ble_eq_true rfl) (Nat.le_of_ble_eq_true rfl) dX7_titleOf_139
      | kq + 5, hkq => exact absurd hkq (by omega)
    · refine lv_tableOut (tgt := 140) hx hb dX7_titleOf_13 (by omega) (by decide) ?_
      refine lv_ldc hx hb hown (hts (.constant RX7 110 (-1000000002)) (List.mem_of_getElem? (i := 3) rfl)) dX7_titleOf_140 ?_
      exact hret (-1000000002) () rfl (Or.inl ⟨zw3, title_out hsw⟩) hP (hK.sub [] rfl) hD hS (Nat.le_of_ble_eq_true rfl) (Nat.le_of_ble_eq_true rfl) dX7_titleOf_142
  · refine lv_if_ne (tgt := 12) hx hb dX7_titleOf_6 (by decide) (fun hc => absurd (by decide) hc) (fun zc6 => ?_)
    refine lv_ldc hx hb hown (hts (.constant RX7 39 (-1000000001)) (List.mem_of_getElem? (i := 1) rfl)) dX7_titleOf_9 ?_
    exact hret (-1000000001) () rfl (Or.inr ⟨zw3, rfl⟩) hP (hK.sub [] rfl) hD hS (Nat.le_of_ble_eq_true rfl) (Nat.le_of_ble_eq_true rfl) dX7_titleOf_11
set_option maxHeartbeats 4000000 in
set_option maxRecDepth 100000 in
theorem c_X7_readerOf (l : Launch) (D : va_G) (sz : Nat) (x h ps im lt k c o g1 g2 : Nat) (t w : Int32) : mI l yX7_readerOf wsX7_readerOf (rk 1 0 0) D [.ref x, .int t, .int w] [] sz [(x, .inr (7, [.ref h, .ref ps, .ref im, .ref lt, .int 0, .int 0])), (h, .inr (4, [.ref k, .ref c, .ref o, .int 0])), (k, .inr (0, [.int 0, .int 14, .int 3, .int 64])), (c, .inr (1, [.ref g1, .int 0])), (o, .inr (3, [.ref g2, .int 0, .int 0]))] (S := Unit) (fun r _ => q2 (ok t 10) (a_reader t w) (-1000000001) r) (fun _ => []) (fun _ => [(x, .inr (7, [.ref h, .ref ps, .ref im, .ref lt, .int 0, .int 0])), (h, .inr (4, [.ref k, .ref c, .ref o, .int 0])), (k, .inr (0, [.int 0, .int 14, .int 3, .int 64])), (c, .inr (1, [.ref g1, .int 0])), (o, .inr (3, [.ref g2, .int 0, .int 0]))]) := by
  refine mI_of (cc := cX7_readerOf) (maxL := 3) (ty := .int) (plainFor_of_name (by decide)) rfl (Nat.le_of_ble_eq_true rfl) ?_
  intro pp ee ss mm bl mt cd AA QQ hx hb hml hts hown hN hA hK hP hD hS hret ls hl
  have hl : lv_has ls 3 [(0, .ref x), (1, .int t), (2, .int w)] := hl
  have inX0 : ∀ w ∈ wsX00, w ∈ wsX7_readerOf := fun _ h => List.mem_cons_of_mem _ (List.mem_append_left _ (List.mem_append_left _ (List.mem_append_left _ (List.mem_append_right _ h))))
  have inX4 : ∀ w ∈ wsX40, w ∈ wsX7_readerOf := fun _ h => List.mem_cons_of_mem _ (List.mem_append_left _ (List.mem_append_left _ (List.mem_append_left _ (List.mem_append_left _ (List.mem_append_right _ h)))))
  have inX7 : ∀ w ∈ wsX70, w ∈ wsX7_readerOf := fun _ h => List.mem_cons_of_mem _ (List.mem_append_left _ (List.mem_append_left _ (List.mem_append_left _ (List.mem_append_left _ (List.mem_append_left _ (List.mem_append_right _ h))))))
  refine lv_iload_n hx hb dX7_readerOf_0 rfl (lv_at hl 1 rfl) ?_
  refine lv_bipush (v := 10) hx hb dX7_readerOf_1 (by decide) ?_
  refine k_pi (va_runS (As := [.int t, .int 10]) (rest := []) ⟨hx, hb, hml, hown, hts⟩ (c_isBelow l D ss.heap.size t 10 ) (va_cwS 2 hts gX7_readerOf_X7_isBelow rfl rfl rfl (by decide +kernel) ⟨(Nat.le_of_ble_eq_true rfl), (Nat.le_of_ble_eq_true rfl)⟩) ⟨mP_blind, m_pre _ hN hK hP hD [] rfl [] rfl (by decide)⟩ rfl rfl hl.1 rfl (lv_room (Nat.le_of_ble_eq_true rfl)) dX7_readerOf_3 ⟨(Nat.le_of_ble_eq_true rfl), (Nat.le_of_ble_eq_true rfl)⟩) hP hD hS hA [] rfl (fun r227 u H locs hw hP hS => ?_)
  rcases hw with ⟨rfl, zw3⟩ | ⟨rfl, zw3⟩
  · refine lv_if_ne (tgt := 12) hx hb dX7_readerOf_6 (by decide) (fun zc6 => ?_) (fun hc => absurd hc (by decide))
    refine lv_iload_n hx hb dX7_readerOf_12 rfl (lv_at hl 2 rfl) ?_
    refine sw_split w 5 (by decide) (fun kq hkq hsw => ?_) (fun hsw => ?_)
    · subst hsw
      match kq, hkq with
      | 0, _ =>
        refine lv_tableIn (off := 35) (tgt := 48) hx hb dX7_readerOf_13 (by decide) (by decide) (by decide) (by decide) ?_
        refine lv_aload_n hx hb dX7_readerOf_48 rfl (lv_at hl 0 rfl) ?_
        refine va_get (D := D) (ci := 7) (v := .ref h) (C := RX7) (T := TX7) (N := 6) hx hb hts inX7 hown hK hP 0 rfl rfl 0 (by decide) (hts (.fieldLink RX7 10 "LoanHouse" "house" "LLoanHouse$House;") (List.mem_of_getElem? (i := 2) rfl)) (fun _ h9 => h9) rfl dX7_readerOf_49 ?_
        refine va_getN (D := D) (ci := 4) (v := .ref c) (host := "LoanHouse") (C := RX4) (T := TX4) (N := 4) hx hb hts inX4 hown hK hP 1 rfl rfl 1 (by decide) (va_Nw.use rfl (hN.at 10 rfl)) (fun _ h9 => h9) rfl dX7_readerOf_52 ?_
        refine lv_iload_n hx hb dX7_readerOf_55 rfl (lv_at hl 1 rfl) ?_
        refine k_pi (va_runV (As := [.int t]) (rest := []) ⟨hx, hb, hml, hown, hts⟩ (c_X1_outTo l D H.size c g1 t ) (cwV 1 hts gX7_readerOf_X1_outTo rfl rfl rfl (by decide +kernel) ⟨(Nat.le_of_ble_eq_true rfl), (Nat.le_of_ble_eq_true rfl)⟩) ⟨mP_blind, va_recv hK hP (ci := 1) (q0 := 3) rfl rfl, m_pre _ hN hK hP hD [] rfl [3] rfl (by decide)⟩ rfl rfl hl.1 rfl (lv_room (Nat.le_of_ble_eq_true rfl)) dX7_readerOf_56 ⟨(Nat.le_of_ble_eq_true rfl), (Nat.le_of_ble_eq_true rfl)⟩) hP hD hS hA [3] rfl (fun r228 u H locs hw hP hS => ?_)
        obtain rfl := hw
        exact hret 0 () rfl (Or.inl ⟨zw3, (reader_0 t 0 (by decide) (by decide)).symm⟩) hP (hK.sub [] rfl) hD hS (Nat.le_of_ble_eq_true rfl) (Nat.le_of_ble_eq_true rfl) dX7_readerOf_59
      | 1, _ =>
        refine lv_tableIn (off := 47) (tgt := 60) hx hb dX7_readerOf_13 (by decide) (by decide) (by decide) (by decide) ?_
        refine lv_aload_n hx hb dX7_readerOf_60 rfl (lv_at hl 0 rfl) ?_
        refine va_get (D := D) (ci := 7) (v := .ref h) (C := RX7) (T := TX7) (N := 6) hx hb hts inX7 hown hK hP 0 rfl rfl 0 (by decide) (hts (.fieldLink RX7 10 "LoanHouse" "house" "LLoanHouse$House;") (List.mem_of_getElem? (i := 2) rfl)) (fun _ h9 => h9) rfl dX7_readerOf_61 ?_
        refine va_getN (D := D) (ci := 4) (v := .ref o) (host := "LoanHouse") (C := RX4) (T := TX4) (N := 4) hx hb hts inX4 hown hK hP 1 rfl rfl 2 (by decide) (va_Nw.use rfl (hN.at 11 rfl)) (fun _ h9 => h9) rfl dX7_readerOf_64 ?_
        refine lv_iload_n hx hb dX7_readerOf_67 rfl (lv_at hl 1 rfl) ?_
        refine k_pi (va_runV (As := [.int t]) (rest := []) ⟨hx, hb, hml, hown, hts⟩ (c_X3_ofReader l D H.size o g2 0 t ) (cwV 1 hts gX7_readerOf_X3_ofReader rfl rfl rfl (by decide +kernel) ⟨(Nat.le_of_ble_eq_true rfl), (Nat.le_of_ble_eq_true rfl)⟩) ⟨mP_blind, va_recv hK hP (ci := 3) (q0 := 4) rfl rfl, m_pre _ hN hK hP hD [] rfl [4] rfl (by decide)⟩ rfl rfl hl.1 rfl (lv_room (Nat.le_of_ble_eq_true rfl)) dX7_readerOf_68 ⟨(Nat.le_of_ble_eq_true rfl), (Nat.le_of_ble_eq_true rfl)⟩) hP hD hS hA [4] rfl (fun r229 u H locs hw hP hS => ?_)
        obtain rfl := hw
        exact hret 0 () rfl (Or.inl ⟨zw3, (reader_0 t 1 (by decide) (by decide)).symm⟩) hP (hK.sub [] rfl) hD hS (Nat.le_of_ble_eq_true rfl) (Nat.le_of_ble_eq_true rfl) dX7_readerOf_71
      | 2, _ =>
        refine lv_tableIn (off := 59) (tgt := 72) hx hb dX7_readerOf_13 (by decide) (by decide) (by decide) (by decide) ?_
        refine lv_aload_n hx hb dX7_readerOf_72 rfl (lv_at hl 0 rfl) ?_
        refine va_get (D := D) (ci := 7) (v := .ref h) (C := RX7) (T := TX7) (N := 6) hx hb hts inX7 hown hK hP 0 rfl rfl 0 (by decide) (hts (.fieldLink RX7 10 "LoanHouse" "house" "LLoanHouse$House;") (List.mem_of_getElem? (i := 2) rfl)) (fun _ h9 => h9) rfl dX7_readerOf_73 ?_
        refine va_getN (D := D) (ci := 4) (v := .ref c) (host := "LoanHouse") (C := RX4) (T := TX4) (N := 4) hx hb hts inX4 hown hK hP 1 rfl rfl 1 (by decide) (va_Nw.use rfl (hN.at 10 rfl)) (fun _ h9 => h9) rfl dX7_readerOf_76 ?_
        refine lv_iload_n hx hb dX7_readerOf_79 rfl (lv_at hl 1 rfl) ?_
        refine lv_aload_n hx hb dX7_readerOf_80 rfl (lv_at hl 0 rfl) ?_
        refine va_get (D := D) (ci := 7) (v := .ref h) (C := RX7) (T := TX7) (N := 6) hx hb hts inX7 hown hK hP 0 rfl rfl 0 (by decide) (hts (.fieldLink RX7 10 "LoanHouse" "house" "LLoanHouse$House;") (List.mem_of_getElem? (i := 2) rfl)) (fun _ h9 => h9) rfl dX7_readerOf_81 ?_
        refine va_getN (D := D) (ci := 4) (v := .ref k) (host := "LoanHouse") (C := RX4) (T := TX4) (N := 4) hx hb hts inX4 hown hK hP 1 rfl rfl 0 (by decide) (va_Nw.use rfl (hN.at 9 rfl)) (fun _ h9 => h9) rfl dX7_readerOf_84 ?_
        refine va_getN (D := D) (ci := 0) (v := .int 0) (host := "LoanHouse") (C := RX0) (T := TX0) (N := 4) hx hb hts inX0 hown hK hP 2 rfl rfl 0 (by decide) (va_Nw.use rfl (hN.at 1 rfl)) (fun _ h9 => h9) rfl dX7_readerOf_87 ?_
        refine k_pi (va_runV (As := [.int t, .int 0]) (rest := []) ⟨hx, hb, hml, hown, hts⟩ (c_X1_owedBy l D H.size c g1 t 0 ) (cwV 2 hts gX7_readerOf_X1_owedBy rfl rfl rfl (by decide +kernel) ⟨(Nat.le_of_ble_eq_true rfl), (Nat.le_of_ble_eq_true rfl)⟩) ⟨mP_blind, va_recv hK hP (ci := 1) (q0 := 3) rfl rfl, m_pre _ hN hK hP hD [] rfl [3] rfl (by decide)⟩ rfl rfl hl.1 rfl (lv_room (Nat.le_of_ble_eq_true rfl)) dX7_readerOf_90 ⟨(Nat.le_of_ble_eq_true rfl), (Nat.le_of_ble_eq_true rfl)⟩) hP hD hS hA [3] rfl (fun r230 u H locs hw hP hS => ?_)
        obtain rfl := hw
        exact hret 0 () rfl (Or.inl ⟨zw3, (reader_0 t 2 (by decide) (by decide)).symm⟩) hP (hK.sub [] rfl) hD hS (Nat.le_of_ble_eq_true rfl) (Nat.le_of_ble_eq_true rfl) dX7_readerOf_93
      | 3, _ =>
        refine lv_tableIn (off := 81) (tgt := 94) hx hb dX7_readerOf_13 (by decide) (by decide) (by decide) (by decide) ?_
        refine lv_aload_n hx hb dX7_readerOf_94 rfl (lv_at hl 0 rfl) ?_
        refine va_get (D := D) (ci := 7) (v := .ref h) (C := RX7) (T := TX7) (N := 6) hx hb hts inX7 hown hK hP 0 rfl rfl 0 (by decide) (hts (.fieldLink RX7 10 "LoanHouse" "house" "LLoanHouse$House;") (List.mem_of_getElem? (i := 2) rfl)) (fun _ h9 => h9) rfl dX7_readerOf_95 ?_
        refine va_getN (D := D) (ci := 4) (v := .ref c) (host := "LoanHouse") (C := RX4) (T := TX4) (N := 4) hx hb hts inX4 hown hK hP 1 rfl rfl 1 (by decide) (va_Nw.use rfl (hN.at 10 rfl)) (fun _ h9 => h9) rfl dX7_readerOf_98 ?_
        refine lv_iload_n hx hb dX7_readerOf_101 rfl (lv_at hl 1 rfl) ?_
        refine lv_aload_n hx hb dX7_readerOf_102 rfl (lv_at hl 0 rfl) ?_
        refine va_get (D := D) (ci := 7) (v := .ref h) (C := RX7) (T := TX7) (N := 6) hx hb hts inX7 hown hK hP 0 rfl rfl 0 (by decide) (hts (.fieldLink RX7 10 "LoanHouse" "house" "LLoanHouse$House;") (List.mem_of_getElem? (i := 2) rfl)) (fun _ h9 => h9) rfl dX7_readerOf_103 ?_
        refine va_getN (D := D) (ci := 4) (v := .ref k) (host := "LoanHouse") (C := RX4) (T := TX4) (N := 4) hx hb hts inX4 hown hK hP 1 rfl rfl 0 (by decide) (va_Nw.use rfl (hN.at 9 rfl)) (fun _ h9 => h9) rfl dX7_readerOf_106 ?_
        refine va_getN (D := D) (ci := 0) (v := .int 0) (host := "LoanHouse") (C := RX0) (T := TX0) (N := 4) hx hb hts inX0 hown hK hP 2 rfl rfl 0 (by decide) (va_Nw.use rfl (hN.at 1 rfl)) (fun _ h9 => h9) rfl dX7_readerOf_109 ?_
        refine k_pi (va_runV (As := [.int t, .int 0]) (rest := []) ⟨hx, hb, hml, hown, hts⟩ (c_X1_greatestStep l D H.size c g1 t 0 ) (cwV 2 hts gX7_readerOf_X1_greatestStep rfl rfl rfl (by decide +kernel) ⟨(Nat.le_of_ble_eq_true rfl), (Nat.le_of_ble_eq_true rfl)⟩) ⟨mP_blind, va_recv hK hP (ci := 1) (q0 := 3) rfl rfl, m_pre _ hN hK hP hD [] rfl [3] rfl (by decide)⟩ rfl rfl hl.1 rfl (lv_room (Nat.le_of_ble_eq_true rfl)) dX7_readerOf_112 ⟨(Nat.le_of_ble_eq_true rfl), (Nat.le_of_ble_eq_true rfl)⟩) hP hD hS hA [3] rfl (fun r231 u H locs hw hP hS => ?_)
        obtain rfl := hw
        exact hret 0 () rfl (Or.inl ⟨zw3, (reader_0 t 3 (by decide) (by decide)).symm⟩) hP (hK.sub [] rfl) hD hS (Nat.le_of_ble_eq_true rfl) (Nat.le_of_ble_eq_true rfl) dX7_readerOf_115
      | 4, _ =>
        refine lv_tableIn (off := 103) (tgt := 116) hx hb dX7_readerOf_13 (by decide) (by decide) (by decide) (by decide) ?_
        refine lv_iload_n hx hb dX7_readerOf_116 rfl (lv_at hl 1 rfl) ?_
        refine lv_iconst (v := 4) hx hb dX7_readerOf_117 (by decide) ?_
        refine lv_irem hx hb dX7_readerOf_118 (by decide) ?_
        refine lv_topi (fun x232 ex232 => ?_)
        exact hret x232 () rfl (Or.inl ⟨zw3, ex232.trans (reader_4 t).symm⟩) hP (hK.sub [] rfl) hD hS (Nat.le_of_ble_eq_true rfl) (Nat.le_of_ble_eq_true rfl) dX7_readerOf_119
      | kq + 5, hkq => exact absurd hkq (by omega)
    · refine lv_tableOut (tgt := 120) hx hb dX7_readerOf_13 (by omega) (by decide) ?_
      refine lv_ldc hx hb hown (hts (.constant RX7 110 (-1000000002)) (List.mem_of_getElem? (i := 3) rfl)) dX7_readerOf_120 ?_
      exact hret (-1000000002) () rfl (Or.inl ⟨zw3, reader_out hsw⟩) hP (hK.sub [] rfl) hD hS (Nat.le_of_ble_eq_true rfl) (Nat.le_of_ble_eq_true rfl) dX7_readerOf_122
  · refine lv_if_ne (tgt := 12) hx hb dX7_readerOf_6 (by decide) (fun hc => absurd (by decide) hc) (fun zc6 => ?_)
    refine lv_ldc hx hb hown (hts (.constant RX7 39 (-1000000001)) (List.mem_of_getElem? (i := 1) rfl)) dX7_readerOf_9 ?_
    exact hret (-1000000001) () rfl (Or.inr ⟨zw3, rfl⟩) hP (hK.sub [] rfl) hD hS (Nat.le_of_ble_eq_true rfl) (Nat.le_of_ble_eq_true rfl) dX7_readerOf_11
set_option maxHeartbeats 4000000 in
set_option maxRecDepth 100000 in
theorem c_X7_refusalToHold (l : Launch) (D : va_G) (sz : Nat) (x h ps im lt k c o g1 g2 a2 : Nat) (cA2 : ClassId) (hc : Nat) (u0 n0 tr nx : Int32) (f2 : Nat → Int32) (p t b nd : Int32) (hh : hc ≤ 12) : mI l yX7_refusalToHold wsX7_refusalToHold (rk 3 0 0) D [.ref x, .int p, .int t, .int b, .int nd] [(cA2, .int)] sz [(x, .inr (7, [.ref h, .ref ps, .ref im, .ref lt, .int u0, .int n0])), (h, .inr (4, [.ref k, .ref c, .ref o, .int tr])), (c, .inr (1, [.ref g1, .int 0])), (o, .inr (3, [.ref g2, .int (nI hc), .int nx])), (g2, .inr (2, [.int 12, .int 7, .ref a2])), (a2, .inl (cA2, 84, .inl f2))] (S := Unit) (fun r _ => (r = (-1000000001) ∧ ¬ (ok p 10 ∧ ok t 6 ∧ ok b 4)) ∨ (r = (-1000000002) ∧ (ok p 10 ∧ ok t 6 ∧ ok b 4) ∧ ¬ ok nd 4) ∨ (r = 0 ∧ (ok p 10 ∧ ok t 6 ∧ ok b 4) ∧ ok nd 4 ∧ hc < 12) ∨ (r = (-1000000003) ∧ 0 < hc) ∨ (r = (-1000000004) ∧ 12 ≤ hc)) (fun _ => []) (fun _ => [(x, .inr (7, [.ref h, .ref ps, .ref im, .ref lt, .int u0, .int n0])), (h, .inr (4, [.ref k, .ref c, .ref o, .int tr])), (c, .inr (1, [.ref g1, .int 0])), (o, .inr (3, [.ref g2, .int (nI hc), .int nx])), (g2, .inr (2, [.int 12, .int 7, .ref a2])), (a2, .inl (cA2, 84, .inl f2))]) := by
  refine mI_of (cc := cX7_refusalToHold) (maxL := 6) (ty := .int) (plainFor_of_name (by decide)) rfl (Nat.le_of_ble_eq_true rfl) ?_
  intro pp ee ss mm bl mt cd AA QQ hx hb hml hts hown hN hA hK hP hD hS hret ls hl
  have hl : lv_has ls 6 [(0, .ref x), (1, .int p), (2, .int t), (3, .int b), (4, .int nd)] := hl
  have inX3 : ∀ w ∈ wsX30, w ∈ wsX7_refusalToHold := fun _ h => List.mem_cons_of_mem _ (List.mem_append_left _ (List.mem_append_left _ (List.mem_append_right _ h)))
  have inX4 : ∀ w ∈ wsX40, w ∈ wsX7_refusalToHold := fun _ h => List.mem_cons_of_mem _ (List.mem_append_left _ (List.mem_append_left _ (List.mem_append_left _ (List.mem_append_right _ h))))
  have inX7 : ∀ w ∈ wsX70, w ∈ wsX7_refusalToHold := fun _ h => List.mem_cons_of_mem _ (List.mem_append_left _ (List.mem_append_left _ (List.mem_append_left _ (List.mem_append_left _ (List.mem_append_right _ h)))))
  refine lv_iload_n hx hb dX7_refusalToHold_0 rfl (lv_at hl 1 rfl) ?_
  refine lv_bipush (v := 10) hx hb dX7_refusalToHold_1 (by decide) ?_
  refine k_pi (va_runS (As := [.int p, .int 10]) (rest := []) ⟨hx, hb, hml, hown, hts⟩ (c_isBelow l D ss.heap.size p 10 ) (va_cwS 2 hts gX7_refusalToHold_X7_isBelow rfl rfl rfl (by decide +kernel) ⟨(Nat.le_of_ble_eq_true rfl), (Nat.le_of_ble_eq_true rfl)⟩) ⟨mP_blind, m_pre _ hN hK hP hD [] rfl [] rfl (by decide)⟩ rfl rfl hl.1 rfl (lv_room (Nat.le_of_ble_eq_true rfl)) dX7_refusalToHold_3 ⟨(Nat.le_of_ble_eq_true rfl), (Nat.le_of_ble_eq_true rfl)⟩) hP hD hS hA [] rfl (fun r233 u H locs hw hP hS => ?_)
  rcases hw with ⟨rfl, zw3⟩ | ⟨rfl, zw3⟩
  · refine lv_if_eq (tgt := 26) hx hb dX7_refusalToHold_6 (by decide) (fun hc => absurd hc (by decide)) (fun zc6 => ?_)
    refine lv_iload_n hx hb dX7_refusalToHold_9 rfl (lv_at hl 2 rfl) ?_
    refine lv_bipush (v := 6) hx hb dX7_refusalToHold_10 (by decide) ?_
    refine k_pi (va_runS (As := [.int t, .int 6]) (rest := []) ⟨hx, hb, hml, hown, hts⟩ (c_isBelow l D H.size t 6 ) (va_cwS 2 hts gX7_refusalToHold_X7_isBelow rfl rfl rfl (by decide +kernel) ⟨(Nat.le_of_ble_eq_true rfl), (Nat.le_of_ble_eq_true rfl)⟩) ⟨mP_blind, m_pre _ hN hK hP hD [] rfl [] rfl (by decide)⟩ rfl rfl hl.1 rfl (lv_room (Nat.le_of_ble_eq_true rfl)) dX7_refusalToHold_12 ⟨(Nat.le_of_ble_eq_true rfl), (Nat.le_of_ble_eq_true rfl)⟩) hP hD hS hA [] rfl (fun r234 u H locs hw hP hS => ?_)
    rcases hw with ⟨rfl, zw12⟩ | ⟨rfl, zw12⟩
    · refine lv_if_eq (tgt := 26) hx hb dX7_refusalToHold_15 (by decide) (fun hc => absurd hc (by decide)) (fun zc15 => ?_)
      refine lv_iload_n hx hb dX7_refusalToHold_18 rfl (lv_at hl 3 rfl) ?_
      refine lv_iconst (v := 4) hx hb dX7_refusalToHold_19 (by decide) ?_
      refine k_pi (va_runS (As := [.int b, .int 4]) (rest := []) ⟨hx, hb, hml, hown, hts⟩ (c_isBelow l D H.size b 4 ) (va_cwS 2 hts gX7_refusalToHold_X7_isBelow rfl rfl rfl (by decide +kernel) ⟨(Nat.le_of_ble_eq_true rfl), (Nat.le_of_ble_eq_true rfl)⟩) ⟨mP_blind, m_pre _ hN hK hP hD [] rfl [] rfl (by decide)⟩ rfl rfl hl.1 rfl (lv_room (Nat.le_of_ble_eq_true rfl)) dX7_refusalToHold_20 ⟨(Nat.le_of_ble_eq_true rfl), (Nat.le_of_ble_eq_true rfl)⟩) hP hD hS hA [] rfl (fun r235 u H locs hw hP hS => ?_)
      rcases hw with ⟨rfl, zw20⟩ | ⟨rfl, zw20⟩
      · refine lv_if_ne (tgt := 29) hx hb dX7_refusalToHold_23 (by decide) (fun zc23 => ?_) (fun hc => absurd hc (by decide))
        refine lv_iload hx hb dX7_refusalToHold_29 (lv_at hl 4 rfl) ?_
        refine lv_iconst (v := 4) hx hb dX7_refusalToHold_31 (by decide) ?_
        refine k_pi (va_runS (As := [.int nd, .int 4]) (rest := []) ⟨hx, hb, hml, hown, hts⟩ (c_isBelow l D H.size nd 4 ) (va_cwS 2 hts gX7_refusalToHold_X7_isBelow rfl rfl rfl (by decide +kernel) ⟨(Nat.le_of_ble_eq_true rfl), (Nat.le_of_ble_eq_true rfl)⟩) ⟨mP_blind, m_pre _ hN hK hP hD [] rfl [] rfl (by decide)⟩ rfl rfl hl.1 rfl (lv_room (Nat.le_of_ble_eq_true rfl)) dX7_refusalToHold_32 ⟨(Nat.le_of_ble_eq_true rfl), (Nat.le_of_ble_eq_true rfl)⟩) hP hD hS hA [] rfl (fun r236 u H locs hw hP hS => ?_)
        rcases hw with ⟨rfl, zw32⟩ | ⟨rfl, zw32⟩
        · refine lv_if_ne (tgt := 41) hx hb dX7_refusalToHold_35 (by decide) (fun zc35 => ?_) (fun hc => absurd hc (by decide))
          refine lv_aload_n hx hb dX7_refusalToHold_41 rfl (lv_at hl 0 rfl) ?_
          refine va_get (D := D) (ci := 7) (v := .ref h) (C := RX7) (T := TX7) (N := 6) hx hb hts inX7 hown hK hP 0 rfl rfl 0 (by decide) (hts (.fieldLink RX7 10 "LoanHouse" "house" "LLoanHouse$House;") (List.mem_of_getElem? (i := 3) rfl)) (fun _ h9 => h9) rfl dX7_refusalToHold_42 ?_
          refine va_getN (D := D) (ci := 4) (v := .ref c) (host := "LoanHouse") (C := RX4) (T := TX4) (N := 4) hx hb hts inX4 hown hK hP 1 rfl rfl 1 (by decide) (va_Nw.use rfl (hN.at 10 rfl)) (fun _ h9 => h9) rfl dX7_refusalToHold_45 ?_
          refine lv_iload_n hx hb dX7_refusalToHold_48 rfl (lv_at hl 1 rfl) ?_
          refine k_pi (va_runV (As := [.int p]) (rest := []) ⟨hx, hb, hml, hown, hts⟩ (c_X1_outTo l D H.size c g1 p ) (cwV 1 hts gX7_refusalToHold_X1_outTo rfl rfl rfl (by decide +kernel) ⟨(Nat.le_of_ble_eq_true rfl), (Nat.le_of_ble_eq_true rfl)⟩) ⟨mP_blind, va_recv hK hP (ci := 1) (q0 := 2) rfl rfl, m_pre _ hN hK hP hD [] rfl [2] rfl (by decide)⟩ rfl rfl hl.1 rfl (lv_room (Nat.le_of_ble_eq_true rfl)) dX7_refusalToHold_49 ⟨(Nat.le_of_ble_eq_true rfl), (Nat.le_of_ble_eq_true rfl)⟩) hP hD hS hA [2] rfl (fun r237 u H locs hw hP hS => ?_)
          obtain rfl := hw
          refine lv_aload_n hx hb dX7_refusalToHold_52 rfl (lv_at hl 0 rfl) ?_
          refine va_get (D := D) (ci := 7) (v := .ref h) (C := RX7) (T := TX7) (N := 6) hx hb hts inX7 hown hK hP 0 rfl rfl 0 (by decide) (hts (.fieldLink RX7 10 "LoanHouse" "house" "LLoanHouse$House;") (List.mem_of_getElem? (i := 3) rfl)) (fun _ h9 => h9) rfl dX7_refusalToHold_53 ?_
          refine va_getN (D := D) (ci := 4) (v := .ref c) (host := "LoanHouse") (C := RX4) (T := TX4) (N := 4) hx hb hts inX4 hown hK hP 1 rfl rfl 1 (by decide) (va_Nw.use rfl (hN.at 10 rfl)) (fun _ h9 => h9) rfl dX7_refusalToHold_56 ?_
          refine lv_iload_n hx hb dX7_refusalToHold_59 rfl (lv_at hl 2 rfl) ?_
          refine k_pi (va_runV (As := [.int t]) (rest := [.int 0]) ⟨hx, hb, hml, hown, hts⟩ (c_X1_ofTitle l D H.size c g1 t ) (cwV 1 hts gX7_refusalToHold_X1_ofTitle rfl rfl rfl (by decide +kernel) ⟨(Nat.le_of_ble_eq_true rfl), (Nat.le_of_ble_eq_true rfl)⟩) ⟨mP_blind, va_recv hK hP (ci := 1) (q0 := 2) rfl rfl, m_pre _ hN hK hP hD [] rfl [2] rfl (by decide)⟩ rfl rfl hl.1 rfl (lv_room (Nat.le_of_ble_eq_true rfl)) dX7_refusalToHold_60 ⟨(Nat.le_of_ble_eq_true rfl), (Nat.le_of_ble_eq_true rfl)⟩) hP hD hS hA [2] rfl (fun r238 u H locs hw hP hS => ?_)
          obtain rfl := hw
          refine lv_iand hx hb dX7_refusalToHold_63 ?_
          refine lv_topi (fun x239 ex239 => ?_)
          have ex239 : x239 = 0 := ex239.trans (by decide)
          subst ex239
          refine lv_if_eq (tgt := 71) hx hb dX7_refusalToHold_64 (by decide) (fun zc64 => ?_) (fun hc => absurd (by decide) hc)
          refine lv_iconst (v := 0) hx hb dX7_refusalToHold_71 (by decide) ?_
          refine lv_istore (lv' := [(5, .int 0), (0, .ref x), (1, .int p), (2, .int t), (3, .int b), (4, .int nd)]) hx hb dX7_refusalToHold_72 hl (by decide) rfl (fun ls hl => ?_)
          refine lv_iload hx hb dX7_refusalToHold_74 (lv_at hl 0 rfl) ?_
          refine lv_if_ne (tgt := 94) hx hb dX7_refusalToHold_76 (by decide) (fun hc => absurd (by decide) hc) (fun zc76 => ?_)
          refine lv_aload_n hx hb dX7_refusalToHold_79 rfl (lv_at hl 1 rfl) ?_
          refine va_get (D := D) (ci := 7) (v := .ref h) (C := RX7) (T := TX7) (N := 6) hx hb hts inX7 hown hK hP 0 rfl rfl 0 (by decide) (hts (.fieldLink RX7 10 "LoanHouse" "house" "LLoanHouse$House;") (List.mem_of_getElem? (i := 3) rfl)) (fun _ h9 => h9) rfl dX7_refusalToHold_80 ?_
          refine va_getN (D := D) (ci := 4) (v := .ref o) (host := "LoanHouse") (C := RX4) (T := TX4) (N := 4) hx hb hts inX4 hown hK hP 1 rfl rfl 2 (by decide) (va_Nw.use rfl (hN.at 11 rfl)) (fun _ h9 => h9) rfl dX7_refusalToHold_83 ?_
          refine lv_iload_n hx hb dX7_refusalToHold_86 rfl (lv_at hl 2 rfl) ?_
          refine lv_iload_n hx hb dX7_refusalToHold_87 rfl (lv_at hl 3 rfl) ?_
          refine k_pi (va_runV (As := [.int p, .int t]) (rest := []) ⟨hx, hb, hml, hown, hts⟩ (c_X3_has l D H.size o g2 a2 cA2 hc nx f2 p t hh) (cwV 2 hts gX7_refusalToHold_X3_has rfl rfl rfl (by decide +kernel) ⟨(Nat.le_of_ble_eq_true rfl), (Nat.le_of_ble_eq_true rfl)⟩) ⟨mP_blind, va_recv hK hP (ci := 3) (q0 := 3) rfl rfl, m_pre _ hN hK hP hD [0] rfl [3, 4, 5] rfl (by decide)⟩ rfl rfl hl.1 rfl (lv_room (Nat.le_of_ble_eq_true rfl)) dX7_refusalToHold_88 ⟨(Nat.le_of_ble_eq_true rfl), (Nat.le_of_ble_eq_true rfl)⟩) hP hD hS hA [3, 4, 5] rfl (fun r240 u H locs hw hP hS => ?_)
          rcases hw with ⟨rfl, zw88⟩ | rfl
          · refine lv_if_eq (tgt := 97) hx hb dX7_refusalToHold_91 (by decide) (fun hc => absurd hc (by decide)) (fun zc91 => ?_)
            refine lv_ldc hx hb hown (hts (.constant RX7 90 (-1000000003)) (List.mem_of_getElem? (i := 4) rfl)) dX7_refusalToHold_94 ?_
            exact hret (-1000000003) () rfl (Or.inr (Or.inr (Or.inr (Or.inl ⟨rfl, zw88⟩)))) hP (hK.sub [] rfl) hD hS (Nat.le_of_ble_eq_true rfl) (Nat.le_of_ble_eq_true rfl) dX7_refusalToHold_96
          · refine lv_if_eq (tgt := 97) hx hb dX7_refusalToHold_91 (by decide) (fun zc91 => ?_) (fun hc => absurd (by decide) hc)
            refine lv_aload_n hx hb dX7_refusalToHold_97 rfl (lv_at hl 1 rfl) ?_
            refine va_get (D := D) (ci := 7) (v := .ref h) (C := RX7) (T := TX7) (N := 6) hx hb hts inX7 hown hK hP 0 rfl rfl 0 (by decide) (hts (.fieldLink RX7 10 "LoanHouse" "house" "LLoanHouse$House;") (List.mem_of_getElem? (i := 3) rfl)) (fun _ h9 => h9) rfl dX7_refusalToHold_98 ?_
            refine va_getN (D := D) (ci := 4) (v := .ref o) (host := "LoanHouse") (C := RX4) (T := TX4) (N := 4) hx hb hts inX4 hown hK hP 1 rfl rfl 2 (by decide) (va_Nw.use rfl (hN.at 11 rfl)) (fun _ h9 => h9) rfl dX7_refusalToHold_101 ?_
            refine va_getN (D := D) (ci := 3) (v := .int (nI hc)) (host := "LoanHouse") (C := RX3) (T := TX3) (N := 3) hx hb hts inX3 hown hK hP 3 rfl rfl 1 (by decide) (va_Nw.use rfl (hN.at 8 rfl)) (fun _ h9 => h9) rfl dX7_refusalToHold_104 ?_
            refine lv_bipush (v := 12) hx hb dX7_refusalToHold_107 (by decide) ?_
            refine lv_icmp_lt (tgt := 117) hx hb dX7_refusalToHold_109 (by decide) (fun zc109 => ?_) (fun zc109 => ?_)
            · refine lv_iconst (v := 0) hx hb dX7_refusalToHold_117 (by decide) ?_
              exact hret 0 () rfl (Or.inr (Or.inr (Or.inl ⟨rfl, ⟨zw3, zw12, zw20⟩, zw32, lt12 zc109⟩))) hP (hK.sub [] rfl) hD hS (Nat.le_of_ble_eq_true rfl) (Nat.le_of_ble_eq_true rfl) dX7_refusalToHold_118
            · refine lv_ldc hx hb hown (hts (.constant RX7 50 (-1000000004)) (List.mem_of_getElem? (i := 5) rfl)) dX7_refusalToHold_112 ?_
              refine lv_goto (tgt := 118) hx hb dX7_refusalToHold_114 (by decide) ?_
              exact hret (-1000000004) () rfl (Or.inr (Or.inr (Or.inr (Or.inr ⟨rfl, ge12 zc109⟩)))) hP (hK.sub [] rfl) hD hS (Nat.le_of_ble_eq_true rfl) (Nat.le_of_ble_eq_true rfl) dX7_refusalToHold_118
        · refine lv_if_ne (tgt := 41) hx hb dX7_refusalToHold_35 (by decide) (fun hc => absurd (by decide) hc) (fun zc35 => ?_)
          refine lv_ldc hx hb hown (hts (.constant RX7 110 (-1000000002)) (List.mem_of_getElem? (i := 2) rfl)) dX7_refusalToHold_38 ?_
          exact hret (-1000000002) () rfl (Or.inr (Or.inl ⟨rfl, ⟨zw3, zw12, zw20⟩, zw32⟩)) hP (hK.sub [] rfl) hD hS (Nat.le_of_ble_eq_true rfl) (Nat.le_of_ble_eq_true rfl) dX7_refusalToHold_40
      · refine lv_if_ne (tgt := 29) hx hb dX7_refusalToHold_23 (by decide) (fun hc => absurd (by decide) hc) (fun zc23 => ?_)
        refine lv_ldc hx hb hown (hts (.constant RX7 39 (-1000000001)) (List.mem_of_getElem? (i := 1) rfl)) dX7_refusalToHold_26 ?_
        exact hret (-1000000001) () rfl (Or.inl ⟨rfl, fun q => zw20 q.2.2⟩) hP (hK.sub [] rfl) hD hS (Nat.le_of_ble_eq_true rfl) (Nat.le_of_ble_eq_true rfl) dX7_refusalToHold_28
    · refine lv_if_eq (tgt := 26) hx hb dX7_refusalToHold_15 (by decide) (fun zc15 => ?_) (fun hc => absurd (by decide) hc)
      refine lv_ldc hx hb hown (hts (.constant RX7 39 (-1000000001)) (List.mem_of_getElem? (i := 1) rfl)) dX7_refusalToHold_26 ?_
      exact hret (-1000000001) () rfl (Or.inl ⟨rfl, fun q => zw12 q.2.1⟩) hP (hK.sub [] rfl) hD hS (Nat.le_of_ble_eq_true rfl) (Nat.le_of_ble_eq_true rfl) dX7_refusalToHold_28
  · refine lv_if_eq (tgt := 26) hx hb dX7_refusalToHold_6 (by decide) (fun zc6 => ?_) (fun hc => absurd (by decide) hc)
    refine lv_ldc hx hb hown (hts (.constant RX7 39 (-1000000001)) (List.mem_of_getElem? (i := 1) rfl)) dX7_refusalToHold_26 ?_
    exact hret (-1000000001) () rfl (Or.inl ⟨rfl, fun q => zw3 q.1⟩) hP (hK.sub [] rfl) hD hS (Nat.le_of_ble_eq_true rfl) (Nat.le_of_ble_eq_true rfl) dX7_refusalToHold_28
set_option maxHeartbeats 4000000 in
set_option maxRecDepth 100000 in
theorem c_X7_hold (l : Launch) (D : va_G) (sz : Nat) (x ps pa im lt : Nat) (cP : ClassId) (h k c g1 a1 o g2 a2 : Nat) (cA1 cA2 : ClassId) (f1 f2 : Nat → Int32) (p t b nd : Int32) : mI l yX7_hold wsX7_hold (rk 6 8 183) D [.ref x, .int p, .int t, .int b, .int nd] [(cP, .object "LoanHouse$House"), (cA1, .int), (cA2, .int)] sz [(x, .inr (7, [.ref h, .ref ps, .ref im, .ref lt, .int 0, .int 0])), (ps, .inr (6, [.ref pa])), (pa, .inl (cP, 8, .inr (.inr (.inr (.inr (fun _ => none)))))), (h, .inr (4, [.ref k, .ref c, .ref o, .int 0])), (k, .inr (0, [.int 0, .int 14, .int 3, .int 64])), (c, .inr (1, [.ref g1, .int 0])), (g1, .inr (2, [.int 16, .int 5, .ref a1])), (a1, .inl (cA1, 80, .inl f1)), (o, .inr (3, [.ref g2, .int 0, .int 0])), (g2, .inr (2, [.int 12, .int 7, .ref a2])), (a2, .inl (cA2, 84, .inl f2))] (S := Unit) (fun r _ => (r = (-1000000001) ∧ ¬ (ok p 10 ∧ ok t 6 ∧ ok b 4)) ∨ (r = (-1000000002) ∧ (ok p 10 ∧ ok t 6 ∧ ok b 4) ∧ ¬ ok nd 4) ∨ (r = 0 ∧ (ok p 10 ∧ ok t 6 ∧ ok b 4) ∧ ok nd 4)) (fun _ => []) (fun _ => []) := by
  refine mI_of (cc := cX7_hold) (maxL := 6) (ty := .int) (plainFor_of_name (by decide)) rfl (Nat.le_of_ble_eq_true rfl) ?_
  intro pp ee ss mm bl mt cd AA QQ hx hb hml hts hown hN hA hK hP hD hS hret ls hl
  have hl : lv_has ls 6 [(0, .ref x), (1, .int p), (2, .int t), (3, .int b), (4, .int nd)] := hl
  have inX7 : ∀ w ∈ wsX70, w ∈ wsX7_hold := fun _ h => List.mem_cons_of_mem _ (List.mem_append_left _ (List.mem_append_left _ (List.mem_append_left _ (List.mem_append_left _ (List.mem_append_left _ (List.mem_append_left _ (List.mem_append_right _ h)))))))
  refine lv_aload_n hx hb dX7_hold_0 rfl (lv_at hl 0 rfl) ?_
  refine lv_iload_n hx hb dX7_hold_1 rfl (lv_at hl 1 rfl) ?_
  refine lv_iload_n hx hb dX7_hold_2 rfl (lv_at hl 2 rfl) ?_
  refine lv_iload_n hx hb dX7_hold_3 rfl (lv_at hl 3 rfl) ?_
  refine lv_iload hx hb dX7_hold_4 (lv_at hl 4 rfl) ?_
  refine k_pi (va_runV (As := [.int p, .int t, .int b, .int nd]) (rest := []) ⟨hx, hb, hml, hown, hts⟩ (c_X7_refusalToHold l D ss.heap.size x h ps im lt k c o g1 g2 a2 cA2 0 0 0 0 0 f2 p t b nd (by decide)) (cwV 4 hts gX7_hold_X7_refusalToHold rfl rfl rfl (by decide +kernel) ⟨(Nat.le_of_ble_eq_true rfl), (Nat.le_of_ble_eq_true rfl)⟩) ⟨mP_blind, va_recv hK hP (ci := 7) (q0 := 0) rfl rfl, m_pre _ hN hK hP hD [2] rfl [0, 3, 5, 8, 9, 10] rfl (by decide)⟩ rfl rfl hl.1 rfl (lv_room (Nat.le_of_ble_eq_true rfl)) dX7_hold_6 ⟨(Nat.le_of_ble_eq_true rfl), (Nat.le_of_ble_eq_true rfl)⟩) hP hD hS hA [0, 3, 5, 8, 9, 10] rfl (fun r241 u H locs hw hP hS => ?_)
  rcases hw with ⟨rfl, zw6⟩ | ⟨rfl, zw6⟩ | ⟨rfl, zw6⟩ | ⟨rfl, zw6⟩ | ⟨rfl, zw6⟩
  · refine lv_istore (lv' := [(5, .int (-1000000001)), (0, .ref x), (1, .int p), (2, .int t), (3, .int b), (4, .int nd)]) hx hb dX7_hold_9 hl (by decide) rfl (fun ls hl => ?_)
    refine lv_iload hx hb dX7_hold_11 (lv_at hl 0 rfl) ?_
    refine lv_if_eq (tgt := 19) hx hb dX7_hold_13 (by decide) (fun hc => absurd hc (by decide)) (fun zc13 => ?_)
    refine lv_iload hx hb dX7_hold_16 (lv_at hl 0 rfl) ?_
    exact hret (-1000000001) () rfl (Or.inl ⟨rfl, zw6⟩) (m_P hP (is := []) rfl) (hK.sub [] rfl) (hD.sub [] (by decide) rfl) hS (Nat.le_of_ble_eq_true rfl) (Nat.le_of_ble_eq_true rfl) dX7_hold_18
  · refine lv_istore (lv' := [(5, .int (-1000000002)), (0, .ref x), (1, .int p), (2, .int t), (3, .int b), (4, .int nd)]) hx hb dX7_hold_9 hl (by decide) rfl (fun ls hl => ?_)
    refine lv_iload hx hb dX7_hold_11 (lv_at hl 0 rfl) ?_
    refine lv_if_eq (tgt := 19) hx hb dX7_hold_13 (by decide) (fun hc => absurd hc (by decide)) (fun zc13 => ?_)
    refine lv_iload hx hb dX7_hold_16 (lv_at hl 0 rfl) ?_
    exact hret (-1000000002) () rfl (Or.inr (Or.inl ⟨rfl, zw6⟩)) (m_P hP (is := []) rfl) (hK.sub [] rfl) (hD.sub [] (by decide) rfl) hS (Nat.le_of_ble_eq_true rfl) (Nat.le_of_ble_eq_true rfl) dX7_hold_18
  · refine lv_istore (lv' := [(5, .int 0), (0, .ref x), (1, .int p), (2, .int t), (3, .int b), (4, .int nd)]) hx hb dX7_hold_9 hl (by decide) rfl (fun ls hl => ?_)
    refine lv_iload hx hb dX7_hold_11 (lv_at hl 0 rfl) ?_
    refine lv_if_eq (tgt := 19) hx hb dX7_hold_13 (by decide) (fun zc13 => ?_) (fun hc => absurd (by decide) hc)
    refine lv_aload_n hx hb dX7_hold_19 rfl (lv_at hl 1 rfl) ?_
    refine k_v (wr := []) (va_runV (As := []) (rest := []) ⟨hx, hb, hml, hown, hts⟩ (c_X7_remember l D H.size x ps pa im lt cP h k c g1 a1 o g2 a2 cA1 cA2 0 14 3 64 0 0 0 0 f1 f2 ) (cwV 0 hts gX7_hold_X7_remember rfl rfl rfl (by decide +kernel) ⟨(Nat.le_of_ble_eq_true rfl), (Nat.le_of_ble_eq_true rfl)⟩) ⟨mP_blind, va_recv hK hP (ci := 7) (q0 := 0) rfl rfl, m_pre _ hN hK hP hD [0, 1, 2] rfl [0, 1, 2, 3, 4, 5, 6, 7, 8, 9, 10] rfl (by decide)⟩ rfl rfl hl.1 rfl (lv_room (Nat.le_of_ble_eq_true rfl)) dX7_hold_20 ⟨(Nat.le_of_ble_eq_true rfl), (Nat.le_of_ble_eq_true rfl)⟩) hP hD hS hA [0, 1, 2, 3, 4, 5, 6, 7, 8, 9, 10] [] rfl rfl (by decide) (by decide) (fun u H locs hw hK1 hP hD hS => ?_)
    obtain ⟨np243, rfl⟩ : ∃ z, z = u := ⟨_, rfl⟩
    have hP : va_P D vwCl [(x, .inr (7, [.ref h, .ref ps, .ref im, .ref lt, .int 1, .int np243])), (h, .inr (4, [.ref k, .ref c, .ref o, .int 0])), (k, .inr (0, [.int 0, .int 14, .int 3, .int 64])), (c, .inr (1, [.ref g1, .int 0])), (g1, .inr (2, [.int 16, .int 5, .ref a1])), (a1, .inl (cA1, 80, .inl f1)), (o, .inr (3, [.ref g2, .int 0, .int 0])), (g2, .inr (2, [.int 12, .int 7, .ref a2])), (a2, .inl (cA2, 84, .inl f2))] H := hP
    have hD : va_D AA [(x, .inr (7, [.ref h, .ref ps, .ref im, .ref lt, .int 1, .int np243])), (h, .inr (4, [.ref k, .ref c, .ref o, .int 0])), (k, .inr (0, [.int 0, .int 14, .int 3, .int 64])), (c, .inr (1, [.ref g1, .int 0])), (g1, .inr (2, [.int 16, .int 5, .ref a1])), (a1, .inl (cA1, 80, .inl f1)), (o, .inr (3, [.ref g2, .int 0, .int 0])), (g2, .inr (2, [.int 12, .int 7, .ref a2])), (a2, .inl (cA2, 84, .inl f2))] := hD
    try dsimp only at hw
    refine W.widen (k := 8) (n := 183) (Nat.le_of_ble_eq_true rfl) (Nat.le_of_ble_eq_true rfl) ?_
    refine lv_aload_n hx hb dX7_hold_23 rfl (lv_at hl 1 rfl) ?_
    refine va_get (D := D) (ci := 7) (v := .ref h) (C := RX7) (T := TX7) (N := 6) hx hb hts inX7 hown hK hP 0 rfl rfl 0 (by decide) (hts (.fieldLink RX7 10 "LoanHouse" "house" "LLoanHouse$House;") (List.mem_of_getElem? (i := 1) rfl)) (fun _ h9 => h9) rfl dX7_hold_24 ?_
    refine lv_iload_n hx hb dX7_hold_27 rfl (lv_at hl 2 rfl) ?_
    refine lv_iload_n hx hb dX7_hold_28 rfl (lv_at hl 3 rfl) ?_
    refine lv_iload_n hx hb dX7_hold_29 rfl (lv_at hl 4 rfl) ?_
    refine lv_iload hx hb dX7_hold_30 (lv_at hl 5 rfl) ?_
    refine k_i (wr := [(x, .inr (7, [.ref h, .ref ps, .ref im, .ref lt, .int 1, .int np243])), (g1, .inr (2, [.int 16, .int 5, .ref a1])), (a1, .inl (cA1, 80, .inl f1))]) (va_runV (As := [.int p, .int t, .int b, .int nd]) (rest := []) ⟨hx, hb, hml, hown, hts⟩ (c_X4_addHold l D H.size h k c g1 o g2 a2 cA2 0 0 14 3 64 0 0 f2 p t b nd (by decide)) (cwV 4 hts gX7_hold_X4_addHold rfl rfl rfl (by decide +kernel) ⟨(Nat.le_of_ble_eq_true rfl), (Nat.le_of_ble_eq_true rfl)⟩) ⟨mP_blind, va_recv hK hP (ci := 4) (q0 := 1) rfl rfl, m_pre _ hN hK hP hD [2] rfl [1, 2, 3, 6, 7, 8] rfl (by decide)⟩ rfl rfl hl.1 rfl (lv_room (Nat.le_of_ble_eq_true rfl)) dX7_hold_32 ⟨(Nat.le_of_ble_eq_true rfl), (Nat.le_of_ble_eq_true rfl)⟩) hP hD hS hA [1, 2, 3, 6, 7, 8] [0, 4, 5] rfl rfl (by decide) (by decide) (fun r244 u H locs hw hK1 hP hD hS => ?_)
    obtain ⟨f245, rfl⟩ : ∃ z, z = u := ⟨_, rfl⟩
    have hP : va_P D vwCl [(x, .inr (7, [.ref h, .ref ps, .ref im, .ref lt, .int 1, .int np243])), (g1, .inr (2, [.int 16, .int 5, .ref a1])), (a1, .inl (cA1, 80, .inl f1)), (h, .inr (4, [.ref k, .ref c, .ref o, .int 0])), (k, .inr (0, [.int 0, .int 14, .int 3, .int 64])), (c, .inr (1, [.ref g1, .int 0])), (o, .inr (3, [.ref g2, .int (nI (0 + 1)), .int (0 + 1)])), (g2, .inr (2, [.int 12, .int 7, .ref a2])), (a2, .inl (cA2, 84, .inl f245))] H := hP
    have hD : va_D AA [(x, .inr (7, [.ref h, .ref ps, .ref im, .ref lt, .int 1, .int np243])), (g1, .inr (2, [.int 16, .int 5, .ref a1])), (a1, .inl (cA1, 80, .inl f1)), (h, .inr (4, [.ref k, .ref c, .ref o, .int 0])), (k, .inr (0, [.int 0, .int 14, .int 3, .int 64])), (c, .inr (1, [.ref g1, .int 0])), (o, .inr (3, [.ref g2, .int (nI (0 + 1)), .int (0 + 1)])), (g2, .inr (2, [.int 12, .int 7, .ref a2])), (a2, .inl (cA2, 84, .inl f245))] := hD
    try dsimp only at hw
    refine W.widen (k := 8) (n := 183) (Nat.le_of_ble_eq_true rfl) (Nat.le_of_ble_eq_true rfl) ?_
    obtain rfl := hw
    exact hret 0 () rfl (Or.inr (Or.inr ⟨rfl, zw6.1, zw6.2.1⟩)) (m_P hP (is := []) rfl) (hK.sub [] rfl) (hD.sub [] (by decide) rfl) hS (Nat.le_of_ble_eq_true rfl) (Nat.le_of_ble_eq_true rfl) dX7_hold_35
  · exact absurd zw6 (by decide)
  · exact absurd zw6 (by decide)
