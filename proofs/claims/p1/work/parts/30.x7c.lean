set_option maxHeartbeats 4000000 in
set_option maxRecDepth 100000 in
theorem c_X7_pass (l : Launch) (D : va_G) (sz : Nat) (x ps pa im lt : Nat) (cP : ClassId) (h k c g1 a1 o g2 a2 : Nat) (cA1 cA2 : ClassId) (f1 f2 : Nat → Int32) (v : Int32) : mI l yX7_pass wsX7_pass (rk 6 8 183) D [.ref x, .int v] [(cP, .object "LoanHouse$House"), (cA1, .int), (cA2, .int)] sz [(x, .inr (7, [.ref h, .ref ps, .ref im, .ref lt, .int 0, .int 0])), (ps, .inr (6, [.ref pa])), (pa, .inl (cP, 8, .inr (.inr (.inr (.inr (fun _ => none)))))), (h, .inr (4, [.ref k, .ref c, .ref o, .int 0])), (k, .inr (0, [.int 0, .int 14, .int 3, .int 64])), (c, .inr (1, [.ref g1, .int 0])), (g1, .inr (2, [.int 16, .int 5, .ref a1])), (a1, .inl (cA1, 80, .inl f1)), (o, .inr (3, [.ref g2, .int 0, .int 0])), (g2, .inr (2, [.int 12, .int 7, .ref a2])), (a2, .inl (cA2, 84, .inl f2))] (S := Unit) (fun r _ => q2 (1 ≤ v ∧ v ≤ 30) v (-1000000002) r) (fun _ => []) (fun _ => []) := by
  refine mI_of (cc := cX7_pass) (maxL := 3) (ty := .int) (plainFor_of_name (by decide)) rfl (Nat.le_of_ble_eq_true rfl) ?_
  intro pp ee ss mm bl mt cd AA QQ hx hb hml hts hown hN hA hK hP hD hS hret ls hl
  have hl : lv_has ls 3 [(0, .ref x), (1, .int v)] := hl
  have inX0 : ∀ w ∈ wsX00, w ∈ wsX7_pass := fun _ h => List.mem_cons_of_mem _ (List.mem_append_left _ (List.mem_append_left _ (List.mem_append_left _ (List.mem_append_left _ (List.mem_append_right _ h)))))
  have inX4 : ∀ w ∈ wsX40, w ∈ wsX7_pass := fun _ h => List.mem_cons_of_mem _ (List.mem_append_left _ (List.mem_append_left _ (List.mem_append_left _ (List.mem_append_left _ (List.mem_append_left _ (List.mem_append_right _ h))))))
  have inX7 : ∀ w ∈ wsX70, w ∈ wsX7_pass := fun _ h => List.mem_cons_of_mem _ (List.mem_append_left _ (List.mem_append_left _ (List.mem_append_left _ (List.mem_append_left _ (List.mem_append_left _ (List.mem_append_left _ (List.mem_append_right _ h)))))))
  refine lv_iload_n hx hb dX7_pass_0 rfl (lv_at hl 1 rfl) ?_
  refine lv_iconst (v := 1) hx hb dX7_pass_1 (by decide) ?_
  refine lv_icmp_lt (tgt := 11) hx hb dX7_pass_2 (by decide) (fun zc2 => ?_) (fun zc2 => ?_)
  · refine lv_ldc hx hb hown (hts (.constant RX7 110 (-1000000002)) (List.mem_of_getElem? (i := 1) rfl)) dX7_pass_11 ?_
    exact hret (-1000000002) () rfl (Or.inr ⟨fun q => n_lt zc2 q.1, rfl⟩) (m_P hP (is := []) rfl) (hK.sub [] rfl) (hD.sub [] (by decide) rfl) hS (Nat.le_of_ble_eq_true rfl) (Nat.le_of_ble_eq_true rfl) dX7_pass_13
  · refine lv_iload_n hx hb dX7_pass_5 rfl (lv_at hl 1 rfl) ?_
    refine lv_bipush (v := 30) hx hb dX7_pass_6 (by decide) ?_
    refine lv_icmp_le (tgt := 14) hx hb dX7_pass_8 (by decide) (fun zc8 => ?_) (fun zc8 => ?_)
    · obtain ⟨d0, hd1, hd2, rfl⟩ := nn_of zc2 zc8
      refine lv_aload_n hx hb dX7_pass_14 rfl (lv_at hl 0 rfl) ?_
      refine va_get (D := D) (ci := 7) (v := .ref h) (C := RX7) (T := TX7) (N := 6) hx hb hts inX7 hown hK hP 0 rfl rfl 0 (by decide) (hts (.fieldLink RX7 10 "LoanHouse" "house" "LLoanHouse$House;") (List.mem_of_getElem? (i := 2) rfl)) (fun _ h9 => h9) rfl dX7_pass_15 ?_
      refine va_getN (D := D) (ci := 4) (v := .ref k) (host := "LoanHouse") (C := RX4) (T := TX4) (N := 4) hx hb hts inX4 hown hK hP 3 rfl rfl 0 (by decide) (va_Nw.use rfl (hN.at 9 rfl)) (fun _ h9 => h9) rfl dX7_pass_18 ?_
      refine va_getN (D := D) (ci := 0) (v := .int 0) (host := "LoanHouse") (C := RX0) (T := TX0) (N := 4) hx hb hts inX0 hown hK hP 4 rfl rfl 0 (by decide) (va_Nw.use rfl (hN.at 1 rfl)) (fun _ h9 => h9) rfl dX7_pass_21 ?_
      refine lv_iload_n hx hb dX7_pass_24 rfl (lv_at hl 1 rfl) ?_
      refine lv_iadd hx hb dX7_pass_25 ?_
      refine lv_topi (fun x246 ex246 => ?_)
      have ex246 : x246 = nI d0 := ex246.trans (Int32.zero_add _)
      subst ex246
      refine lv_sipush (v := 9999) hx hb dX7_pass_26 (by decide) ?_
      refine lv_icmp_le (tgt := 35) hx hb dX7_pass_29 (by decide) (fun zc29 => ?_) (fun hc => absurd (nI_le (b := 9999) (by omega) (by decide)) hc)
      refine lv_aload_n hx hb dX7_pass_35 rfl (lv_at hl 0 rfl) ?_
      refine k_v (wr := []) (va_runV (As := []) (rest := []) ⟨hx, hb, hml, hown, hts⟩ (c_X7_remember l D ss.heap.size x ps pa im lt cP h k c g1 a1 o g2 a2 cA1 cA2 0 14 3 64 0 0 0 0 f1 f2 ) (cwV 0 hts gX7_pass_X7_remember rfl rfl rfl (by decide +kernel) ⟨(Nat.le_of_ble_eq_true rfl), (Nat.le_of_ble_eq_true rfl)⟩) ⟨mP_blind, va_recv hK hP (ci := 7) (q0 := 0) rfl rfl, m_pre _ hN hK hP hD [0, 1, 2] rfl [0, 1, 2, 3, 4, 5, 6, 7, 8, 9, 10] rfl (by decide)⟩ rfl rfl hl.1 rfl (lv_room (Nat.le_of_ble_eq_true rfl)) dX7_pass_36 ⟨(Nat.le_of_ble_eq_true rfl), (Nat.le_of_ble_eq_true rfl)⟩) hP hD hS hA [0, 1, 2, 3, 4, 5, 6, 7, 8, 9, 10] [] rfl rfl (by decide) (by decide) (fun u H locs hw hK1 hP hD hS => ?_)
      obtain ⟨np248, rfl⟩ : ∃ z, z = u := ⟨_, rfl⟩
      have hP : va_P D vwCl [(x, .inr (7, [.ref h, .ref ps, .ref im, .ref lt, .int 1, .int np248])), (h, .inr (4, [.ref k, .ref c, .ref o, .int 0])), (k, .inr (0, [.int 0, .int 14, .int 3, .int 64])), (c, .inr (1, [.ref g1, .int 0])), (g1, .inr (2, [.int 16, .int 5, .ref a1])), (a1, .inl (cA1, 80, .inl f1)), (o, .inr (3, [.ref g2, .int 0, .int 0])), (g2, .inr (2, [.int 12, .int 7, .ref a2])), (a2, .inl (cA2, 84, .inl f2))] H := hP
      have hD : va_D AA [(x, .inr (7, [.ref h, .ref ps, .ref im, .ref lt, .int 1, .int np248])), (h, .inr (4, [.ref k, .ref c, .ref o, .int 0])), (k, .inr (0, [.int 0, .int 14, .int 3, .int 64])), (c, .inr (1, [.ref g1, .int 0])), (g1, .inr (2, [.int 16, .int 5, .ref a1])), (a1, .inl (cA1, 80, .inl f1)), (o, .inr (3, [.ref g2, .int 0, .int 0])), (g2, .inr (2, [.int 12, .int 7, .ref a2])), (a2, .inl (cA2, 84, .inl f2))] := hD
      try dsimp only at hw
      refine W.widen (k := 8) (n := 183) (Nat.le_of_ble_eq_true rfl) (Nat.le_of_ble_eq_true rfl) ?_
      refine lv_iconst (v := 0) hx hb dX7_pass_39 (by decide) ?_
      refine lv_istore_n (lv' := [(2, .int 0), (0, .ref x), (1, .int (nI d0))]) hx hb dX7_pass_40 rfl hl (by decide) rfl (fun ls hl => ?_)
      have lp : ∀ (fu : Nat) (d : Nat), (d ≤ d0) → (d0 < d + fu) → ∀ (H : Heap) (locs : List Loc) (ls : Array Slot), va_P D vwCl [(x, .inr (7, [.ref h, .ref ps, .ref im, .ref lt, .int 1, .int np248])), (h, .inr (4, [.ref k, .ref c, .ref o, .int 0])), (k, .inr (0, [.int (nI d), .int 14, .int 3, .int 64])), (c, .inr (1, [.ref g1, .int 0])), (g1, .inr (2, [.int 16, .int 5, .ref a1])), (a1, .inl (cA1, 80, .inl f1)), (o, .inr (3, [.ref g2, .int 0, .int 0])), (g2, .inr (2, [.int 12, .int 7, .ref a2])), (a2, .inl (cA2, 84, .inl f2))] H → va_D AA [(x, .inr (7, [.ref h, .ref ps, .ref im, .ref lt, .int 1, .int np248])), (h, .inr (4, [.ref k, .ref c, .ref o, .int 0])), (k, .inr (0, [.int (nI d), .int 14, .int 3, .int 64])), (c, .inr (1, [.ref g1, .int 0])), (g1, .inr (2, [.int 16, .int 5, .ref a1])), (a1, .inl (cA1, 80, .inl f1)), (o, .inr (3, [.ref g2, .int 0, .int 0])), (g2, .inr (2, [.int 12, .int 7, .ref a2])), (a2, .inl (cA2, 84, .inl f2))] → va_S AA ss.heap H locs → lv_has ls 3 [(2, .int (nI d)), (0, .ref x), (1, .int (nI d0))] → W pp l ee (rk 6 8 183) ss mm ([.ref x, .int (nI d0)] : List Value).toArray bl mt cd H locs 8 183 QQ (F0 mm 41 ls []) := by
        intro fu
        induction fu with
        | zero =>
          intro d hd hf H locs ls hP hD hS hl
          exact absurd hf (by omega)
        | succ fu ih =>
          intro d hd hf H locs ls hP hD hS hl
          refine lv_iload_n hx hb dX7_pass_41 rfl (lv_at hl 0 rfl) ?_
          refine lv_iload_n hx hb dX7_pass_42 rfl (lv_at hl 2 rfl) ?_
          refine lv_icmp_ge (tgt := 59) hx hb dX7_pass_43 (by decide) (fun zc43 => ?_) (fun zc43 => ?_)
          · refine lv_aload_n hx hb dX7_pass_59 rfl (lv_at hl 1 rfl) ?_
            refine va_get (D := D) (ci := 7) (v := .ref h) (C := RX7) (T := TX7) (N := 6) hx hb hts inX7 hown hK hP 0 rfl rfl 0 (by decide) (hts (.fieldLink RX7 10 "LoanHouse" "house" "LLoanHouse$House;") (List.mem_of_getElem? (i := 2) rfl)) (fun _ h9 => h9) rfl dX7_pass_60 ?_
            refine va_getN (D := D) (ci := 4) (v := .ref k) (host := "LoanHouse") (C := RX4) (T := TX4) (N := 4) hx hb hts inX4 hown hK hP 1 rfl rfl 0 (by decide) (va_Nw.use rfl (hN.at 9 rfl)) (fun _ h9 => h9) rfl dX7_pass_63 ?_
            refine va_getN (D := D) (ci := 0) (v := .int (nI d)) (host := "LoanHouse") (C := RX0) (T := TX0) (N := 4) hx hb hts inX0 hown hK hP 2 rfl rfl 0 (by decide) (va_Nw.use rfl (hN.at 1 rfl)) (fun _ h9 => h9) rfl dX7_pass_66 ?_
            exact hret (nI d) () rfl (Or.inl ⟨⟨nI_le (a := 1) hd1 (by omega), nI_le (b := 30) hd2 (by decide)⟩, by rw [show d = d0 from by rcases Nat.lt_or_ge d d0 with q | q; exact absurd zc43 (nI_ge q (by omega)); omega]⟩) (m_P hP (is := []) rfl) (hK.sub [] rfl) (hD.sub [] (by decide) rfl) hS (Nat.le_of_ble_eq_true rfl) (Nat.le_of_ble_eq_true rfl) dX7_pass_69
          · refine lv_aload_n hx hb dX7_pass_46 rfl (lv_at hl 1 rfl) ?_
            refine va_get (D := D) (ci := 7) (v := .ref h) (C := RX7) (T := TX7) (N := 6) hx hb hts inX7 hown hK hP 0 rfl rfl 0 (by decide) (hts (.fieldLink RX7 10 "LoanHouse" "house" "LLoanHouse$House;") (List.mem_of_getElem? (i := 2) rfl)) (fun _ h9 => h9) rfl dX7_pass_47 ?_
            refine k_v (wr := [(x, .inr (7, [.ref h, .ref ps, .ref im, .ref lt, .int 1, .int np248])), (g1, .inr (2, [.int 16, .int 5, .ref a1])), (a1, .inl (cA1, 80, .inl f1))]) (va_runV (As := []) (rest := []) ⟨hx, hb, hml, hown, hts⟩ (c_X4_dayPasses l D H.size h k c g1 o g2 a2 cA2 0 d 14 3 64 0 0 f2 (by decide)) (cwV 0 hts gX7_pass_X4_dayPasses rfl rfl rfl (by decide +kernel) ⟨(Nat.le_of_ble_eq_true rfl), (Nat.le_of_ble_eq_true rfl)⟩) ⟨mP_blind, va_recv hK hP (ci := 4) (q0 := 1) rfl rfl, m_pre _ hN hK hP hD [2] rfl [1, 2, 3, 6, 7, 8] rfl (by decide)⟩ rfl rfl hl.1 rfl (lv_room (Nat.le_of_ble_eq_true rfl)) dX7_pass_50 ⟨(Nat.le_of_ble_eq_true rfl), (Nat.le_of_ble_eq_true rfl)⟩) hP hD hS hA [1, 2, 3, 6, 7, 8] [0, 4, 5] rfl rfl (by decide) (by decide) (fun u H locs hw hK1 hP hD hS => ?_)
            have hP : va_P D vwCl [(x, .inr (7, [.ref h, .ref ps, .ref im, .ref lt, .int 1, .int np248])), (g1, .inr (2, [.int 16, .int 5, .ref a1])), (a1, .inl (cA1, 80, .inl f1)), (h, .inr (4, [.ref k, .ref c, .ref o, .int 0])), (k, .inr (0, [.int (nI (d + 1)), .int 14, .int 3, .int 64])), (c, .inr (1, [.ref g1, .int 0])), (o, .inr (3, [.ref g2, .int (nI 0), .int 0])), (g2, .inr (2, [.int 12, .int 7, .ref a2])), (a2, .inl (cA2, 84, .inl f2))] H := hP
            have hD : va_D AA [(x, .inr (7, [.ref h, .ref ps, .ref im, .ref lt, .int 1, .int np248])), (g1, .inr (2, [.int 16, .int 5, .ref a1])), (a1, .inl (cA1, 80, .inl f1)), (h, .inr (4, [.ref k, .ref c, .ref o, .int 0])), (k, .inr (0, [.int (nI (d + 1)), .int 14, .int 3, .int 64])), (c, .inr (1, [.ref g1, .int 0])), (o, .inr (3, [.ref g2, .int (nI 0), .int 0])), (g2, .inr (2, [.int 12, .int 7, .ref a2])), (a2, .inl (cA2, 84, .inl f2))] := hD
            try dsimp only at hw
            refine W.widen (k := 8) (n := 183) (Nat.le_of_ble_eq_true rfl) (Nat.le_of_ble_eq_true rfl) ?_
            refine lv_iinc (v := nI (d + 1)) (lv' := [(2, .int (nI (d + 1))), (0, .ref x), (1, .int (nI d0))]) hx hb dX7_pass_53 hl (k := 0) rfl (nI_1 d) (by decide) rfl (fun ls hl => ?_)
            refine lv_goto (tgt := 41) hx hb dX7_pass_56 (by decide) ?_
            exact ih (d + 1) (by have := lt_of_nle30 zc43 hd hd2; omega) (by omega) _ _ ls (m_P hP (is := [0, 3, 4, 5, 1, 2, 6, 7, 8]) rfl) (hD.sub [0, 3, 4, 5, 1, 2, 6, 7, 8] (by decide) rfl) hS (lv_sub hl [0, 1, 2] rfl)
      exact lp (d0 + 1) 0 (Nat.zero_le _) (by omega) _ _ ls hP hD hS (lv_sub hl [0, 1, 2] rfl)
    · refine lv_ldc hx hb hown (hts (.constant RX7 110 (-1000000002)) (List.mem_of_getElem? (i := 1) rfl)) dX7_pass_11 ?_
      exact hret (-1000000002) () rfl (Or.inr ⟨fun q => zc8 q.2, rfl⟩) (m_P hP (is := []) rfl) (hK.sub [] rfl) (hD.sub [] (by decide) rfl) hS (Nat.le_of_ble_eq_true rfl) (Nat.le_of_ble_eq_true rfl) dX7_pass_13
set_option maxHeartbeats 4000000 in
set_option maxRecDepth 100000 in
theorem c_X7_drawLending (l : Launch) (D : va_G) (sz : Nat) (x h ps im lt k c o g1 : Nat) (u0 n0 tr : Int32) : mV l yX7_drawLending wsX7_drawLending (rk 0 0 0) D [.ref x] [] sz [(x, .inr (7, [.ref h, .ref ps, .ref im, .ref lt, .int u0, .int n0])), (h, .inr (4, [.ref k, .ref c, .ref o, .int tr])), (c, .inr (1, [.ref g1, .int 0]))] (S := Unit) (fun _ => True) (fun _ => []) (fun _ => [(x, .inr (7, [.ref h, .ref ps, .ref im, .ref lt, .int u0, .int n0])), (h, .inr (4, [.ref k, .ref c, .ref o, .int tr])), (c, .inr (1, [.ref g1, .int 0]))]) := by
  refine mV_of (cc := cX7_drawLending) (maxL := 3) (plainFor_of_name (by decide)) rfl (Nat.le_of_ble_eq_true rfl) ?_
  intro pp ee ss mm bl mt cd AA QQ hx hb hml hts hown hN hA hK hP hD hS hmn hret ls hl
  have hl : lv_has ls 3 [(0, .ref x)] := hl
  have inX1 : ∀ w ∈ wsX10, w ∈ wsX7_drawLending := fun _ h => List.mem_cons_of_mem _ (List.mem_append_left _ (List.mem_append_left _ (List.mem_append_left _ (List.mem_append_left _ (List.mem_append_right _ h)))))
  have inX4 : ∀ w ∈ wsX40, w ∈ wsX7_drawLending := fun _ h => List.mem_cons_of_mem _ (List.mem_append_left _ (List.mem_append_left _ (List.mem_append_left _ (List.mem_append_left _ (List.mem_append_left _ (List.mem_append_right _ h))))))
  have inX7 : ∀ w ∈ wsX70, w ∈ wsX7_drawLending := fun _ h => List.mem_cons_of_mem _ (List.mem_append_left _ (List.mem_append_left _ (List.mem_append_left _ (List.mem_append_left _ (List.mem_append_left _ (List.mem_append_left _ (List.mem_append_right _ h)))))))
  refine lv_aload_n hx hb dX7_drawLending_0 rfl (lv_at hl 0 rfl) ?_
  refine va_get (D := D) (ci := 7) (v := .ref h) (C := RX7) (T := TX7) (N := 6) hx hb hts inX7 hown hK hP 0 rfl rfl 0 (by decide) (hts (.fieldLink RX7 10 "LoanHouse" "house" "LLoanHouse$House;") (List.mem_of_getElem? (i := 1) rfl)) (fun _ h9 => h9) rfl dX7_drawLending_1 ?_
  refine va_getN (D := D) (ci := 4) (v := .ref c) (host := "LoanHouse") (C := RX4) (T := TX4) (N := 4) hx hb hts inX4 hown hK hP 1 rfl rfl 1 (by decide) (va_Nw.use rfl (hN.at 10 rfl)) (fun _ h9 => h9) rfl dX7_drawLending_4 ?_
  refine va_getN (D := D) (ci := 1) (v := .int 0) (host := "LoanHouse") (C := RX1) (T := TX1) (N := 2) hx hb hts inX1 hown hK hP 2 rfl rfl 1 (by decide) (va_Nw.use rfl (hN.at 5 rfl)) (fun _ h9 => h9) rfl dX7_drawLending_7 ?_
  refine lv_if_ne (tgt := 14) hx hb dX7_drawLending_10 (by decide) (fun hc => absurd (by decide) hc) (fun zc10 => ?_)
  exact hret () (trivial) hP (hK.sub [] rfl) hD hS (Nat.le_of_ble_eq_true rfl) (Nat.le_of_ble_eq_true rfl) dX7_drawLending_13
set_option maxHeartbeats 4000000 in
set_option maxRecDepth 100000 in
theorem c_X7_drawGivingBack (l : Launch) (D : va_G) (sz : Nat) (x h ps im lt k c o g1 : Nat) (u0 n0 tr : Int32) : mV l yX7_drawGivingBack wsX7_drawGivingBack (rk 0 0 0) D [.ref x] [] sz [(x, .inr (7, [.ref h, .ref ps, .ref im, .ref lt, .int u0, .int n0])), (h, .inr (4, [.ref k, .ref c, .ref o, .int tr])), (c, .inr (1, [.ref g1, .int 0]))] (S := Unit) (fun _ => True) (fun _ => []) (fun _ => [(x, .inr (7, [.ref h, .ref ps, .ref im, .ref lt, .int u0, .int n0])), (h, .inr (4, [.ref k, .ref c, .ref o, .int tr])), (c, .inr (1, [.ref g1, .int 0]))]) := by
  refine mV_of (cc := cX7_drawGivingBack) (maxL := 3) (plainFor_of_name (by decide)) rfl (Nat.le_of_ble_eq_true rfl) ?_
  intro pp ee ss mm bl mt cd AA QQ hx hb hml hts hown hN hA hK hP hD hS hmn hret ls hl
  have hl : lv_has ls 3 [(0, .ref x)] := hl
  have inX1 : ∀ w ∈ wsX10, w ∈ wsX7_drawGivingBack := fun _ h => List.mem_cons_of_mem _ (List.mem_append_left _ (List.mem_append_left _ (List.mem_append_left _ (List.mem_append_left _ (List.mem_append_right _ h)))))
  have inX4 : ∀ w ∈ wsX40, w ∈ wsX7_drawGivingBack := fun _ h => List.mem_cons_of_mem _ (List.mem_append_left _ (List.mem_append_left _ (List.mem_append_left _ (List.mem_append_left _ (List.mem_append_left _ (List.mem_append_right _ h))))))
  have inX7 : ∀ w ∈ wsX70, w ∈ wsX7_drawGivingBack := fun _ h => List.mem_cons_of_mem _ (List.mem_append_left _ (List.mem_append_left _ (List.mem_append_left _ (List.mem_append_left _ (List.mem_append_left _ (List.mem_append_left _ (List.mem_append_right _ h)))))))
  refine lv_aload_n hx hb dX7_drawGivingBack_0 rfl (lv_at hl 0 rfl) ?_
  refine va_get (D := D) (ci := 7) (v := .ref h) (C := RX7) (T := TX7) (N := 6) hx hb hts inX7 hown hK hP 0 rfl rfl 0 (by decide) (hts (.fieldLink RX7 10 "LoanHouse" "house" "LLoanHouse$House;") (List.mem_of_getElem? (i := 1) rfl)) (fun _ h9 => h9) rfl dX7_drawGivingBack_1 ?_
  refine va_getN (D := D) (ci := 4) (v := .ref c) (host := "LoanHouse") (C := RX4) (T := TX4) (N := 4) hx hb hts inX4 hown hK hP 1 rfl rfl 1 (by decide) (va_Nw.use rfl (hN.at 10 rfl)) (fun _ h9 => h9) rfl dX7_drawGivingBack_4 ?_
  refine va_getN (D := D) (ci := 1) (v := .int 0) (host := "LoanHouse") (C := RX1) (T := TX1) (N := 2) hx hb hts inX1 hown hK hP 2 rfl rfl 1 (by decide) (va_Nw.use rfl (hN.at 5 rfl)) (fun _ h9 => h9) rfl dX7_drawGivingBack_7 ?_
  refine lv_if_ne (tgt := 14) hx hb dX7_drawGivingBack_10 (by decide) (fun hc => absurd (by decide) hc) (fun zc10 => ?_)
  exact hret () (trivial) hP (hK.sub [] rfl) hD hS (Nat.le_of_ble_eq_true rfl) (Nat.le_of_ble_eq_true rfl) dX7_drawGivingBack_13
set_option maxHeartbeats 4000000 in
set_option maxRecDepth 100000 in
theorem c_X7_drawHold (l : Launch) (D : va_G) (sz : Nat) (x h ps im lt k c o g1 g2 a2 : Nat) (cA2 : ClassId) (hc y : Nat) (u0 n0 tr nx now tm pt cl : Int32) (f2 : Nat → Int32) (hh : hc ≤ 12) (hy : y < 2147483647) : mV l yX7_drawHold wsX7_drawHold (rk 5 0 0) D [.ref x] [(cA2, .int)] sz [(x, .inr (7, [.ref h, .ref ps, .ref im, .ref lt, .int u0, .int n0])), (lt, .inr (5, [.long (lN y)])), (h, .inr (4, [.ref k, .ref c, .ref o, .int tr])), (k, .inr (0, [.int now, .int tm, .int pt, .int cl])), (c, .inr (1, [.ref g1, .int 0])), (o, .inr (3, [.ref g2, .int (nI hc), .int nx])), (g2, .inr (2, [.int 12, .int 7, .ref a2])), (a2, .inl (cA2, 84, .inl f2))] (S := Nat × Int32 × (Nat → Int32)) (fun u => u.1 ≤ 12) (fun _ => []) (fun u => [(x, .inr (7, [.ref h, .ref ps, .ref im, .ref lt, .int u0, .int n0])), (lt, .inr (5, [.long (lN (nxN (nxN (nxN (nxN y)))))])), (h, .inr (4, [.ref k, .ref c, .ref o, .int tr])), (k, .inr (0, [.int now, .int tm, .int pt, .int cl])), (c, .inr (1, [.ref g1, .int 0])), (o, .inr (3, [.ref g2, .int (nI u.1), .int u.2.1])), (g2, .inr (2, [.int 12, .int 7, .ref a2])), (a2, .inl (cA2, 84, .inl u.2.2))]) := by
  refine mV_of (cc := cX7_drawHold) (maxL := 5) (plainFor_of_name (by decide)) rfl (Nat.le_of_ble_eq_true rfl) ?_
  intro pp ee ss mm bl mt cd AA QQ hx hb hml hts hown hN hA hK hP hD hS hmn hret ls hl
  have hl : lv_has ls 5 [(0, .ref x)] := hl
  have inX7 : ∀ w ∈ wsX70, w ∈ wsX7_drawHold := fun _ h => List.mem_cons_of_mem _ (List.mem_append_left _ (List.mem_append_left _ (List.mem_append_left _ (List.mem_append_left _ (List.mem_append_left _ (List.mem_append_left _ (List.mem_append_right _ h)))))))
  refine lv_aload_n hx hb dX7_drawHold_0 rfl (lv_at hl 0 rfl) ?_
  refine va_get (D := D) (ci := 7) (v := .ref lt) (C := RX7) (T := TX7) (N := 6) hx hb hts inX7 hown hK hP 0 rfl rfl 3 (by decide) (hts (.fieldLink RX7 31 "LoanHouse" "lots" "LLoanHouse$Lots;") (List.mem_of_getElem? (i := 1) rfl)) (fun _ h9 => h9) rfl dX7_drawHold_1 ?_
  refine lv_bipush (v := 10) hx hb dX7_drawHold_4 (by decide) ?_
  refine k_i (wr := [(x, .inr (7, [.ref h, .ref ps, .ref im, .ref lt, .int u0, .int n0])), (h, .inr (4, [.ref k, .ref c, .ref o, .int tr])), (k, .inr (0, [.int now, .int tm, .int pt, .int cl])), (c, .inr (1, [.ref g1, .int 0])), (o, .inr (3, [.ref g2, .int (nI hc), .int nx])), (g2, .inr (2, [.int 12, .int 7, .ref a2])), (a2, .inl (cA2, 84, .inl f2))]) (va_runV (As := [.int 10]) (rest := []) ⟨hx, hb, hml, hown, hts⟩ (c_X5_below l D ss.heap.size lt y 10 hy (by decide)) (cwV 1 hts gX7_drawHold_X5_below rfl rfl rfl (by decide +kernel) ⟨(Nat.le_of_ble_eq_true rfl), (Nat.le_of_ble_eq_true rfl)⟩) ⟨mP_blind, va_recv hK hP (ci := 5) (q0 := 1) rfl rfl, m_pre _ hN hK hP hD [] rfl [1] rfl (by decide)⟩ rfl rfl hl.1 rfl (lv_room (Nat.le_of_ble_eq_true rfl)) dX7_drawHold_6 ⟨(Nat.le_of_ble_eq_true rfl), (Nat.le_of_ble_eq_true rfl)⟩) hP hD hS hA [1] [0, 2, 3, 4, 5, 6, 7] rfl rfl (by decide) (by decide) (fun r250 u H locs hw hK1 hP hD hS => ?_)
  have hP : va_P D vwCl [(x, .inr (7, [.ref h, .ref ps, .ref im, .ref lt, .int u0, .int n0])), (h, .inr (4, [.ref k, .ref c, .ref o, .int tr])), (k, .inr (0, [.int now, .int tm, .int pt, .int cl])), (c, .inr (1, [.ref g1, .int 0])), (o, .inr (3, [.ref g2, .int (nI hc), .int nx])), (g2, .inr (2, [.int 12, .int 7, .ref a2])), (a2, .inl (cA2, 84, .inl f2)), (lt, .inr (5, [.long (lN (nxN y))]))] H := hP
  have hD : va_D AA [(x, .inr (7, [.ref h, .ref ps, .ref im, .ref lt, .int u0, .int n0])), (h, .inr (4, [.ref k, .ref c, .ref o, .int tr])), (k, .inr (0, [.int now, .int tm, .int pt, .int cl])), (c, .inr (1, [.ref g1, .int 0])), (o, .inr (3, [.ref g2, .int (nI hc), .int nx])), (g2, .inr (2, [.int 12, .int 7, .ref a2])), (a2, .inl (cA2, 84, .inl f2)), (lt, .inr (5, [.long (lN (nxN y))]))] := hD
  try dsimp only at hw
  refine W.widen (k := 0) (n := 0) (Nat.le_of_ble_eq_true rfl) (Nat.le_of_ble_eq_true rfl) ?_
  obtain rfl := hw
  refine lv_istore_n (lv' := [(1, .int (nI (nxN y % 10))), (0, .ref x)]) hx hb dX7_drawHold_9 rfl hl (by decide) rfl (fun ls hl => ?_)
  refine lv_aload_n hx hb dX7_drawHold_10 rfl (lv_at hl 1 rfl) ?_
  refine va_get (D := D) (ci := 7) (v := .ref lt) (C := RX7) (T := TX7) (N := 6) hx hb hts inX7 hown hK hP 0 rfl rfl 3 (by decide) (hts (.fieldLink RX7 31 "LoanHouse" "lots" "LLoanHouse$Lots;") (List.mem_of_getElem? (i := 1) rfl)) (fun _ h9 => h9) rfl dX7_drawHold_11 ?_
  refine lv_bipush (v := 6) hx hb dX7_drawHold_14 (by decide) ?_
  refine k_i (wr := [(x, .inr (7, [.ref h, .ref ps, .ref im, .ref lt, .int u0, .int n0])), (h, .inr (4, [.ref k, .ref c, .ref o, .int tr])), (k, .inr (0, [.int now, .int tm, .int pt, .int cl])), (c, .inr (1, [.ref g1, .int 0])), (o, .inr (3, [.ref g2, .int (nI hc), .int nx])), (g2, .inr (2, [.int 12, .int 7, .ref a2])), (a2, .inl (cA2, 84, .inl f2))]) (va_runV (As := [.int 6]) (rest := []) ⟨hx, hb, hml, hown, hts⟩ (c_X5_below l D H.size lt (nxN y) 6 (nxN_lt _) (by decide)) (cwV 1 hts gX7_drawHold_X5_below rfl rfl rfl (by decide +kernel) ⟨(Nat.le_of_ble_eq_true rfl), (Nat.le_of_ble_eq_true rfl)⟩) ⟨mP_blind, va_recv hK hP (ci := 5) (q0 := 7) rfl rfl, m_pre _ hN hK hP hD [] rfl [7] rfl (by decide)⟩ rfl rfl hl.1 rfl (lv_room (Nat.le_of_ble_eq_true rfl)) dX7_drawHold_16 ⟨(Nat.le_of_ble_eq_true rfl), (Nat.le_of_ble_eq_true rfl)⟩) hP hD hS hA [7] [0, 1, 2, 3, 4, 5, 6] rfl rfl (by decide) (by decide) (fun r251 u H locs hw hK1 hP hD hS => ?_)
  have hP : va_P D vwCl [(x, .inr (7, [.ref h, .ref ps, .ref im, .ref lt, .int u0, .int n0])), (h, .inr (4, [.ref k, .ref c, .ref o, .int tr])), (k, .inr (0, [.int now, .int tm, .int pt, .int cl])), (c, .inr (1, [.ref g1, .int 0])), (o, .inr (3, [.ref g2, .int (nI hc), .int nx])), (g2, .inr (2, [.int 12, .int 7, .ref a2])), (a2, .inl (cA2, 84, .inl f2)), (lt, .inr (5, [.long (lN (nxN (nxN y)))]))] H := hP
  have hD : va_D AA [(x, .inr (7, [.ref h, .ref ps, .ref im, .ref lt, .int u0, .int n0])), (h, .inr (4, [.ref k, .ref c, .ref o, .int tr])), (k, .inr (0, [.int now, .int tm, .int pt, .int cl])), (c, .inr (1, [.ref g1, .int 0])), (o, .inr (3, [.ref g2, .int (nI hc), .int nx])), (g2, .inr (2, [.int 12, .int 7, .ref a2])), (a2, .inl (cA2, 84, .inl f2)), (lt, .inr (5, [.long (lN (nxN (nxN y)))]))] := hD
  try dsimp only at hw
  refine W.widen (k := 0) (n := 0) (Nat.le_of_ble_eq_true rfl) (Nat.le_of_ble_eq_true rfl) ?_
  obtain rfl := hw
  refine lv_istore_n (lv' := [(2, .int (nI (nxN (nxN y) % 6))), (1, .int (nI (nxN y % 10))), (0, .ref x)]) hx hb dX7_drawHold_19 rfl hl (by decide) rfl (fun ls hl => ?_)
  refine lv_aload_n hx hb dX7_drawHold_20 rfl (lv_at hl 2 rfl) ?_
  refine va_get (D := D) (ci := 7) (v := .ref lt) (C := RX7) (T := TX7) (N := 6) hx hb hts inX7 hown hK hP 0 rfl rfl 3 (by decide) (hts (.fieldLink RX7 31 "LoanHouse" "lots" "LLoanHouse$Lots;") (List.mem_of_getElem? (i := 1) rfl)) (fun _ h9 => h9) rfl dX7_drawHold_21 ?_
  refine lv_iconst (v := 4) hx hb dX7_drawHold_24 (by decide) ?_
  refine k_i (wr := [(x, .inr (7, [.ref h, .ref ps, .ref im, .ref lt, .int u0, .int n0])), (h, .inr (4, [.ref k, .ref c, .ref o, .int tr])), (k, .inr (0, [.int now, .int tm, .int pt, .int cl])), (c, .inr (1, [.ref g1, .int 0])), (o, .inr (3, [.ref g2, .int (nI hc), .int nx])), (g2, .inr (2, [.int 12, .int 7, .ref a2])), (a2, .inl (cA2, 84, .inl f2))]) (va_runV (As := [.int 4]) (rest := []) ⟨hx, hb, hml, hown, hts⟩ (c_X5_below l D H.size lt (nxN (nxN y)) 4 (nxN_lt _) (by decide)) (cwV 1 hts gX7_drawHold_X5_below rfl rfl rfl (by decide +kernel) ⟨(Nat.le_of_ble_eq_true rfl), (Nat.le_of_ble_eq_true rfl)⟩) ⟨mP_blind, va_recv hK hP (ci := 5) (q0 := 7) rfl rfl, m_pre _ hN hK hP hD [] rfl [7] rfl (by decide)⟩ rfl rfl hl.1 rfl (lv_room (Nat.le_of_ble_eq_true rfl)) dX7_drawHold_25 ⟨(Nat.le_of_ble_eq_true rfl), (Nat.le_of_ble_eq_true rfl)⟩) hP hD hS hA [7] [0, 1, 2, 3, 4, 5, 6] rfl rfl (by decide) (by decide) (fun r252 u H locs hw hK1 hP hD hS => ?_)
  have hP : va_P D vwCl [(x, .inr (7, [.ref h, .ref ps, .ref im, .ref lt, .int u0, .int n0])), (h, .inr (4, [.ref k, .ref c, .ref o, .int tr])), (k, .inr (0, [.int now, .int tm, .int pt, .int cl])), (c, .inr (1, [.ref g1, .int 0])), (o, .inr (3, [.ref g2, .int (nI hc), .int nx])), (g2, .inr (2, [.int 12, .int 7, .ref a2])), (a2, .inl (cA2, 84, .inl f2)), (lt, .inr (5, [.long (lN (nxN (nxN (nxN y))))]))] H := hP
  have hD : va_D AA [(x, .inr (7, [.ref h, .ref ps, .ref im, .ref lt, .int u0, .int n0])), (h, .inr (4, [.ref k, .ref c, .ref o, .int tr])), (k, .inr (0, [.int now, .int tm, .int pt, .int cl])), (c, .inr (1, [.ref g1, .int 0])), (o, .inr (3, [.ref g2, .int (nI hc), .int nx])), (g2, .inr (2, [.int 12, .int 7, .ref a2])), (a2, .inl (cA2, 84, .inl f2)), (lt, .inr (5, [.long (lN (nxN (nxN (nxN y))))]))] := hD
  try dsimp only at hw
  refine W.widen (k := 0) (n := 0) (Nat.le_of_ble_eq_true rfl) (Nat.le_of_ble_eq_true rfl) ?_
  obtain rfl := hw
  refine lv_istore_n (lv' := [(3, .int (nI (nxN (nxN (nxN y)) % 4))), (2, .int (nI (nxN (nxN y) % 6))), (1, .int (nI (nxN y % 10))), (0, .ref x)]) hx hb dX7_drawHold_28 rfl hl (by decide) rfl (fun ls hl => ?_)
  refine lv_aload_n hx hb dX7_drawHold_29 rfl (lv_at hl 3 rfl) ?_
  refine va_get (D := D) (ci := 7) (v := .ref lt) (C := RX7) (T := TX7) (N := 6) hx hb hts inX7 hown hK hP 0 rfl rfl 3 (by decide) (hts (.fieldLink RX7 31 "LoanHouse" "lots" "LLoanHouse$Lots;") (List.mem_of_getElem? (i := 1) rfl)) (fun _ h9 => h9) rfl dX7_drawHold_30 ?_
  refine lv_iconst (v := 4) hx hb dX7_drawHold_33 (by decide) ?_
  refine k_i (wr := [(x, .inr (7, [.ref h, .ref ps, .ref im, .ref lt, .int u0, .int n0])), (h, .inr (4, [.ref k, .ref c, .ref o, .int tr])), (k, .inr (0, [.int now, .int tm, .int pt, .int cl])), (c, .inr (1, [.ref g1, .int 0])), (o, .inr (3, [.ref g2, .int (nI hc), .int nx])), (g2, .inr (2, [.int 12, .int 7, .ref a2])), (a2, .inl (cA2, 84, .inl f2))]) (va_runV (As := [.int 4]) (rest := []) ⟨hx, hb, hml, hown, hts⟩ (c_X5_below l D H.size lt (nxN (nxN (nxN y))) 4 (nxN_lt _) (by decide)) (cwV 1 hts gX7_drawHold_X5_below rfl rfl rfl (by decide +kernel) ⟨(Nat.le_of_ble_eq_true rfl), (Nat.le_of_ble_eq_true rfl)⟩) ⟨mP_blind, va_recv hK hP (ci := 5) (q0 := 7) rfl rfl, m_pre _ hN hK hP hD [] rfl [7] rfl (by decide)⟩ rfl rfl hl.1 rfl (lv_room (Nat.le_of_ble_eq_true rfl)) dX7_drawHold_34 ⟨(Nat.le_of_ble_eq_true rfl), (Nat.le_of_ble_eq_true rfl)⟩) hP hD hS hA [7] [0, 1, 2, 3, 4, 5, 6] rfl rfl (by decide) (by decide) (fun r253 u H locs hw hK1 hP hD hS => ?_)
  have hP : va_P D vwCl [(x, .inr (7, [.ref h, .ref ps, .ref im, .ref lt, .int u0, .int n0])), (h, .inr (4, [.ref k, .ref c, .ref o, .int tr])), (k, .inr (0, [.int now, .int tm, .int pt, .int cl])), (c, .inr (1, [.ref g1, .int 0])), (o, .inr (3, [.ref g2, .int (nI hc), .int nx])), (g2, .inr (2, [.int 12, .int 7, .ref a2])), (a2, .inl (cA2, 84, .inl f2)), (lt, .inr (5, [.long (lN (nxN (nxN (nxN (nxN y)))))]))] H := hP
  have hD : va_D AA [(x, .inr (7, [.ref h, .ref ps, .ref im, .ref lt, .int u0, .int n0])), (h, .inr (4, [.ref k, .ref c, .ref o, .int tr])), (k, .inr (0, [.int now, .int tm, .int pt, .int cl])), (c, .inr (1, [.ref g1, .int 0])), (o, .inr (3, [.ref g2, .int (nI hc), .int nx])), (g2, .inr (2, [.int 12, .int 7, .ref a2])), (a2, .inl (cA2, 84, .inl f2)), (lt, .inr (5, [.long (lN (nxN (nxN (nxN (nxN y)))))]))] := hD
  try dsimp only at hw
  refine W.widen (k := 0) (n := 0) (Nat.le_of_ble_eq_true rfl) (Nat.le_of_ble_eq_true rfl) ?_
  obtain rfl := hw
  refine lv_istore (lv' := [(4, .int (nI (nxN (nxN (nxN (nxN y))) % 4))), (3, .int (nI (nxN (nxN (nxN y)) % 4))), (2, .int (nI (nxN (nxN y) % 6))), (1, .int (nI (nxN y % 10))), (0, .ref x)]) hx hb dX7_drawHold_37 hl (by decide) rfl (fun ls hl => ?_)
  refine lv_aload_n hx hb dX7_drawHold_39 rfl (lv_at hl 4 rfl) ?_
  refine lv_iload_n hx hb dX7_drawHold_40 rfl (lv_at hl 3 rfl) ?_
  refine lv_iload_n hx hb dX7_drawHold_41 rfl (lv_at hl 2 rfl) ?_
  refine lv_iload_n hx hb dX7_drawHold_42 rfl (lv_at hl 1 rfl) ?_
  refine lv_iload hx hb dX7_drawHold_43 (lv_at hl 0 rfl) ?_
  refine k_pi (va_runV (As := [.int (nI (nxN y % 10)), .int (nI (nxN (nxN y) % 6)), .int (nI (nxN (nxN (nxN y)) % 4)), .int (nI (nxN (nxN (nxN (nxN y))) % 4))]) (rest := []) ⟨hx, hb, hml, hown, hts⟩ (c_X7_refusalToHold l D H.size x h ps im lt k c o g1 g2 a2 cA2 hc u0 n0 tr nx f2 (nI (nxN y % 10)) (nI (nxN (nxN y) % 6)) (nI (nxN (nxN (nxN y)) % 4)) (nI (nxN (nxN (nxN (nxN y))) % 4)) hh) (cwV 4 hts gX7_drawHold_X7_refusalToHold rfl rfl rfl (by decide +kernel) ⟨(Nat.le_of_ble_eq_true rfl), (Nat.le_of_ble_eq_true rfl)⟩) ⟨mP_blind, va_recv hK hP (ci := 7) (q0 := 0) rfl rfl, m_pre _ hN hK hP hD [0] rfl [0, 1, 3, 4, 5, 6] rfl (by decide)⟩ rfl rfl hl.1 rfl (lv_room (Nat.le_of_ble_eq_true rfl)) dX7_drawHold_45 ⟨(Nat.le_of_ble_eq_true rfl), (Nat.le_of_ble_eq_true rfl)⟩) hP hD hS hA [0, 1, 3, 4, 5, 6] rfl (fun r254 u H locs hw hP hS => ?_)
  rcases hw with ⟨rfl, zw45⟩ | ⟨rfl, zw45⟩ | ⟨rfl, zw45⟩ | ⟨rfl, zw45⟩ | ⟨rfl, zw45⟩
  · refine lv_if_ne (tgt := 64) hx hb dX7_drawHold_48 (by decide) (fun zc48 => ?_) (fun hc => absurd hc (by decide))
    exact hret (hc, nx, f2) (hh) (m_P hP (is := [0, 7, 1, 2, 3, 4, 5, 6]) rfl) (hK.sub [] rfl) (hD.sub [0, 7, 1, 2, 3, 4, 5, 6] (by decide) rfl) hS (Nat.le_of_ble_eq_true rfl) (Nat.le_of_ble_eq_true rfl) dX7_drawHold_64
  · refine lv_if_ne (tgt := 64) hx hb dX7_drawHold_48 (by decide) (fun zc48 => ?_) (fun hc => absurd hc (by decide))
    exact hret (hc, nx, f2) (hh) (m_P hP (is := [0, 7, 1, 2, 3, 4, 5, 6]) rfl) (hK.sub [] rfl) (hD.sub [0, 7, 1, 2, 3, 4, 5, 6] (by decide) rfl) hS (Nat.le_of_ble_eq_true rfl) (Nat.le_of_ble_eq_true rfl) dX7_drawHold_64
  · refine lv_if_ne (tgt := 64) hx hb dX7_drawHold_48 (by decide) (fun hc => absurd (by decide) hc) (fun zc48 => ?_)
    refine lv_aload_n hx hb dX7_drawHold_51 rfl (lv_at hl 4 rfl) ?_
    refine va_get (D := D) (ci := 7) (v := .ref h) (C := RX7) (T := TX7) (N := 6) hx hb hts inX7 hown hK hP 0 rfl rfl 0 (by decide) (hts (.fieldLink RX7 10 "LoanHouse" "house" "LLoanHouse$House;") (List.mem_of_getElem? (i := 2) rfl)) (fun _ h9 => h9) rfl dX7_drawHold_52 ?_
    refine lv_iload_n hx hb dX7_drawHold_55 rfl (lv_at hl 3 rfl) ?_
    refine lv_iload_n hx hb dX7_drawHold_56 rfl (lv_at hl 2 rfl) ?_
    refine lv_iload_n hx hb dX7_drawHold_57 rfl (lv_at hl 1 rfl) ?_
    refine lv_iload hx hb dX7_drawHold_58 (lv_at hl 0 rfl) ?_
    refine k_i (wr := [(x, .inr (7, [.ref h, .ref ps, .ref im, .ref lt, .int u0, .int n0])), (lt, .inr (5, [.long (lN (nxN (nxN (nxN (nxN y)))))]))]) (va_runV (As := [.int (nI (nxN y % 10)), .int (nI (nxN (nxN y) % 6)), .int (nI (nxN (nxN (nxN y)) % 4)), .int (nI (nxN (nxN (nxN (nxN y))) % 4))]) (rest := []) ⟨hx, hb, hml, hown, hts⟩ (c_X4_addHold l D H.size h k c g1 o g2 a2 cA2 hc now tm pt cl nx tr f2 (nI (nxN y % 10)) (nI (nxN (nxN y) % 6)) (nI (nxN (nxN (nxN y)) % 4)) (nI (nxN (nxN (nxN (nxN y))) % 4)) zw45.2.2) (cwV 4 hts gX7_drawHold_X4_addHold rfl rfl rfl (by decide +kernel) ⟨(Nat.le_of_ble_eq_true rfl), (Nat.le_of_ble_eq_true rfl)⟩) ⟨mP_blind, va_recv hK hP (ci := 4) (q0 := 1) rfl rfl, m_pre _ hN hK hP hD [0] rfl [1, 2, 3, 4, 5, 6] rfl (by decide)⟩ rfl rfl hl.1 rfl (lv_room (Nat.le_of_ble_eq_true rfl)) dX7_drawHold_60 ⟨(Nat.le_of_ble_eq_true rfl), (Nat.le_of_ble_eq_true rfl)⟩) hP hD hS hA [1, 2, 3, 4, 5, 6] [0, 7] rfl rfl (by decide) (by decide) (fun r255 u H locs hw hK1 hP hD hS => ?_)
    obtain ⟨f256, rfl⟩ : ∃ z, z = u := ⟨_, rfl⟩
    have hP : va_P D vwCl [(x, .inr (7, [.ref h, .ref ps, .ref im, .ref lt, .int u0, .int n0])), (lt, .inr (5, [.long (lN (nxN (nxN (nxN (nxN y)))))])), (h, .inr (4, [.ref k, .ref c, .ref o, .int tr])), (k, .inr (0, [.int now, .int tm, .int pt, .int cl])), (c, .inr (1, [.ref g1, .int 0])), (o, .inr (3, [.ref g2, .int (nI (hc + 1)), .int (nx + 1)])), (g2, .inr (2, [.int 12, .int 7, .ref a2])), (a2, .inl (cA2, 84, .inl f256))] H := hP
    have hD : va_D AA [(x, .inr (7, [.ref h, .ref ps, .ref im, .ref lt, .int u0, .int n0])), (lt, .inr (5, [.long (lN (nxN (nxN (nxN (nxN y)))))])), (h, .inr (4, [.ref k, .ref c, .ref o, .int tr])), (k, .inr (0, [.int now, .int tm, .int pt, .int cl])), (c, .inr (1, [.ref g1, .int 0])), (o, .inr (3, [.ref g2, .int (nI (hc + 1)), .int (nx + 1)])), (g2, .inr (2, [.int 12, .int 7, .ref a2])), (a2, .inl (cA2, 84, .inl f256))] := hD
    try dsimp only at hw
    refine W.widen (k := 0) (n := 0) (Nat.le_of_ble_eq_true rfl) (Nat.le_of_ble_eq_true rfl) ?_
    have eR := hw.symm
    subst eR
    refine lv_pop hx hb dX7_drawHold_63 rfl ?_
    exact hret ((hc + 1), (nx + 1), f256) (by have := zw45.2.2; show hc + 1 ≤ 12; omega) (m_P hP (is := [0, 1, 2, 3, 4, 5, 6, 7]) rfl) (hK.sub [] rfl) (hD.sub [0, 1, 2, 3, 4, 5, 6, 7] (by decide) rfl) hS (Nat.le_of_ble_eq_true rfl) (Nat.le_of_ble_eq_true rfl) dX7_drawHold_64
  · refine lv_if_ne (tgt := 64) hx hb dX7_drawHold_48 (by decide) (fun zc48 => ?_) (fun hc => absurd hc (by decide))
    exact hret (hc, nx, f2) (hh) (m_P hP (is := [0, 7, 1, 2, 3, 4, 5, 6]) rfl) (hK.sub [] rfl) (hD.sub [0, 7, 1, 2, 3, 4, 5, 6] (by decide) rfl) hS (Nat.le_of_ble_eq_true rfl) (Nat.le_of_ble_eq_true rfl) dX7_drawHold_64
  · refine lv_if_ne (tgt := 64) hx hb dX7_drawHold_48 (by decide) (fun zc48 => ?_) (fun hc => absurd hc (by decide))
    exact hret (hc, nx, f2) (hh) (m_P hP (is := [0, 7, 1, 2, 3, 4, 5, 6]) rfl) (hK.sub [] rfl) (hD.sub [0, 7, 1, 2, 3, 4, 5, 6] (by decide) rfl) hS (Nat.le_of_ble_eq_true rfl) (Nat.le_of_ble_eq_true rfl) dX7_drawHold_64
set_option maxHeartbeats 4000000 in
set_option maxRecDepth 100000 in
theorem c_X7_drift (l : Launch) (D : va_G) (sz : Nat) (x ps pa im lt : Nat) (cP : ClassId) (h k c g1 a1 o g2 a2 : Nat) (cA1 cA2 : ClassId) (f1 f2 : Nat → Int32) (y0 : Int64) (v w : Int32) : mI l yX7_drift wsX7_drift (rk 6 8 183) D [.ref x, .int v, .int w] [(cP, .object "LoanHouse$House"), (cA1, .int), (cA2, .int)] sz [(x, .inr (7, [.ref h, .ref ps, .ref im, .ref lt, .int 0, .int 0])), (ps, .inr (6, [.ref pa])), (pa, .inl (cP, 8, .inr (.inr (.inr (.inr (fun _ => none)))))), (h, .inr (4, [.ref k, .ref c, .ref o, .int 0])), (k, .inr (0, [.int 0, .int 14, .int 3, .int 64])), (c, .inr (1, [.ref g1, .int 0])), (g1, .inr (2, [.int 16, .int 5, .ref a1])), (a1, .inl (cA1, 80, .inl f1)), (o, .inr (3, [.ref g2, .int 0, .int 0])), (g2, .inr (2, [.int 12, .int 7, .ref a2])), (a2, .inl (cA2, 84, .inl f2)), (lt, .inr (5, [.long y0]))] (S := Unit) (fun r _ => q2 (p_dr v w) (nI (drN v.toNatClampNeg w.toNatClampNeg 0)) (-1000000002) r) (fun _ => []) (fun _ => []) := by
  refine mI_of (cc := cX7_drift) (maxL := 4) (ty := .int) (plainFor_of_name (by decide)) rfl (Nat.le_of_ble_eq_true rfl) ?_
  intro pp ee ss mm bl mt cd AA QQ hx hb hml hts hown hN hA hK hP hD hS hret ls hl
  have hl : lv_has ls 4 [(0, .ref x), (1, .int v), (2, .int w)] := hl
  have inX0 : ∀ w ∈ wsX00, w ∈ wsX7_drift := fun _ h => List.mem_cons_of_mem _ (List.mem_append_left _ (List.mem_append_left _ (List.mem_append_left _ (List.mem_append_left _ (List.mem_append_left _ (List.mem_append_right _ h))))))
  have inX4 : ∀ w ∈ wsX40, w ∈ wsX7_drift := fun _ h => List.mem_cons_of_mem _ (List.mem_append_left _ (List.mem_append_left _ (List.mem_append_left _ (List.mem_append_left _ (List.mem_append_left _ (List.mem_append_left _ (List.mem_append_right _ h)))))))
  have inX7 : ∀ w ∈ wsX70, w ∈ wsX7_drift := fun _ h => List.mem_cons_of_mem _ (List.mem_append_left _ (List.mem_append_left _ (List.mem_append_left _ (List.mem_append_left _ (List.mem_append_left _ (List.mem_append_left _ (List.mem_append_left _ (List.mem_append_right _ h))))))))
  refine lv_iload_n hx hb dX7_drift_0 rfl (lv_at hl 1 rfl) ?_
  refine lv_iconst (v := 1) hx hb dX7_drift_1 (by decide) ?_
  refine lv_icmp_lt (tgt := 22) hx hb dX7_drift_2 (by decide) (fun zc2 => ?_) (fun zc2 => ?_)
  · refine lv_ldc hx hb hown (hts (.constant RX7 110 (-1000000002)) (List.mem_of_getElem? (i := 2) rfl)) dX7_drift_22 ?_
    exact hret (-1000000002) () rfl (Or.inr ⟨fun q => n_lt zc2 q.1, rfl⟩) (m_P hP (is := []) rfl) (hK.sub [] rfl) (hD.sub [] (by decide) rfl) hS (Nat.le_of_ble_eq_true rfl) (Nat.le_of_ble_eq_true rfl) dX7_drift_24
  · refine lv_iload_n hx hb dX7_drift_5 rfl (lv_at hl 1 rfl) ?_
    refine lv_bipush (v := 20) hx hb dX7_drift_6 (by decide) ?_
    refine lv_icmp_gt (tgt := 22) hx hb dX7_drift_8 (by decide) (fun zc8 => ?_) (fun zc8 => ?_)
    · refine lv_ldc hx hb hown (hts (.constant RX7 110 (-1000000002)) (List.mem_of_getElem? (i := 2) rfl)) dX7_drift_22 ?_
      exact hret (-1000000002) () rfl (Or.inr ⟨fun q => n_lt zc8 q.2.1, rfl⟩) (m_P hP (is := []) rfl) (hK.sub [] rfl) (hD.sub [] (by decide) rfl) hS (Nat.le_of_ble_eq_true rfl) (Nat.le_of_ble_eq_true rfl) dX7_drift_24
    · refine lv_iload_n hx hb dX7_drift_11 rfl (lv_at hl 2 rfl) ?_
      refine lv_iconst (v := 1) hx hb dX7_drift_12 (by decide) ?_
      refine lv_icmp_lt (tgt := 22) hx hb dX7_drift_13 (by decide) (fun zc13 => ?_) (fun zc13 => ?_)
      · refine lv_ldc hx hb hown (hts (.constant RX7 110 (-1000000002)) (List.mem_of_getElem? (i := 2) rfl)) dX7_drift_22 ?_
        exact hret (-1000000002) () rfl (Or.inr ⟨fun q => n_lt zc13 q.2.2.1, rfl⟩) (m_P hP (is := []) rfl) (hK.sub [] rfl) (hD.sub [] (by decide) rfl) hS (Nat.le_of_ble_eq_true rfl) (Nat.le_of_ble_eq_true rfl) dX7_drift_24
      · refine lv_iload_n hx hb dX7_drift_16 rfl (lv_at hl 2 rfl) ?_
        refine lv_ldc hx hb hown (hts (.constant RX7 129 (999999)) (List.mem_of_getElem? (i := 1) rfl)) dX7_drift_17 ?_
        refine lv_icmp_le (tgt := 25) hx hb dX7_drift_19 (by decide) (fun zc19 => ?_) (fun zc19 => ?_)
        · obtain ⟨k0, hk1, hk2, rfl⟩ := dn_of zc2 zc8
          obtain ⟨sd, hs1, hs2, rfl⟩ := ds_of zc13 zc19
          refine lv_aload_n hx hb dX7_drift_25 rfl (lv_at hl 0 rfl) ?_
          refine k_v (wr := [(lt, .inr (5, [.long y0]))]) (va_runV (As := []) (rest := []) ⟨hx, hb, hml, hown, hts⟩ (c_X7_remember l D ss.heap.size x ps pa im lt cP h k c g1 a1 o g2 a2 cA1 cA2 0 14 3 64 0 0 0 0 f1 f2 ) (cwV 0 hts gX7_drift_X7_remember rfl rfl rfl (by decide +kernel) ⟨(Nat.le_of_ble_eq_true rfl), (Nat.le_of_ble_eq_true rfl)⟩) ⟨mP_blind, va_recv hK hP (ci := 7) (q0 := 0) rfl rfl, m_pre _ hN hK hP hD [0, 1, 2] rfl [0, 1, 2, 3, 4, 5, 6, 7, 8, 9, 10] rfl (by decide)⟩ rfl rfl hl.1 rfl (lv_room (Nat.le_of_ble_eq_true rfl)) dX7_drift_26 ⟨(Nat.le_of_ble_eq_true rfl), (Nat.le_of_ble_eq_true rfl)⟩) hP hD hS hA [0, 1, 2, 3, 4, 5, 6, 7, 8, 9, 10] [11] rfl rfl (by decide) (by decide) (fun u H locs hw hK1 hP hD hS => ?_)
          obtain ⟨np258, rfl⟩ : ∃ z, z = u := ⟨_, rfl⟩
          have hP : va_P D vwCl [(lt, .inr (5, [.long y0])), (x, .inr (7, [.ref h, .ref ps, .ref im, .ref lt, .int 1, .int np258])), (h, .inr (4, [.ref k, .ref c, .ref o, .int 0])), (k, .inr (0, [.int 0, .int 14, .int 3, .int 64])), (c, .inr (1, [.ref g1, .int 0])), (g1, .inr (2, [.int 16, .int 5, .ref a1])), (a1, .inl (cA1, 80, .inl f1)), (o, .inr (3, [.ref g2, .int 0, .int 0])), (g2, .inr (2, [.int 12, .int 7, .ref a2])), (a2, .inl (cA2, 84, .inl f2))] H := hP
          have hD : va_D AA [(lt, .inr (5, [.long y0])), (x, .inr (7, [.ref h, .ref ps, .ref im, .ref lt, .int 1, .int np258])), (h, .inr (4, [.ref k, .ref c, .ref o, .int 0])), (k, .inr (0, [.int 0, .int 14, .int 3, .int 64])), (c, .inr (1, [.ref g1, .int 0])), (g1, .inr (2, [.int 16, .int 5, .ref a1])), (a1, .inl (cA1, 80, .inl f1)), (o, .inr (3, [.ref g2, .int 0, .int 0])), (g2, .inr (2, [.int 12, .int 7, .ref a2])), (a2, .inl (cA2, 84, .inl f2))] := hD
          try dsimp only at hw
          refine W.widen (k := 8) (n := 183) (Nat.le_of_ble_eq_true rfl) (Nat.le_of_ble_eq_true rfl) ?_
          refine lv_aload_n hx hb dX7_drift_29 rfl (lv_at hl 0 rfl) ?_
          refine va_get (D := D) (ci := 7) (v := .ref lt) (C := RX7) (T := TX7) (N := 6) hx hb hts inX7 hown hK hP 1 rfl rfl 3 (by decide) (hts (.fieldLink RX7 31 "LoanHouse" "lots" "LLoanHouse$Lots;") (List.mem_of_getElem? (i := 3) rfl)) (fun _ h9 => h9) rfl dX7_drift_30 ?_
          refine lv_iload_n hx hb dX7_drift_33 rfl (lv_at hl 2 rfl) ?_
          refine k_v (wr := [(x, .inr (7, [.ref h, .ref ps, .ref im, .ref lt, .int 1, .int np258])), (h, .inr (4, [.ref k, .ref c, .ref o, .int 0])), (k, .inr (0, [.int 0, .int 14, .int 3, .int 64])), (c, .inr (1, [.ref g1, .int 0])), (g1, .inr (2, [.int 16, .int 5, .ref a1])), (a1, .inl (cA1, 80, .inl f1)), (o, .inr (3, [.ref g2, .int 0, .int 0])), (g2, .inr (2, [.int 12, .int 7, .ref a2])), (a2, .inl (cA2, 84, .inl f2))]) (va_runV (As := [.int (nI sd)]) (rest := []) ⟨hx, hb, hml, hown, hts⟩ (c_X5_begin l D H.size lt y0 sd (by omega)) (cwV 1 hts gX7_drift_X5_begin rfl rfl rfl (by decide +kernel) ⟨(Nat.le_of_ble_eq_true rfl), (Nat.le_of_ble_eq_true rfl)⟩) ⟨mP_blind, va_recv hK hP (ci := 5) (q0 := 0) rfl rfl, m_pre _ hN hK hP hD [] rfl [0] rfl (by decide)⟩ rfl rfl hl.1 rfl (lv_room (Nat.le_of_ble_eq_true rfl)) dX7_drift_34 ⟨(Nat.le_of_ble_eq_true rfl), (Nat.le_of_ble_eq_true rfl)⟩) hP hD hS hA [0] [1, 2, 3, 4, 5, 6, 7, 8, 9] rfl rfl (by decide) (by decide) (fun u H locs hw hK1 hP hD hS => ?_)
          have hP : va_P D vwCl [(x, .inr (7, [.ref h, .ref ps, .ref im, .ref lt, .int 1, .int np258])), (h, .inr (4, [.ref k, .ref c, .ref o, .int 0])), (k, .inr (0, [.int 0, .int 14, .int 3, .int 64])), (c, .inr (1, [.ref g1, .int 0])), (g1, .inr (2, [.int 16, .int 5, .ref a1])), (a1, .inl (cA1, 80, .inl f1)), (o, .inr (3, [.ref g2, .int 0, .int 0])), (g2, .inr (2, [.int 12, .int 7, .ref a2])), (a2, .inl (cA2, 84, .inl f2)), (lt, .inr (5, [.long (lN sd)]))] H := hP
          have hD : va_D AA [(x, .inr (7, [.ref h, .ref ps, .ref im, .ref lt, .int 1, .int np258])), (h, .inr (4, [.ref k, .ref c, .ref o, .int 0])), (k, .inr (0, [.int 0, .int 14, .int 3, .int 64])), (c, .inr (1, [.ref g1, .int 0])), (g1, .inr (2, [.int 16, .int 5, .ref a1])), (a1, .inl (cA1, 80, .inl f1)), (o, .inr (3, [.ref g2, .int 0, .int 0])), (g2, .inr (2, [.int 12, .int 7, .ref a2])), (a2, .inl (cA2, 84, .inl f2)), (lt, .inr (5, [.long (lN sd)]))] := hD
          try dsimp only at hw
          refine W.widen (k := 8) (n := 183) (Nat.le_of_ble_eq_true rfl) (Nat.le_of_ble_eq_true rfl) ?_
          refine lv_iconst (v := 0) hx hb dX7_drift_37 (by decide) ?_
          refine lv_istore_n (lv' := [(3, .int 0), (0, .ref x), (1, .int (nI k0)), (2, .int (nI sd))]) hx hb dX7_drift_38 rfl hl (by decide) rfl (fun ls hl => ?_)
          have lp : ∀ (fu : Nat) (i y d hc : Nat) (nx : Int32) (fh : Nat → Int32), (i ≤ k0) → (y < 2147483647) → (hc ≤ 12) → (drN (k0 - i) y d = drN k0 sd 0) → (k0 < i + fu) → ∀ (H : Heap) (locs : List Loc) (ls : Array Slot), va_P D vwCl [(x, .inr (7, [.ref h, .ref ps, .ref im, .ref lt, .int 1, .int np258])), (lt, .inr (5, [.long (lN y)])), (h, .inr (4, [.ref k, .ref c, .ref o, .int 0])), (k, .inr (0, [.int (nI d), .int 14, .int 3, .int 64])), (c, .inr (1, [.ref g1, .int 0])), (o, .inr (3, [.ref g2, .int (nI hc), .int nx])), (g2, .inr (2, [.int 12, .int 7, .ref a2])), (a2, .inl (cA2, 84, .inl fh))] H → va_D AA [(x, .inr (7, [.ref h, .ref ps, .ref im, .ref lt, .int 1, .int np258])), (lt, .inr (5, [.long (lN y)])), (h, .inr (4, [.ref k, .ref c, .ref o, .int 0])), (k, .inr (0, [.int (nI d), .int 14, .int 3, .int 64])), (c, .inr (1, [.ref g1, .int 0])), (o, .inr (3, [.ref g2, .int (nI hc), .int nx])), (g2, .inr (2, [.int 12, .int 7, .ref a2])), (a2, .inl (cA2, 84, .inl fh))] → va_S AA ss.heap H locs → lv_has ls 4 [(3, .int (nI i)), (0, .ref x), (1, .int (nI k0))] → W pp l ee (rk 6 8 183) ss mm ([.ref x, .int (nI k0), .int (nI sd)] : List Value).toArray bl mt cd H locs 8 183 QQ (F0 mm 39 ls []) := by
            intro fu
            induction fu with
            | zero =>
              intro i y d hc nx fh hi hy hh hV hf H locs ls hP hD hS hl
              exact absurd hf (by omega)
            | succ fu ih =>
              intro i y d hc nx fh hi hy hh hV hf H locs ls hP hD hS hl
              refine lv_iload_n hx hb dX7_drift_39 rfl (lv_at hl 0 rfl) ?_
              refine lv_iload_n hx hb dX7_drift_40 rfl (lv_at hl 2 rfl) ?_
              refine lv_icmp_ge (tgt := 114) hx hb dX7_drift_41 (by decide) (fun zc41 => ?_) (fun zc41 => ?_)
              · refine lv_aload_n hx hb dX7_drift_114 rfl (lv_at hl 1 rfl) ?_
                refine va_get (D := D) (ci := 7) (v := .ref h) (C := RX7) (T := TX7) (N := 6) hx hb hts inX7 hown hK hP 0 rfl rfl 0 (by decide) (hts (.fieldLink RX7 10 "LoanHouse" "house" "LLoanHouse$House;") (List.mem_of_getElem? (i := 4) rfl)) (fun _ h9 => h9) rfl dX7_drift_115 ?_
                refine va_getN (D := D) (ci := 4) (v := .ref k) (host := "LoanHouse") (C := RX4) (T := TX4) (N := 4) hx hb hts inX4 hown hK hP 2 rfl rfl 0 (by decide) (va_Nw.use rfl (hN.at 9 rfl)) (fun _ h9 => h9) rfl dX7_drift_118 ?_
                refine va_getN (D := D) (ci := 0) (v := .int (nI d)) (host := "LoanHouse") (C := RX0) (T := TX0) (N := 4) hx hb hts inX0 hown hK hP 3 rfl rfl 0 (by decide) (va_Nw.use rfl (hN.at 1 rfl)) (fun _ h9 => h9) rfl dX7_drift_121 ?_
                exact hret (nI d) () rfl (Or.inl ⟨dr_ok hk1 hk2 hs1 hs2, by rw [nI_clamp (by omega), nI_clamp (by omega), ← hV, show k0 - i = 0 from by rcases Nat.lt_or_ge i k0 with q | q; exact absurd zc41 (nI_ge q (by omega)); omega]; rfl⟩) (m_P hP (is := []) rfl) (hK.sub [] rfl) (hD.sub [] (by decide) rfl) hS (Nat.le_of_ble_eq_true rfl) (Nat.le_of_ble_eq_true rfl) dX7_drift_124
              · refine lv_aload_n hx hb dX7_drift_44 rfl (lv_at hl 1 rfl) ?_
                refine va_get (D := D) (ci := 7) (v := .ref lt) (C := RX7) (T := TX7) (N := 6) hx hb hts inX7 hown hK hP 0 rfl rfl 3 (by decide) (hts (.fieldLink RX7 31 "LoanHouse" "lots" "LLoanHouse$Lots;") (List.mem_of_getElem? (i := 3) rfl)) (fun _ h9 => h9) rfl dX7_drift_45 ?_
                refine lv_iconst (v := 4) hx hb dX7_drift_48 (by decide) ?_
                refine k_i (wr := [(x, .inr (7, [.ref h, .ref ps, .ref im, .ref lt, .int 1, .int np258])), (h, .inr (4, [.ref k, .ref c, .ref o, .int 0])), (k, .inr (0, [.int (nI d), .int 14, .int 3, .int 64])), (c, .inr (1, [.ref g1, .int 0])), (o, .inr (3, [.ref g2, .int (nI hc), .int nx])), (g2, .inr (2, [.int 12, .int 7, .ref a2])), (a2, .inl (cA2, 84, .inl fh))]) (va_runV (As := [.int 4]) (rest := []) ⟨hx, hb, hml, hown, hts⟩ (c_X5_below l D H.size lt y 4 hy (by decide)) (cwV 1 hts gX7_drift_X5_below rfl rfl rfl (by decide +kernel) ⟨(Nat.le_of_ble_eq_true rfl), (Nat.le_of_ble_eq_true rfl)⟩) ⟨mP_blind, va_recv hK hP (ci := 5) (q0 := 1) rfl rfl, m_pre _ hN hK hP hD [] rfl [1] rfl (by decide)⟩ rfl rfl hl.1 rfl (lv_room (Nat.le_of_ble_eq_true rfl)) dX7_drift_49 ⟨(Nat.le_of_ble_eq_true rfl), (Nat.le_of_ble_eq_true rfl)⟩) hP hD hS hA [1] [0, 2, 3, 4, 5, 6, 7] rfl rfl (by decide) (by decide) (fun r260 u H locs hw hK1 hP hD hS => ?_)
                have hP : va_P D vwCl [(x, .inr (7, [.ref h, .ref ps, .ref im, .ref lt, .int 1, .int np258])), (h, .inr (4, [.ref k, .ref c, .ref o, .int 0])), (k, .inr (0, [.int (nI d), .int 14, .int 3, .int 64])), (c, .inr (1, [.ref g1, .int 0])), (o, .inr (3, [.ref g2, .int (nI hc), .int nx])), (g2, .inr (2, [.int 12, .int 7, .ref a2])), (a2, .inl (cA2, 84, .inl fh)), (lt, .inr (5, [.long (lN (nxN y))]))] H := hP
                have hD : va_D AA [(x, .inr (7, [.ref h, .ref ps, .ref im, .ref lt, .int 1, .int np258])), (h, .inr (4, [.ref k, .ref c, .ref o, .int 0])), (k, .inr (0, [.int (nI d), .int 14, .int 3, .int 64])), (c, .inr (1, [.ref g1, .int 0])), (o, .inr (3, [.ref g2, .int (nI hc), .int nx])), (g2, .inr (2, [.int 12, .int 7, .ref a2])), (a2, .inl (cA2, 84, .inl fh)), (lt, .inr (5, [.long (lN (nxN y))]))] := hD
                try dsimp only at hw
                refine W.widen (k := 8) (n := 183) (Nat.le_of_ble_eq_true rfl) (Nat.le_of_ble_eq_true rfl) ?_
                obtain rfl := hw
                rcases m4 (nxN y) with hmod | hmod | hmod | hmod
                · rw [hmod]
                  refine lv_tableIn (off := 28) (tgt := 80) hx hb dX7_drift_52 (by decide) (by decide) (by decide) (by decide) ?_
                  refine lv_aload_n hx hb dX7_drift_80 rfl (lv_at hl 1 rfl) ?_
                  refine k_v (wr := []) (va_runV (As := []) (rest := []) ⟨hx, hb, hml, hown, hts⟩ (c_X7_drawHold l D H.size x h ps im lt k c o g1 g2 a2 cA2 hc (nxN y) 1 np258 0 nx (nI d) 14 3 64 fh hh (nxN_lt _)) (cwV 0 hts gX7_drift_X7_drawHold rfl rfl rfl (by decide +kernel) ⟨(Nat.le_of_ble_eq_true rfl), (Nat.le_of_ble_eq_true rfl)⟩) ⟨mP_blind, va_recv hK hP (ci := 7) (q0 := 0) rfl rfl, m_pre _ hN hK hP hD [2] rfl [0, 7, 1, 2, 3, 4, 5, 6] rfl (by decide)⟩ rfl rfl hl.1 rfl (lv_room (Nat.le_of_ble_eq_true rfl)) dX7_drift_81 ⟨(Nat.le_of_ble_eq_true rfl), (Nat.le_of_ble_eq_true rfl)⟩) hP hD hS hA [0, 7, 1, 2, 3, 4, 5, 6] [] rfl rfl (by decide) (by decide) (fun u H locs hw hK1 hP hD hS => ?_)
                  obtain ⟨hc262, nx263, f264⟩ := u
                  have hP : va_P D vwCl [(x, .inr (7, [.ref h, .ref ps, .ref im, .ref lt, .int 1, .int np258])), (lt, .inr (5, [.long (lN (nxN (nxN (nxN (nxN (nxN y))))))])), (h, .inr (4, [.ref k, .ref c, .ref o, .int 0])), (k, .inr (0, [.int (nI d), .int 14, .int 3, .int 64])), (c, .inr (1, [.ref g1, .int 0])), (o, .inr (3, [.ref g2, .int (nI hc262), .int nx263])), (g2, .inr (2, [.int 12, .int 7, .ref a2])), (a2, .inl (cA2, 84, .inl f264))] H := hP
                  have hD : va_D AA [(x, .inr (7, [.ref h, .ref ps, .ref im, .ref lt, .int 1, .int np258])), (lt, .inr (5, [.long (lN (nxN (nxN (nxN (nxN (nxN y))))))])), (h, .inr (4, [.ref k, .ref c, .ref o, .int 0])), (k, .inr (0, [.int (nI d), .int 14, .int 3, .int 64])), (c, .inr (1, [.ref g1, .int 0])), (o, .inr (3, [.ref g2, .int (nI hc262), .int nx263])), (g2, .inr (2, [.int 12, .int 7, .ref a2])), (a2, .inl (cA2, 84, .inl f264))] := hD
                  try dsimp only at hw
                  refine W.widen (k := 8) (n := 183) (Nat.le_of_ble_eq_true rfl) (Nat.le_of_ble_eq_true rfl) ?_
                  have zw81 := hw
                  refine lv_goto (tgt := 108) hx hb dX7_drift_84 (by decide) ?_
                  refine lv_iinc (v := nI (i + 1)) (lv' := [(3, .int (nI (i + 1))), (0, .ref x), (1, .int (nI k0))]) hx hb dX7_drift_108 hl (k := 0) rfl (nI_1 i) (by decide) rfl (fun ls hl => ?_)
                  refine lv_goto (tgt := 39) hx hb dX7_drift_111 (by decide) ?_
                  exact ih (i + 1) (nxN (nxN (nxN (nxN (nxN y))))) d hc262 nx263 f264 (by have := lt_of_nle30 zc41 hi (by omega); omega) (nxN_lt _) zw81 (dr_0 hmod (lt_of_nle30 zc41 hi (by omega)) hV) (by omega) _ _ ls hP hD hS (lv_sub hl [0, 1, 2] rfl)
                · rw [hmod]
                  refine lv_tableIn (off := 35) (tgt := 87) hx hb dX7_drift_52 (by decide) (by decide) (by decide) (by decide) ?_
                  refine lv_aload_n hx hb dX7_drift_87 rfl (lv_at hl 1 rfl) ?_
                  refine k_pv (va_runV (As := []) (rest := []) ⟨hx, hb, hml, hown, hts⟩ (c_X7_drawLending l D H.size x h ps im lt k c o g1 1 np258 0 ) (cwV 0 hts gX7_drift_X7_drawLending rfl rfl rfl (by decide +kernel) ⟨(Nat.le_of_ble_eq_true rfl), (Nat.le_of_ble_eq_true rfl)⟩) ⟨mP_blind, va_recv hK hP (ci := 7) (q0 := 0) rfl rfl, m_pre _ hN hK hP hD [] rfl [0, 1, 3] rfl (by decide)⟩ rfl rfl hl.1 rfl (lv_room (Nat.le_of_ble_eq_true rfl)) dX7_drift_88 ⟨(Nat.le_of_ble_eq_true rfl), (Nat.le_of_ble_eq_true rfl)⟩) hP hD hS hA [0, 1, 3] rfl (fun u H locs hw hP hS => ?_)
                  refine lv_goto (tgt := 108) hx hb dX7_drift_91 (by decide) ?_
                  refine lv_iinc (v := nI (i + 1)) (lv' := [(3, .int (nI (i + 1))), (0, .ref x), (1, .int (nI k0))]) hx hb dX7_drift_108 hl (k := 0) rfl (nI_1 i) (by decide) rfl (fun ls hl => ?_)
                  refine lv_goto (tgt := 39) hx hb dX7_drift_111 (by decide) ?_
                  exact ih (i + 1) (nxN y) d hc nx fh (by have := lt_of_nle30 zc41 hi (by omega); omega) (nxN_lt _) hh (dr_1 hmod (lt_of_nle30 zc41 hi (by omega)) hV) (by omega) _ _ ls (m_P hP (is := [0, 7, 1, 2, 3, 4, 5, 6]) rfl) (hD.sub [0, 7, 1, 2, 3, 4, 5, 6] (by decide) rfl) hS (lv_sub hl [0, 1, 2] rfl)
                · rw [hmod]
                  refine lv_tableIn (off := 42) (tgt := 94) hx hb dX7_drift_52 (by decide) (by decide) (by decide) (by decide) ?_
                  refine lv_aload_n hx hb dX7_drift_94 rfl (lv_at hl 1 rfl) ?_
                  refine k_pv (va_runV (As := []) (rest := []) ⟨hx, hb, hml, hown, hts⟩ (c_X7_drawGivingBack l D H.size x h ps im lt k c o g1 1 np258 0 ) (cwV 0 hts gX7_drift_X7_drawGivingBack rfl rfl rfl (by decide +kernel) ⟨(Nat.le_of_ble_eq_true rfl), (Nat.le_of_ble_eq_true rfl)⟩) ⟨mP_blind, va_recv hK hP (ci := 7) (q0 := 0) rfl rfl, m_pre _ hN hK hP hD [] rfl [0, 1, 3] rfl (by decide)⟩ rfl rfl hl.1 rfl (lv_room (Nat.le_of_ble_eq_true rfl)) dX7_drift_95 ⟨(Nat.le_of_ble_eq_true rfl), (Nat.le_of_ble_eq_true rfl)⟩) hP hD hS hA [0, 1, 3] rfl (fun u H locs hw hP hS => ?_)
                  refine lv_goto (tgt := 108) hx hb dX7_drift_98 (by decide) ?_
                  refine lv_iinc (v := nI (i + 1)) (lv' := [(3, .int (nI (i + 1))), (0, .ref x), (1, .int (nI k0))]) hx hb dX7_drift_108 hl (k := 0) rfl (nI_1 i) (by decide) rfl (fun ls hl => ?_)
                  refine lv_goto (tgt := 39) hx hb dX7_drift_111 (by decide) ?_
                  exact ih (i + 1) (nxN y) d hc nx fh (by have := lt_of_nle30 zc41 hi (by omega); omega) (nxN_lt _) hh (dr_2 hmod (lt_of_nle30 zc41 hi (by omega)) hV) (by omega) _ _ ls (m_P hP (is := [0, 7, 1, 2, 3, 4, 5, 6]) rfl) (hD.sub [0, 7, 1, 2, 3, 4, 5, 6] (by decide) rfl) hS (lv_sub hl [0, 1, 2] rfl)
                · rw [hmod]
                  refine lv_tableOut (tgt := 101) hx hb dX7_drift_52 (by decide) (by decide) ?_
                  refine lv_aload_n hx hb dX7_drift_101 rfl (lv_at hl 1 rfl) ?_
                  refine va_get (D := D) (ci := 7) (v := .ref h) (C := RX7) (T := TX7) (N := 6) hx hb hts inX7 hown hK hP 0 rfl rfl 0 (by decide) (hts (.fieldLink RX7 10 "LoanHouse" "house" "LLoanHouse$House;") (List.mem_of_getElem? (i := 4) rfl)) (fun _ h9 => h9) rfl dX7_drift_102 ?_
                  refine k_v (wr := [(x, .inr (7, [.ref h, .ref ps, .ref im, .ref lt, .int 1, .int np258])), (lt, .inr (5, [.long (lN (nxN y))]))]) (va_runV (As := []) (rest := []) ⟨hx, hb, hml, hown, hts⟩ (c_X4_dayPasses l D H.size h k c g1 o g2 a2 cA2 hc d 14 3 64 nx 0 fh hh) (cwV 0 hts gX7_drift_X4_dayPasses rfl rfl rfl (by decide +kernel) ⟨(Nat.le_of_ble_eq_true rfl), (Nat.le_of_ble_eq_true rfl)⟩) ⟨mP_blind, va_recv hK hP (ci := 4) (q0 := 1) rfl rfl, m_pre _ hN hK hP hD [2] rfl [1, 2, 3, 4, 5, 6] rfl (by decide)⟩ rfl rfl hl.1 rfl (lv_room (Nat.le_of_ble_eq_true rfl)) dX7_drift_105 ⟨(Nat.le_of_ble_eq_true rfl), (Nat.le_of_ble_eq_true rfl)⟩) hP hD hS hA [1, 2, 3, 4, 5, 6] [0, 7] rfl rfl (by decide) (by decide) (fun u H locs hw hK1 hP hD hS => ?_)
                  have hP : va_P D vwCl [(x, .inr (7, [.ref h, .ref ps, .ref im, .ref lt, .int 1, .int np258])), (lt, .inr (5, [.long (lN (nxN y))])), (h, .inr (4, [.ref k, .ref c, .ref o, .int 0])), (k, .inr (0, [.int (nI (d + 1)), .int 14, .int 3, .int 64])), (c, .inr (1, [.ref g1, .int 0])), (o, .inr (3, [.ref g2, .int (nI hc), .int nx])), (g2, .inr (2, [.int 12, .int 7, .ref a2])), (a2, .inl (cA2, 84, .inl fh))] H := hP
                  have hD : va_D AA [(x, .inr (7, [.ref h, .ref ps, .ref im, .ref lt, .int 1, .int np258])), (lt, .inr (5, [.long (lN (nxN y))])), (h, .inr (4, [.ref k, .ref c, .ref o, .int 0])), (k, .inr (0, [.int (nI (d + 1)), .int 14, .int 3, .int 64])), (c, .inr (1, [.ref g1, .int 0])), (o, .inr (3, [.ref g2, .int (nI hc), .int nx])), (g2, .inr (2, [.int 12, .int 7, .ref a2])), (a2, .inl (cA2, 84, .inl fh))] := hD
                  try dsimp only at hw
                  refine W.widen (k := 8) (n := 183) (Nat.le_of_ble_eq_true rfl) (Nat.le_of_ble_eq_true rfl) ?_
                  refine lv_iinc (v := nI (i + 1)) (lv' := [(3, .int (nI (i + 1))), (0, .ref x), (1, .int (nI k0))]) hx hb dX7_drift_108 hl (k := 0) rfl (nI_1 i) (by decide) rfl (fun ls hl => ?_)
                  refine lv_goto (tgt := 39) hx hb dX7_drift_111 (by decide) ?_
                  exact ih (i + 1) (nxN y) (d + 1) hc nx fh (by have := lt_of_nle30 zc41 hi (by omega); omega) (nxN_lt _) hh (dr_3 hmod (lt_of_nle30 zc41 hi (by omega)) hV) (by omega) _ _ ls hP hD hS (lv_sub hl [0, 1, 2] rfl)
          exact lp (k0 + 1) 0 sd 0 0 0 f2 (Nat.zero_le _) (by omega) (by decide) rfl (by omega) _ _ ls (m_P hP (is := [0, 9, 1, 2, 3, 6, 7, 8]) rfl) (hD.sub [0, 9, 1, 2, 3, 6, 7, 8] (by decide) rfl) hS (lv_sub hl [0, 1, 2] rfl)
        · refine lv_ldc hx hb hown (hts (.constant RX7 110 (-1000000002)) (List.mem_of_getElem? (i := 2) rfl)) dX7_drift_22 ?_
          exact hret (-1000000002) () rfl (Or.inr ⟨fun q => zc19 q.2.2.2, rfl⟩) (m_P hP (is := []) rfl) (hK.sub [] rfl) (hD.sub [] (by decide) rfl) hS (Nat.le_of_ble_eq_true rfl) (Nat.le_of_ble_eq_true rfl) dX7_drift_24
