set_option maxHeartbeats 4000000 in
set_option maxRecDepth 100000 in
theorem c_X4_init (l : Launch) (D : va_G) (sz : Nat) (h : Nat) : mV l yX4_init wsX4_init (rk 3 7 179) D [.ref h] [] sz [(h, .inr (4, [.null, .null, .null, .int 0]))] (S := Nat × Nat × Nat × Nat × ClassId × (Nat → Int32) × Nat × Nat × Nat × ClassId × (Nat → Int32)) (fun _ => True) (fun u => [(u.2.2.2.2.1, .int), (u.2.2.2.2.2.2.2.2.2.1, .int)]) (fun u => [(h, .inr (4, [.ref u.1, .ref u.2.1, .ref u.2.2.2.2.2.2.1, .int 0])), (u.1, .inr (0, [.int 0, .int 14, .int 3, .int 64])), (u.2.1, .inr (1, [.ref u.2.2.1, .int 0])), (u.2.2.1, .inr (2, [.int 16, .int 5, .ref u.2.2.2.1])), (u.2.2.2.1, .inl (u.2.2.2.2.1, 80, .inl u.2.2.2.2.2.1)), (u.2.2.2.2.2.2.1, .inr (3, [.ref u.2.2.2.2.2.2.2.1, .int 0, .int 0])), (u.2.2.2.2.2.2.2.1, .inr (2, [.int 12, .int 7, .ref u.2.2.2.2.2.2.2.2.1])), (u.2.2.2.2.2.2.2.2.1, .inl (u.2.2.2.2.2.2.2.2.2.1, 84, .inl u.2.2.2.2.2.2.2.2.2.2))]) := by
  refine mV_of (cc := cX4_init) (maxL := 1) (plainFor_of_name (by decide)) rfl (Nat.le_of_ble_eq_true rfl) ?_
  intro pp ee ss mm bl mt cd AA QQ hx hb hml hts hown hN hA hK hP hD hS hmn hret ls hl
  have hl : lv_has ls 1 [(0, .ref h)] := hl
  have inX0 : ∀ w ∈ wsX00, w ∈ wsX4_init := fun _ h => List.mem_cons_of_mem _ (List.mem_append_left _ (List.mem_append_left _ (List.mem_append_left _ (List.mem_append_left _ (List.mem_append_right _ h)))))
  have inX1 : ∀ w ∈ wsX10, w ∈ wsX4_init := fun _ h => List.mem_cons_of_mem _ (List.mem_append_left _ (List.mem_append_left _ (List.mem_append_right _ h)))
  have inX3 : ∀ w ∈ wsX30, w ∈ wsX4_init := fun _ h => List.mem_cons_of_mem _ (List.mem_append_left _ (List.mem_append_right _ h))
  have inX4 : ∀ w ∈ wsX40, w ∈ wsX4_init := fun _ h => List.mem_cons_of_mem _ (List.mem_append_left _ (List.mem_append_left _ (List.mem_append_left _ (List.mem_append_right _ h))))
  refine lv_aload_n hx hb dX4_init_0 rfl (lv_at hl 0 rfl) ?_
  refine W.objInit hx hb hown (hts (.methodLink RX4 3 objectInit) (List.mem_of_getElem? (i := 1) rfl)) (hts (.instanceMethod objectInit) (List.mem_of_getElem? (i := 2) rfl)) (hts (.code objectInit ⟨#[0xb1]⟩ 1 none) (List.mem_of_getElem? (i := 3) rfl)) rfl (by rw [hml]; exact hl.1) rfl dX4_init_1 (Nat.le_of_ble_eq_true rfl) (Nat.le_of_ble_eq_true rfl) ?_
  refine W.eq (g2 := F0 mm 4 ls []) rfl ?_
  refine lv_aload_n hx hb dX4_init_4 rfl (lv_at hl 0 rfl) ?_
  refine va_new (ci := 0) (fs := [.int 0, .int 0, .int 0, .int 0]) (C := RX0) (T := TX0) (N := 4) hx hb hts inX0 tyX0 tyX0_ok hown (hts (.classLink RX4 9 RX0) (List.mem_of_getElem? (i := 4) rfl)) (hts (.instantiable RX0 4) (List.mem_of_getElem? (i := 5) rfl)) (hts (.initialized RX0) (List.mem_of_getElem? (i := 6) rfl)) hK hP hD hS hA rfl (fun j hj => by rcases (show j = 0 ∨ j = 1 ∨ j = 2 ∨ j = 3 by omega) with rfl | rfl | rfl | rfl <;> rfl) (Nat.le_of_ble_eq_true rfl) (Nat.le_of_ble_eq_true rfl) dX4_init_5 (fun q79 H hP hD hS => ?_)
  have hP : va_P D vwCl [(h, .inr (4, [.null, .null, .null, .int 0])), (q79, .inr (0, [.int 0, .int 0, .int 0, .int 0]))] H := hP
  have hD : va_D AA [(h, .inr (4, [.null, .null, .null, .int 0])), (q79, .inr (0, [.int 0, .int 0, .int 0, .int 0]))] := hD
  refine W.widen (k := 1) (n := 4) (Nat.le_of_ble_eq_true rfl) (Nat.le_of_ble_eq_true rfl) ?_
  refine lv_dup hx hb dX4_init_8 rfl ?_
  refine k_v (wr := [(h, .inr (4, [.null, .null, .null, .int 0]))]) (va_runIN (As := []) (rest := [.ref q79, .ref h]) ⟨hx, hb, hml, hown, hts⟩ (c_X0_init l D H.size q79 ) ⟨va_cnB 0 hts gX4_init_X0_init_n11 rfl rfl rfl (hN.at 14 rfl) (hts (.initialized RX0) (List.mem_of_getElem? (i := 6) rfl)) (by decide +kernel) ⟨(Nat.le_of_ble_eq_true rfl), (Nat.le_of_ble_eq_true rfl)⟩, rfl, (hts (.instanceMethod yX0_init) (List.mem_of_getElem? (i := 16) rfl))⟩ ⟨mP_blind, m_pre _ hN hK hP hD [] rfl [1] rfl (by decide)⟩ rfl rfl hl.1 rfl (lv_room (Nat.le_of_ble_eq_true rfl)) dX4_init_9 ⟨(Nat.le_of_ble_eq_true rfl), (Nat.le_of_ble_eq_true rfl)⟩) hP hD hS hA [1] [0] rfl rfl (by decide) (by decide) (fun u H locs hw hK1 hP hD hS => ?_)
  have hP : va_P D vwCl [(h, .inr (4, [.null, .null, .null, .int 0])), (q79, .inr (0, [.int 0, .int 14, .int 3, .int 64]))] H := hP
  have hD : va_D AA [(h, .inr (4, [.null, .null, .null, .int 0])), (q79, .inr (0, [.int 0, .int 14, .int 3, .int 64]))] := hD
  try dsimp only at hw
  refine W.widen (k := 1) (n := 4) (Nat.le_of_ble_eq_true rfl) (Nat.le_of_ble_eq_true rfl) ?_
  refine va_putF (D := D) (ci := 4) (v := .ref q79) (ty := .object "LoanHouse$Calendar") (C := RX4) (T := TX4) (N := 4) hx hb hts inX4 tyX4 tyX4_ok nmX4 hown hK hP hD hS 0 rfl rfl 0 (by decide) (hts (.fieldLink RX4 12 "LoanHouse$House" "calendar" "LLoanHouse$Calendar;") (List.mem_of_getElem? (i := 7) rfl)) (fun _ h9 => h9) rfl hmn rfl (by decide +kernel) rfl rfl (Nat.le_of_ble_eq_true rfl) dX4_init_12 (fun H locs hP hD hS => ?_)
  have hP : va_P D vwCl [(h, .inr (4, [.ref q79, .null, .null, .int 0])), (q79, .inr (0, [.int 0, .int 14, .int 3, .int 64]))] H := hP
  have hD : va_D AA [(h, .inr (4, [.ref q79, .null, .null, .int 0])), (q79, .inr (0, [.int 0, .int 14, .int 3, .int 64]))] := hD
  refine lv_aload_n hx hb dX4_init_15 rfl (lv_at hl 0 rfl) ?_
  refine va_new (ci := 1) (fs := [.null, .int 0]) (C := RX1) (T := TX1) (N := 2) hx hb hts inX1 tyX1 tyX1_ok hown (hts (.classLink RX4 18 RX1) (List.mem_of_getElem? (i := 8) rfl)) (hts (.instantiable RX1 2) (List.mem_of_getElem? (i := 9) rfl)) (hts (.initialized RX1) (List.mem_of_getElem? (i := 10) rfl)) hK hP hD hS hA rfl (fun j hj => by rcases (show j = 0 ∨ j = 1 by omega) with rfl | rfl <;> rfl) (Nat.le_of_ble_eq_true rfl) (Nat.le_of_ble_eq_true rfl) dX4_init_16 (fun q81 H hP hD hS => ?_)
  have hP : va_P D vwCl [(h, .inr (4, [.ref q79, .null, .null, .int 0])), (q79, .inr (0, [.int 0, .int 14, .int 3, .int 64])), (q81, .inr (1, [.null, .int 0]))] H := hP
  have hD : va_D AA [(h, .inr (4, [.ref q79, .null, .null, .int 0])), (q79, .inr (0, [.int 0, .int 14, .int 3, .int 64])), (q81, .inr (1, [.null, .int 0]))] := hD
  refine W.widen (k := 2) (n := 6) (Nat.le_of_ble_eq_true rfl) (Nat.le_of_ble_eq_true rfl) ?_
  refine lv_dup hx hb dX4_init_19 rfl ?_
  refine k_v (wr := [(h, .inr (4, [.ref q79, .null, .null, .int 0])), (q79, .inr (0, [.int 0, .int 14, .int 3, .int 64]))]) (va_runIN (As := []) (rest := [.ref q81, .ref h]) ⟨hx, hb, hml, hown, hts⟩ (c_X1_init l D H.size q81 ) ⟨va_cnB 0 hts gX4_init_X1_init_n20 rfl rfl rfl (hN.at 15 rfl) (hts (.initialized RX1) (List.mem_of_getElem? (i := 10) rfl)) (by decide +kernel) ⟨(Nat.le_of_ble_eq_true rfl), (Nat.le_of_ble_eq_true rfl)⟩, rfl, (hts (.instanceMethod yX1_init) (List.mem_of_getElem? (i := 22) rfl))⟩ ⟨mP_blind, m_pre _ hN hK hP hD [] rfl [2] rfl (by decide)⟩ rfl rfl hl.1 rfl (lv_room (Nat.le_of_ble_eq_true rfl)) dX4_init_20 ⟨(Nat.le_of_ble_eq_true rfl), (Nat.le_of_ble_eq_true rfl)⟩) hP hD hS hA [2] [0, 1] rfl rfl (by decide) (by decide) (fun u H locs hw hK1 hP hD hS => ?_)
  obtain ⟨g83, a84, cA85, f86⟩ := u
  have hK : va_K D vwCl [(cA85, .int)] ss := hK.app hK1
  have hP : va_P D vwCl [(h, .inr (4, [.ref q79, .null, .null, .int 0])), (q79, .inr (0, [.int 0, .int 14, .int 3, .int 64])), (q81, .inr (1, [.ref g83, .int 0])), (g83, .inr (2, [.int 16, .int 5, .ref a84])), (a84, .inl (cA85, 80, .inl f86))] H := hP
  have hD : va_D AA [(h, .inr (4, [.ref q79, .null, .null, .int 0])), (q79, .inr (0, [.int 0, .int 14, .int 3, .int 64])), (q81, .inr (1, [.ref g83, .int 0])), (g83, .inr (2, [.int 16, .int 5, .ref a84])), (a84, .inl (cA85, 80, .inl f86))] := hD
  try dsimp only at hw
  refine W.widen (k := 4) (n := 89) (Nat.le_of_ble_eq_true rfl) (Nat.le_of_ble_eq_true rfl) ?_
  refine va_putF (D := D) (ci := 4) (v := .ref q81) (ty := .object "LoanHouse$Copies") (C := RX4) (T := TX4) (N := 4) hx hb hts inX4 tyX4 tyX4_ok nmX4 hown hK hP hD hS 0 rfl rfl 1 (by decide) (hts (.fieldLink RX4 21 "LoanHouse$House" "copies" "LLoanHouse$Copies;") (List.mem_of_getElem? (i := 11) rfl)) (fun _ h9 => h9) rfl hmn rfl (by decide +kernel) rfl rfl (Nat.le_of_ble_eq_true rfl) dX4_init_23 (fun H locs hP hD hS => ?_)
  have hP : va_P D vwCl [(h, .inr (4, [.ref q79, .ref q81, .null, .int 0])), (q79, .inr (0, [.int 0, .int 14, .int 3, .int 64])), (q81, .inr (1, [.ref g83, .int 0])), (g83, .inr (2, [.int 16, .int 5, .ref a84])), (a84, .inl (cA85, 80, .inl f86))] H := hP
  have hD : va_D AA [(h, .inr (4, [.ref q79, .ref q81, .null, .int 0])), (q79, .inr (0, [.int 0, .int 14, .int 3, .int 64])), (q81, .inr (1, [.ref g83, .int 0])), (g83, .inr (2, [.int 16, .int 5, .ref a84])), (a84, .inl (cA85, 80, .inl f86))] := hD
  refine lv_aload_n hx hb dX4_init_26 rfl (lv_at hl 0 rfl) ?_
  refine va_new (ci := 3) (fs := [.null, .int 0, .int 0]) (C := RX3) (T := TX3) (N := 3) hx hb hts inX3 tyX3 tyX3_ok hown (hts (.classLink RX4 25 RX3) (List.mem_of_getElem? (i := 12) rfl)) (hts (.instantiable RX3 3) (List.mem_of_getElem? (i := 13) rfl)) (hts (.initialized RX3) (List.mem_of_getElem? (i := 14) rfl)) hK hP hD hS hA rfl (fun j hj => by rcases (show j = 0 ∨ j = 1 ∨ j = 2 by omega) with rfl | rfl | rfl <;> rfl) (Nat.le_of_ble_eq_true rfl) (Nat.le_of_ble_eq_true rfl) dX4_init_27 (fun q87 H hP hD hS => ?_)
  have hP : va_P D vwCl [(h, .inr (4, [.ref q79, .ref q81, .null, .int 0])), (q79, .inr (0, [.int 0, .int 14, .int 3, .int 64])), (q81, .inr (1, [.ref g83, .int 0])), (g83, .inr (2, [.int 16, .int 5, .ref a84])), (a84, .inl (cA85, 80, .inl f86)), (q87, .inr (3, [.null, .int 0, .int 0]))] H := hP
  have hD : va_D AA [(h, .inr (4, [.ref q79, .ref q81, .null, .int 0])), (q79, .inr (0, [.int 0, .int 14, .int 3, .int 64])), (q81, .inr (1, [.ref g83, .int 0])), (g83, .inr (2, [.int 16, .int 5, .ref a84])), (a84, .inl (cA85, 80, .inl f86)), (q87, .inr (3, [.null, .int 0, .int 0]))] := hD
  refine W.widen (k := 5) (n := 92) (Nat.le_of_ble_eq_true rfl) (Nat.le_of_ble_eq_true rfl) ?_
  refine lv_dup hx hb dX4_init_30 rfl ?_
  refine k_v (wr := [(h, .inr (4, [.ref q79, .ref q81, .null, .int 0])), (q79, .inr (0, [.int 0, .int 14, .int 3, .int 64])), (q81, .inr (1, [.ref g83, .int 0])), (g83, .inr (2, [.int 16, .int 5, .ref a84])), (a84, .inl (cA85, 80, .inl f86))]) (va_runIN (As := []) (rest := [.ref q87, .ref h]) ⟨hx, hb, hml, hown, hts⟩ (c_X3_init l D H.size q87 ) ⟨va_cnB 0 hts gX4_init_X3_init_n27 rfl rfl rfl (hN.at 16 rfl) (hts (.initialized RX3) (List.mem_of_getElem? (i := 14) rfl)) (by decide +kernel) ⟨(Nat.le_of_ble_eq_true rfl), (Nat.le_of_ble_eq_true rfl)⟩, rfl, (hts (.instanceMethod yX3_init) (List.mem_of_getElem? (i := 41) rfl))⟩ ⟨mP_blind, m_pre _ hN hK hP hD [] rfl [5] rfl (by decide)⟩ rfl rfl hl.1 rfl (lv_room (Nat.le_of_ble_eq_true rfl)) dX4_init_31 ⟨(Nat.le_of_ble_eq_true rfl), (Nat.le_of_ble_eq_true rfl)⟩) hP hD hS hA [5] [0, 1, 2, 3, 4] rfl rfl (by decide) (by decide) (fun u H locs hw hK1 hP hD hS => ?_)
  obtain ⟨g89, a90, cA91, f92⟩ := u
  have hK : va_K D vwCl [(cA85, .int), (cA91, .int)] ss := hK.app hK1
  have hP : va_P D vwCl [(h, .inr (4, [.ref q79, .ref q81, .null, .int 0])), (q79, .inr (0, [.int 0, .int 14, .int 3, .int 64])), (q81, .inr (1, [.ref g83, .int 0])), (g83, .inr (2, [.int 16, .int 5, .ref a84])), (a84, .inl (cA85, 80, .inl f86)), (q87, .inr (3, [.ref g89, .int 0, .int 0])), (g89, .inr (2, [.int 12, .int 7, .ref a90])), (a90, .inl (cA91, 84, .inl f92))] H := hP
  have hD : va_D AA [(h, .inr (4, [.ref q79, .ref q81, .null, .int 0])), (q79, .inr (0, [.int 0, .int 14, .int 3, .int 64])), (q81, .inr (1, [.ref g83, .int 0])), (g83, .inr (2, [.int 16, .int 5, .ref a84])), (a84, .inl (cA85, 80, .inl f86)), (q87, .inr (3, [.ref g89, .int 0, .int 0])), (g89, .inr (2, [.int 12, .int 7, .ref a90])), (a90, .inl (cA91, 84, .inl f92))] := hD
  try dsimp only at hw
  refine W.widen (k := 7) (n := 179) (Nat.le_of_ble_eq_true rfl) (Nat.le_of_ble_eq_true rfl) ?_
  refine va_putF (D := D) (ci := 4) (v := .ref q87) (ty := .object "LoanHouse$Holds") (C := RX4) (T := TX4) (N := 4) hx hb hts inX4 tyX4 tyX4_ok nmX4 hown hK hP hD hS 0 rfl rfl 2 (by decide) (hts (.fieldLink RX4 28 "LoanHouse$House" "holds" "LLoanHouse$Holds;") (List.mem_of_getElem? (i := 15) rfl)) (fun _ h9 => h9) rfl hmn rfl (by decide +kernel) rfl rfl (Nat.le_of_ble_eq_true rfl) dX4_init_34 (fun H locs hP hD hS => ?_)
  have hP : va_P D vwCl [(h, .inr (4, [.ref q79, .ref q81, .ref q87, .int 0])), (q79, .inr (0, [.int 0, .int 14, .int 3, .int 64])), (q81, .inr (1, [.ref g83, .int 0])), (g83, .inr (2, [.int 16, .int 5, .ref a84])), (a84, .inl (cA85, 80, .inl f86)), (q87, .inr (3, [.ref g89, .int 0, .int 0])), (g89, .inr (2, [.int 12, .int 7, .ref a90])), (a90, .inl (cA91, 84, .inl f92))] H := hP
  have hD : va_D AA [(h, .inr (4, [.ref q79, .ref q81, .ref q87, .int 0])), (q79, .inr (0, [.int 0, .int 14, .int 3, .int 64])), (q81, .inr (1, [.ref g83, .int 0])), (g83, .inr (2, [.int 16, .int 5, .ref a84])), (a84, .inl (cA85, 80, .inl f86)), (q87, .inr (3, [.ref g89, .int 0, .int 0])), (g89, .inr (2, [.int 12, .int 7, .ref a90])), (a90, .inl (cA91, 84, .inl f92))] := hD
  exact hret (q79, q81, g83, a84, cA85, f86, q87, g89, a90, cA91, f92) (trivial) (m_P hP (is := [0, 1, 2, 3, 4, 5, 6, 7]) rfl) (hK.sub [0, 1] rfl) (hD.sub [0, 1, 2, 3, 4, 5, 6, 7] (by decide) rfl) hS (Nat.le_of_ble_eq_true rfl) (Nat.le_of_ble_eq_true rfl) dX4_init_37
set_option maxHeartbeats 4000000 in
set_option maxRecDepth 100000 in
theorem c_X4_serve_a (l : Launch) (D : va_G) (sz : Nat) (h k c g1 o g2 a2 : Nat) (cA2 : ClassId) (hc : Nat) (nx tr : Int32) (f2 : Nat → Int32) (hh : hc ≤ 12) : mV l yX4_serve wsX4_serve (rk 3 0 0) D [.ref h] [(cA2, .int)] sz [(h, .inr (4, [.ref k, .ref c, .ref o, .int tr])), (c, .inr (1, [.ref g1, .int 0])), (o, .inr (3, [.ref g2, .int (nI hc), .int nx])), (g2, .inr (2, [.int 12, .int 7, .ref a2])), (a2, .inl (cA2, 84, .inl f2))] (S := Unit) (fun _ => True) (fun _ => []) (fun _ => [(h, .inr (4, [.ref k, .ref c, .ref o, .int tr])), (c, .inr (1, [.ref g1, .int 0])), (o, .inr (3, [.ref g2, .int (nI hc), .int nx])), (g2, .inr (2, [.int 12, .int 7, .ref a2])), (a2, .inl (cA2, 84, .inl f2))]) := by
  refine mV_of (cc := cX4_serve) (maxL := 5) (plainFor_of_name (by decide)) rfl (Nat.le_of_ble_eq_true rfl) ?_
  intro pp ee ss mm bl mt cd AA QQ hx hb hml hts hown hN hA hK hP hD hS hmn hret ls hl
  have hl : lv_has ls 5 [(0, .ref h)] := hl
  have inX4 : ∀ w ∈ wsX40, w ∈ wsX4_serve := fun _ h => List.mem_cons_of_mem _ (List.mem_append_left _ (List.mem_append_left _ (List.mem_append_left _ (List.mem_append_left _ (List.mem_append_right _ h)))))
  refine lv_iconst (v := 0) hx hb dX4_serve_0 (by decide) ?_
  refine lv_istore_n (lv' := [(1, .int 0), (0, .ref h)]) hx hb dX4_serve_1 rfl hl (by decide) rfl (fun ls hl => ?_)
  refine lv_iconst (v := 0) hx hb dX4_serve_2 (by decide) ?_
  refine lv_istore_n (lv' := [(2, .int 0), (1, .int 0), (0, .ref h)]) hx hb dX4_serve_3 rfl hl (by decide) rfl (fun ls hl => ?_)
  have lp : ∀ (fu : Nat) (t : Nat), (t ≤ 6) → (6 < t + fu) → ∀ (H : Heap) (locs : List Loc) (ls : Array Slot), va_P D vwCl [(h, .inr (4, [.ref k, .ref c, .ref o, .int tr])), (c, .inr (1, [.ref g1, .int 0])), (o, .inr (3, [.ref g2, .int (nI hc), .int nx])), (g2, .inr (2, [.int 12, .int 7, .ref a2])), (a2, .inl (cA2, 84, .inl f2))] H → va_S AA ss.heap H locs → lv_has ls 5 [(1, .int (nI t)), (2, .int (nI t)), (0, .ref h)] → W pp l ee (rk 3 0 0) ss mm ([.ref h] : List Value).toArray bl mt cd H locs 0 0 QQ (F0 mm 4 ls []) := by
    intro fu
    induction fu with
    | zero =>
      intro t ht hf H locs ls hP hS hl
      exact absurd hf (by omega)
    | succ fu ih =>
      intro t ht hf H locs ls hP hS hl
      refine lv_iload_n hx hb dX4_serve_4 rfl (lv_at hl 1 rfl) ?_
      refine lv_bipush (v := 22) hx hb dX4_serve_5 (by decide) ?_
      refine lv_icmp_ge (tgt := 77) hx hb dX4_serve_7 (by decide) (fun hc => absurd hc (nI_ge (a := t) (b := 22) (by omega) (by decide))) (fun zc7 => ?_)
      refine lv_iload_n hx hb dX4_serve_10 rfl (lv_at hl 0 rfl) ?_
      refine lv_bipush (v := 6) hx hb dX4_serve_11 (by decide) ?_
      refine lv_icmp_ge (tgt := 77) hx hb dX4_serve_13 (by decide) (fun zc13 => ?_) (fun zc13 => ?_)
      · exact hret () (trivial) hP (hK.sub [] rfl) hD hS (Nat.le_of_ble_eq_true rfl) (Nat.le_of_ble_eq_true rfl) dX4_serve_77
      · refine lv_aload_n hx hb dX4_serve_16 rfl (lv_at hl 2 rfl) ?_
        refine va_get (D := D) (ci := 4) (v := .ref o) (C := RX4) (T := TX4) (N := 4) hx hb hts inX4 hown hK hP 0 rfl rfl 2 (by decide) (hts (.fieldLink RX4 28 "LoanHouse$House" "holds" "LLoanHouse$Holds;") (List.mem_of_getElem? (i := 1) rfl)) (fun _ h9 => h9) rfl dX4_serve_17 ?_
        refine lv_iload_n hx hb dX4_serve_20 rfl (lv_at hl 0 rfl) ?_
        refine k_pi (va_runV (As := [.int (nI t)]) (rest := []) ⟨hx, hb, hml, hown, hts⟩ (c_X3_firstOfRow l D H.size o g2 a2 cA2 hc nx f2 (nI t) hh) (cwV 1 hts gX4_serve_X3_firstOfRow rfl rfl rfl (by decide +kernel) ⟨(Nat.le_of_ble_eq_true rfl), (Nat.le_of_ble_eq_true rfl)⟩) ⟨mP_blind, va_recv hK hP (ci := 3) (q0 := 2) rfl rfl, m_pre _ hN hK hP hD [0] rfl [2, 3, 4] rfl (by decide)⟩ rfl rfl hl.1 rfl (lv_room (Nat.le_of_ble_eq_true rfl)) dX4_serve_21 ⟨(Nat.le_of_ble_eq_true rfl), (Nat.le_of_ble_eq_true rfl)⟩) hP hD hS hA [2, 3, 4] rfl (fun r93 u H locs hw hP hS => ?_)
        have zw21 := hw
        refine lv_istore_n (lv' := [(3, .int r93), (1, .int (nI t)), (2, .int (nI t)), (0, .ref h)]) hx hb dX4_serve_24 rfl hl (by decide) rfl (fun ls hl => ?_)
        refine lv_iload_n hx hb dX4_serve_25 rfl (lv_at hl 0 rfl) ?_
        refine lv_iconst (v := (-1)) hx hb dX4_serve_26 (by decide) ?_
        refine lv_icmp_ne (tgt := 34) hx hb dX4_serve_27 (by decide) (fun zc27 => ?_) (fun zc27 => ?_)
        · refine lv_aload_n hx hb dX4_serve_34 rfl (lv_at hl 3 rfl) ?_
          refine va_get (D := D) (ci := 4) (v := .ref c) (C := RX4) (T := TX4) (N := 4) hx hb hts inX4 hown hK hP 0 rfl rfl 1 (by decide) (hts (.fieldLink RX4 21 "LoanHouse$House" "copies" "LLoanHouse$Copies;") (List.mem_of_getElem? (i := 2) rfl)) (fun _ h9 => h9) rfl dX4_serve_35 ?_
          refine lv_iload_n hx hb dX4_serve_38 rfl (lv_at hl 1 rfl) ?_
          refine lv_aload_n hx hb dX4_serve_39 rfl (lv_at hl 3 rfl) ?_
          refine va_get (D := D) (ci := 4) (v := .ref o) (C := RX4) (T := TX4) (N := 4) hx hb hts inX4 hown hK hP 0 rfl rfl 2 (by decide) (hts (.fieldLink RX4 28 "LoanHouse$House" "holds" "LLoanHouse$Holds;") (List.mem_of_getElem? (i := 1) rfl)) (fun _ h9 => h9) rfl dX4_serve_40 ?_
          refine lv_iload_n hx hb dX4_serve_43 rfl (lv_at hl 0 rfl) ?_
          refine k_pi (va_runV (As := [.int r93]) (rest := [.int (nI t), .ref c]) ⟨hx, hb, hml, hown, hts⟩ (c_X3_branch l D H.size o g2 a2 cA2 (nI hc) nx f2 r93 ) (cwV 1 hts gX4_serve_X3_branch rfl rfl rfl (by decide +kernel) ⟨(Nat.le_of_ble_eq_true rfl), (Nat.le_of_ble_eq_true rfl)⟩) ⟨mP_blind, va_recv hK hP (ci := 3) (q0 := 2) rfl rfl, m_pre _ hN hK hP hD [0] rfl [2, 3, 4] rfl (by decide)⟩ rfl rfl hl.1 rfl (lv_room (Nat.le_of_ble_eq_true rfl)) dX4_serve_44 ⟨(Nat.le_of_ble_eq_true rfl), (Nat.le_of_ble_eq_true rfl)⟩) hP hD hS hA [2, 3, 4] rfl (fun r94 u H locs hw hP hS => ?_)
          have zw44 := hw
          refine k_pi (va_runV (As := [.int (nI t), .int r94]) (rest := []) ⟨hx, hb, hml, hown, hts⟩ (c_X1_nearestIn l D H.size c g1 (nI t) r94 ) (cwV 2 hts gX4_serve_X1_nearestIn rfl rfl rfl (by decide +kernel) ⟨(Nat.le_of_ble_eq_true rfl), (Nat.le_of_ble_eq_true rfl)⟩) ⟨mP_blind, va_recv hK hP (ci := 1) (q0 := 1) rfl rfl, m_pre _ hN hK hP hD [] rfl [1] rfl (by decide)⟩ rfl rfl hl.1 rfl (lv_room (Nat.le_of_ble_eq_true rfl)) dX4_serve_47 ⟨(Nat.le_of_ble_eq_true rfl), (Nat.le_of_ble_eq_true rfl)⟩) hP hD hS hA [1] rfl (fun r95 u H locs hw hP hS => ?_)
          obtain rfl := hw
          refine lv_istore (lv' := [(4, .int (-1)), (3, .int r93), (1, .int (nI t)), (2, .int (nI t)), (0, .ref h)]) hx hb dX4_serve_50 hl (by decide) rfl (fun ls hl => ?_)
          refine lv_iload hx hb dX4_serve_52 (lv_at hl 0 rfl) ?_
          refine lv_iconst (v := (-1)) hx hb dX4_serve_54 (by decide) ?_
          refine lv_icmp_ne (tgt := 64) hx hb dX4_serve_55 (by decide) (fun hc => absurd (by decide) hc) (fun zc55 => ?_)
          refine lv_iinc (v := nI (t + 1)) (lv' := [(1, .int (nI (t + 1))), (4, .int (-1)), (3, .int r93), (2, .int (nI t)), (0, .ref h)]) hx hb dX4_serve_58 hl (k := 2) rfl (nI_1 t) (by decide) rfl (fun ls hl => ?_)
          refine lv_goto (tgt := 71) hx hb dX4_serve_61 (by decide) ?_
          refine lv_iinc (v := nI (t + 1)) (lv' := [(2, .int (nI (t + 1))), (1, .int (nI (t + 1))), (4, .int (-1)), (3, .int r93), (0, .ref h)]) hx hb dX4_serve_71 hl (k := 3) rfl (nI_1 t) (by decide) rfl (fun ls hl => ?_)
          refine lv_goto (tgt := 4) hx hb dX4_serve_74 (by decide) ?_
          exact ih (t + 1) (by have := lt_of_nle (c := 6) zc13 ht (by decide); omega) (by omega) _ _ ls hP hS (lv_sub hl [1, 0, 4] rfl)
        · refine lv_iconst (v := (-1)) hx hb dX4_serve_30 (by decide) ?_
          refine lv_goto (tgt := 50) hx hb dX4_serve_31 (by decide) ?_
          refine lv_istore (lv' := [(4, .int (-1)), (3, .int r93), (1, .int (nI t)), (2, .int (nI t)), (0, .ref h)]) hx hb dX4_serve_50 hl (by decide) rfl (fun ls hl => ?_)
          refine lv_iload hx hb dX4_serve_52 (lv_at hl 0 rfl) ?_
          refine lv_iconst (v := (-1)) hx hb dX4_serve_54 (by decide) ?_
          refine lv_icmp_ne (tgt := 64) hx hb dX4_serve_55 (by decide) (fun hc => absurd (by decide) hc) (fun zc55 => ?_)
          refine lv_iinc (v := nI (t + 1)) (lv' := [(1, .int (nI (t + 1))), (4, .int (-1)), (3, .int r93), (2, .int (nI t)), (0, .ref h)]) hx hb dX4_serve_58 hl (k := 2) rfl (nI_1 t) (by decide) rfl (fun ls hl => ?_)
          refine lv_goto (tgt := 71) hx hb dX4_serve_61 (by decide) ?_
          refine lv_iinc (v := nI (t + 1)) (lv' := [(2, .int (nI (t + 1))), (1, .int (nI (t + 1))), (4, .int (-1)), (3, .int r93), (0, .ref h)]) hx hb dX4_serve_71 hl (k := 3) rfl (nI_1 t) (by decide) rfl (fun ls hl => ?_)
          refine lv_goto (tgt := 4) hx hb dX4_serve_74 (by decide) ?_
          exact ih (t + 1) (by have := lt_of_nle (c := 6) zc13 ht (by decide); omega) (by omega) _ _ ls hP hS (lv_sub hl [1, 0, 4] rfl)
  exact lp 7 0 (by decide) (by decide) _ _ ls hP hS (lv_sub hl [1, 0, 2] rfl)
set_option maxHeartbeats 4000000 in
set_option maxRecDepth 100000 in
theorem c_X4_serve_b (l : Launch) (D : va_G) (sz : Nat) (h k c o g2 a2 : Nat) (cA2 : ClassId) (nx tr : Int32) (f2 : Nat → Int32) : mV l yX4_serve wsX4_serve (rk 3 0 0) D [.ref h] [(cA2, .int)] sz [(h, .inr (4, [.ref k, .ref c, .ref o, .int tr])), (o, .inr (3, [.ref g2, .int 0, .int nx])), (g2, .inr (2, [.int 12, .int 7, .ref a2])), (a2, .inl (cA2, 84, .inl f2))] (S := Unit) (fun _ => True) (fun _ => []) (fun _ => [(h, .inr (4, [.ref k, .ref c, .ref o, .int tr])), (o, .inr (3, [.ref g2, .int 0, .int nx])), (g2, .inr (2, [.int 12, .int 7, .ref a2])), (a2, .inl (cA2, 84, .inl f2))]) := by
  refine mV_of (cc := cX4_serve) (maxL := 5) (plainFor_of_name (by decide)) rfl (Nat.le_of_ble_eq_true rfl) ?_
  intro pp ee ss mm bl mt cd AA QQ hx hb hml hts hown hN hA hK hP hD hS hmn hret ls hl
  have hl : lv_has ls 5 [(0, .ref h)] := hl
  have inX4 : ∀ w ∈ wsX40, w ∈ wsX4_serve := fun _ h => List.mem_cons_of_mem _ (List.mem_append_left _ (List.mem_append_left _ (List.mem_append_left _ (List.mem_append_left _ (List.mem_append_right _ h)))))
  refine lv_iconst (v := 0) hx hb dX4_serve_0 (by decide) ?_
  refine lv_istore_n (lv' := [(1, .int 0), (0, .ref h)]) hx hb dX4_serve_1 rfl hl (by decide) rfl (fun ls hl => ?_)
  refine lv_iconst (v := 0) hx hb dX4_serve_2 (by decide) ?_
  refine lv_istore_n (lv' := [(2, .int 0), (1, .int 0), (0, .ref h)]) hx hb dX4_serve_3 rfl hl (by decide) rfl (fun ls hl => ?_)
  have lp : ∀ (fu : Nat) (t : Nat), (t ≤ 6) → (6 < t + fu) → ∀ (H : Heap) (locs : List Loc) (ls : Array Slot), va_P D vwCl [(h, .inr (4, [.ref k, .ref c, .ref o, .int tr])), (o, .inr (3, [.ref g2, .int 0, .int nx])), (g2, .inr (2, [.int 12, .int 7, .ref a2])), (a2, .inl (cA2, 84, .inl f2))] H → va_S AA ss.heap H locs → lv_has ls 5 [(1, .int (nI t)), (2, .int (nI t)), (0, .ref h)] → W pp l ee (rk 3 0 0) ss mm ([.ref h] : List Value).toArray bl mt cd H locs 0 0 QQ (F0 mm 4 ls []) := by
    intro fu
    induction fu with
    | zero =>
      intro t ht hf H locs ls hP hS hl
      exact absurd hf (by omega)
    | succ fu ih =>
      intro t ht hf H locs ls hP hS hl
      refine lv_iload_n hx hb dX4_serve_4 rfl (lv_at hl 1 rfl) ?_
      refine lv_bipush (v := 22) hx hb dX4_serve_5 (by decide) ?_
      refine lv_icmp_ge (tgt := 77) hx hb dX4_serve_7 (by decide) (fun hc => absurd hc (nI_ge (a := t) (b := 22) (by omega) (by decide))) (fun zc7 => ?_)
      refine lv_iload_n hx hb dX4_serve_10 rfl (lv_at hl 0 rfl) ?_
      refine lv_bipush (v := 6) hx hb dX4_serve_11 (by decide) ?_
      refine lv_icmp_ge (tgt := 77) hx hb dX4_serve_13 (by decide) (fun zc13 => ?_) (fun zc13 => ?_)
      · exact hret () (trivial) hP (hK.sub [] rfl) hD hS (Nat.le_of_ble_eq_true rfl) (Nat.le_of_ble_eq_true rfl) dX4_serve_77
      · refine lv_aload_n hx hb dX4_serve_16 rfl (lv_at hl 2 rfl) ?_
        refine va_get (D := D) (ci := 4) (v := .ref o) (C := RX4) (T := TX4) (N := 4) hx hb hts inX4 hown hK hP 0 rfl rfl 2 (by decide) (hts (.fieldLink RX4 28 "LoanHouse$House" "holds" "LLoanHouse$Holds;") (List.mem_of_getElem? (i := 1) rfl)) (fun _ h9 => h9) rfl dX4_serve_17 ?_
        refine lv_iload_n hx hb dX4_serve_20 rfl (lv_at hl 0 rfl) ?_
        refine k_pi (va_runV (As := [.int (nI t)]) (rest := []) ⟨hx, hb, hml, hown, hts⟩ (c_X3_firstOfRow l D H.size o g2 a2 cA2 0 nx f2 (nI t) (by decide)) (cwV 1 hts gX4_serve_X3_firstOfRow rfl rfl rfl (by decide +kernel) ⟨(Nat.le_of_ble_eq_true rfl), (Nat.le_of_ble_eq_true rfl)⟩) ⟨mP_blind, va_recv hK hP (ci := 3) (q0 := 1) rfl rfl, m_pre _ hN hK hP hD [0] rfl [1, 2, 3] rfl (by decide)⟩ rfl rfl hl.1 rfl (lv_room (Nat.le_of_ble_eq_true rfl)) dX4_serve_21 ⟨(Nat.le_of_ble_eq_true rfl), (Nat.le_of_ble_eq_true rfl)⟩) hP hD hS hA [1, 2, 3] rfl (fun r96 u H locs hw hP hS => ?_)
        have zw21 := hw
        have e9 : r96 = -1 := zw21 rfl
        subst e9
        refine lv_istore_n (lv' := [(3, .int (-1)), (1, .int (nI t)), (2, .int (nI t)), (0, .ref h)]) hx hb dX4_serve_24 rfl hl (by decide) rfl (fun ls hl => ?_)
        refine lv_iload_n hx hb dX4_serve_25 rfl (lv_at hl 0 rfl) ?_
        refine lv_iconst (v := (-1)) hx hb dX4_serve_26 (by decide) ?_
        refine lv_icmp_ne (tgt := 34) hx hb dX4_serve_27 (by decide) (fun hc => absurd (by decide) hc) (fun zc27 => ?_)
        refine lv_iconst (v := (-1)) hx hb dX4_serve_30 (by decide) ?_
        refine lv_goto (tgt := 50) hx hb dX4_serve_31 (by decide) ?_
        refine lv_istore (lv' := [(4, .int (-1)), (3, .int (-1)), (1, .int (nI t)), (2, .int (nI t)), (0, .ref h)]) hx hb dX4_serve_50 hl (by decide) rfl (fun ls hl => ?_)
        refine lv_iload hx hb dX4_serve_52 (lv_at hl 0 rfl) ?_
        refine lv_iconst (v := (-1)) hx hb dX4_serve_54 (by decide) ?_
        refine lv_icmp_ne (tgt := 64) hx hb dX4_serve_55 (by decide) (fun hc => absurd (by decide) hc) (fun zc55 => ?_)
        refine lv_iinc (v := nI (t + 1)) (lv' := [(1, .int (nI (t + 1))), (4, .int (-1)), (3, .int (-1)), (2, .int (nI t)), (0, .ref h)]) hx hb dX4_serve_58 hl (k := 2) rfl (nI_1 t) (by decide) rfl (fun ls hl => ?_)
        refine lv_goto (tgt := 71) hx hb dX4_serve_61 (by decide) ?_
        refine lv_iinc (v := nI (t + 1)) (lv' := [(2, .int (nI (t + 1))), (1, .int (nI (t + 1))), (4, .int (-1)), (3, .int (-1)), (0, .ref h)]) hx hb dX4_serve_71 hl (k := 3) rfl (nI_1 t) (by decide) rfl (fun ls hl => ?_)
        refine lv_goto (tgt := 4) hx hb dX4_serve_74 (by decide) ?_
        exact ih (t + 1) (by have := lt_of_nle (c := 6) zc13 ht (by decide); omega) (by omega) _ _ ls hP hS (lv_sub hl [1, 0, 4] rfl)
  exact lp 7 0 (by decide) (by decide) _ _ ls hP hS (lv_sub hl [1, 0, 2] rfl)
set_option maxHeartbeats 4000000 in
set_option maxRecDepth 100000 in
theorem c_X4_addCopy (l : Launch) (D : va_G) (sz : Nat) (h k c g1 a1 o g2 a2 : Nat) (cA1 cA2 : ClassId) (nx tr : Int32) (f1 f2 : Nat → Int32) (t b : Int32) : mI l yX4_addCopy wsX4_addCopy (rk 4 0 0) D [.ref h, .int t, .int b] [(cA1, .int), (cA2, .int)] sz [(h, .inr (4, [.ref k, .ref c, .ref o, .int tr])), (c, .inr (1, [.ref g1, .int 0])), (g1, .inr (2, [.int 16, .int 5, .ref a1])), (a1, .inl (cA1, 80, .inl f1)), (o, .inr (3, [.ref g2, .int 0, .int nx])), (g2, .inr (2, [.int 12, .int 7, .ref a2])), (a2, .inl (cA2, 84, .inl f2))] (S := Unit) (fun r _ => r = 0) (fun _ => []) (fun _ => []) := by
  refine mI_of (cc := cX4_addCopy) (maxL := 4) (ty := .int) (plainFor_of_name (by decide)) rfl (Nat.le_of_ble_eq_true rfl) ?_
  intro pp ee ss mm bl mt cd AA QQ hx hb hml hts hown hN hA hK hP hD hS hret ls hl
  have hl : lv_has ls 4 [(0, .ref h), (1, .int t), (2, .int b)] := hl
  have inX4 : ∀ w ∈ wsX40, w ∈ wsX4_addCopy := fun _ h => List.mem_cons_of_mem _ (List.mem_append_left _ (List.mem_append_left _ (List.mem_append_left _ (List.mem_append_left _ (List.mem_append_right _ h)))))
  refine lv_aload_n hx hb dX4_addCopy_0 rfl (lv_at hl 0 rfl) ?_
  refine va_get (D := D) (ci := 4) (v := .ref c) (C := RX4) (T := TX4) (N := 4) hx hb hts inX4 hown hK hP 0 rfl rfl 1 (by decide) (hts (.fieldLink RX4 21 "LoanHouse$House" "copies" "LLoanHouse$Copies;") (List.mem_of_getElem? (i := 1) rfl)) (fun _ h9 => h9) rfl dX4_addCopy_1 ?_
  refine lv_iload_n hx hb dX4_addCopy_4 rfl (lv_at hl 1 rfl) ?_
  refine lv_iload_n hx hb dX4_addCopy_5 rfl (lv_at hl 2 rfl) ?_
  refine k_i (wr := [(h, .inr (4, [.ref k, .ref c, .ref o, .int tr])), (o, .inr (3, [.ref g2, .int 0, .int nx])), (g2, .inr (2, [.int 12, .int 7, .ref a2])), (a2, .inl (cA2, 84, .inl f2))]) (va_runV (As := [.int t, .int b]) (rest := []) ⟨hx, hb, hml, hown, hts⟩ (c_X1_add l D ss.heap.size c g1 a1 cA1 f1 t b ) (cwV 2 hts gX4_addCopy_X1_add rfl rfl rfl (by decide +kernel) ⟨(Nat.le_of_ble_eq_true rfl), (Nat.le_of_ble_eq_true rfl)⟩) ⟨mP_blind, va_recv hK hP (ci := 1) (q0 := 1) rfl rfl, m_pre _ hN hK hP hD [0] rfl [1, 2, 3] rfl (by decide)⟩ rfl rfl hl.1 rfl (lv_room (Nat.le_of_ble_eq_true rfl)) dX4_addCopy_6 ⟨(Nat.le_of_ble_eq_true rfl), (Nat.le_of_ble_eq_true rfl)⟩) hP hD hS hA [1, 2, 3] [0, 4, 5, 6] rfl rfl (by decide) (by decide) (fun r97 u H locs hw hK1 hP hD hS => ?_)
  obtain ⟨f98, rfl⟩ : ∃ z, z = u := ⟨_, rfl⟩
  have hP : va_P D vwCl [(h, .inr (4, [.ref k, .ref c, .ref o, .int tr])), (o, .inr (3, [.ref g2, .int 0, .int nx])), (g2, .inr (2, [.int 12, .int 7, .ref a2])), (a2, .inl (cA2, 84, .inl f2)), (c, .inr (1, [.ref g1, .int 1])), (g1, .inr (2, [.int 16, .int 5, .ref a1])), (a1, .inl (cA1, 80, .inl f98))] H := hP
  have hD : va_D AA [(h, .inr (4, [.ref k, .ref c, .ref o, .int tr])), (o, .inr (3, [.ref g2, .int 0, .int nx])), (g2, .inr (2, [.int 12, .int 7, .ref a2])), (a2, .inl (cA2, 84, .inl f2)), (c, .inr (1, [.ref g1, .int 1])), (g1, .inr (2, [.int 16, .int 5, .ref a1])), (a1, .inl (cA1, 80, .inl f98))] := hD
  try dsimp only at hw
  refine W.widen (k := 0) (n := 0) (Nat.le_of_ble_eq_true rfl) (Nat.le_of_ble_eq_true rfl) ?_
  obtain rfl := hw
  refine lv_istore_n (lv' := [(3, .int 0), (0, .ref h), (1, .int t), (2, .int b)]) hx hb dX4_addCopy_9 rfl hl (by decide) rfl (fun ls hl => ?_)
  refine lv_aload_n hx hb dX4_addCopy_10 rfl (lv_at hl 1 rfl) ?_
  refine k_pv (va_runV (As := []) (rest := []) ⟨hx, hb, hml, hown, hts⟩ (c_X4_serve_b l D H.size h k c o g2 a2 cA2 nx tr f2 ) (cwV 0 hts gX4_addCopy_X4_serve rfl rfl rfl (by decide +kernel) ⟨(Nat.le_of_ble_eq_true rfl), (Nat.le_of_ble_eq_true rfl)⟩) ⟨mP_blind, va_recv hK hP (ci := 4) (q0 := 0) rfl rfl, m_pre _ hN hK hP hD [1] rfl [0, 1, 2, 3] rfl (by decide)⟩ rfl rfl hl.1 rfl (lv_room (Nat.le_of_ble_eq_true rfl)) dX4_addCopy_11 ⟨(Nat.le_of_ble_eq_true rfl), (Nat.le_of_ble_eq_true rfl)⟩) hP hD hS hA [0, 1, 2, 3] rfl (fun u H locs hw hP hS => ?_)
  refine lv_iload_n hx hb dX4_addCopy_14 rfl (lv_at hl 0 rfl) ?_
  exact hret 0 () rfl (rfl) (m_P hP (is := []) rfl) (hK.sub [] rfl) (hD.sub [] (by decide) rfl) hS (Nat.le_of_ble_eq_true rfl) (Nat.le_of_ble_eq_true rfl) dX4_addCopy_15
set_option maxHeartbeats 4000000 in
set_option maxRecDepth 100000 in
theorem c_X4_addHold (l : Launch) (D : va_G) (sz : Nat) (h k c g1 o g2 a2 : Nat) (cA2 : ClassId) (hc : Nat) (now tm pt cl nx tr : Int32) (f2 : Nat → Int32) (p t b nd : Int32) (hh : hc < 12) : mI l yX4_addHold wsX4_addHold (rk 4 0 0) D [.ref h, .int p, .int t, .int b, .int nd] [(cA2, .int)] sz [(h, .inr (4, [.ref k, .ref c, .ref o, .int tr])), (k, .inr (0, [.int now, .int tm, .int pt, .int cl])), (c, .inr (1, [.ref g1, .int 0])), (o, .inr (3, [.ref g2, .int (nI hc), .int nx])), (g2, .inr (2, [.int 12, .int 7, .ref a2])), (a2, .inl (cA2, 84, .inl f2))] (S := Nat → Int32) (fun r _ => r = nx) (fun _ => []) (fun u => [(h, .inr (4, [.ref k, .ref c, .ref o, .int tr])), (k, .inr (0, [.int now, .int tm, .int pt, .int cl])), (c, .inr (1, [.ref g1, .int 0])), (o, .inr (3, [.ref g2, .int (nI (hc + 1)), .int (nx + 1)])), (g2, .inr (2, [.int 12, .int 7, .ref a2])), (a2, .inl (cA2, 84, .inl u))]) := by
  refine mI_of (cc := cX4_addHold) (maxL := 6) (ty := .int) (plainFor_of_name (by decide)) rfl (Nat.le_of_ble_eq_true rfl) ?_
  intro pp ee ss mm bl mt cd AA QQ hx hb hml hts hown hN hA hK hP hD hS hret ls hl
  have hl : lv_has ls 6 [(0, .ref h), (1, .int p), (2, .int t), (3, .int b), (4, .int nd)] := hl
  have inX0 : ∀ w ∈ wsX00, w ∈ wsX4_addHold := fun _ h => List.mem_cons_of_mem _ (List.mem_append_left _ (List.mem_append_left _ (List.mem_append_left _ (List.mem_append_right _ h))))
  have inX4 : ∀ w ∈ wsX40, w ∈ wsX4_addHold := fun _ h => List.mem_cons_of_mem _ (List.mem_append_left _ (List.mem_append_left _ (List.mem_append_left _ (List.mem_append_left _ (List.mem_append_right _ h)))))
  refine lv_aload_n hx hb dX4_addHold_0 rfl (lv_at hl 0 rfl) ?_
  refine va_get (D := D) (ci := 4) (v := .ref o) (C := RX4) (T := TX4) (N := 4) hx hb hts inX4 hown hK hP 0 rfl rfl 2 (by decide) (hts (.fieldLink RX4 28 "LoanHouse$House" "holds" "LLoanHouse$Holds;") (List.mem_of_getElem? (i := 1) rfl)) (fun _ h9 => h9) rfl dX4_addHold_1 ?_
  refine lv_iload_n hx hb dX4_addHold_4 rfl (lv_at hl 1 rfl) ?_
  refine lv_iload_n hx hb dX4_addHold_5 rfl (lv_at hl 2 rfl) ?_
  refine lv_iload_n hx hb dX4_addHold_6 rfl (lv_at hl 3 rfl) ?_
  refine lv_iload hx hb dX4_addHold_7 (lv_at hl 4 rfl) ?_
  refine lv_aload_n hx hb dX4_addHold_9 rfl (lv_at hl 0 rfl) ?_
  refine va_get (D := D) (ci := 4) (v := .ref k) (C := RX4) (T := TX4) (N := 4) hx hb hts inX4 hown hK hP 0 rfl rfl 0 (by decide) (hts (.fieldLink RX4 12 "LoanHouse$House" "calendar" "LLoanHouse$Calendar;") (List.mem_of_getElem? (i := 2) rfl)) (fun _ h9 => h9) rfl dX4_addHold_10 ?_
  refine va_getN (D := D) (ci := 0) (v := .int now) (host := "LoanHouse") (C := RX0) (T := TX0) (N := 4) hx hb hts inX0 hown hK hP 1 rfl rfl 0 (by decide) (va_Nw.use rfl (hN.at 0 rfl)) (fun _ h9 => h9) rfl dX4_addHold_13 ?_
  refine k_i (wr := [(h, .inr (4, [.ref k, .ref c, .ref o, .int tr])), (k, .inr (0, [.int now, .int tm, .int pt, .int cl])), (c, .inr (1, [.ref g1, .int 0]))]) (va_runV (As := [.int p, .int t, .int b, .int nd, .int now]) (rest := []) ⟨hx, hb, hml, hown, hts⟩ (c_X3_add l D ss.heap.size o g2 a2 cA2 hc nx f2 p t b nd now ) (cwV 5 hts gX4_addHold_X3_add rfl rfl rfl (by decide +kernel) ⟨(Nat.le_of_ble_eq_true rfl), (Nat.le_of_ble_eq_true rfl)⟩) ⟨mP_blind, va_recv hK hP (ci := 3) (q0 := 3) rfl rfl, m_pre _ hN hK hP hD [0] rfl [3, 4, 5] rfl (by decide)⟩ rfl rfl hl.1 rfl (lv_room (Nat.le_of_ble_eq_true rfl)) dX4_addHold_16 ⟨(Nat.le_of_ble_eq_true rfl), (Nat.le_of_ble_eq_true rfl)⟩) hP hD hS hA [3, 4, 5] [0, 1, 2] rfl rfl (by decide) (by decide) (fun r100 u H locs hw hK1 hP hD hS => ?_)
  obtain ⟨f101, rfl⟩ : ∃ z, z = u := ⟨_, rfl⟩
  have hP : va_P D vwCl [(h, .inr (4, [.ref k, .ref c, .ref o, .int tr])), (k, .inr (0, [.int now, .int tm, .int pt, .int cl])), (c, .inr (1, [.ref g1, .int 0])), (o, .inr (3, [.ref g2, .int (nI (hc + 1)), .int (nx + 1)])), (g2, .inr (2, [.int 12, .int 7, .ref a2])), (a2, .inl (cA2, 84, .inl f101))] H := hP
  have hD : va_D AA [(h, .inr (4, [.ref k, .ref c, .ref o, .int tr])), (k, .inr (0, [.int now, .int tm, .int pt, .int cl])), (c, .inr (1, [.ref g1, .int 0])), (o, .inr (3, [.ref g2, .int (nI (hc + 1)), .int (nx + 1)])), (g2, .inr (2, [.int 12, .int 7, .ref a2])), (a2, .inl (cA2, 84, .inl f101))] := hD
  try dsimp only at hw
  refine W.widen (k := 0) (n := 0) (Nat.le_of_ble_eq_true rfl) (Nat.le_of_ble_eq_true rfl) ?_
  have eR := hw.symm
  subst eR
  refine lv_istore (lv' := [(5, .int nx), (0, .ref h), (1, .int p), (2, .int t), (3, .int b), (4, .int nd)]) hx hb dX4_addHold_19 hl (by decide) rfl (fun ls hl => ?_)
  refine lv_aload_n hx hb dX4_addHold_21 rfl (lv_at hl 1 rfl) ?_
  refine k_pv (va_runV (As := []) (rest := []) ⟨hx, hb, hml, hown, hts⟩ (c_X4_serve_a l D H.size h k c g1 o g2 a2 cA2 (hc + 1) (nx + 1) tr f101 (by omega)) (cwV 0 hts gX4_addHold_X4_serve rfl rfl rfl (by decide +kernel) ⟨(Nat.le_of_ble_eq_true rfl), (Nat.le_of_ble_eq_true rfl)⟩) ⟨mP_blind, va_recv hK hP (ci := 4) (q0 := 0) rfl rfl, m_pre _ hN hK hP hD [0] rfl [0, 2, 3, 4, 5] rfl (by decide)⟩ rfl rfl hl.1 rfl (lv_room (Nat.le_of_ble_eq_true rfl)) dX4_addHold_22 ⟨(Nat.le_of_ble_eq_true rfl), (Nat.le_of_ble_eq_true rfl)⟩) hP hD hS hA [0, 2, 3, 4, 5] rfl (fun u H locs hw hP hS => ?_)
  refine lv_iload hx hb dX4_addHold_25 (lv_at hl 0 rfl) ?_
  exact hret nx f101 rfl (rfl) (m_P hP (is := [0, 1, 2, 3, 4, 5]) rfl) (hK.sub [] rfl) (hD.sub [0, 1, 2, 3, 4, 5] (by decide) rfl) hS (Nat.le_of_ble_eq_true rfl) (Nat.le_of_ble_eq_true rfl) dX4_addHold_27
set_option maxHeartbeats 4000000 in
set_option maxRecDepth 100000 in
theorem c_X4_dayPasses (l : Launch) (D : va_G) (sz : Nat) (h k c g1 o g2 a2 : Nat) (cA2 : ClassId) (hc d : Nat) (tm pt cl nx tr : Int32) (f2 : Nat → Int32) (hh : hc ≤ 12) : mV l yX4_dayPasses wsX4_dayPasses (rk 4 0 0) D [.ref h] [(cA2, .int)] sz [(h, .inr (4, [.ref k, .ref c, .ref o, .int tr])), (k, .inr (0, [.int (nI d), .int tm, .int pt, .int cl])), (c, .inr (1, [.ref g1, .int 0])), (o, .inr (3, [.ref g2, .int (nI hc), .int nx])), (g2, .inr (2, [.int 12, .int 7, .ref a2])), (a2, .inl (cA2, 84, .inl f2))] (S := Unit) (fun _ => True) (fun _ => []) (fun _ => [(h, .inr (4, [.ref k, .ref c, .ref o, .int 0])), (k, .inr (0, [.int (nI (d + 1)), .int tm, .int pt, .int cl])), (c, .inr (1, [.ref g1, .int 0])), (o, .inr (3, [.ref g2, .int (nI hc), .int nx])), (g2, .inr (2, [.int 12, .int 7, .ref a2])), (a2, .inl (cA2, 84, .inl f2))]) := by
  refine mV_of (cc := cX4_dayPasses) (maxL := 2) (plainFor_of_name (by decide)) rfl (Nat.le_of_ble_eq_true rfl) ?_
  intro pp ee ss mm bl mt cd AA QQ hx hb hml hts hown hN hA hK hP hD hS hmn hret ls hl
  have hl : lv_has ls 2 [(0, .ref h)] := hl
  have inX0 : ∀ w ∈ wsX00, w ∈ wsX4_dayPasses := fun _ h => List.mem_cons_of_mem _ (List.mem_append_left _ (List.mem_append_left _ (List.mem_append_left _ (List.mem_append_right _ h))))
  have inX1 : ∀ w ∈ wsX10, w ∈ wsX4_dayPasses := fun _ h => List.mem_cons_of_mem _ (List.mem_append_left _ (List.mem_append_left _ (List.mem_append_right _ h)))
  have inX4 : ∀ w ∈ wsX40, w ∈ wsX4_dayPasses := fun _ h => List.mem_cons_of_mem _ (List.mem_append_left _ (List.mem_append_left _ (List.mem_append_left _ (List.mem_append_left _ (List.mem_append_right _ h)))))
  refine lv_aload_n hx hb dX4_dayPasses_0 rfl (lv_at hl 0 rfl) ?_
  refine va_get (D := D) (ci := 4) (v := .ref k) (C := RX4) (T := TX4) (N := 4) hx hb hts inX4 hown hK hP 0 rfl rfl 0 (by decide) (hts (.fieldLink RX4 12 "LoanHouse$House" "calendar" "LLoanHouse$Calendar;") (List.mem_of_getElem? (i := 1) rfl)) (fun _ h9 => h9) rfl dX4_dayPasses_1 ?_
  refine lv_dup hx hb dX4_dayPasses_4 rfl ?_
  refine va_getN (D := D) (ci := 0) (v := .int (nI d)) (host := "LoanHouse") (C := RX0) (T := TX0) (N := 4) hx hb hts inX0 hown hK hP 1 rfl rfl 0 (by decide) (va_Nw.use rfl (hN.at 0 rfl)) (fun _ h9 => h9) rfl dX4_dayPasses_5 ?_
  refine lv_iconst (v := 1) hx hb dX4_dayPasses_8 (by decide) ?_
  refine lv_iadd hx hb dX4_dayPasses_9 ?_
  refine lv_topi (fun x103 ex103 => ?_)
  have ex103 : x103 = nI (d + 1) := ex103.trans (nI_1 d)
  subst ex103
  refine va_putN (D := D) (ci := 0) (v := .int (nI (d + 1))) (ty := .int) (host := "LoanHouse") (C := RX0) (T := TX0) (N := 4) hx hb hts inX0 tyX0 tyX0_ok nmX0 hown hK hP hD hS 1 rfl rfl 0 (by decide) (va_Nw.use rfl (hN.at 0 rfl)) (fun _ h9 => h9) rfl (by decide +kernel) rfl rfl (Nat.le_of_ble_eq_true rfl) dX4_dayPasses_10 (fun H locs hP hD hS => ?_)
  have hP : va_P D vwCl [(h, .inr (4, [.ref k, .ref c, .ref o, .int tr])), (k, .inr (0, [.int (nI (d + 1)), .int tm, .int pt, .int cl])), (c, .inr (1, [.ref g1, .int 0])), (o, .inr (3, [.ref g2, .int (nI hc), .int nx])), (g2, .inr (2, [.int 12, .int 7, .ref a2])), (a2, .inl (cA2, 84, .inl f2))] H := hP
  have hD : va_D AA [(h, .inr (4, [.ref k, .ref c, .ref o, .int tr])), (k, .inr (0, [.int (nI (d + 1)), .int tm, .int pt, .int cl])), (c, .inr (1, [.ref g1, .int 0])), (o, .inr (3, [.ref g2, .int (nI hc), .int nx])), (g2, .inr (2, [.int 12, .int 7, .ref a2])), (a2, .inl (cA2, 84, .inl f2))] := hD
  refine lv_aload_n hx hb dX4_dayPasses_13 rfl (lv_at hl 0 rfl) ?_
  refine lv_iconst (v := 0) hx hb dX4_dayPasses_14 (by decide) ?_
  refine va_put (D := D) (ci := 4) (v := .int 0) (ty := .int) (C := RX4) (T := TX4) (N := 4) hx hb hts inX4 tyX4 tyX4_ok nmX4 hown hK hP hD hS 0 rfl rfl 3 (by decide) (hts (.fieldLink RX4 95 "LoanHouse$House" "trips" "I") (List.mem_of_getElem? (i := 2) rfl)) (fun _ h9 => h9) rfl (by decide +kernel) rfl rfl (Nat.le_of_ble_eq_true rfl) dX4_dayPasses_15 (fun H locs hP hD hS => ?_)
  have hP : va_P D vwCl [(h, .inr (4, [.ref k, .ref c, .ref o, .int 0])), (k, .inr (0, [.int (nI (d + 1)), .int tm, .int pt, .int cl])), (c, .inr (1, [.ref g1, .int 0])), (o, .inr (3, [.ref g2, .int (nI hc), .int nx])), (g2, .inr (2, [.int 12, .int 7, .ref a2])), (a2, .inl (cA2, 84, .inl f2))] H := hP
  have hD : va_D AA [(h, .inr (4, [.ref k, .ref c, .ref o, .int 0])), (k, .inr (0, [.int (nI (d + 1)), .int tm, .int pt, .int cl])), (c, .inr (1, [.ref g1, .int 0])), (o, .inr (3, [.ref g2, .int (nI hc), .int nx])), (g2, .inr (2, [.int 12, .int 7, .ref a2])), (a2, .inl (cA2, 84, .inl f2))] := hD
  refine lv_iconst (v := 0) hx hb dX4_dayPasses_18 (by decide) ?_
  refine lv_istore_n (lv' := [(1, .int 0), (0, .ref h)]) hx hb dX4_dayPasses_19 rfl hl (by decide) rfl (fun ls hl => ?_)
  refine lv_iload_n hx hb dX4_dayPasses_20 rfl (lv_at hl 0 rfl) ?_
  refine lv_aload_n hx hb dX4_dayPasses_21 rfl (lv_at hl 1 rfl) ?_
  refine va_get (D := D) (ci := 4) (v := .ref c) (C := RX4) (T := TX4) (N := 4) hx hb hts inX4 hown hK hP 0 rfl rfl 1 (by decide) (hts (.fieldLink RX4 21 "LoanHouse$House" "copies" "LLoanHouse$Copies;") (List.mem_of_getElem? (i := 3) rfl)) (fun _ h9 => h9) rfl dX4_dayPasses_22 ?_
  refine va_getN (D := D) (ci := 1) (v := .int 0) (host := "LoanHouse") (C := RX1) (T := TX1) (N := 2) hx hb hts inX1 hown hK hP 2 rfl rfl 1 (by decide) (va_Nw.use rfl (hN.at 6 rfl)) (fun _ h9 => h9) rfl dX4_dayPasses_25 ?_
  refine lv_icmp_ge (tgt := 42) hx hb dX4_dayPasses_28 (by decide) (fun zc28 => ?_) (fun hc => absurd (by decide) hc)
  refine lv_aload_n hx hb dX4_dayPasses_42 rfl (lv_at hl 1 rfl) ?_
  refine k_pv (va_runV (As := []) (rest := []) ⟨hx, hb, hml, hown, hts⟩ (c_X4_serve_a l D H.size h k c g1 o g2 a2 cA2 hc nx 0 f2 hh) (cwV 0 hts gX4_dayPasses_X4_serve rfl rfl rfl (by decide +kernel) ⟨(Nat.le_of_ble_eq_true rfl), (Nat.le_of_ble_eq_true rfl)⟩) ⟨mP_blind, va_recv hK hP (ci := 4) (q0 := 0) rfl rfl, m_pre _ hN hK hP hD [0] rfl [0, 2, 3, 4, 5] rfl (by decide)⟩ rfl rfl hl.1 rfl (lv_room (Nat.le_of_ble_eq_true rfl)) dX4_dayPasses_43 ⟨(Nat.le_of_ble_eq_true rfl), (Nat.le_of_ble_eq_true rfl)⟩) hP hD hS hA [0, 2, 3, 4, 5] rfl (fun u H locs hw hP hS => ?_)
  exact hret () (trivial) (m_P hP (is := [0, 1, 2, 3, 4, 5]) rfl) (hK.sub [] rfl) (hD.sub [0, 1, 2, 3, 4, 5] (by decide) rfl) hS (Nat.le_of_ble_eq_true rfl) (Nat.le_of_ble_eq_true rfl) dX4_dayPasses_46
set_option maxHeartbeats 4000000 in
set_option maxRecDepth 100000 in
theorem c_X4_become (l : Launch) (D : va_G) (sz : Nat) (h k c g1 a1 o g2 a2 : Nat) (cA1 cA2 : ClassId) (now tm pt cl cnt hc nx tr : Int32) (f1 f2 : Nat → Int32) (hq kq cq g1q a1q oq g2q a2q : Nat) (cA1q cA2q : ClassId) (nowq tmq ptq clq cntq hcq nxq trq : Int32) (f1q f2q : Nat → Int32) : mV l yX4_become wsX4_become (rk 3 0 0) D [.ref h, .ref hq] [(cA1, .int), (cA2, .int), (cA1q, .int), (cA2q, .int)] sz [(h, .inr (4, [.ref k, .ref c, .ref o, .int tr])), (k, .inr (0, [.int now, .int tm, .int pt, .int cl])), (c, .inr (1, [.ref g1, .int cnt])), (g1, .inr (2, [.int 16, .int 5, .ref a1])), (a1, .inl (cA1, 80, .inl f1)), (o, .inr (3, [.ref g2, .int hc, .int nx])), (g2, .inr (2, [.int 12, .int 7, .ref a2])), (a2, .inl (cA2, 84, .inl f2)), (hq, .inr (4, [.ref kq, .ref cq, .ref oq, .int trq])), (kq, .inr (0, [.int nowq, .int tmq, .int ptq, .int clq])), (cq, .inr (1, [.ref g1q, .int cntq])), (g1q, .inr (2, [.int 16, .int 5, .ref a1q])), (a1q, .inl (cA1q, 80, .inl f1q)), (oq, .inr (3, [.ref g2q, .int hcq, .int nxq])), (g2q, .inr (2, [.int 12, .int 7, .ref a2q])), (a2q, .inl (cA2q, 84, .inl f2q))] (S := Unit) (fun _ => True) (fun _ => []) (fun _ => [(hq, .inr (4, [.ref kq, .ref cq, .ref oq, .int trq])), (kq, .inr (0, [.int nowq, .int tmq, .int ptq, .int clq])), (cq, .inr (1, [.ref g1q, .int cntq])), (g1q, .inr (2, [.int 16, .int 5, .ref a1q])), (a1q, .inl (cA1q, 80, .inl f1q)), (oq, .inr (3, [.ref g2q, .int hcq, .int nxq])), (g2q, .inr (2, [.int 12, .int 7, .ref a2q])), (a2q, .inl (cA2q, 84, .inl f2q))]) := by
  refine mV_of (cc := cX4_become) (maxL := 2) (plainFor_of_name (by decide)) rfl (Nat.le_of_ble_eq_true rfl) ?_
  intro pp ee ss mm bl mt cd AA QQ hx hb hml hts hown hN hA hK hP hD hS hmn hret ls hl
  have hl : lv_has ls 2 [(0, .ref h), (1, .ref hq)] := hl
  have inX4 : ∀ w ∈ wsX40, w ∈ wsX4_become := fun _ h => List.mem_cons_of_mem _ (List.mem_append_left _ (List.mem_append_left _ (List.mem_append_left _ (List.mem_append_left _ (List.mem_append_right _ h)))))
  refine lv_aload_n hx hb dX4_become_0 rfl (lv_at hl 0 rfl) ?_
  refine va_get (D := D) (ci := 4) (v := .ref k) (C := RX4) (T := TX4) (N := 4) hx hb hts inX4 hown hK hP 0 rfl rfl 0 (by decide) (hts (.fieldLink RX4 12 "LoanHouse$House" "calendar" "LLoanHouse$Calendar;") (List.mem_of_getElem? (i := 1) rfl)) (fun _ h9 => h9) rfl dX4_become_1 ?_
  refine lv_aload_n hx hb dX4_become_4 rfl (lv_at hl 1 rfl) ?_
  refine va_get (D := D) (ci := 4) (v := .ref kq) (C := RX4) (T := TX4) (N := 4) hx hb hts inX4 hown hK hP 8 rfl rfl 0 (by decide) (hts (.fieldLink RX4 12 "LoanHouse$House" "calendar" "LLoanHouse$Calendar;") (List.mem_of_getElem? (i := 1) rfl)) (fun _ h9 => h9) rfl dX4_become_5 ?_
  refine k_v (wr := [(h, .inr (4, [.ref k, .ref c, .ref o, .int tr])), (c, .inr (1, [.ref g1, .int cnt])), (g1, .inr (2, [.int 16, .int 5, .ref a1])), (a1, .inl (cA1, 80, .inl f1)), (o, .inr (3, [.ref g2, .int hc, .int nx])), (g2, .inr (2, [.int 12, .int 7, .ref a2])), (a2, .inl (cA2, 84, .inl f2)), (hq, .inr (4, [.ref kq, .ref cq, .ref oq, .int trq])), (cq, .inr (1, [.ref g1q, .int cntq])), (g1q, .inr (2, [.int 16, .int 5, .ref a1q])), (a1q, .inl (cA1q, 80, .inl f1q)), (oq, .inr (3, [.ref g2q, .int hcq, .int nxq])), (g2q, .inr (2, [.int 12, .int 7, .ref a2q])), (a2q, .inl (cA2q, 84, .inl f2q))]) (va_runV (As := [.ref kq]) (rest := []) ⟨hx, hb, hml, hown, hts⟩ (c_X0_become l D ss.heap.size k kq now tm pt cl nowq tmq ptq clq ) (cwV 1 hts gX4_become_X0_become rfl rfl rfl (by decide +kernel) ⟨(Nat.le_of_ble_eq_true rfl), (Nat.le_of_ble_eq_true rfl)⟩) ⟨mP_blind, va_recv hK hP (ci := 0) (q0 := 1) rfl rfl, m_pre _ hN hK hP hD [] rfl [1, 9] rfl (by decide)⟩ rfl rfl hl.1 rfl (lv_room (Nat.le_of_ble_eq_true rfl)) dX4_become_8 ⟨(Nat.le_of_ble_eq_true rfl), (Nat.le_of_ble_eq_true rfl)⟩) hP hD hS hA [1, 9] [0, 2, 3, 4, 5, 6, 7, 8, 10, 11, 12, 13, 14, 15] rfl rfl (by decide) (by decide) (fun u H locs hw hK1 hP hD hS => ?_)
  have hP : va_P D vwCl [(h, .inr (4, [.ref k, .ref c, .ref o, .int tr])), (c, .inr (1, [.ref g1, .int cnt])), (g1, .inr (2, [.int 16, .int 5, .ref a1])), (a1, .inl (cA1, 80, .inl f1)), (o, .inr (3, [.ref g2, .int hc, .int nx])), (g2, .inr (2, [.int 12, .int 7, .ref a2])), (a2, .inl (cA2, 84, .inl f2)), (hq, .inr (4, [.ref kq, .ref cq, .ref oq, .int trq])), (cq, .inr (1, [.ref g1q, .int cntq])), (g1q, .inr (2, [.int 16, .int 5, .ref a1q])), (a1q, .inl (cA1q, 80, .inl f1q)), (oq, .inr (3, [.ref g2q, .int hcq, .int nxq])), (g2q, .inr (2, [.int 12, .int 7, .ref a2q])), (a2q, .inl (cA2q, 84, .inl f2q)), (kq, .inr (0, [.int nowq, .int tmq, .int ptq, .int clq]))] H := hP
  have hD : va_D AA [(h, .inr (4, [.ref k, .ref c, .ref o, .int tr])), (c, .inr (1, [.ref g1, .int cnt])), (g1, .inr (2, [.int 16, .int 5, .ref a1])), (a1, .inl (cA1, 80, .inl f1)), (o, .inr (3, [.ref g2, .int hc, .int nx])), (g2, .inr (2, [.int 12, .int 7, .ref a2])), (a2, .inl (cA2, 84, .inl f2)), (hq, .inr (4, [.ref kq, .ref cq, .ref oq, .int trq])), (cq, .inr (1, [.ref g1q, .int cntq])), (g1q, .inr (2, [.int 16, .int 5, .ref a1q])), (a1q, .inl (cA1q, 80, .inl f1q)), (oq, .inr (3, [.ref g2q, .int hcq, .int nxq])), (g2q, .inr (2, [.int 12, .int 7, .ref a2q])), (a2q, .inl (cA2q, 84, .inl f2q)), (kq, .inr (0, [.int nowq, .int tmq, .int ptq, .int clq]))] := hD
  try dsimp only at hw
  refine W.widen (k := 0) (n := 0) (Nat.le_of_ble_eq_true rfl) (Nat.le_of_ble_eq_true rfl) ?_
  refine lv_aload_n hx hb dX4_become_11 rfl (lv_at hl 0 rfl) ?_
  refine va_get (D := D) (ci := 4) (v := .ref c) (C := RX4) (T := TX4) (N := 4) hx hb hts inX4 hown hK hP 0 rfl rfl 1 (by decide) (hts (.fieldLink RX4 21 "LoanHouse$House" "copies" "LLoanHouse$Copies;") (List.mem_of_getElem? (i := 2) rfl)) (fun _ h9 => h9) rfl dX4_become_12 ?_
  refine lv_aload_n hx hb dX4_become_15 rfl (lv_at hl 1 rfl) ?_
  refine va_get (D := D) (ci := 4) (v := .ref cq) (C := RX4) (T := TX4) (N := 4) hx hb hts inX4 hown hK hP 7 rfl rfl 1 (by decide) (hts (.fieldLink RX4 21 "LoanHouse$House" "copies" "LLoanHouse$Copies;") (List.mem_of_getElem? (i := 2) rfl)) (fun _ h9 => h9) rfl dX4_become_16 ?_
  refine k_v (wr := [(h, .inr (4, [.ref k, .ref c, .ref o, .int tr])), (o, .inr (3, [.ref g2, .int hc, .int nx])), (g2, .inr (2, [.int 12, .int 7, .ref a2])), (a2, .inl (cA2, 84, .inl f2)), (hq, .inr (4, [.ref kq, .ref cq, .ref oq, .int trq])), (oq, .inr (3, [.ref g2q, .int hcq, .int nxq])), (g2q, .inr (2, [.int 12, .int 7, .ref a2q])), (a2q, .inl (cA2q, 84, .inl f2q)), (kq, .inr (0, [.int nowq, .int tmq, .int ptq, .int clq]))]) (va_runV (As := [.ref cq]) (rest := []) ⟨hx, hb, hml, hown, hts⟩ (c_X1_become l D H.size c g1 a1 cq g1q a1q cA1 cA1q cnt cntq f1 f1q ) (cwV 1 hts gX4_become_X1_become rfl rfl rfl (by decide +kernel) ⟨(Nat.le_of_ble_eq_true rfl), (Nat.le_of_ble_eq_true rfl)⟩) ⟨mP_blind, va_recv hK hP (ci := 1) (q0 := 1) rfl rfl, m_pre _ hN hK hP hD [0, 2] rfl [1, 2, 3, 8, 9, 10] rfl (by decide)⟩ rfl rfl hl.1 rfl (lv_room (Nat.le_of_ble_eq_true rfl)) dX4_become_19 ⟨(Nat.le_of_ble_eq_true rfl), (Nat.le_of_ble_eq_true rfl)⟩) hP hD hS hA [1, 2, 3, 8, 9, 10] [0, 4, 5, 6, 7, 11, 12, 13, 14] rfl rfl (by decide) (by decide) (fun u H locs hw hK1 hP hD hS => ?_)
  have hP : va_P D vwCl [(h, .inr (4, [.ref k, .ref c, .ref o, .int tr])), (o, .inr (3, [.ref g2, .int hc, .int nx])), (g2, .inr (2, [.int 12, .int 7, .ref a2])), (a2, .inl (cA2, 84, .inl f2)), (hq, .inr (4, [.ref kq, .ref cq, .ref oq, .int trq])), (oq, .inr (3, [.ref g2q, .int hcq, .int nxq])), (g2q, .inr (2, [.int 12, .int 7, .ref a2q])), (a2q, .inl (cA2q, 84, .inl f2q)), (kq, .inr (0, [.int nowq, .int tmq, .int ptq, .int clq])), (cq, .inr (1, [.ref g1q, .int cntq])), (g1q, .inr (2, [.int 16, .int 5, .ref a1q])), (a1q, .inl (cA1q, 80, .inl f1q))] H := hP
  have hD : va_D AA [(h, .inr (4, [.ref k, .ref c, .ref o, .int tr])), (o, .inr (3, [.ref g2, .int hc, .int nx])), (g2, .inr (2, [.int 12, .int 7, .ref a2])), (a2, .inl (cA2, 84, .inl f2)), (hq, .inr (4, [.ref kq, .ref cq, .ref oq, .int trq])), (oq, .inr (3, [.ref g2q, .int hcq, .int nxq])), (g2q, .inr (2, [.int 12, .int 7, .ref a2q])), (a2q, .inl (cA2q, 84, .inl f2q)), (kq, .inr (0, [.int nowq, .int tmq, .int ptq, .int clq])), (cq, .inr (1, [.ref g1q, .int cntq])), (g1q, .inr (2, [.int 16, .int 5, .ref a1q])), (a1q, .inl (cA1q, 80, .inl f1q))] := hD
  try dsimp only at hw
  refine W.widen (k := 0) (n := 0) (Nat.le_of_ble_eq_true rfl) (Nat.le_of_ble_eq_true rfl) ?_
  refine lv_aload_n hx hb dX4_become_22 rfl (lv_at hl 0 rfl) ?_
  refine va_get (D := D) (ci := 4) (v := .ref o) (C := RX4) (T := TX4) (N := 4) hx hb hts inX4 hown hK hP 0 rfl rfl 2 (by decide) (hts (.fieldLink RX4 28 "LoanHouse$House" "holds" "LLoanHouse$Holds;") (List.mem_of_getElem? (i := 3) rfl)) (fun _ h9 => h9) rfl dX4_become_23 ?_
  refine lv_aload_n hx hb dX4_become_26 rfl (lv_at hl 1 rfl) ?_
  refine va_get (D := D) (ci := 4) (v := .ref oq) (C := RX4) (T := TX4) (N := 4) hx hb hts inX4 hown hK hP 4 rfl rfl 2 (by decide) (hts (.fieldLink RX4 28 "LoanHouse$House" "holds" "LLoanHouse$Holds;") (List.mem_of_getElem? (i := 3) rfl)) (fun _ h9 => h9) rfl dX4_become_27 ?_
  refine k_v (wr := [(h, .inr (4, [.ref k, .ref c, .ref o, .int tr])), (hq, .inr (4, [.ref kq, .ref cq, .ref oq, .int trq])), (kq, .inr (0, [.int nowq, .int tmq, .int ptq, .int clq])), (cq, .inr (1, [.ref g1q, .int cntq])), (g1q, .inr (2, [.int 16, .int 5, .ref a1q])), (a1q, .inl (cA1q, 80, .inl f1q))]) (va_runV (As := [.ref oq]) (rest := []) ⟨hx, hb, hml, hown, hts⟩ (c_X3_become l D H.size o g2 a2 oq g2q a2q cA2 cA2q hc nx hcq nxq f2 f2q ) (cwV 1 hts gX4_become_X3_become rfl rfl rfl (by decide +kernel) ⟨(Nat.le_of_ble_eq_true rfl), (Nat.le_of_ble_eq_true rfl)⟩) ⟨mP_blind, va_recv hK hP (ci := 3) (q0 := 1) rfl rfl, m_pre _ hN hK hP hD [1, 3] rfl [1, 2, 3, 5, 6, 7] rfl (by decide)⟩ rfl rfl hl.1 rfl (lv_room (Nat.le_of_ble_eq_true rfl)) dX4_become_30 ⟨(Nat.le_of_ble_eq_true rfl), (Nat.le_of_ble_eq_true rfl)⟩) hP hD hS hA [1, 2, 3, 5, 6, 7] [0, 4, 8, 9, 10, 11] rfl rfl (by decide) (by decide) (fun u H locs hw hK1 hP hD hS => ?_)
  have hP : va_P D vwCl [(h, .inr (4, [.ref k, .ref c, .ref o, .int tr])), (hq, .inr (4, [.ref kq, .ref cq, .ref oq, .int trq])), (kq, .inr (0, [.int nowq, .int tmq, .int ptq, .int clq])), (cq, .inr (1, [.ref g1q, .int cntq])), (g1q, .inr (2, [.int 16, .int 5, .ref a1q])), (a1q, .inl (cA1q, 80, .inl f1q)), (oq, .inr (3, [.ref g2q, .int hcq, .int nxq])), (g2q, .inr (2, [.int 12, .int 7, .ref a2q])), (a2q, .inl (cA2q, 84, .inl f2q))] H := hP
  have hD : va_D AA [(h, .inr (4, [.ref k, .ref c, .ref o, .int tr])), (hq, .inr (4, [.ref kq, .ref cq, .ref oq, .int trq])), (kq, .inr (0, [.int nowq, .int tmq, .int ptq, .int clq])), (cq, .inr (1, [.ref g1q, .int cntq])), (g1q, .inr (2, [.int 16, .int 5, .ref a1q])), (a1q, .inl (cA1q, 80, .inl f1q)), (oq, .inr (3, [.ref g2q, .int hcq, .int nxq])), (g2q, .inr (2, [.int 12, .int 7, .ref a2q])), (a2q, .inl (cA2q, 84, .inl f2q))] := hD
  try dsimp only at hw
  refine W.widen (k := 0) (n := 0) (Nat.le_of_ble_eq_true rfl) (Nat.le_of_ble_eq_true rfl) ?_
  refine lv_aload_n hx hb dX4_become_33 rfl (lv_at hl 0 rfl) ?_
  refine lv_aload_n hx hb dX4_become_34 rfl (lv_at hl 1 rfl) ?_
  refine va_get (D := D) (ci := 4) (v := .int trq) (C := RX4) (T := TX4) (N := 4) hx hb hts inX4 hown hK hP 1 rfl rfl 3 (by decide) (hts (.fieldLink RX4 95 "LoanHouse$House" "trips" "I") (List.mem_of_getElem? (i := 4) rfl)) (fun _ h9 => h9) rfl dX4_become_35 ?_
  refine va_put (D := D) (ci := 4) (v := .int trq) (ty := .int) (C := RX4) (T := TX4) (N := 4) hx hb hts inX4 tyX4 tyX4_ok nmX4 hown hK hP hD hS 0 rfl rfl 3 (by decide) (hts (.fieldLink RX4 95 "LoanHouse$House" "trips" "I") (List.mem_of_getElem? (i := 4) rfl)) (fun _ h9 => h9) rfl (by decide +kernel) rfl rfl (Nat.le_of_ble_eq_true rfl) dX4_become_38 (fun H locs hP hD hS => ?_)
  have hP : va_P D vwCl [(h, .inr (4, [.ref k, .ref c, .ref o, .int trq])), (hq, .inr (4, [.ref kq, .ref cq, .ref oq, .int trq])), (kq, .inr (0, [.int nowq, .int tmq, .int ptq, .int clq])), (cq, .inr (1, [.ref g1q, .int cntq])), (g1q, .inr (2, [.int 16, .int 5, .ref a1q])), (a1q, .inl (cA1q, 80, .inl f1q)), (oq, .inr (3, [.ref g2q, .int hcq, .int nxq])), (g2q, .inr (2, [.int 12, .int 7, .ref a2q])), (a2q, .inl (cA2q, 84, .inl f2q))] H := hP
  have hD : va_D AA [(h, .inr (4, [.ref k, .ref c, .ref o, .int trq])), (hq, .inr (4, [.ref kq, .ref cq, .ref oq, .int trq])), (kq, .inr (0, [.int nowq, .int tmq, .int ptq, .int clq])), (cq, .inr (1, [.ref g1q, .int cntq])), (g1q, .inr (2, [.int 16, .int 5, .ref a1q])), (a1q, .inl (cA1q, 80, .inl f1q)), (oq, .inr (3, [.ref g2q, .int hcq, .int nxq])), (g2q, .inr (2, [.int 12, .int 7, .ref a2q])), (a2q, .inl (cA2q, 84, .inl f2q))] := hD
  exact hret () (trivial) (m_P hP (is := [1, 2, 3, 4, 5, 6, 7, 8]) rfl) (hK.sub [] rfl) (hD.sub [1, 2, 3, 4, 5, 6, 7, 8] (by decide) rfl) hS (Nat.le_of_ble_eq_true rfl) (Nat.le_of_ble_eq_true rfl) dX4_become_41
