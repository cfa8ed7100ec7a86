set_option maxHeartbeats 4000000 in
set_option maxRecDepth 100000 in
theorem c_X1_init (l : Launch) (D : va_G) (sz : Nat) (c : Nat) : mV l yX1_init wsX1_init (rk 2 2 83) D [.ref c] [] sz [(c, .inr (1, [.null, .int 0]))] (S := Nat × Nat × ClassId × (Nat → Int32)) (fun _ => True) (fun u => [(u.2.2.1, .int)]) (fun u => [(c, .inr (1, [.ref u.1, .int 0])), (u.1, .inr (2, [.int 16, .int 5, .ref u.2.1])), (u.2.1, .inl (u.2.2.1, 80, .inl u.2.2.2))]) := by
  refine mV_of (cc := cX1_init) (maxL := 1) (plainFor_of_name (by decide)) rfl (Nat.le_of_ble_eq_true rfl) ?_
  intro pp ee ss mm bl mt cd AA QQ hx hb hml hts hown hN hA hK hP hD hS hmn hret ls hl
  have hl : lv_has ls 1 [(0, .ref c)] := hl
  have inX1 : ∀ w ∈ wsX10, w ∈ wsX1_init := fun _ h => List.mem_cons_of_mem _ (List.mem_append_right _ h)
  have inX2 : ∀ w ∈ wsX20, w ∈ wsX1_init := fun _ h => List.mem_cons_of_mem _ (List.mem_append_left _ (List.mem_append_right _ h))
  refine lv_aload_n hx hb dX1_init_0 rfl (lv_at hl 0 rfl) ?_
  refine W.objInit hx hb hown (hts (.methodLink RX1 3 objectInit) (List.mem_of_getElem? (i := 1) rfl)) (hts (.instanceMethod objectInit) (List.mem_of_getElem? (i := 2) rfl)) (hts (.code objectInit ⟨#[0xb1]⟩ 1 none) (List.mem_of_getElem? (i := 3) rfl)) rfl (by rw [hml]; exact hl.1) rfl dX1_init_1 (Nat.le_of_ble_eq_true rfl) (Nat.le_of_ble_eq_true rfl) ?_
  refine W.eq (g2 := F0 mm 4 ls []) rfl ?_
  refine lv_aload_n hx hb dX1_init_4 rfl (lv_at hl 0 rfl) ?_
  refine va_new (ci := 2) (fs := [.int 0, .int 0, .null]) (C := RX2) (T := TX2) (N := 3) hx hb hts inX2 tyX2 tyX2_ok hown (hts (.classLink RX1 9 RX2) (List.mem_of_getElem? (i := 4) rfl)) (hts (.instantiable RX2 3) (List.mem_of_getElem? (i := 5) rfl)) (hts (.initialized RX2) (List.mem_of_getElem? (i := 6) rfl)) hK hP hD hS hA rfl (fun j hj => by rcases (show j = 0 ∨ j = 1 ∨ j = 2 by omega) with rfl | rfl | rfl <;> rfl) (Nat.le_of_ble_eq_true rfl) (Nat.le_of_ble_eq_true rfl) dX1_init_5 (fun q26 H hP hD hS => ?_)
  have hP : va_P D vwCl [(c, .inr (1, [.null, .int 0])), (q26, .inr (2, [.int 0, .int 0, .null]))] H := hP
  have hD : va_D AA [(c, .inr (1, [.null, .int 0])), (q26, .inr (2, [.int 0, .int 0, .null]))] := hD
  refine W.widen (k := 1) (n := 3) (Nat.le_of_ble_eq_true rfl) (Nat.le_of_ble_eq_true rfl) ?_
  refine lv_dup hx hb dX1_init_8 rfl ?_
  refine lv_bipush (v := 16) hx hb dX1_init_9 (by decide) ?_
  refine lv_iconst (v := 5) hx hb dX1_init_11 (by decide) ?_
  refine k_v (wr := [(c, .inr (1, [.null, .int 0]))]) (va_runI (As := [.int 16, .int 5]) (rest := [.ref q26, .ref c]) ⟨hx, hb, hml, hown, hts⟩ (c_X2_init_80 l D H.size q26 ) (cwI 2 hts gX1_init_X2_init rfl rfl rfl (hts (.initialized RX2) (List.mem_of_getElem? (i := 6) rfl)) (hts (.methodLink RX1 13 yX2_init) (List.mem_of_getElem? (i := 8) rfl)) (hts (.instanceMethod yX2_init) (List.mem_of_getElem? (i := 9) rfl)) rfl (by decide +kernel) ⟨(Nat.le_of_ble_eq_true rfl), (Nat.le_of_ble_eq_true rfl)⟩) ⟨mP_blind, m_pre _ hN hK hP hD [] rfl [1] rfl (by decide)⟩ rfl rfl hl.1 rfl (lv_room (Nat.le_of_ble_eq_true rfl)) dX1_init_12 ⟨(Nat.le_of_ble_eq_true rfl), (Nat.le_of_ble_eq_true rfl)⟩) hP hD hS hA [1] [0] rfl rfl (by decide) (by decide) (fun u H locs hw hK1 hP hD hS => ?_)
  obtain ⟨a28, cA29, f30⟩ := u
  have hK : va_K D vwCl [(cA29, .int)] ss := hK.app hK1
  have hP : va_P D vwCl [(c, .inr (1, [.null, .int 0])), (q26, .inr (2, [.int 16, .int 5, .ref a28])), (a28, .inl (cA29, 80, .inl f30))] H := hP
  have hD : va_D AA [(c, .inr (1, [.null, .int 0])), (q26, .inr (2, [.int 16, .int 5, .ref a28])), (a28, .inl (cA29, 80, .inl f30))] := hD
  try dsimp only at hw
  refine W.widen (k := 2) (n := 83) (Nat.le_of_ble_eq_true rfl) (Nat.le_of_ble_eq_true rfl) ?_
  refine va_putF (D := D) (ci := 1) (v := .ref q26) (ty := .object "LoanHouse$Grid") (C := RX1) (T := TX1) (N := 2) hx hb hts inX1 tyX1 tyX1_ok nmX1 hown hK hP hD hS 0 rfl rfl 0 (by decide) (hts (.fieldLink RX1 16 "LoanHouse$Copies" "grid" "LLoanHouse$Grid;") (List.mem_of_getElem? (i := 7) rfl)) (fun _ h9 => h9) rfl hmn rfl (by decide +kernel) rfl rfl (Nat.le_of_ble_eq_true rfl) dX1_init_15 (fun H locs hP hD hS => ?_)
  have hP : va_P D vwCl [(c, .inr (1, [.ref q26, .int 0])), (q26, .inr (2, [.int 16, .int 5, .ref a28])), (a28, .inl (cA29, 80, .inl f30))] H := hP
  have hD : va_D AA [(c, .inr (1, [.ref q26, .int 0])), (q26, .inr (2, [.int 16, .int 5, .ref a28])), (a28, .inl (cA29, 80, .inl f30))] := hD
  exact hret (q26, a28, cA29, f30) (trivial) (m_P hP (is := [0, 1, 2]) rfl) (hK.sub [0] rfl) (hD.sub [0, 1, 2] (by decide) rfl) hS (Nat.le_of_ble_eq_true rfl) (Nat.le_of_ble_eq_true rfl) dX1_init_18
set_option maxHeartbeats 4000000 in
set_option maxRecDepth 100000 in
theorem c_X1_write (l : Launch) (D : va_G) (sz : Nat) (c g a : Nat) (cA : ClassId) (cnt : Int32) (f : Nat → Int32) (i b st w d : Int32) : mV l yX1_write wsX1_write (rk 1 0 0) D [.ref c, .int i, .int b, .int st, .int w, .int d] [(cA, .int)] sz [(c, .inr (1, [.ref g, .int cnt])), (g, .inr (2, [.int 16, .int 5, .ref a])), (a, .inl (cA, 80, .inl f))] (S := Nat → Int32) (fun _ => True) (fun _ => []) (fun u => [(c, .inr (1, [.ref g, .int cnt])), (g, .inr (2, [.int 16, .int 5, .ref a])), (a, .inl (cA, 80, .inl u))]) := by
  refine mV_of (cc := cX1_write) (maxL := 6) (plainFor_of_name (by decide)) rfl (Nat.le_of_ble_eq_true rfl) ?_
  intro pp ee ss mm bl mt cd AA QQ hx hb hml hts hown hN hA hK hP hD hS hmn hret ls hl
  have hl : lv_has ls 6 [(0, .ref c), (1, .int i), (2, .int b), (3, .int st), (4, .int w), (5, .int d)] := hl
  have inX1 : ∀ w ∈ wsX10, w ∈ wsX1_write := fun _ h => List.mem_cons_of_mem _ (List.mem_append_left _ (List.mem_append_right _ h))
  refine lv_aload_n hx hb dX1_write_0 rfl (lv_at hl 0 rfl) ?_
  refine va_get (D := D) (ci := 1) (v := .ref g) (C := RX1) (T := TX1) (N := 2) hx hb hts inX1 hown hK hP 0 rfl rfl 0 (by decide) (hts (.fieldLink RX1 16 "LoanHouse$Copies" "grid" "LLoanHouse$Grid;") (List.mem_of_getElem? (i := 1) rfl)) (fun _ h9 => h9) rfl dX1_write_1 ?_
  refine lv_iload_n hx hb dX1_write_4 rfl (lv_at hl 1 rfl) ?_
  refine lv_iconst (v := 1) hx hb dX1_write_5 (by decide) ?_
  refine lv_iload_n hx hb dX1_write_6 rfl (lv_at hl 2 rfl) ?_
  refine k_v (wr := [(c, .inr (1, [.ref g, .int cnt]))]) (va_runV (As := [.int i, .int 1, .int b]) (rest := []) ⟨hx, hb, hml, hown, hts⟩ (c_X2_put l D ss.heap.size g a cA 16 5 80 f i 1 b (by decide)) (cwV 3 hts gX1_write_X2_put rfl rfl rfl (by decide +kernel) ⟨(Nat.le_of_ble_eq_true rfl), (Nat.le_of_ble_eq_true rfl)⟩) ⟨mP_blind, va_recv hK hP (ci := 2) (q0 := 1) rfl rfl, m_pre _ hN hK hP hD [0] rfl [1, 2] rfl (by decide)⟩ rfl rfl hl.1 rfl (lv_room (Nat.le_of_ble_eq_true rfl)) dX1_write_7 ⟨(Nat.le_of_ble_eq_true rfl), (Nat.le_of_ble_eq_true rfl)⟩) hP hD hS hA [1, 2] [0] rfl rfl (by decide) (by decide) (fun u H locs hw hK1 hP hD hS => ?_)
  obtain ⟨f32, rfl⟩ : ∃ z, z = u := ⟨_, rfl⟩
  have hP : va_P D vwCl [(c, .inr (1, [.ref g, .int cnt])), (g, .inr (2, [.int 16, .int 5, .ref a])), (a, .inl (cA, 80, .inl f32))] H := hP
  have hD : va_D AA [(c, .inr (1, [.ref g, .int cnt])), (g, .inr (2, [.int 16, .int 5, .ref a])), (a, .inl (cA, 80, .inl f32))] := hD
  try dsimp only at hw
  refine W.widen (k := 0) (n := 0) (Nat.le_of_ble_eq_true rfl) (Nat.le_of_ble_eq_true rfl) ?_
  refine lv_aload_n hx hb dX1_write_10 rfl (lv_at hl 0 rfl) ?_
  refine va_get (D := D) (ci := 1) (v := .ref g) (C := RX1) (T := TX1) (N := 2) hx hb hts inX1 hown hK hP 0 rfl rfl 0 (by decide) (hts (.fieldLink RX1 16 "LoanHouse$Copies" "grid" "LLoanHouse$Grid;") (List.mem_of_getElem? (i := 1) rfl)) (fun _ h9 => h9) rfl dX1_write_11 ?_
  refine lv_iload_n hx hb dX1_write_14 rfl (lv_at hl 1 rfl) ?_
  refine lv_iconst (v := 2) hx hb dX1_write_15 (by decide) ?_
  refine lv_iload_n hx hb dX1_write_16 rfl (lv_at hl 3 rfl) ?_
  refine k_v (wr := [(c, .inr (1, [.ref g, .int cnt]))]) (va_runV (As := [.int i, .int 2, .int st]) (rest := []) ⟨hx, hb, hml, hown, hts⟩ (c_X2_put l D H.size g a cA 16 5 80 f32 i 2 st (by decide)) (cwV 3 hts gX1_write_X2_put rfl rfl rfl (by decide +kernel) ⟨(Nat.le_of_ble_eq_true rfl), (Nat.le_of_ble_eq_true rfl)⟩) ⟨mP_blind, va_recv hK hP (ci := 2) (q0 := 1) rfl rfl, m_pre _ hN hK hP hD [0] rfl [1, 2] rfl (by decide)⟩ rfl rfl hl.1 rfl (lv_room (Nat.le_of_ble_eq_true rfl)) dX1_write_17 ⟨(Nat.le_of_ble_eq_true rfl), (Nat.le_of_ble_eq_true rfl)⟩) hP hD hS hA [1, 2] [0] rfl rfl (by decide) (by decide) (fun u H locs hw hK1 hP hD hS => ?_)
  obtain ⟨f34, rfl⟩ : ∃ z, z = u := ⟨_, rfl⟩
  have hP : va_P D vwCl [(c, .inr (1, [.ref g, .int cnt])), (g, .inr (2, [.int 16, .int 5, .ref a])), (a, .inl (cA, 80, .inl f34))] H := hP
  have hD : va_D AA [(c, .inr (1, [.ref g, .int cnt])), (g, .inr (2, [.int 16, .int 5, .ref a])), (a, .inl (cA, 80, .inl f34))] := hD
  try dsimp only at hw
  refine W.widen (k := 0) (n := 0) (Nat.le_of_ble_eq_true rfl) (Nat.le_of_ble_eq_true rfl) ?_
  refine lv_aload_n hx hb dX1_write_20 rfl (lv_at hl 0 rfl) ?_
  refine va_get (D := D) (ci := 1) (v := .ref g) (C := RX1) (T := TX1) (N := 2) hx hb hts inX1 hown hK hP 0 rfl rfl 0 (by decide) (hts (.fieldLink RX1 16 "LoanHouse$Copies" "grid" "LLoanHouse$Grid;") (List.mem_of_getElem? (i := 1) rfl)) (fun _ h9 => h9) rfl dX1_write_21 ?_
  refine lv_iload_n hx hb dX1_write_24 rfl (lv_at hl 1 rfl) ?_
  refine lv_iconst (v := 3) hx hb dX1_write_25 (by decide) ?_
  refine lv_iload hx hb dX1_write_26 (lv_at hl 4 rfl) ?_
  refine k_v (wr := [(c, .inr (1, [.ref g, .int cnt]))]) (va_runV (As := [.int i, .int 3, .int w]) (rest := []) ⟨hx, hb, hml, hown, hts⟩ (c_X2_put l D H.size g a cA 16 5 80 f34 i 3 w (by decide)) (cwV 3 hts gX1_write_X2_put rfl rfl rfl (by decide +kernel) ⟨(Nat.le_of_ble_eq_true rfl), (Nat.le_of_ble_eq_true rfl)⟩) ⟨mP_blind, va_recv hK hP (ci := 2) (q0 := 1) rfl rfl, m_pre _ hN hK hP hD [0] rfl [1, 2] rfl (by decide)⟩ rfl rfl hl.1 rfl (lv_room (Nat.le_of_ble_eq_true rfl)) dX1_write_28 ⟨(Nat.le_of_ble_eq_true rfl), (Nat.le_of_ble_eq_true rfl)⟩) hP hD hS hA [1, 2] [0] rfl rfl (by decide) (by decide) (fun u H locs hw hK1 hP hD hS => ?_)
  obtain ⟨f36, rfl⟩ : ∃ z, z = u := ⟨_, rfl⟩
  have hP : va_P D vwCl [(c, .inr (1, [.ref g, .int cnt])), (g, .inr (2, [.int 16, .int 5, .ref a])), (a, .inl (cA, 80, .inl f36))] H := hP
  have hD : va_D AA [(c, .inr (1, [.ref g, .int cnt])), (g, .inr (2, [.int 16, .int 5, .ref a])), (a, .inl (cA, 80, .inl f36))] := hD
  try dsimp only at hw
  refine W.widen (k := 0) (n := 0) (Nat.le_of_ble_eq_true rfl) (Nat.le_of_ble_eq_true rfl) ?_
  refine lv_aload_n hx hb dX1_write_31 rfl (lv_at hl 0 rfl) ?_
  refine va_get (D := D) (ci := 1) (v := .ref g) (C := RX1) (T := TX1) (N := 2) hx hb hts inX1 hown hK hP 0 rfl rfl 0 (by decide) (hts (.fieldLink RX1 16 "LoanHouse$Copies" "grid" "LLoanHouse$Grid;") (List.mem_of_getElem? (i := 1) rfl)) (fun _ h9 => h9) rfl dX1_write_32 ?_
  refine lv_iload_n hx hb dX1_write_35 rfl (lv_at hl 1 rfl) ?_
  refine lv_iconst (v := 4) hx hb dX1_write_36 (by decide) ?_
  refine lv_iload hx hb dX1_write_37 (lv_at hl 5 rfl) ?_
  refine k_v (wr := [(c, .inr (1, [.ref g, .int cnt]))]) (va_runV (As := [.int i, .int 4, .int d]) (rest := []) ⟨hx, hb, hml, hown, hts⟩ (c_X2_put l D H.size g a cA 16 5 80 f36 i 4 d (by decide)) (cwV 3 hts gX1_write_X2_put rfl rfl rfl (by decide +kernel) ⟨(Nat.le_of_ble_eq_true rfl), (Nat.le_of_ble_eq_true rfl)⟩) ⟨mP_blind, va_recv hK hP (ci := 2) (q0 := 1) rfl rfl, m_pre _ hN hK hP hD [0] rfl [1, 2] rfl (by decide)⟩ rfl rfl hl.1 rfl (lv_room (Nat.le_of_ble_eq_true rfl)) dX1_write_39 ⟨(Nat.le_of_ble_eq_true rfl), (Nat.le_of_ble_eq_true rfl)⟩) hP hD hS hA [1, 2] [0] rfl rfl (by decide) (by decide) (fun u H locs hw hK1 hP hD hS => ?_)
  obtain ⟨f38, rfl⟩ : ∃ z, z = u := ⟨_, rfl⟩
  have hP : va_P D vwCl [(c, .inr (1, [.ref g, .int cnt])), (g, .inr (2, [.int 16, .int 5, .ref a])), (a, .inl (cA, 80, .inl f38))] H := hP
  have hD : va_D AA [(c, .inr (1, [.ref g, .int cnt])), (g, .inr (2, [.int 16, .int 5, .ref a])), (a, .inl (cA, 80, .inl f38))] := hD
  try dsimp only at hw
  refine W.widen (k := 0) (n := 0) (Nat.le_of_ble_eq_true rfl) (Nat.le_of_ble_eq_true rfl) ?_
  exact hret f38 (trivial) (m_P hP (is := [0, 1, 2]) rfl) (hK.sub [] rfl) (hD.sub [0, 1, 2] (by decide) rfl) hS (Nat.le_of_ble_eq_true rfl) (Nat.le_of_ble_eq_true rfl) dX1_write_42
set_option maxHeartbeats 4000000 in
set_option maxRecDepth 100000 in
theorem c_X1_add (l : Launch) (D : va_G) (sz : Nat) (c g a : Nat) (cA : ClassId) (f : Nat → Int32) (t b : Int32) : mI l yX1_add wsX1_add (rk 2 0 0) D [.ref c, .int t, .int b] [(cA, .int)] sz [(c, .inr (1, [.ref g, .int 0])), (g, .inr (2, [.int 16, .int 5, .ref a])), (a, .inl (cA, 80, .inl f))] (S := Nat → Int32) (fun r _ => r = 0) (fun _ => []) (fun u => [(c, .inr (1, [.ref g, .int 1])), (g, .inr (2, [.int 16, .int 5, .ref a])), (a, .inl (cA, 80, .inl u))]) := by
  refine mI_of (cc := cX1_add) (maxL := 4) (ty := .int) (plainFor_of_name (by decide)) rfl (Nat.le_of_ble_eq_true rfl) ?_
  intro pp ee ss mm bl mt cd AA QQ hx hb hml hts hown hN hA hK hP hD hS hret ls hl
  have hl : lv_has ls 4 [(0, .ref c), (1, .int t), (2, .int b)] := hl
  have inX1 : ∀ w ∈ wsX10, w ∈ wsX1_add := fun _ h => List.mem_cons_of_mem _ (List.mem_append_left _ (List.mem_append_right _ h))
  refine lv_aload_n hx hb dX1_add_0 rfl (lv_at hl 0 rfl) ?_
  refine va_get (D := D) (ci := 1) (v := .int 0) (C := RX1) (T := TX1) (N := 2) hx hb hts inX1 hown hK hP 0 rfl rfl 1 (by decide) (hts (.fieldLink RX1 24 "LoanHouse$Copies" "count" "I") (List.mem_of_getElem? (i := 1) rfl)) (fun _ h9 => h9) rfl dX1_add_1 ?_
  refine lv_istore_n (lv' := [(3, .int 0), (0, .ref c), (1, .int t), (2, .int b)]) hx hb dX1_add_4 rfl hl (by decide) rfl (fun ls hl => ?_)
  refine lv_aload_n hx hb dX1_add_5 rfl (lv_at hl 1 rfl) ?_
  refine lv_dup hx hb dX1_add_6 rfl ?_
  refine va_get (D := D) (ci := 1) (v := .int 0) (C := RX1) (T := TX1) (N := 2) hx hb hts inX1 hown hK hP 0 rfl rfl 1 (by decide) (hts (.fieldLink RX1 24 "LoanHouse$Copies" "count" "I") (List.mem_of_getElem? (i := 1) rfl)) (fun _ h9 => h9) rfl dX1_add_7 ?_
  refine lv_iconst (v := 1) hx hb dX1_add_10 (by decide) ?_
  refine lv_iadd hx hb dX1_add_11 ?_
  refine lv_topi (fun x39 ex39 => ?_)
  have ex39 : x39 = 1 := ex39.trans (by decide)
  subst ex39
  refine va_put (D := D) (ci := 1) (v := .int 1) (ty := .int) (C := RX1) (T := TX1) (N := 2) hx hb hts inX1 tyX1 tyX1_ok nmX1 hown hK hP hD hS 0 rfl rfl 1 (by decide) (hts (.fieldLink RX1 24 "LoanHouse$Copies" "count" "I") (List.mem_of_getElem? (i := 1) rfl)) (fun _ h9 => h9) rfl (by decide +kernel) rfl rfl (Nat.le_of_ble_eq_true rfl) dX1_add_12 (fun H locs hP hD hS => ?_)
  have hP : va_P D vwCl [(c, .inr (1, [.ref g, .int 1])), (g, .inr (2, [.int 16, .int 5, .ref a])), (a, .inl (cA, 80, .inl f))] H := hP
  have hD : va_D AA [(c, .inr (1, [.ref g, .int 1])), (g, .inr (2, [.int 16, .int 5, .ref a])), (a, .inl (cA, 80, .inl f))] := hD
  refine lv_aload_n hx hb dX1_add_15 rfl (lv_at hl 1 rfl) ?_
  refine va_get (D := D) (ci := 1) (v := .ref g) (C := RX1) (T := TX1) (N := 2) hx hb hts inX1 hown hK hP 0 rfl rfl 0 (by decide) (hts (.fieldLink RX1 16 "LoanHouse$Copies" "grid" "LLoanHouse$Grid;") (List.mem_of_getElem? (i := 2) rfl)) (fun _ h9 => h9) rfl dX1_add_16 ?_
  refine lv_iload_n hx hb dX1_add_19 rfl (lv_at hl 0 rfl) ?_
  refine lv_iconst (v := 0) hx hb dX1_add_20 (by decide) ?_
  refine lv_iload_n hx hb dX1_add_21 rfl (lv_at hl 2 rfl) ?_
  refine k_v (wr := [(c, .inr (1, [.ref g, .int 1]))]) (va_runV (As := [.int 0, .int 0, .int t]) (rest := []) ⟨hx, hb, hml, hown, hts⟩ (c_X2_put l D H.size g a cA 16 5 80 f 0 0 t (by decide)) (cwV 3 hts gX1_add_X2_put rfl rfl rfl (by decide +kernel) ⟨(Nat.le_of_ble_eq_true rfl), (Nat.le_of_ble_eq_true rfl)⟩) ⟨mP_blind, va_recv hK hP (ci := 2) (q0 := 1) rfl rfl, m_pre _ hN hK hP hD [0] rfl [1, 2] rfl (by decide)⟩ rfl rfl hl.1 rfl (lv_room (Nat.le_of_ble_eq_true rfl)) dX1_add_22 ⟨(Nat.le_of_ble_eq_true rfl), (Nat.le_of_ble_eq_true rfl)⟩) hP hD hS hA [1, 2] [0] rfl rfl (by decide) (by decide) (fun u H locs hw hK1 hP hD hS => ?_)
  obtain ⟨f41, rfl⟩ : ∃ z, z = u := ⟨_, rfl⟩
  have hP : va_P D vwCl [(c, .inr (1, [.ref g, .int 1])), (g, .inr (2, [.int 16, .int 5, .ref a])), (a, .inl (cA, 80, .inl f41))] H := hP
  have hD : va_D AA [(c, .inr (1, [.ref g, .int 1])), (g, .inr (2, [.int 16, .int 5, .ref a])), (a, .inl (cA, 80, .inl f41))] := hD
  try dsimp only at hw
  refine W.widen (k := 0) (n := 0) (Nat.le_of_ble_eq_true rfl) (Nat.le_of_ble_eq_true rfl) ?_
  refine lv_aload_n hx hb dX1_add_25 rfl (lv_at hl 1 rfl) ?_
  refine lv_iload_n hx hb dX1_add_26 rfl (lv_at hl 0 rfl) ?_
  refine lv_iload_n hx hb dX1_add_27 rfl (lv_at hl 3 rfl) ?_
  refine lv_iconst (v := 0) hx hb dX1_add_28 (by decide) ?_
  refine lv_iconst (v := (-1)) hx hb dX1_add_29 (by decide) ?_
  refine lv_iconst (v := (-1)) hx hb dX1_add_30 (by decide) ?_
  refine k_v (wr := []) (va_runV (As := [.int 0, .int b, .int 0, .int (-1), .int (-1)]) (rest := []) ⟨hx, hb, hml, hown, hts⟩ (c_X1_write l D H.size c g a cA 1 f41 0 b 0 (-1) (-1) ) (cwV 5 hts gX1_add_X1_write rfl rfl rfl (by decide +kernel) ⟨(Nat.le_of_ble_eq_true rfl), (Nat.le_of_ble_eq_true rfl)⟩) ⟨mP_blind, va_recv hK hP (ci := 1) (q0 := 0) rfl rfl, m_pre _ hN hK hP hD [0] rfl [0, 1, 2] rfl (by decide)⟩ rfl rfl hl.1 rfl (lv_room (Nat.le_of_ble_eq_true rfl)) dX1_add_31 ⟨(Nat.le_of_ble_eq_true rfl), (Nat.le_of_ble_eq_true rfl)⟩) hP hD hS hA [0, 1, 2] [] rfl rfl (by decide) (by decide) (fun u H locs hw hK1 hP hD hS => ?_)
  obtain ⟨f43, rfl⟩ : ∃ z, z = u := ⟨_, rfl⟩
  have hP : va_P D vwCl [(c, .inr (1, [.ref g, .int 1])), (g, .inr (2, [.int 16, .int 5, .ref a])), (a, .inl (cA, 80, .inl f43))] H := hP
  have hD : va_D AA [(c, .inr (1, [.ref g, .int 1])), (g, .inr (2, [.int 16, .int 5, .ref a])), (a, .inl (cA, 80, .inl f43))] := hD
  try dsimp only at hw
  refine W.widen (k := 0) (n := 0) (Nat.le_of_ble_eq_true rfl) (Nat.le_of_ble_eq_true rfl) ?_
  refine lv_iload_n hx hb dX1_add_34 rfl (lv_at hl 0 rfl) ?_
  exact hret 0 f43 rfl (rfl) (m_P hP (is := [0, 1, 2]) rfl) (hK.sub [] rfl) (hD.sub [0, 1, 2] (by decide) rfl) hS (Nat.le_of_ble_eq_true rfl) (Nat.le_of_ble_eq_true rfl) dX1_add_35
set_option maxHeartbeats 4000000 in
set_option maxRecDepth 100000 in
theorem c_X1_thatAre (l : Launch) (D : va_G) (sz : Nat) (c g : Nat) (p : Int32) : mI l yX1_thatAre wsX1_thatAre (rk 0 0 0) D [.ref c, .int p] [] sz [(c, .inr (1, [.ref g, .int 0]))] (S := Unit) (fun r _ => r = 0) (fun _ => []) (fun _ => [(c, .inr (1, [.ref g, .int 0]))]) := by
  refine mI_of (cc := cX1_thatAre) (maxL := 4) (ty := .int) (plainFor_of_name (by decide)) rfl (Nat.le_of_ble_eq_true rfl) ?_
  intro pp ee ss mm bl mt cd AA QQ hx hb hml hts hown hN hA hK hP hD hS hret ls hl
  have hl : lv_has ls 4 [(0, .ref c), (1, .int p)] := hl
  have inX1 : ∀ w ∈ wsX10, w ∈ wsX1_thatAre := fun _ h => List.mem_cons_of_mem _ (List.mem_append_left _ (List.mem_append_right _ h))
  refine lv_iconst (v := 0) hx hb dX1_thatAre_0 (by decide) ?_
  refine lv_istore_n (lv' := [(2, .int 0), (0, .ref c), (1, .int p)]) hx hb dX1_thatAre_1 rfl hl (by decide) rfl (fun ls hl => ?_)
  refine lv_iconst (v := 0) hx hb dX1_thatAre_2 (by decide) ?_
  refine lv_istore_n (lv' := [(3, .int 0), (2, .int 0), (0, .ref c), (1, .int p)]) hx hb dX1_thatAre_3 rfl hl (by decide) rfl (fun ls hl => ?_)
  refine lv_iload_n hx hb dX1_thatAre_4 rfl (lv_at hl 0 rfl) ?_
  refine lv_aload_n hx hb dX1_thatAre_5 rfl (lv_at hl 2 rfl) ?_
  refine va_get (D := D) (ci := 1) (v := .int 0) (C := RX1) (T := TX1) (N := 2) hx hb hts inX1 hown hK hP 0 rfl rfl 1 (by decide) (hts (.fieldLink RX1 24 "LoanHouse$Copies" "count" "I") (List.mem_of_getElem? (i := 1) rfl)) (fun _ h9 => h9) rfl dX1_thatAre_6 ?_
  refine lv_icmp_ge (tgt := 33) hx hb dX1_thatAre_9 (by decide) (fun zc9 => ?_) (fun hc => absurd (by decide) hc)
  refine lv_iload_n hx hb dX1_thatAre_33 rfl (lv_at hl 1 rfl) ?_
  exact hret 0 () rfl (rfl) hP (hK.sub [] rfl) hD hS (Nat.le_of_ble_eq_true rfl) (Nat.le_of_ble_eq_true rfl) dX1_thatAre_34
set_option maxHeartbeats 4000000 in
set_option maxRecDepth 100000 in
theorem c_X1_ofTitle (l : Launch) (D : va_G) (sz : Nat) (c g : Nat) (p : Int32) : mI l yX1_ofTitle wsX1_ofTitle (rk 0 0 0) D [.ref c, .int p] [] sz [(c, .inr (1, [.ref g, .int 0]))] (S := Unit) (fun r _ => r = 0) (fun _ => []) (fun _ => [(c, .inr (1, [.ref g, .int 0]))]) := by
  refine mI_of (cc := cX1_ofTitle) (maxL := 4) (ty := .int) (plainFor_of_name (by decide)) rfl (Nat.le_of_ble_eq_true rfl) ?_
  intro pp ee ss mm bl mt cd AA QQ hx hb hml hts hown hN hA hK hP hD hS hret ls hl
  have hl : lv_has ls 4 [(0, .ref c), (1, .int p)] := hl
  have inX1 : ∀ w ∈ wsX10, w ∈ wsX1_ofTitle := fun _ h => List.mem_cons_of_mem _ (List.mem_append_left _ (List.mem_append_right _ h))
  refine lv_iconst (v := 0) hx hb dX1_ofTitle_0 (by decide) ?_
  refine lv_istore_n (lv' := [(2, .int 0), (0, .ref c), (1, .int p)]) hx hb dX1_ofTitle_1 rfl hl (by decide) rfl (fun ls hl => ?_)
  refine lv_iconst (v := 0) hx hb dX1_ofTitle_2 (by decide) ?_
  refine lv_istore_n (lv' := [(3, .int 0), (2, .int 0), (0, .ref c), (1, .int p)]) hx hb dX1_ofTitle_3 rfl hl (by decide) rfl (fun ls hl => ?_)
  refine lv_iload_n hx hb dX1_ofTitle_4 rfl (lv_at hl 0 rfl) ?_
  refine lv_aload_n hx hb dX1_ofTitle_5 rfl (lv_at hl 2 rfl) ?_
  refine va_get (D := D) (ci := 1) (v := .int 0) (C := RX1) (T := TX1) (N := 2) hx hb hts inX1 hown hK hP 0 rfl rfl 1 (by decide) (hts (.fieldLink RX1 24 "LoanHouse$Copies" "count" "I") (List.mem_of_getElem? (i := 1) rfl)) (fun _ h9 => h9) rfl dX1_ofTitle_6 ?_
  refine lv_icmp_ge (tgt := 33) hx hb dX1_ofTitle_9 (by decide) (fun zc9 => ?_) (fun hc => absurd (by decide) hc)
  refine lv_iload_n hx hb dX1_ofTitle_33 rfl (lv_at hl 1 rfl) ?_
  exact hret 0 () rfl (rfl) hP (hK.sub [] rfl) hD hS (Nat.le_of_ble_eq_true rfl) (Nat.le_of_ble_eq_true rfl) dX1_ofTitle_34
set_option maxHeartbeats 4000000 in
set_option maxRecDepth 100000 in
theorem c_X1_outTo (l : Launch) (D : va_G) (sz : Nat) (c g : Nat) (p : Int32) : mI l yX1_outTo wsX1_outTo (rk 0 0 0) D [.ref c, .int p] [] sz [(c, .inr (1, [.ref g, .int 0]))] (S := Unit) (fun r _ => r = 0) (fun _ => []) (fun _ => [(c, .inr (1, [.ref g, .int 0]))]) := by
  refine mI_of (cc := cX1_outTo) (maxL := 4) (ty := .int) (plainFor_of_name (by decide)) rfl (Nat.le_of_ble_eq_true rfl) ?_
  intro pp ee ss mm bl mt cd AA QQ hx hb hml hts hown hN hA hK hP hD hS hret ls hl
  have hl : lv_has ls 4 [(0, .ref c), (1, .int p)] := hl
  have inX1 : ∀ w ∈ wsX10, w ∈ wsX1_outTo := fun _ h => List.mem_cons_of_mem _ (List.mem_append_left _ (List.mem_append_right _ h))
  refine lv_iconst (v := 0) hx hb dX1_outTo_0 (by decide) ?_
  refine lv_istore_n (lv' := [(2, .int 0), (0, .ref c), (1, .int p)]) hx hb dX1_outTo_1 rfl hl (by decide) rfl (fun ls hl => ?_)
  refine lv_iconst (v := 0) hx hb dX1_outTo_2 (by decide) ?_
  refine lv_istore_n (lv' := [(3, .int 0), (2, .int 0), (0, .ref c), (1, .int p)]) hx hb dX1_outTo_3 rfl hl (by decide) rfl (fun ls hl => ?_)
  refine lv_iload_n hx hb dX1_outTo_4 rfl (lv_at hl 0 rfl) ?_
  refine lv_aload_n hx hb dX1_outTo_5 rfl (lv_at hl 2 rfl) ?_
  refine va_get (D := D) (ci := 1) (v := .int 0) (C := RX1) (T := TX1) (N := 2) hx hb hts inX1 hown hK hP 0 rfl rfl 1 (by decide) (hts (.fieldLink RX1 24 "LoanHouse$Copies" "count" "I") (List.mem_of_getElem? (i := 1) rfl)) (fun _ h9 => h9) rfl dX1_outTo_6 ?_
  refine lv_icmp_ge (tgt := 33) hx hb dX1_outTo_9 (by decide) (fun zc9 => ?_) (fun hc => absurd (by decide) hc)
  refine lv_iload_n hx hb dX1_outTo_33 rfl (lv_at hl 1 rfl) ?_
  exact hret 0 () rfl (rfl) hP (hK.sub [] rfl) hD hS (Nat.le_of_ble_eq_true rfl) (Nat.le_of_ble_eq_true rfl) dX1_outTo_34
set_option maxHeartbeats 4000000 in
set_option maxRecDepth 100000 in
theorem c_X1_overdue (l : Launch) (D : va_G) (sz : Nat) (c g : Nat) (p : Int32) : mI l yX1_overdue wsX1_overdue (rk 0 0 0) D [.ref c, .int p] [] sz [(c, .inr (1, [.ref g, .int 0]))] (S := Unit) (fun r _ => r = 0) (fun _ => []) (fun _ => [(c, .inr (1, [.ref g, .int 0]))]) := by
  refine mI_of (cc := cX1_overdue) (maxL := 4) (ty := .int) (plainFor_of_name (by decide)) rfl (Nat.le_of_ble_eq_true rfl) ?_
  intro pp ee ss mm bl mt cd AA QQ hx hb hml hts hown hN hA hK hP hD hS hret ls hl
  have hl : lv_has ls 4 [(0, .ref c), (1, .int p)] := hl
  have inX1 : ∀ w ∈ wsX10, w ∈ wsX1_overdue := fun _ h => List.mem_cons_of_mem _ (List.mem_append_left _ (List.mem_append_right _ h))
  refine lv_iconst (v := 0) hx hb dX1_overdue_0 (by decide) ?_
  refine lv_istore_n (lv' := [(2, .int 0), (0, .ref c), (1, .int p)]) hx hb dX1_overdue_1 rfl hl (by decide) rfl (fun ls hl => ?_)
  refine lv_iconst (v := 0) hx hb dX1_overdue_2 (by decide) ?_
  refine lv_istore_n (lv' := [(3, .int 0), (2, .int 0), (0, .ref c), (1, .int p)]) hx hb dX1_overdue_3 rfl hl (by decide) rfl (fun ls hl => ?_)
  refine lv_iload_n hx hb dX1_overdue_4 rfl (lv_at hl 0 rfl) ?_
  refine lv_aload_n hx hb dX1_overdue_5 rfl (lv_at hl 2 rfl) ?_
  refine va_get (D := D) (ci := 1) (v := .int 0) (C := RX1) (T := TX1) (N := 2) hx hb hts inX1 hown hK hP 0 rfl rfl 1 (by decide) (hts (.fieldLink RX1 24 "LoanHouse$Copies" "count" "I") (List.mem_of_getElem? (i := 1) rfl)) (fun _ h9 => h9) rfl dX1_overdue_6 ?_
  refine lv_icmp_ge (tgt := 42) hx hb dX1_overdue_9 (by decide) (fun zc9 => ?_) (fun hc => absurd (by decide) hc)
  refine lv_iload_n hx hb dX1_overdue_42 rfl (lv_at hl 1 rfl) ?_
  exact hret 0 () rfl (rfl) hP (hK.sub [] rfl) hD hS (Nat.le_of_ble_eq_true rfl) (Nat.le_of_ble_eq_true rfl) dX1_overdue_43
set_option maxHeartbeats 4000000 in
set_option maxRecDepth 100000 in
theorem c_X1_owedBy (l : Launch) (D : va_G) (sz : Nat) (c g : Nat) (p q : Int32) : mI l yX1_owedBy wsX1_owedBy (rk 0 0 0) D [.ref c, .int p, .int q] [] sz [(c, .inr (1, [.ref g, .int 0]))] (S := Unit) (fun r _ => r = 0) (fun _ => []) (fun _ => [(c, .inr (1, [.ref g, .int 0]))]) := by
  refine mI_of (cc := cX1_owedBy) (maxL := 5) (ty := .int) (plainFor_of_name (by decide)) rfl (Nat.le_of_ble_eq_true rfl) ?_
  intro pp ee ss mm bl mt cd AA QQ hx hb hml hts hown hN hA hK hP hD hS hret ls hl
  have hl : lv_has ls 5 [(0, .ref c), (1, .int p), (2, .int q)] := hl
  have inX1 : ∀ w ∈ wsX10, w ∈ wsX1_owedBy := fun _ h => List.mem_cons_of_mem _ (List.mem_append_left _ (List.mem_append_right _ h))
  refine lv_iconst (v := 0) hx hb dX1_owedBy_0 (by decide) ?_
  refine lv_istore_n (lv' := [(3, .int 0), (0, .ref c), (1, .int p), (2, .int q)]) hx hb dX1_owedBy_1 rfl hl (by decide) rfl (fun ls hl => ?_)
  refine lv_iconst (v := 0) hx hb dX1_owedBy_2 (by decide) ?_
  refine lv_istore (lv' := [(4, .int 0), (3, .int 0), (0, .ref c), (1, .int p), (2, .int q)]) hx hb dX1_owedBy_3 hl (by decide) rfl (fun ls hl => ?_)
  refine lv_iload hx hb dX1_owedBy_5 (lv_at hl 0 rfl) ?_
  refine lv_aload_n hx hb dX1_owedBy_7 rfl (lv_at hl 2 rfl) ?_
  refine va_get (D := D) (ci := 1) (v := .int 0) (C := RX1) (T := TX1) (N := 2) hx hb hts inX1 hown hK hP 0 rfl rfl 1 (by decide) (hts (.fieldLink RX1 24 "LoanHouse$Copies" "count" "I") (List.mem_of_getElem? (i := 1) rfl)) (fun _ h9 => h9) rfl dX1_owedBy_8 ?_
  refine lv_icmp_ge (tgt := 47) hx hb dX1_owedBy_11 (by decide) (fun zc11 => ?_) (fun hc => absurd (by decide) hc)
  refine lv_iload_n hx hb dX1_owedBy_47 rfl (lv_at hl 1 rfl) ?_
  exact hret 0 () rfl (rfl) hP (hK.sub [] rfl) hD hS (Nat.le_of_ble_eq_true rfl) (Nat.le_of_ble_eq_true rfl) dX1_owedBy_48
set_option maxHeartbeats 4000000 in
set_option maxRecDepth 100000 in
theorem c_X1_greatestStep (l : Launch) (D : va_G) (sz : Nat) (c g : Nat) (p q : Int32) : mI l yX1_greatestStep wsX1_greatestStep (rk 0 0 0) D [.ref c, .int p, .int q] [] sz [(c, .inr (1, [.ref g, .int 0]))] (S := Unit) (fun r _ => r = 0) (fun _ => []) (fun _ => [(c, .inr (1, [.ref g, .int 0]))]) := by
  refine mI_of (cc := cX1_greatestStep) (maxL := 5) (ty := .int) (plainFor_of_name (by decide)) rfl (Nat.le_of_ble_eq_true rfl) ?_
  intro pp ee ss mm bl mt cd AA QQ hx hb hml hts hown hN hA hK hP hD hS hret ls hl
  have hl : lv_has ls 5 [(0, .ref c), (1, .int p), (2, .int q)] := hl
  have inX1 : ∀ w ∈ wsX10, w ∈ wsX1_greatestStep := fun _ h => List.mem_cons_of_mem _ (List.mem_append_left _ (List.mem_append_right _ h))
  refine lv_iconst (v := 0) hx hb dX1_greatestStep_0 (by decide) ?_
  refine lv_istore_n (lv' := [(3, .int 0), (0, .ref c), (1, .int p), (2, .int q)]) hx hb dX1_greatestStep_1 rfl hl (by decide) rfl (fun ls hl => ?_)
  refine lv_iconst (v := 0) hx hb dX1_greatestStep_2 (by decide) ?_
  refine lv_istore (lv' := [(4, .int 0), (3, .int 0), (0, .ref c), (1, .int p), (2, .int q)]) hx hb dX1_greatestStep_3 hl (by decide) rfl (fun ls hl => ?_)
  refine lv_iload hx hb dX1_greatestStep_5 (lv_at hl 0 rfl) ?_
  refine lv_aload_n hx hb dX1_greatestStep_7 rfl (lv_at hl 2 rfl) ?_
  refine va_get (D := D) (ci := 1) (v := .int 0) (C := RX1) (T := TX1) (N := 2) hx hb hts inX1 hown hK hP 0 rfl rfl 1 (by decide) (hts (.fieldLink RX1 24 "LoanHouse$Copies" "count" "I") (List.mem_of_getElem? (i := 1) rfl)) (fun _ h9 => h9) rfl dX1_greatestStep_8 ?_
  refine lv_icmp_ge (tgt := 42) hx hb dX1_greatestStep_11 (by decide) (fun zc11 => ?_) (fun hc => absurd (by decide) hc)
  refine lv_iload_n hx hb dX1_greatestStep_42 rfl (lv_at hl 1 rfl) ?_
  exact hret 0 () rfl (rfl) hP (hK.sub [] rfl) hD hS (Nat.le_of_ble_eq_true rfl) (Nat.le_of_ble_eq_true rfl) dX1_greatestStep_43
set_option maxHeartbeats 4000000 in
set_option maxRecDepth 100000 in
theorem c_X1_nearestIn (l : Launch) (D : va_G) (sz : Nat) (c g : Nat) (p q : Int32) : mI l yX1_nearestIn wsX1_nearestIn (rk 0 0 0) D [.ref c, .int p, .int q] [] sz [(c, .inr (1, [.ref g, .int 0]))] (S := Unit) (fun r _ => r = (-1)) (fun _ => []) (fun _ => [(c, .inr (1, [.ref g, .int 0]))]) := by
  refine mI_of (cc := cX1_nearestIn) (maxL := 6) (ty := .int) (plainFor_of_name (by decide)) rfl (Nat.le_of_ble_eq_true rfl) ?_
  intro pp ee ss mm bl mt cd AA QQ hx hb hml hts hown hN hA hK hP hD hS hret ls hl
  have hl : lv_has ls 6 [(0, .ref c), (1, .int p), (2, .int q)] := hl
  have inX1 : ∀ w ∈ wsX10, w ∈ wsX1_nearestIn := fun _ h => List.mem_cons_of_mem _ (List.mem_append_left _ (List.mem_append_right _ h))
  refine lv_iconst (v := (-1)) hx hb dX1_nearestIn_0 (by decide) ?_
  refine lv_istore_n (lv' := [(3, .int (-1)), (0, .ref c), (1, .int p), (2, .int q)]) hx hb dX1_nearestIn_1 rfl hl (by decide) rfl (fun ls hl => ?_)
  refine lv_iconst (v := 4) hx hb dX1_nearestIn_2 (by decide) ?_
  refine lv_istore (lv' := [(4, .int 4), (3, .int (-1)), (0, .ref c), (1, .int p), (2, .int q)]) hx hb dX1_nearestIn_3 hl (by decide) rfl (fun ls hl => ?_)
  refine lv_iconst (v := 0) hx hb dX1_nearestIn_5 (by decide) ?_
  refine lv_istore (lv' := [(5, .int 0), (4, .int 4), (3, .int (-1)), (0, .ref c), (1, .int p), (2, .int q)]) hx hb dX1_nearestIn_6 hl (by decide) rfl (fun ls hl => ?_)
  refine lv_iload hx hb dX1_nearestIn_8 (lv_at hl 0 rfl) ?_
  refine lv_aload_n hx hb dX1_nearestIn_10 rfl (lv_at hl 3 rfl) ?_
  refine va_get (D := D) (ci := 1) (v := .int 0) (C := RX1) (T := TX1) (N := 2) hx hb hts inX1 hown hK hP 0 rfl rfl 1 (by decide) (hts (.fieldLink RX1 24 "LoanHouse$Copies" "count" "I") (List.mem_of_getElem? (i := 1) rfl)) (fun _ h9 => h9) rfl dX1_nearestIn_11 ?_
  refine lv_icmp_ge (tgt := 72) hx hb dX1_nearestIn_14 (by decide) (fun zc14 => ?_) (fun hc => absurd (by decide) hc)
  refine lv_iload_n hx hb dX1_nearestIn_72 rfl (lv_at hl 2 rfl) ?_
  exact hret (-1) () rfl (rfl) hP (hK.sub [] rfl) hD hS (Nat.le_of_ble_eq_true rfl) (Nat.le_of_ble_eq_true rfl) dX1_nearestIn_73
set_option maxHeartbeats 4000000 in
set_option maxRecDepth 100000 in
theorem c_X1_become (l : Launch) (D : va_G) (sz : Nat) (c g a c2 g2 a2 : Nat) (cA cA2 : ClassId) (cnt cnt2 : Int32) (f f2 : Nat → Int32) : mV l yX1_become wsX1_become (rk 2 0 0) D [.ref c, .ref c2] [(cA, .int), (cA2, .int)] sz [(c, .inr (1, [.ref g, .int cnt])), (g, .inr (2, [.int 16, .int 5, .ref a])), (a, .inl (cA, 80, .inl f)), (c2, .inr (1, [.ref g2, .int cnt2])), (g2, .inr (2, [.int 16, .int 5, .ref a2])), (a2, .inl (cA2, 80, .inl f2))] (S := Unit) (fun _ => True) (fun _ => []) (fun _ => [(c2, .inr (1, [.ref g2, .int cnt2])), (g2, .inr (2, [.int 16, .int 5, .ref a2])), (a2, .inl (cA2, 80, .inl f2))]) := by
  refine mV_of (cc := cX1_become) (maxL := 2) (plainFor_of_name (by decide)) rfl (Nat.le_of_ble_eq_true rfl) ?_
  intro pp ee ss mm bl mt cd AA QQ hx hb hml hts hown hN hA hK hP hD hS hmn hret ls hl
  have hl : lv_has ls 2 [(0, .ref c), (1, .ref c2)] := hl
  have inX1 : ∀ w ∈ wsX10, w ∈ wsX1_become := fun _ h => List.mem_cons_of_mem _ (List.mem_append_left _ (List.mem_append_right _ h))
  refine lv_aload_n hx hb dX1_become_0 rfl (lv_at hl 0 rfl) ?_
  refine lv_aload_n hx hb dX1_become_1 rfl (lv_at hl 1 rfl) ?_
  refine va_get (D := D) (ci := 1) (v := .int cnt2) (C := RX1) (T := TX1) (N := 2) hx hb hts inX1 hown hK hP 3 rfl rfl 1 (by decide) (hts (.fieldLink RX1 24 "LoanHouse$Copies" "count" "I") (List.mem_of_getElem? (i := 1) rfl)) (fun _ h9 => h9) rfl dX1_become_2 ?_
  refine va_put (D := D) (ci := 1) (v := .int cnt2) (ty := .int) (C := RX1) (T := TX1) (N := 2) hx hb hts inX1 tyX1 tyX1_ok nmX1 hown hK hP hD hS 0 rfl rfl 1 (by decide) (hts (.fieldLink RX1 24 "LoanHouse$Copies" "count" "I") (List.mem_of_getElem? (i := 1) rfl)) (fun _ h9 => h9) rfl (by decide +kernel) rfl rfl (Nat.le_of_ble_eq_true rfl) dX1_become_5 (fun H locs hP hD hS => ?_)
  have hP : va_P D vwCl [(c, .inr (1, [.ref g, .int cnt2])), (g, .inr (2, [.int 16, .int 5, .ref a])), (a, .inl (cA, 80, .inl f)), (c2, .inr (1, [.ref g2, .int cnt2])), (g2, .inr (2, [.int 16, .int 5, .ref a2])), (a2, .inl (cA2, 80, .inl f2))] H := hP
  have hD : va_D AA [(c, .inr (1, [.ref g, .int cnt2])), (g, .inr (2, [.int 16, .int 5, .ref a])), (a, .inl (cA, 80, .inl f)), (c2, .inr (1, [.ref g2, .int cnt2])), (g2, .inr (2, [.int 16, .int 5, .ref a2])), (a2, .inl (cA2, 80, .inl f2))] := hD
  refine lv_aload_n hx hb dX1_become_8 rfl (lv_at hl 0 rfl) ?_
  refine va_get (D := D) (ci := 1) (v := .ref g) (C := RX1) (T := TX1) (N := 2) hx hb hts inX1 hown hK hP 0 rfl rfl 0 (by decide) (hts (.fieldLink RX1 16 "LoanHouse$Copies" "grid" "LLoanHouse$Grid;") (List.mem_of_getElem? (i := 2) rfl)) (fun _ h9 => h9) rfl dX1_become_9 ?_
  refine lv_aload_n hx hb dX1_become_12 rfl (lv_at hl 1 rfl) ?_
  refine va_get (D := D) (ci := 1) (v := .ref g2) (C := RX1) (T := TX1) (N := 2) hx hb hts inX1 hown hK hP 3 rfl rfl 0 (by decide) (hts (.fieldLink RX1 16 "LoanHouse$Copies" "grid" "LLoanHouse$Grid;") (List.mem_of_getElem? (i := 2) rfl)) (fun _ h9 => h9) rfl dX1_become_13 ?_
  refine k_v (wr := [(c, .inr (1, [.ref g, .int cnt2])), (c2, .inr (1, [.ref g2, .int cnt2]))]) (va_runV (As := [.ref g2]) (rest := []) ⟨hx, hb, hml, hown, hts⟩ (c_X2_become l D H.size g a g2 a2 cA cA2 16 5 16 5 80 f f2 (by decide)) (cwV 1 hts gX1_become_X2_become rfl rfl rfl (by decide +kernel) ⟨(Nat.le_of_ble_eq_true rfl), (Nat.le_of_ble_eq_true rfl)⟩) ⟨mP_blind, va_recv hK hP (ci := 2) (q0 := 1) rfl rfl, m_pre _ hN hK hP hD [0, 1] rfl [1, 2, 4, 5] rfl (by decide)⟩ rfl rfl hl.1 rfl (lv_room (Nat.le_of_ble_eq_true rfl)) dX1_become_16 ⟨(Nat.le_of_ble_eq_true rfl), (Nat.le_of_ble_eq_true rfl)⟩) hP hD hS hA [1, 2, 4, 5] [0, 3] rfl rfl (by decide) (by decide) (fun u H locs hw hK1 hP hD hS => ?_)
  have hP : va_P D vwCl [(c, .inr (1, [.ref g, .int cnt2])), (c2, .inr (1, [.ref g2, .int cnt2])), (g2, .inr (2, [.int 16, .int 5, .ref a2])), (a2, .inl (cA2, 80, .inl f2))] H := hP
  have hD : va_D AA [(c, .inr (1, [.ref g, .int cnt2])), (c2, .inr (1, [.ref g2, .int cnt2])), (g2, .inr (2, [.int 16, .int 5, .ref a2])), (a2, .inl (cA2, 80, .inl f2))] := hD
  try dsimp only at hw
  refine W.widen (k := 0) (n := 0) (Nat.le_of_ble_eq_true rfl) (Nat.le_of_ble_eq_true rfl) ?_
  exact hret () (trivial) (m_P hP (is := [1, 2, 3]) rfl) (hK.sub [] rfl) (hD.sub [1, 2, 3] (by decide) rfl) hS (Nat.le_of_ble_eq_true rfl) (Nat.le_of_ble_eq_true rfl) dX1_become_19
