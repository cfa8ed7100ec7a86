set_option maxHeartbeats 4000000 in
set_option maxRecDepth 100000 in
theorem c_X3_init (l : Launch) (D : va_G) (sz : Nat) (c : Nat) : mV l yX3_init wsX3_init (rk 2 2 87) D [.ref c] [] sz [(c, .inr (3, [.null, .int 0, .int 0]))] (S := Nat × Nat × ClassId × (Nat → Int32)) (fun _ => True) (fun u => [(u.2.2.1, .int)]) (fun u => [(c, .inr (3, [.ref u.1, .int 0, .int 0])), (u.1, .inr (2, [.int 12, .int 7, .ref u.2.1])), (u.2.1, .inl (u.2.2.1, 84, .inl u.2.2.2))]) := by
  refine mV_of (cc := cX3_init) (maxL := 1) (plainFor_of_name (by decide)) rfl (Nat.le_of_ble_eq_true rfl) ?_
  intro pp ee ss mm bl mt cd AA QQ hx hb hml hts hown hN hA hK hP hD hS hmn hret ls hl
  have hl : lv_has ls 1 [(0, .ref c)] := hl
  have inX2 : ∀ w ∈ wsX20, w ∈ wsX3_init := fun _ h => List.mem_cons_of_mem _ (List.mem_append_left _ (List.mem_append_right _ h))
  have inX3 : ∀ w ∈ wsX30, w ∈ wsX3_init := fun _ h => List.mem_cons_of_mem _ (List.mem_append_right _ h)
  refine lv_aload_n hx hb dX3_init_0 rfl (lv_at hl 0 rfl) ?_
  refine W.objInit hx hb hown (hts (.methodLink RX3 3 objectInit) (List.mem_of_getElem? (i := 1) rfl)) (hts (.instanceMethod objectInit) (List.mem_of_getElem? (i := 2) rfl)) (hts (.code objectInit ⟨#[0xb1]⟩ 1 none) (List.mem_of_getElem? (i := 3) rfl)) rfl (by rw [hml]; exact hl.1) rfl dX3_init_1 (Nat.le_of_ble_eq_true rfl) (Nat.le_of_ble_eq_true rfl) ?_
  refine W.eq (g2 := F0 mm 4 ls []) rfl ?_
  refine lv_aload_n hx hb dX3_init_4 rfl (lv_at hl 0 rfl) ?_
  refine va_new (ci := 2) (fs := [.int 0, .int 0, .null]) (C := RX2) (T := TX2) (N := 3) hx hb hts inX2 tyX2 tyX2_ok hown (hts (.classLink RX3 9 RX2) (List.mem_of_getElem? (i := 4) rfl)) (hts (.instantiable RX2 3) (List.mem_of_getElem? (i := 5) rfl)) (hts (.initialized RX2) (List.mem_of_getElem? (i := 6) rfl)) hK hP hD hS hA rfl (fun j hj => by rcases (show j = 0 ∨ j = 1 ∨ j = 2 by omega) with rfl | rfl | rfl <;> rfl) (Nat.le_of_ble_eq_true rfl) (Nat.le_of_ble_eq_true rfl) dX3_init_5 (fun q45 H hP hD hS => ?_)
  have hP : va_P D vwCl [(c, .inr (3, [.null, .int 0, .int 0])), (q45, .inr (2, [.int 0, .int 0, .null]))] H := hP
  have hD : va_D AA [(c, .inr (3, [.null, .int 0, .int 0])), (q45, .inr (2, [.int 0, .int 0, .null]))] := hD
  refine W.widen (k := 1) (n := 3) (Nat.le_of_ble_eq_true rfl) (Nat.le_of_ble_eq_true rfl) ?_
  refine lv_dup hx hb dX3_init_8 rfl ?_
  refine lv_bipush (v := 12) hx hb dX3_init_9 (by decide) ?_
  refine lv_bipush (v := 7) hx hb dX3_init_11 (by decide) ?_
  refine k_v (wr := [(c, .inr (3, [.null, .int 0, .int 0]))]) (va_runI (As := [.int 12, .int 7]) (rest := [.ref q45, .ref c]) ⟨hx, hb, hml, hown, hts⟩ (c_X2_init_84 l D H.size q45 ) (cwI 2 hts gX3_init_X2_init rfl rfl rfl (hts (.initialized RX2) (List.mem_of_getElem? (i := 6) rfl)) (hts (.methodLink RX3 13 yX2_init) (List.mem_of_getElem? (i := 8) rfl)) (hts (.instanceMethod yX2_init) (List.mem_of_getElem? (i := 9) rfl)) rfl (by decide +kernel) ⟨(Nat.le_of_ble_eq_true rfl), (Nat.le_of_ble_eq_true rfl)⟩) ⟨mP_blind, m_pre _ hN hK hP hD [] rfl [1] rfl (by decide)⟩ rfl rfl hl.1 rfl (lv_room (Nat.le_of_ble_eq_true rfl)) dX3_init_13 ⟨(Nat.le_of_ble_eq_true rfl), (Nat.le_of_ble_eq_true rfl)⟩) hP hD hS hA [1] [0] rfl rfl (by decide) (by decide) (fun u H locs hw hK1 hP hD hS => ?_)
  obtain ⟨a47, cA48, f49⟩ := u
  have hK : va_K D vwCl [(cA48, .int)] ss := hK.app hK1
  have hP : va_P D vwCl [(c, .inr (3, [.null, .int 0, .int 0])), (q45, .inr (2, [.int 12, .int 7, .ref a47])), (a47, .inl (cA48, 84, .inl f49))] H := hP
  have hD : va_D AA [(c, .inr (3, [.null, .int 0, .int 0])), (q45, .inr (2, [.int 12, .int 7, .ref a47])), (a47, .inl (cA48, 84, .inl f49))] := hD
  try dsimp only at hw
  refine W.widen (k := 2) (n := 87) (Nat.le_of_ble_eq_true rfl) (Nat.le_of_ble_eq_true rfl) ?_
  refine va_putF (D := D) (ci := 3) (v := .ref q45) (ty := .object "LoanHouse$Grid") (C := RX3) (T := TX3) (N := 3) hx hb hts inX3 tyX3 tyX3_ok nmX3 hown hK hP hD hS 0 rfl rfl 0 (by decide) (hts (.fieldLink RX3 16 "LoanHouse$Holds" "grid" "LLoanHouse$Grid;") (List.mem_of_getElem? (i := 7) rfl)) (fun _ h9 => h9) rfl hmn rfl (by decide +kernel) rfl rfl (Nat.le_of_ble_eq_true rfl) dX3_init_16 (fun H locs hP hD hS => ?_)
  have hP : va_P D vwCl [(c, .inr (3, [.ref q45, .int 0, .int 0])), (q45, .inr (2, [.int 12, .int 7, .ref a47])), (a47, .inl (cA48, 84, .inl f49))] H := hP
  have hD : va_D AA [(c, .inr (3, [.ref q45, .int 0, .int 0])), (q45, .inr (2, [.int 12, .int 7, .ref a47])), (a47, .inl (cA48, 84, .inl f49))] := hD
  exact hret (q45, a47, cA48, f49) (trivial) (m_P hP (is := [0, 1, 2]) rfl) (hK.sub [0] rfl) (hD.sub [0, 1, 2] (by decide) rfl) hS (Nat.le_of_ble_eq_true rfl) (Nat.le_of_ble_eq_true rfl) dX3_init_19
set_option maxHeartbeats 4000000 in
set_option maxRecDepth 100000 in
theorem c_X3_reader (l : Launch) (D : va_G) (sz : Nat) (o g a : Nat) (cA : ClassId) (cnt nx : Int32) (f : Nat → Int32) (i : Int32) : mI l yX3_reader wsX3_reader (rk 1 0 0) D [.ref o, .int i] [(cA, .int)] sz [(o, .inr (3, [.ref g, .int cnt, .int nx])), (g, .inr (2, [.int 12, .int 7, .ref a])), (a, .inl (cA, 84, .inl f))] (S := Unit) (fun r _ => i < 0 → r = -1) (fun _ => []) (fun _ => [(o, .inr (3, [.ref g, .int cnt, .int nx])), (g, .inr (2, [.int 12, .int 7, .ref a])), (a, .inl (cA, 84, .inl f))]) := by
  refine mI_of (cc := cX3_reader) (maxL := 2) (ty := .int) (plainFor_of_name (by decide)) rfl (Nat.le_of_ble_eq_true rfl) ?_
  intro pp ee ss mm bl mt cd AA QQ hx hb hml hts hown hN hA hK hP hD hS hret ls hl
  have hl : lv_has ls 2 [(0, .ref o), (1, .int i)] := hl
  have inX3 : ∀ w ∈ wsX30, w ∈ wsX3_reader := fun _ h => List.mem_cons_of_mem _ (List.mem_append_left _ (List.mem_append_right _ h))
  refine lv_aload_n hx hb dX3_reader_0 rfl (lv_at hl 0 rfl) ?_
  refine va_get (D := D) (ci := 3) (v := .ref g) (C := RX3) (T := TX3) (N := 3) hx hb hts inX3 hown hK hP 0 rfl rfl 0 (by decide) (hts (.fieldLink RX3 16 "LoanHouse$Holds" "grid" "LLoanHouse$Grid;") (List.mem_of_getElem? (i := 1) rfl)) (fun _ h9 => h9) rfl dX3_reader_1 ?_
  refine lv_iload_n hx hb dX3_reader_4 rfl (lv_at hl 1 rfl) ?_
  refine lv_iconst (v := 0) hx hb dX3_reader_5 (by decide) ?_
  refine k_pi (va_runV (As := [.int i, .int 0]) (rest := []) ⟨hx, hb, hml, hown, hts⟩ (c_X2_at l D ss.heap.size g a cA 12 7 84 f i 0 (by decide)) (cwV 2 hts gX3_reader_X2_at rfl rfl rfl (by decide +kernel) ⟨(Nat.le_of_ble_eq_true rfl), (Nat.le_of_ble_eq_true rfl)⟩) ⟨mP_blind, va_recv hK hP (ci := 2) (q0 := 1) rfl rfl, m_pre _ hN hK hP hD [0] rfl [1, 2] rfl (by decide)⟩ rfl rfl hl.1 rfl (lv_room (Nat.le_of_ble_eq_true rfl)) dX3_reader_6 ⟨(Nat.le_of_ble_eq_true rfl), (Nat.le_of_ble_eq_true rfl)⟩) hP hD hS hA [1, 2] rfl (fun r50 u H locs hw hP hS => ?_)
  have zw6 := hw
  exact hret r50 () rfl (zw6) hP (hK.sub [] rfl) hD hS (Nat.le_of_ble_eq_true rfl) (Nat.le_of_ble_eq_true rfl) dX3_reader_9
set_option maxHeartbeats 4000000 in
set_option maxRecDepth 100000 in
theorem c_X3_title (l : Launch) (D : va_G) (sz : Nat) (o g a : Nat) (cA : ClassId) (cnt nx : Int32) (f : Nat → Int32) (i : Int32) : mI l yX3_title wsX3_title (rk 1 0 0) D [.ref o, .int i] [(cA, .int)] sz [(o, .inr (3, [.ref g, .int cnt, .int nx])), (g, .inr (2, [.int 12, .int 7, .ref a])), (a, .inl (cA, 84, .inl f))] (S := Unit) (fun r _ => i < 0 → r = -1) (fun _ => []) (fun _ => [(o, .inr (3, [.ref g, .int cnt, .int nx])), (g, .inr (2, [.int 12, .int 7, .ref a])), (a, .inl (cA, 84, .inl f))]) := by
  refine mI_of (cc := cX3_title) (maxL := 2) (ty := .int) (plainFor_of_name (by decide)) rfl (Nat.le_of_ble_eq_true rfl) ?_
  intro pp ee ss mm bl mt cd AA QQ hx hb hml hts hown hN hA hK hP hD hS hret ls hl
  have hl : lv_has ls 2 [(0, .ref o), (1, .int i)] := hl
  have inX3 : ∀ w ∈ wsX30, w ∈ wsX3_title := fun _ h => List.mem_cons_of_mem _ (List.mem_append_left _ (List.mem_append_right _ h))
  refine lv_aload_n hx hb dX3_title_0 rfl (lv_at hl 0 rfl) ?_
  refine va_get (D := D) (ci := 3) (v := .ref g) (C := RX3) (T := TX3) (N := 3) hx hb hts inX3 hown hK hP 0 rfl rfl 0 (by decide) (hts (.fieldLink RX3 16 "LoanHouse$Holds" "grid" "LLoanHouse$Grid;") (List.mem_of_getElem? (i := 1) rfl)) (fun _ h9 => h9) rfl dX3_title_1 ?_
  refine lv_iload_n hx hb dX3_title_4 rfl (lv_at hl 1 rfl) ?_
  refine lv_iconst (v := 1) hx hb dX3_title_5 (by decide) ?_
  refine k_pi (va_runV (As := [.int i, .int 1]) (rest := []) ⟨hx, hb, hml, hown, hts⟩ (c_X2_at l D ss.heap.size g a cA 12 7 84 f i 1 (by decide)) (cwV 2 hts gX3_title_X2_at rfl rfl rfl (by decide +kernel) ⟨(Nat.le_of_ble_eq_true rfl), (Nat.le_of_ble_eq_true rfl)⟩) ⟨mP_blind, va_recv hK hP (ci := 2) (q0 := 1) rfl rfl, m_pre _ hN hK hP hD [0] rfl [1, 2] rfl (by decide)⟩ rfl rfl hl.1 rfl (lv_room (Nat.le_of_ble_eq_true rfl)) dX3_title_6 ⟨(Nat.le_of_ble_eq_true rfl), (Nat.le_of_ble_eq_true rfl)⟩) hP hD hS hA [1, 2] rfl (fun r51 u H locs hw hP hS => ?_)
  have zw6 := hw
  exact hret r51 () rfl (zw6) hP (hK.sub [] rfl) hD hS (Nat.le_of_ble_eq_true rfl) (Nat.le_of_ble_eq_true rfl) dX3_title_9
set_option maxHeartbeats 4000000 in
set_option maxRecDepth 100000 in
theorem c_X3_branch (l : Launch) (D : va_G) (sz : Nat) (o g a : Nat) (cA : ClassId) (cnt nx : Int32) (f : Nat → Int32) (i : Int32) : mI l yX3_branch wsX3_branch (rk 1 0 0) D [.ref o, .int i] [(cA, .int)] sz [(o, .inr (3, [.ref g, .int cnt, .int nx])), (g, .inr (2, [.int 12, .int 7, .ref a])), (a, .inl (cA, 84, .inl f))] (S := Unit) (fun r _ => i < 0 → r = -1) (fun _ => []) (fun _ => [(o, .inr (3, [.ref g, .int cnt, .int nx])), (g, .inr (2, [.int 12, .int 7, .ref a])), (a, .inl (cA, 84, .inl f))]) := by
  refine mI_of (cc := cX3_branch) (maxL := 2) (ty := .int) (plainFor_of_name (by decide)) rfl (Nat.le_of_ble_eq_true rfl) ?_
  intro pp ee ss mm bl mt cd AA QQ hx hb hml hts hown hN hA hK hP hD hS hret ls hl
  have hl : lv_has ls 2 [(0, .ref o), (1, .int i)] := hl
  have inX3 : ∀ w ∈ wsX30, w ∈ wsX3_branch := fun _ h => List.mem_cons_of_mem _ (List.mem_append_left _ (List.mem_append_right _ h))
  refine lv_aload_n hx hb dX3_branch_0 rfl (lv_at hl 0 rfl) ?_
  refine va_get (D := D) (ci := 3) (v := .ref g) (C := RX3) (T := TX3) (N := 3) hx hb hts inX3 hown hK hP 0 rfl rfl 0 (by decide) (hts (.fieldLink RX3 16 "LoanHouse$Holds" "grid" "LLoanHouse$Grid;") (List.mem_of_getElem? (i := 1) rfl)) (fun _ h9 => h9) rfl dX3_branch_1 ?_
  refine lv_iload_n hx hb dX3_branch_4 rfl (lv_at hl 1 rfl) ?_
  refine lv_iconst (v := 2) hx hb dX3_branch_5 (by decide) ?_
  refine k_pi (va_runV (As := [.int i, .int 2]) (rest := []) ⟨hx, hb, hml, hown, hts⟩ (c_X2_at l D ss.heap.size g a cA 12 7 84 f i 2 (by decide)) (cwV 2 hts gX3_branch_X2_at rfl rfl rfl (by decide +kernel) ⟨(Nat.le_of_ble_eq_true rfl), (Nat.le_of_ble_eq_true rfl)⟩) ⟨mP_blind, va_recv hK hP (ci := 2) (q0 := 1) rfl rfl, m_pre _ hN hK hP hD [0] rfl [1, 2] rfl (by decide)⟩ rfl rfl hl.1 rfl (lv_room (Nat.le_of_ble_eq_true rfl)) dX3_branch_6 ⟨(Nat.le_of_ble_eq_true rfl), (Nat.le_of_ble_eq_true rfl)⟩) hP hD hS hA [1, 2] rfl (fun r52 u H locs hw hP hS => ?_)
  have zw6 := hw
  exact hret r52 () rfl (zw6) hP (hK.sub [] rfl) hD hS (Nat.le_of_ble_eq_true rfl) (Nat.le_of_ble_eq_true rfl) dX3_branch_9
set_option maxHeartbeats 4000000 in
set_option maxRecDepth 100000 in
theorem c_X3_need (l : Launch) (D : va_G) (sz : Nat) (o g a : Nat) (cA : ClassId) (cnt nx : Int32) (f : Nat → Int32) (i : Int32) : mI l yX3_need wsX3_need (rk 1 0 0) D [.ref o, .int i] [(cA, .int)] sz [(o, .inr (3, [.ref g, .int cnt, .int nx])), (g, .inr (2, [.int 12, .int 7, .ref a])), (a, .inl (cA, 84, .inl f))] (S := Unit) (fun r _ => i < 0 → r = -1) (fun _ => []) (fun _ => [(o, .inr (3, [.ref g, .int cnt, .int nx])), (g, .inr (2, [.int 12, .int 7, .ref a])), (a, .inl (cA, 84, .inl f))]) := by
  refine mI_of (cc := cX3_need) (maxL := 2) (ty := .int) (plainFor_of_name (by decide)) rfl (Nat.le_of_ble_eq_true rfl) ?_
  intro pp ee ss mm bl mt cd AA QQ hx hb hml hts hown hN hA hK hP hD hS hret ls hl
  have hl : lv_has ls 2 [(0, .ref o), (1, .int i)] := hl
  have inX3 : ∀ w ∈ wsX30, w ∈ wsX3_need := fun _ h => List.mem_cons_of_mem _ (List.mem_append_left _ (List.mem_append_right _ h))
  refine lv_aload_n hx hb dX3_need_0 rfl (lv_at hl 0 rfl) ?_
  refine va_get (D := D) (ci := 3) (v := .ref g) (C := RX3) (T := TX3) (N := 3) hx hb hts inX3 hown hK hP 0 rfl rfl 0 (by decide) (hts (.fieldLink RX3 16 "LoanHouse$Holds" "grid" "LLoanHouse$Grid;") (List.mem_of_getElem? (i := 1) rfl)) (fun _ h9 => h9) rfl dX3_need_1 ?_
  refine lv_iload_n hx hb dX3_need_4 rfl (lv_at hl 1 rfl) ?_
  refine lv_iconst (v := 3) hx hb dX3_need_5 (by decide) ?_
  refine k_pi (va_runV (As := [.int i, .int 3]) (rest := []) ⟨hx, hb, hml, hown, hts⟩ (c_X2_at l D ss.heap.size g a cA 12 7 84 f i 3 (by decide)) (cwV 2 hts gX3_need_X2_at rfl rfl rfl (by decide +kernel) ⟨(Nat.le_of_ble_eq_true rfl), (Nat.le_of_ble_eq_true rfl)⟩) ⟨mP_blind, va_recv hK hP (ci := 2) (q0 := 1) rfl rfl, m_pre _ hN hK hP hD [0] rfl [1, 2] rfl (by decide)⟩ rfl rfl hl.1 rfl (lv_room (Nat.le_of_ble_eq_true rfl)) dX3_need_6 ⟨(Nat.le_of_ble_eq_true rfl), (Nat.le_of_ble_eq_true rfl)⟩) hP hD hS hA [1, 2] rfl (fun r53 u H locs hw hP hS => ?_)
  have zw6 := hw
  exact hret r53 () rfl (zw6) hP (hK.sub [] rfl) hD hS (Nat.le_of_ble_eq_true rfl) (Nat.le_of_ble_eq_true rfl) dX3_need_9
set_option maxHeartbeats 4000000 in
set_option maxRecDepth 100000 in
theorem c_X3_number (l : Launch) (D : va_G) (sz : Nat) (o g a : Nat) (cA : ClassId) (cnt nx : Int32) (f : Nat → Int32) (i : Int32) : mI l yX3_number wsX3_number (rk 1 0 0) D [.ref o, .int i] [(cA, .int)] sz [(o, .inr (3, [.ref g, .int cnt, .int nx])), (g, .inr (2, [.int 12, .int 7, .ref a])), (a, .inl (cA, 84, .inl f))] (S := Unit) (fun r _ => i < 0 → r = -1) (fun _ => []) (fun _ => [(o, .inr (3, [.ref g, .int cnt, .int nx])), (g, .inr (2, [.int 12, .int 7, .ref a])), (a, .inl (cA, 84, .inl f))]) := by
  refine mI_of (cc := cX3_number) (maxL := 2) (ty := .int) (plainFor_of_name (by decide)) rfl (Nat.le_of_ble_eq_true rfl) ?_
  intro pp ee ss mm bl mt cd AA QQ hx hb hml hts hown hN hA hK hP hD hS hret ls hl
  have hl : lv_has ls 2 [(0, .ref o), (1, .int i)] := hl
  have inX3 : ∀ w ∈ wsX30, w ∈ wsX3_number := fun _ h => List.mem_cons_of_mem _ (List.mem_append_left _ (List.mem_append_right _ h))
  refine lv_aload_n hx hb dX3_number_0 rfl (lv_at hl 0 rfl) ?_
  refine va_get (D := D) (ci := 3) (v := .ref g) (C := RX3) (T := TX3) (N := 3) hx hb hts inX3 hown hK hP 0 rfl rfl 0 (by decide) (hts (.fieldLink RX3 16 "LoanHouse$Holds" "grid" "LLoanHouse$Grid;") (List.mem_of_getElem? (i := 1) rfl)) (fun _ h9 => h9) rfl dX3_number_1 ?_
  refine lv_iload_n hx hb dX3_number_4 rfl (lv_at hl 1 rfl) ?_
  refine lv_bipush (v := 6) hx hb dX3_number_5 (by decide) ?_
  refine k_pi (va_runV (As := [.int i, .int 6]) (rest := []) ⟨hx, hb, hml, hown, hts⟩ (c_X2_at l D ss.heap.size g a cA 12 7 84 f i 6 (by decide)) (cwV 2 hts gX3_number_X2_at rfl rfl rfl (by decide +kernel) ⟨(Nat.le_of_ble_eq_true rfl), (Nat.le_of_ble_eq_true rfl)⟩) ⟨mP_blind, va_recv hK hP (ci := 2) (q0 := 1) rfl rfl, m_pre _ hN hK hP hD [0] rfl [1, 2] rfl (by decide)⟩ rfl rfl hl.1 rfl (lv_room (Nat.le_of_ble_eq_true rfl)) dX3_number_7 ⟨(Nat.le_of_ble_eq_true rfl), (Nat.le_of_ble_eq_true rfl)⟩) hP hD hS hA [1, 2] rfl (fun r54 u H locs hw hP hS => ?_)
  have zw7 := hw
  exact hret r54 () rfl (zw7) hP (hK.sub [] rfl) hD hS (Nat.le_of_ble_eq_true rfl) (Nat.le_of_ble_eq_true rfl) dX3_number_10
set_option maxHeartbeats 4000000 in
set_option maxRecDepth 100000 in
theorem c_X3_isInRow (l : Launch) (D : va_G) (sz : Nat) (o g a : Nat) (cA : ClassId) (cnt nx : Int32) (f : Nat → Int32) (i t : Int32) : mI l yX3_isInRow wsX3_isInRow (rk 1 0 0) D [.ref o, .int i, .int t] [(cA, .int)] sz [(o, .inr (3, [.ref g, .int cnt, .int nx])), (g, .inr (2, [.int 12, .int 7, .ref a])), (a, .inl (cA, 84, .inl f))] (S := Unit) (fun r _ => r = 1 ∨ r = 0) (fun _ => []) (fun _ => [(o, .inr (3, [.ref g, .int cnt, .int nx])), (g, .inr (2, [.int 12, .int 7, .ref a])), (a, .inl (cA, 84, .inl f))]) := by
  refine mI_of (cc := cX3_isInRow) (maxL := 3) (ty := .boolean) (plainFor_of_name (by decide)) rfl (Nat.le_of_ble_eq_true rfl) ?_
  intro pp ee ss mm bl mt cd AA QQ hx hb hml hts hown hN hA hK hP hD hS hret ls hl
  have hl : lv_has ls 3 [(0, .ref o), (1, .int i), (2, .int t)] := hl
  have inX3 : ∀ w ∈ wsX30, w ∈ wsX3_isInRow := fun _ h => List.mem_cons_of_mem _ (List.mem_append_left _ (List.mem_append_right _ h))
  refine lv_aload_n hx hb dX3_isInRow_0 rfl (lv_at hl 0 rfl) ?_
  refine va_get (D := D) (ci := 3) (v := .ref g) (C := RX3) (T := TX3) (N := 3) hx hb hts inX3 hown hK hP 0 rfl rfl 0 (by decide) (hts (.fieldLink RX3 16 "LoanHouse$Holds" "grid" "LLoanHouse$Grid;") (List.mem_of_getElem? (i := 1) rfl)) (fun _ h9 => h9) rfl dX3_isInRow_1 ?_
  refine lv_iload_n hx hb dX3_isInRow_4 rfl (lv_at hl 1 rfl) ?_
  refine lv_iconst (v := 1) hx hb dX3_isInRow_5 (by decide) ?_
  refine k_pi (va_runV (As := [.int i, .int 1]) (rest := []) ⟨hx, hb, hml, hown, hts⟩ (c_X2_at l D ss.heap.size g a cA 12 7 84 f i 1 (by decide)) (cwV 2 hts gX3_isInRow_X2_at rfl rfl rfl (by decide +kernel) ⟨(Nat.le_of_ble_eq_true rfl), (Nat.le_of_ble_eq_true rfl)⟩) ⟨mP_blind, va_recv hK hP (ci := 2) (q0 := 1) rfl rfl, m_pre _ hN hK hP hD [0] rfl [1, 2] rfl (by decide)⟩ rfl rfl hl.1 rfl (lv_room (Nat.le_of_ble_eq_true rfl)) dX3_isInRow_6 ⟨(Nat.le_of_ble_eq_true rfl), (Nat.le_of_ble_eq_true rfl)⟩) hP hD hS hA [1, 2] rfl (fun r55 u H locs hw hP hS => ?_)
  have zw6 := hw
  refine lv_iload_n hx hb dX3_isInRow_9 rfl (lv_at hl 2 rfl) ?_
  refine lv_icmp_ne (tgt := 30) hx hb dX3_isInRow_10 (by decide) (fun zc10 => ?_) (fun zc10 => ?_)
  · refine lv_iconst (v := 0) hx hb dX3_isInRow_30 (by decide) ?_
    exact hret 0 () rfl (Or.inr rfl) hP (hK.sub [] rfl) hD hS (Nat.le_of_ble_eq_true rfl) (Nat.le_of_ble_eq_true rfl) dX3_isInRow_31
  · refine lv_aload_n hx hb dX3_isInRow_13 rfl (lv_at hl 0 rfl) ?_
    refine va_get (D := D) (ci := 3) (v := .ref g) (C := RX3) (T := TX3) (N := 3) hx hb hts inX3 hown hK hP 0 rfl rfl 0 (by decide) (hts (.fieldLink RX3 16 "LoanHouse$Holds" "grid" "LLoanHouse$Grid;") (List.mem_of_getElem? (i := 1) rfl)) (fun _ h9 => h9) rfl dX3_isInRow_14 ?_
    refine lv_iload_n hx hb dX3_isInRow_17 rfl (lv_at hl 1 rfl) ?_
    refine lv_iconst (v := 5) hx hb dX3_isInRow_18 (by decide) ?_
    refine k_pi (va_runV (As := [.int i, .int 5]) (rest := []) ⟨hx, hb, hml, hown, hts⟩ (c_X2_at l D H.size g a cA 12 7 84 f i 5 (by decide)) (cwV 2 hts gX3_isInRow_X2_at rfl rfl rfl (by decide +kernel) ⟨(Nat.le_of_ble_eq_true rfl), (Nat.le_of_ble_eq_true rfl)⟩) ⟨mP_blind, va_recv hK hP (ci := 2) (q0 := 1) rfl rfl, m_pre _ hN hK hP hD [0] rfl [1, 2] rfl (by decide)⟩ rfl rfl hl.1 rfl (lv_room (Nat.le_of_ble_eq_true rfl)) dX3_isInRow_19 ⟨(Nat.le_of_ble_eq_true rfl), (Nat.le_of_ble_eq_true rfl)⟩) hP hD hS hA [1, 2] rfl (fun r56 u H locs hw hP hS => ?_)
    have zw19 := hw
    refine lv_iconst (v := (-1)) hx hb dX3_isInRow_22 (by decide) ?_
    refine lv_icmp_ne (tgt := 30) hx hb dX3_isInRow_23 (by decide) (fun zc23 => ?_) (fun zc23 => ?_)
    · refine lv_iconst (v := 0) hx hb dX3_isInRow_30 (by decide) ?_
      exact hret 0 () rfl (Or.inr rfl) hP (hK.sub [] rfl) hD hS (Nat.le_of_ble_eq_true rfl) (Nat.le_of_ble_eq_true rfl) dX3_isInRow_31
    · refine lv_iconst (v := 1) hx hb dX3_isInRow_26 (by decide) ?_
      refine lv_goto (tgt := 31) hx hb dX3_isInRow_27 (by decide) ?_
      exact hret 1 () rfl (Or.inl rfl) hP (hK.sub [] rfl) hD hS (Nat.le_of_ble_eq_true rfl) (Nat.le_of_ble_eq_true rfl) dX3_isInRow_31
set_option maxHeartbeats 4000000 in
set_option maxRecDepth 100000 in
theorem c_X3_slotOf (l : Launch) (D : va_G) (sz : Nat) (o g : Nat) (nx : Int32) (p : Int32) : mI l yX3_slotOf wsX3_slotOf (rk 0 0 0) D [.ref o, .int p] [] sz [(o, .inr (3, [.ref g, .int 0, .int nx]))] (S := Unit) (fun r _ => r = (-1)) (fun _ => []) (fun _ => [(o, .inr (3, [.ref g, .int 0, .int nx]))]) := by
  refine mI_of (cc := cX3_slotOf) (maxL := 3) (ty := .int) (plainFor_of_name (by decide)) rfl (Nat.le_of_ble_eq_true rfl) ?_
  intro pp ee ss mm bl mt cd AA QQ hx hb hml hts hown hN hA hK hP hD hS hret ls hl
  have hl : lv_has ls 3 [(0, .ref o), (1, .int p)] := hl
  have inX3 : ∀ w ∈ wsX30, w ∈ wsX3_slotOf := fun _ h => List.mem_cons_of_mem _ (List.mem_append_left _ (List.mem_append_right _ h))
  refine lv_iconst (v := 0) hx hb dX3_slotOf_0 (by decide) ?_
  refine lv_istore_n (lv' := [(2, .int 0), (0, .ref o), (1, .int p)]) hx hb dX3_slotOf_1 rfl hl (by decide) rfl (fun ls hl => ?_)
  refine lv_iload_n hx hb dX3_slotOf_2 rfl (lv_at hl 0 rfl) ?_
  refine lv_aload_n hx hb dX3_slotOf_3 rfl (lv_at hl 1 rfl) ?_
  refine va_get (D := D) (ci := 3) (v := .int 0) (C := RX3) (T := TX3) (N := 3) hx hb hts inX3 hown hK hP 0 rfl rfl 1 (by decide) (hts (.fieldLink RX3 24 "LoanHouse$Holds" "count" "I") (List.mem_of_getElem? (i := 1) rfl)) (fun _ h9 => h9) rfl dX3_slotOf_4 ?_
  refine lv_icmp_ge (tgt := 27) hx hb dX3_slotOf_7 (by decide) (fun zc7 => ?_) (fun hc => absurd (by decide) hc)
  refine lv_iconst (v := (-1)) hx hb dX3_slotOf_27 (by decide) ?_
  exact hret (-1) () rfl (rfl) hP (hK.sub [] rfl) hD hS (Nat.le_of_ble_eq_true rfl) (Nat.le_of_ble_eq_true rfl) dX3_slotOf_28
set_option maxHeartbeats 4000000 in
set_option maxRecDepth 100000 in
theorem c_X3_waiting (l : Launch) (D : va_G) (sz : Nat) (o g : Nat) (nx : Int32)  : mI l yX3_waiting wsX3_waiting (rk 0 0 0) D [.ref o] [] sz [(o, .inr (3, [.ref g, .int 0, .int nx]))] (S := Unit) (fun r _ => r = 0) (fun _ => []) (fun _ => [(o, .inr (3, [.ref g, .int 0, .int nx]))]) := by
  refine mI_of (cc := cX3_waiting) (maxL := 3) (ty := .int) (plainFor_of_name (by decide)) rfl (Nat.le_of_ble_eq_true rfl) ?_
  intro pp ee ss mm bl mt cd AA QQ hx hb hml hts hown hN hA hK hP hD hS hret ls hl
  have hl : lv_has ls 3 [(0, .ref o)] := hl
  have inX3 : ∀ w ∈ wsX30, w ∈ wsX3_waiting := fun _ h => List.mem_cons_of_mem _ (List.mem_append_left _ (List.mem_append_right _ h))
  refine lv_iconst (v := 0) hx hb dX3_waiting_0 (by decide) ?_
  refine lv_istore_n (lv' := [(1, .int 0), (0, .ref o)]) hx hb dX3_waiting_1 rfl hl (by decide) rfl (fun ls hl => ?_)
  refine lv_iconst (v := 0) hx hb dX3_waiting_2 (by decide) ?_
  refine lv_istore_n (lv' := [(2, .int 0), (1, .int 0), (0, .ref o)]) hx hb dX3_waiting_3 rfl hl (by decide) rfl (fun ls hl => ?_)
  refine lv_iload_n hx hb dX3_waiting_4 rfl (lv_at hl 0 rfl) ?_
  refine lv_aload_n hx hb dX3_waiting_5 rfl (lv_at hl 2 rfl) ?_
  refine va_get (D := D) (ci := 3) (v := .int 0) (C := RX3) (T := TX3) (N := 3) hx hb hts inX3 hown hK hP 0 rfl rfl 1 (by decide) (hts (.fieldLink RX3 24 "LoanHouse$Holds" "count" "I") (List.mem_of_getElem? (i := 1) rfl)) (fun _ h9 => h9) rfl dX3_waiting_6 ?_
  refine lv_icmp_ge (tgt := 30) hx hb dX3_waiting_9 (by decide) (fun zc9 => ?_) (fun hc => absurd (by decide) hc)
  refine lv_iload_n hx hb dX3_waiting_30 rfl (lv_at hl 1 rfl) ?_
  exact hret 0 () rfl (rfl) hP (hK.sub [] rfl) hD hS (Nat.le_of_ble_eq_true rfl) (Nat.le_of_ble_eq_true rfl) dX3_waiting_31
set_option maxHeartbeats 4000000 in
set_option maxRecDepth 100000 in
theorem c_X3_ofReader (l : Launch) (D : va_G) (sz : Nat) (o g : Nat) (nx : Int32) (p : Int32) : mI l yX3_ofReader wsX3_ofReader (rk 0 0 0) D [.ref o, .int p] [] sz [(o, .inr (3, [.ref g, .int 0, .int nx]))] (S := Unit) (fun r _ => r = 0) (fun _ => []) (fun _ => [(o, .inr (3, [.ref g, .int 0, .int nx]))]) := by
  refine mI_of (cc := cX3_ofReader) (maxL := 4) (ty := .int) (plainFor_of_name (by decide)) rfl (Nat.le_of_ble_eq_true rfl) ?_
  intro pp ee ss mm bl mt cd AA QQ hx hb hml hts hown hN hA hK hP hD hS hret ls hl
  have hl : lv_has ls 4 [(0, .ref o), (1, .int p)] := hl
  have inX3 : ∀ w ∈ wsX30, w ∈ wsX3_ofReader := fun _ h => List.mem_cons_of_mem _ (List.mem_append_left _ (List.mem_append_right _ h))
  refine lv_iconst (v := 0) hx hb dX3_ofReader_0 (by decide) ?_
  refine lv_istore_n (lv' := [(2, .int 0), (0, .ref o), (1, .int p)]) hx hb dX3_ofReader_1 rfl hl (by decide) rfl (fun ls hl => ?_)
  refine lv_iconst (v := 0) hx hb dX3_ofReader_2 (by decide) ?_
  refine lv_istore_n (lv' := [(3, .int 0), (2, .int 0), (0, .ref o), (1, .int p)]) hx hb dX3_ofReader_3 rfl hl (by decide) rfl (fun ls hl => ?_)
  refine lv_iload_n hx hb dX3_ofReader_4 rfl (lv_at hl 0 rfl) ?_
  refine lv_aload_n hx hb dX3_ofReader_5 rfl (lv_at hl 2 rfl) ?_
  refine va_get (D := D) (ci := 3) (v := .int 0) (C := RX3) (T := TX3) (N := 3) hx hb hts inX3 hown hK hP 0 rfl rfl 1 (by decide) (hts (.fieldLink RX3 24 "LoanHouse$Holds" "count" "I") (List.mem_of_getElem? (i := 1) rfl)) (fun _ h9 => h9) rfl dX3_ofReader_6 ?_
  refine lv_icmp_ge (tgt := 30) hx hb dX3_ofReader_9 (by decide) (fun zc9 => ?_) (fun hc => absurd (by decide) hc)
  refine lv_iload_n hx hb dX3_ofReader_30 rfl (lv_at hl 1 rfl) ?_
  exact hret 0 () rfl (rfl) hP (hK.sub [] rfl) hD hS (Nat.le_of_ble_eq_true rfl) (Nat.le_of_ble_eq_true rfl) dX3_ofReader_31
set_option maxHeartbeats 4000000 in
set_option maxRecDepth 100000 in
theorem c_X3_rowLength (l : Launch) (D : va_G) (sz : Nat) (o g : Nat) (nx : Int32) (p : Int32) : mI l yX3_rowLength wsX3_rowLength (rk 0 0 0) D [.ref o, .int p] [] sz [(o, .inr (3, [.ref g, .int 0, .int nx]))] (S := Unit) (fun r _ => r = 0) (fun _ => []) (fun _ => [(o, .inr (3, [.ref g, .int 0, .int nx]))]) := by
  refine mI_of (cc := cX3_rowLength) (maxL := 4) (ty := .int) (plainFor_of_name (by decide)) rfl (Nat.le_of_ble_eq_true rfl) ?_
  intro pp ee ss mm bl mt cd AA QQ hx hb hml hts hown hN hA hK hP hD hS hret ls hl
  have hl : lv_has ls 4 [(0, .ref o), (1, .int p)] := hl
  have inX3 : ∀ w ∈ wsX30, w ∈ wsX3_rowLength := fun _ h => List.mem_cons_of_mem _ (List.mem_append_left _ (List.mem_append_right _ h))
  refine lv_iconst (v := 0) hx hb dX3_rowLength_0 (by decide) ?_
  refine lv_istore_n (lv' := [(2, .int 0), (0, .ref o), (1, .int p)]) hx hb dX3_rowLength_1 rfl hl (by decide) rfl (fun ls hl => ?_)
  refine lv_iconst (v := 0) hx hb dX3_rowLength_2 (by decide) ?_
  refine lv_istore_n (lv' := [(3, .int 0), (2, .int 0), (0, .ref o), (1, .int p)]) hx hb dX3_rowLength_3 rfl hl (by decide) rfl (fun ls hl => ?_)
  refine lv_iload_n hx hb dX3_rowLength_4 rfl (lv_at hl 0 rfl) ?_
  refine lv_aload_n hx hb dX3_rowLength_5 rfl (lv_at hl 2 rfl) ?_
  refine va_get (D := D) (ci := 3) (v := .int 0) (C := RX3) (T := TX3) (N := 3) hx hb hts inX3 hown hK hP 0 rfl rfl 1 (by decide) (hts (.fieldLink RX3 24 "LoanHouse$Holds" "count" "I") (List.mem_of_getElem? (i := 1) rfl)) (fun _ h9 => h9) rfl dX3_rowLength_6 ?_
  refine lv_icmp_ge (tgt := 30) hx hb dX3_rowLength_9 (by decide) (fun zc9 => ?_) (fun hc => absurd (by decide) hc)
  refine lv_iload_n hx hb dX3_rowLength_30 rfl (lv_at hl 1 rfl) ?_
  exact hret 0 () rfl (rfl) hP (hK.sub [] rfl) hD hS (Nat.le_of_ble_eq_true rfl) (Nat.le_of_ble_eq_true rfl) dX3_rowLength_31
set_option maxHeartbeats 4000000 in
set_option maxRecDepth 100000 in
theorem c_X3_longestWait (l : Launch) (D : va_G) (sz : Nat) (o g : Nat) (nx : Int32) (p q : Int32) : mI l yX3_longestWait wsX3_longestWait (rk 0 0 0) D [.ref o, .int p, .int q] [] sz [(o, .inr (3, [.ref g, .int 0, .int nx]))] (S := Unit) (fun r _ => r = 0) (fun _ => []) (fun _ => [(o, .inr (3, [.ref g, .int 0, .int nx]))]) := by
  refine mI_of (cc := cX3_longestWait) (maxL := 5) (ty := .int) (plainFor_of_name (by decide)) rfl (Nat.le_of_ble_eq_true rfl) ?_
  intro pp ee ss mm bl mt cd AA QQ hx hb hml hts hown hN hA hK hP hD hS hret ls hl
  have hl : lv_has ls 5 [(0, .ref o), (1, .int p), (2, .int q)] := hl
  have inX3 : ∀ w ∈ wsX30, w ∈ wsX3_longestWait := fun _ h => List.mem_cons_of_mem _ (List.mem_append_left _ (List.mem_append_right _ h))
  refine lv_iconst (v := 0) hx hb dX3_longestWait_0 (by decide) ?_
  refine lv_istore_n (lv' := [(3, .int 0), (0, .ref o), (1, .int p), (2, .int q)]) hx hb dX3_longestWait_1 rfl hl (by decide) rfl (fun ls hl => ?_)
  refine lv_iconst (v := 0) hx hb dX3_longestWait_2 (by decide) ?_
  refine lv_istore (lv' := [(4, .int 0), (3, .int 0), (0, .ref o), (1, .int p), (2, .int q)]) hx hb dX3_longestWait_3 hl (by decide) rfl (fun ls hl => ?_)
  refine lv_iload hx hb dX3_longestWait_5 (lv_at hl 0 rfl) ?_
  refine lv_aload_n hx hb dX3_longestWait_7 rfl (lv_at hl 2 rfl) ?_
  refine va_get (D := D) (ci := 3) (v := .int 0) (C := RX3) (T := TX3) (N := 3) hx hb hts inX3 hown hK hP 0 rfl rfl 1 (by decide) (hts (.fieldLink RX3 24 "LoanHouse$Holds" "count" "I") (List.mem_of_getElem? (i := 1) rfl)) (fun _ h9 => h9) rfl dX3_longestWait_8 ?_
  refine lv_icmp_ge (tgt := 43) hx hb dX3_longestWait_11 (by decide) (fun zc11 => ?_) (fun hc => absurd (by decide) hc)
  refine lv_iload_n hx hb dX3_longestWait_43 rfl (lv_at hl 1 rfl) ?_
  exact hret 0 () rfl (rfl) hP (hK.sub [] rfl) hD hS (Nat.le_of_ble_eq_true rfl) (Nat.le_of_ble_eq_true rfl) dX3_longestWait_44
set_option maxHeartbeats 4000000 in
set_option maxRecDepth 100000 in
theorem c_X3_add (l : Launch) (D : va_G) (sz : Nat) (o g a : Nat) (cA : ClassId) (c : Nat) (nx : Int32) (f : Nat → Int32) (p t b nd now : Int32) : mI l yX3_add wsX3_add (rk 1 0 0) D [.ref o, .int p, .int t, .int b, .int nd, .int now] [(cA, .int)] sz [(o, .inr (3, [.ref g, .int (nI c), .int nx])), (g, .inr (2, [.int 12, .int 7, .ref a])), (a, .inl (cA, 84, .inl f))] (S := Nat → Int32) (fun r _ => r = nx) (fun _ => []) (fun u => [(o, .inr (3, [.ref g, .int (nI (c + 1)), .int (nx + 1)])), (g, .inr (2, [.int 12, .int 7, .ref a])), (a, .inl (cA, 84, .inl u))]) := by
  refine mI_of (cc := cX3_add) (maxL := 7) (ty := .int) (plainFor_of_name (by decide)) rfl (Nat.le_of_ble_eq_true rfl) ?_
  intro pp ee ss mm bl mt cd AA QQ hx hb hml hts hown hN hA hK hP hD hS hret ls hl
  have hl : lv_has ls 7 [(0, .ref o), (1, .int p), (2, .int t), (3, .int b), (4, .int nd), (5, .int now)] := hl
  have inX3 : ∀ w ∈ wsX30, w ∈ wsX3_add := fun _ h => List.mem_cons_of_mem _ (List.mem_append_left _ (List.mem_append_right _ h))
  refine lv_aload_n hx hb dX3_add_0 rfl (lv_at hl 0 rfl) ?_
  refine va_get (D := D) (ci := 3) (v := .int nx) (C := RX3) (T := TX3) (N := 3) hx hb hts inX3 hown hK hP 0 rfl rfl 2 (by decide) (hts (.fieldLink RX3 32 "LoanHouse$Holds" "nextNumber" "I") (List.mem_of_getElem? (i := 1) rfl)) (fun _ h9 => h9) rfl dX3_add_1 ?_
  refine lv_istore (lv' := [(6, .int nx), (0, .ref o), (1, .int p), (2, .int t), (3, .int b), (4, .int nd), (5, .int now)]) hx hb dX3_add_4 hl (by decide) rfl (fun ls hl => ?_)
  refine lv_aload_n hx hb dX3_add_6 rfl (lv_at hl 1 rfl) ?_
  refine va_get (D := D) (ci := 3) (v := .ref g) (C := RX3) (T := TX3) (N := 3) hx hb hts inX3 hown hK hP 0 rfl rfl 0 (by decide) (hts (.fieldLink RX3 16 "LoanHouse$Holds" "grid" "LLoanHouse$Grid;") (List.mem_of_getElem? (i := 2) rfl)) (fun _ h9 => h9) rfl dX3_add_7 ?_
  refine lv_aload_n hx hb dX3_add_10 rfl (lv_at hl 1 rfl) ?_
  refine va_get (D := D) (ci := 3) (v := .int (nI c)) (C := RX3) (T := TX3) (N := 3) hx hb hts inX3 hown hK hP 0 rfl rfl 1 (by decide) (hts (.fieldLink RX3 24 "LoanHouse$Holds" "count" "I") (List.mem_of_getElem? (i := 3) rfl)) (fun _ h9 => h9) rfl dX3_add_11 ?_
  refine lv_iconst (v := 0) hx hb dX3_add_14 (by decide) ?_
  refine lv_iload_n hx hb dX3_add_15 rfl (lv_at hl 2 rfl) ?_
  refine k_v (wr := [(o, .inr (3, [.ref g, .int (nI c), .int nx]))]) (va_runV (As := [.int (nI c), .int 0, .int p]) (rest := []) ⟨hx, hb, hml, hown, hts⟩ (c_X2_put l D ss.heap.size g a cA 12 7 84 f (nI c) 0 p (by decide)) (cwV 3 hts gX3_add_X2_put rfl rfl rfl (by decide +kernel) ⟨(Nat.le_of_ble_eq_true rfl), (Nat.le_of_ble_eq_true rfl)⟩) ⟨mP_blind, va_recv hK hP (ci := 2) (q0 := 1) rfl rfl, m_pre _ hN hK hP hD [0] rfl [1, 2] rfl (by decide)⟩ rfl rfl hl.1 rfl (lv_room (Nat.le_of_ble_eq_true rfl)) dX3_add_16 ⟨(Nat.le_of_ble_eq_true rfl), (Nat.le_of_ble_eq_true rfl)⟩) hP hD hS hA [1, 2] [0] rfl rfl (by decide) (by decide) (fun u H locs hw hK1 hP hD hS => ?_)
  obtain ⟨f58, rfl⟩ : ∃ z, z = u := ⟨_, rfl⟩
  have hP : va_P D vwCl [(o, .inr (3, [.ref g, .int (nI c), .int nx])), (g, .inr (2, [.int 12, .int 7, .ref a])), (a, .inl (cA, 84, .inl f58))] H := hP
  have hD : va_D AA [(o, .inr (3, [.ref g, .int (nI c), .int nx])), (g, .inr (2, [.int 12, .int 7, .ref a])), (a, .inl (cA, 84, .inl f58))] := hD
  try dsimp only at hw
  refine W.widen (k := 0) (n := 0) (Nat.le_of_ble_eq_true rfl) (Nat.le_of_ble_eq_true rfl) ?_
  refine lv_aload_n hx hb dX3_add_19 rfl (lv_at hl 1 rfl) ?_
  refine va_get (D := D) (ci := 3) (v := .ref g) (C := RX3) (T := TX3) (N := 3) hx hb hts inX3 hown hK hP 0 rfl rfl 0 (by decide) (hts (.fieldLink RX3 16 "LoanHouse$Holds" "grid" "LLoanHouse$Grid;") (List.mem_of_getElem? (i := 2) rfl)) (fun _ h9 => h9) rfl dX3_add_20 ?_
  refine lv_aload_n hx hb dX3_add_23 rfl (lv_at hl 1 rfl) ?_
  refine va_get (D := D) (ci := 3) (v := .int (nI c)) (C := RX3) (T := TX3) (N := 3) hx hb hts inX3 hown hK hP 0 rfl rfl 1 (by decide) (hts (.fieldLink RX3 24 "LoanHouse$Holds" "count" "I") (List.mem_of_getElem? (i := 3) rfl)) (fun _ h9 => h9) rfl dX3_add_24 ?_
  refine lv_iconst (v := 1) hx hb dX3_add_27 (by decide) ?_
  refine lv_iload_n hx hb dX3_add_28 rfl (lv_at hl 3 rfl) ?_
  refine k_v (wr := [(o, .inr (3, [.ref g, .int (nI c), .int nx]))]) (va_runV (As := [.int (nI c), .int 1, .int t]) (rest := []) ⟨hx, hb, hml, hown, hts⟩ (c_X2_put l D H.size g a cA 12 7 84 f58 (nI c) 1 t (by decide)) (cwV 3 hts gX3_add_X2_put rfl rfl rfl (by decide +kernel) ⟨(Nat.le_of_ble_eq_true rfl), (Nat.le_of_ble_eq_true rfl)⟩) ⟨mP_blind, va_recv hK hP (ci := 2) (q0 := 1) rfl rfl, m_pre _ hN hK hP hD [0] rfl [1, 2] rfl (by decide)⟩ rfl rfl hl.1 rfl (lv_room (Nat.le_of_ble_eq_true rfl)) dX3_add_29 ⟨(Nat.le_of_ble_eq_true rfl), (Nat.le_of_ble_eq_true rfl)⟩) hP hD hS hA [1, 2] [0] rfl rfl (by decide) (by decide) (fun u H locs hw hK1 hP hD hS => ?_)
  obtain ⟨f60, rfl⟩ : ∃ z, z = u := ⟨_, rfl⟩
  have hP : va_P D vwCl [(o, .inr (3, [.ref g, .int (nI c), .int nx])), (g, .inr (2, [.int 12, .int 7, .ref a])), (a, .inl (cA, 84, .inl f60))] H := hP
  have hD : va_D AA [(o, .inr (3, [.ref g, .int (nI c), .int nx])), (g, .inr (2, [.int 12, .int 7, .ref a])), (a, .inl (cA, 84, .inl f60))] := hD
  try dsimp only at hw
  refine W.widen (k := 0) (n := 0) (Nat.le_of_ble_eq_true rfl) (Nat.le_of_ble_eq_true rfl) ?_
  refine lv_aload_n hx hb dX3_add_32 rfl (lv_at hl 1 rfl) ?_
  refine va_get (D := D) (ci := 3) (v := .ref g) (C := RX3) (T := TX3) (N := 3) hx hb hts inX3 hown hK hP 0 rfl rfl 0 (by decide) (hts (.fieldLink RX3 16 "LoanHouse$Holds" "grid" "LLoanHouse$Grid;") (List.mem_of_getElem? (i := 2) rfl)) (fun _ h9 => h9) rfl dX3_add_33 ?_
  refine lv_aload_n hx hb dX3_add_36 rfl (lv_at hl 1 rfl) ?_
  refine va_get (D := D) (ci := 3) (v := .int (nI c)) (C := RX3) (T := TX3) (N := 3) hx hb hts inX3 hown hK hP 0 rfl rfl 1 (by decide) (hts (.fieldLink RX3 24 "LoanHouse$Holds" "count" "I") (List.mem_of_getElem? (i := 3) rfl)) (fun _ h9 => h9) rfl dX3_add_37 ?_
  refine lv_iconst (v := 2) hx hb dX3_add_40 (by decide) ?_
  refine lv_iload_n hx hb dX3_add_41 rfl (lv_at hl 4 rfl) ?_
  refine k_v (wr := [(o, .inr (3, [.ref g, .int (nI c), .int nx]))]) (va_runV (As := [.int (nI c), .int 2, .int b]) (rest := []) ⟨hx, hb, hml, hown, hts⟩ (c_X2_put l D H.size g a cA 12 7 84 f60 (nI c) 2 b (by decide)) (cwV 3 hts gX3_add_X2_put rfl rfl rfl (by decide +kernel) ⟨(Nat.le_of_ble_eq_true rfl), (Nat.le_of_ble_eq_true rfl)⟩) ⟨mP_blind, va_recv hK hP (ci := 2) (q0 := 1) rfl rfl, m_pre _ hN hK hP hD [0] rfl [1, 2] rfl (by decide)⟩ rfl rfl hl.1 rfl (lv_room (Nat.le_of_ble_eq_true rfl)) dX3_add_42 ⟨(Nat.le_of_ble_eq_true rfl), (Nat.le_of_ble_eq_true rfl)⟩) hP hD hS hA [1, 2] [0] rfl rfl (by decide) (by decide) (fun u H locs hw hK1 hP hD hS => ?_)
  obtain ⟨f62, rfl⟩ : ∃ z, z = u := ⟨_, rfl⟩
  have hP : va_P D vwCl [(o, .inr (3, [.ref g, .int (nI c), .int nx])), (g, .inr (2, [.int 12, .int 7, .ref a])), (a, .inl (cA, 84, .inl f62))] H := hP
  have hD : va_D AA [(o, .inr (3, [.ref g, .int (nI c), .int nx])), (g, .inr (2, [.int 12, .int 7, .ref a])), (a, .inl (cA, 84, .inl f62))] := hD
  try dsimp only at hw
  refine W.widen (k := 0) (n := 0) (Nat.le_of_ble_eq_true rfl) (Nat.le_of_ble_eq_true rfl) ?_
  refine lv_aload_n hx hb dX3_add_45 rfl (lv_at hl 1 rfl) ?_
  refine va_get (D := D) (ci := 3) (v := .ref g) (C := RX3) (T := TX3) (N := 3) hx hb hts inX3 hown hK hP 0 rfl rfl 0 (by decide) (hts (.fieldLink RX3 16 "LoanHouse$Holds" "grid" "LLoanHouse$Grid;") (List.mem_of_getElem? (i := 2) rfl)) (fun _ h9 => h9) rfl dX3_add_46 ?_
  refine lv_aload_n hx hb dX3_add_49 rfl (lv_at hl 1 rfl) ?_
  refine va_get (D := D) (ci := 3) (v := .int (nI c)) (C := RX3) (T := TX3) (N := 3) hx hb hts inX3 hown hK hP 0 rfl rfl 1 (by decide) (hts (.fieldLink RX3 24 "LoanHouse$Holds" "count" "I") (List.mem_of_getElem? (i := 3) rfl)) (fun _ h9 => h9) rfl dX3_add_50 ?_
  refine lv_iconst (v := 3) hx hb dX3_add_53 (by decide) ?_
  refine lv_iload hx hb dX3_add_54 (lv_at hl 5 rfl) ?_
  refine k_v (wr := [(o, .inr (3, [.ref g, .int (nI c), .int nx]))]) (va_runV (As := [.int (nI c), .int 3, .int nd]) (rest := []) ⟨hx, hb, hml, hown, hts⟩ (c_X2_put l D H.size g a cA 12 7 84 f62 (nI c) 3 nd (by decide)) (cwV 3 hts gX3_add_X2_put rfl rfl rfl (by decide +kernel) ⟨(Nat.le_of_ble_eq_true rfl), (Nat.le_of_ble_eq_true rfl)⟩) ⟨mP_blind, va_recv hK hP (ci := 2) (q0 := 1) rfl rfl, m_pre _ hN hK hP hD [0] rfl [1, 2] rfl (by decide)⟩ rfl rfl hl.1 rfl (lv_room (Nat.le_of_ble_eq_true rfl)) dX3_add_56 ⟨(Nat.le_of_ble_eq_true rfl), (Nat.le_of_ble_eq_true rfl)⟩) hP hD hS hA [1, 2] [0] rfl rfl (by decide) (by decide) (fun u H locs hw hK1 hP hD hS => ?_)
  obtain ⟨f64, rfl⟩ : ∃ z, z = u := ⟨_, rfl⟩
  have hP : va_P D vwCl [(o, .inr (3, [.ref g, .int (nI c), .int nx])), (g, .inr (2, [.int 12, .int 7, .ref a])), (a, .inl (cA, 84, .inl f64))] H := hP
  have hD : va_D AA [(o, .inr (3, [.ref g, .int (nI c), .int nx])), (g, .inr (2, [.int 12, .int 7, .ref a])), (a, .inl (cA, 84, .inl f64))] := hD
  try dsimp only at hw
  refine W.widen (k := 0) (n := 0) (Nat.le_of_ble_eq_true rfl) (Nat.le_of_ble_eq_true rfl) ?_
  refine lv_aload_n hx hb dX3_add_59 rfl (lv_at hl 1 rfl) ?_
  refine va_get (D := D) (ci := 3) (v := .ref g) (C := RX3) (T := TX3) (N := 3) hx hb hts inX3 hown hK hP 0 rfl rfl 0 (by decide) (hts (.fieldLink RX3 16 "LoanHouse$Holds" "grid" "LLoanHouse$Grid;") (List.mem_of_getElem? (i := 2) rfl)) (fun _ h9 => h9) rfl dX3_add_60 ?_
  refine lv_aload_n hx hb dX3_add_63 rfl (lv_at hl 1 rfl) ?_
  refine va_get (D := D) (ci := 3) (v := .int (nI c)) (C := RX3) (T := TX3) (N := 3) hx hb hts inX3 hown hK hP 0 rfl rfl 1 (by decide) (hts (.fieldLink RX3 24 "LoanHouse$Holds" "count" "I") (List.mem_of_getElem? (i := 3) rfl)) (fun _ h9 => h9) rfl dX3_add_64 ?_
  refine lv_iconst (v := 4) hx hb dX3_add_67 (by decide) ?_
  refine lv_iload hx hb dX3_add_68 (lv_at hl 6 rfl) ?_
  refine k_v (wr := [(o, .inr (3, [.ref g, .int (nI c), .int nx]))]) (va_runV (As := [.int (nI c), .int 4, .int now]) (rest := []) ⟨hx, hb, hml, hown, hts⟩ (c_X2_put l D H.size g a cA 12 7 84 f64 (nI c) 4 now (by decide)) (cwV 3 hts gX3_add_X2_put rfl rfl rfl (by decide +kernel) ⟨(Nat.le_of_ble_eq_true rfl), (Nat.le_of_ble_eq_true rfl)⟩) ⟨mP_blind, va_recv hK hP (ci := 2) (q0 := 1) rfl rfl, m_pre _ hN hK hP hD [0] rfl [1, 2] rfl (by decide)⟩ rfl rfl hl.1 rfl (lv_room (Nat.le_of_ble_eq_true rfl)) dX3_add_70 ⟨(Nat.le_of_ble_eq_true rfl), (Nat.le_of_ble_eq_true rfl)⟩) hP hD hS hA [1, 2] [0] rfl rfl (by decide) (by decide) (fun u H locs hw hK1 hP hD hS => ?_)
  obtain ⟨f66, rfl⟩ : ∃ z, z = u := ⟨_, rfl⟩
  have hP : va_P D vwCl [(o, .inr (3, [.ref g, .int (nI c), .int nx])), (g, .inr (2, [.int 12, .int 7, .ref a])), (a, .inl (cA, 84, .inl f66))] H := hP
  have hD : va_D AA [(o, .inr (3, [.ref g, .int (nI c), .int nx])), (g, .inr (2, [.int 12, .int 7, .ref a])), (a, .inl (cA, 84, .inl f66))] := hD
  try dsimp only at hw
  refine W.widen (k := 0) (n := 0) (Nat.le_of_ble_eq_true rfl) (Nat.le_of_ble_eq_true rfl) ?_
  refine lv_aload_n hx hb dX3_add_73 rfl (lv_at hl 1 rfl) ?_
  refine va_get (D := D) (ci := 3) (v := .ref g) (C := RX3) (T := TX3) (N := 3) hx hb hts inX3 hown hK hP 0 rfl rfl 0 (by decide) (hts (.fieldLink RX3 16 "LoanHouse$Holds" "grid" "LLoanHouse$Grid;") (List.mem_of_getElem? (i := 2) rfl)) (fun _ h9 => h9) rfl dX3_add_74 ?_
  refine lv_aload_n hx hb dX3_add_77 rfl (lv_at hl 1 rfl) ?_
  refine va_get (D := D) (ci := 3) (v := .int (nI c)) (C := RX3) (T := TX3) (N := 3) hx hb hts inX3 hown hK hP 0 rfl rfl 1 (by decide) (hts (.fieldLink RX3 24 "LoanHouse$Holds" "count" "I") (List.mem_of_getElem? (i := 3) rfl)) (fun _ h9 => h9) rfl dX3_add_78 ?_
  refine lv_iconst (v := 5) hx hb dX3_add_81 (by decide) ?_
  refine lv_iconst (v := (-1)) hx hb dX3_add_82 (by decide) ?_
  refine k_v (wr := [(o, .inr (3, [.ref g, .int (nI c), .int nx]))]) (va_runV (As := [.int (nI c), .int 5, .int (-1)]) (rest := []) ⟨hx, hb, hml, hown, hts⟩ (c_X2_put l D H.size g a cA 12 7 84 f66 (nI c) 5 (-1) (by decide)) (cwV 3 hts gX3_add_X2_put rfl rfl rfl (by decide +kernel) ⟨(Nat.le_of_ble_eq_true rfl), (Nat.le_of_ble_eq_true rfl)⟩) ⟨mP_blind, va_recv hK hP (ci := 2) (q0 := 1) rfl rfl, m_pre _ hN hK hP hD [0] rfl [1, 2] rfl (by decide)⟩ rfl rfl hl.1 rfl (lv_room (Nat.le_of_ble_eq_true rfl)) dX3_add_83 ⟨(Nat.le_of_ble_eq_true rfl), (Nat.le_of_ble_eq_true rfl)⟩) hP hD hS hA [1, 2] [0] rfl rfl (by decide) (by decide) (fun u H locs hw hK1 hP hD hS => ?_)
  obtain ⟨f68, rfl⟩ : ∃ z, z = u := ⟨_, rfl⟩
  have hP : va_P D vwCl [(o, .inr (3, [.ref g, .int (nI c), .int nx])), (g, .inr (2, [.int 12, .int 7, .ref a])), (a, .inl (cA, 84, .inl f68))] H := hP
  have hD : va_D AA [(o, .inr (3, [.ref g, .int (nI c), .int nx])), (g, .inr (2, [.int 12, .int 7, .ref a])), (a, .inl (cA, 84, .inl f68))] := hD
  try dsimp only at hw
  refine W.widen (k := 0) (n := 0) (Nat.le_of_ble_eq_true rfl) (Nat.le_of_ble_eq_true rfl) ?_
  refine lv_aload_n hx hb dX3_add_86 rfl (lv_at hl 1 rfl) ?_
  refine va_get (D := D) (ci := 3) (v := .ref g) (C := RX3) (T := TX3) (N := 3) hx hb hts inX3 hown hK hP 0 rfl rfl 0 (by decide) (hts (.fieldLink RX3 16 "LoanHouse$Holds" "grid" "LLoanHouse$Grid;") (List.mem_of_getElem? (i := 2) rfl)) (fun _ h9 => h9) rfl dX3_add_87 ?_
  refine lv_aload_n hx hb dX3_add_90 rfl (lv_at hl 1 rfl) ?_
  refine va_get (D := D) (ci := 3) (v := .int (nI c)) (C := RX3) (T := TX3) (N := 3) hx hb hts inX3 hown hK hP 0 rfl rfl 1 (by decide) (hts (.fieldLink RX3 24 "LoanHouse$Holds" "count" "I") (List.mem_of_getElem? (i := 3) rfl)) (fun _ h9 => h9) rfl dX3_add_91 ?_
  refine lv_bipush (v := 6) hx hb dX3_add_94 (by decide) ?_
  refine lv_iload hx hb dX3_add_96 (lv_at hl 0 rfl) ?_
  refine k_v (wr := [(o, .inr (3, [.ref g, .int (nI c), .int nx]))]) (va_runV (As := [.int (nI c), .int 6, .int nx]) (rest := []) ⟨hx, hb, hml, hown, hts⟩ (c_X2_put l D H.size g a cA 12 7 84 f68 (nI c) 6 nx (by decide)) (cwV 3 hts gX3_add_X2_put rfl rfl rfl (by decide +kernel) ⟨(Nat.le_of_ble_eq_true rfl), (Nat.le_of_ble_eq_true rfl)⟩) ⟨mP_blind, va_recv hK hP (ci := 2) (q0 := 1) rfl rfl, m_pre _ hN hK hP hD [0] rfl [1, 2] rfl (by decide)⟩ rfl rfl hl.1 rfl (lv_room (Nat.le_of_ble_eq_true rfl)) dX3_add_98 ⟨(Nat.le_of_ble_eq_true rfl), (Nat.le_of_ble_eq_true rfl)⟩) hP hD hS hA [1, 2] [0] rfl rfl (by decide) (by decide) (fun u H locs hw hK1 hP hD hS => ?_)
  obtain ⟨f70, rfl⟩ : ∃ z, z = u := ⟨_, rfl⟩
  have hP : va_P D vwCl [(o, .inr (3, [.ref g, .int (nI c), .int nx])), (g, .inr (2, [.int 12, .int 7, .ref a])), (a, .inl (cA, 84, .inl f70))] H := hP
  have hD : va_D AA [(o, .inr (3, [.ref g, .int (nI c), .int nx])), (g, .inr (2, [.int 12, .int 7, .ref a])), (a, .inl (cA, 84, .inl f70))] := hD
  try dsimp only at hw
  refine W.widen (k := 0) (n := 0) (Nat.le_of_ble_eq_true rfl) (Nat.le_of_ble_eq_true rfl) ?_
  refine lv_aload_n hx hb dX3_add_101 rfl (lv_at hl 1 rfl) ?_
  refine lv_dup hx hb dX3_add_102 rfl ?_
  refine va_get (D := D) (ci := 3) (v := .int (nI c)) (C := RX3) (T := TX3) (N := 3) hx hb hts inX3 hown hK hP 0 rfl rfl 1 (by decide) (hts (.fieldLink RX3 24 "LoanHouse$Holds" "count" "I") (List.mem_of_getElem? (i := 3) rfl)) (fun _ h9 => h9) rfl dX3_add_103 ?_
  refine lv_iconst (v := 1) hx hb dX3_add_106 (by decide) ?_
  refine lv_iadd hx hb dX3_add_107 ?_
  refine lv_topi (fun x71 ex71 => ?_)
  have ex71 : x71 = nI (c + 1) := ex71.trans (nI_1 c)
  subst ex71
  refine va_put (D := D) (ci := 3) (v := .int (nI (c + 1))) (ty := .int) (C := RX3) (T := TX3) (N := 3) hx hb hts inX3 tyX3 tyX3_ok nmX3 hown hK hP hD hS 0 rfl rfl 1 (by decide) (hts (.fieldLink RX3 24 "LoanHouse$Holds" "count" "I") (List.mem_of_getElem? (i := 3) rfl)) (fun _ h9 => h9) rfl (by decide +kernel) rfl rfl (Nat.le_of_ble_eq_true rfl) dX3_add_108 (fun H locs hP hD hS => ?_)
  have hP : va_P D vwCl [(o, .inr (3, [.ref g, .int (nI (c + 1)), .int nx])), (g, .inr (2, [.int 12, .int 7, .ref a])), (a, .inl (cA, 84, .inl f70))] H := hP
  have hD : va_D AA [(o, .inr (3, [.ref g, .int (nI (c + 1)), .int nx])), (g, .inr (2, [.int 12, .int 7, .ref a])), (a, .inl (cA, 84, .inl f70))] := hD
  refine lv_aload_n hx hb dX3_add_111 rfl (lv_at hl 1 rfl) ?_
  refine lv_dup hx hb dX3_add_112 rfl ?_
  refine va_get (D := D) (ci := 3) (v := .int nx) (C := RX3) (T := TX3) (N := 3) hx hb hts inX3 hown hK hP 0 rfl rfl 2 (by decide) (hts (.fieldLink RX3 32 "LoanHouse$Holds" "nextNumber" "I") (List.mem_of_getElem? (i := 1) rfl)) (fun _ h9 => h9) rfl dX3_add_113 ?_
  refine lv_iconst (v := 1) hx hb dX3_add_116 (by decide) ?_
  refine lv_iadd hx hb dX3_add_117 ?_
  refine lv_topi (fun x72 ex72 => ?_)
  have ex72 : x72 = nx + 1 := ex72.trans (rfl)
  subst ex72
  refine va_put (D := D) (ci := 3) (v := .int (nx + 1)) (ty := .int) (C := RX3) (T := TX3) (N := 3) hx hb hts inX3 tyX3 tyX3_ok nmX3 hown hK hP hD hS 0 rfl rfl 2 (by decide) (hts (.fieldLink RX3 32 "LoanHouse$Holds" "nextNumber" "I") (List.mem_of_getElem? (i := 1) rfl)) (fun _ h9 => h9) rfl (by decide +kernel) rfl rfl (Nat.le_of_ble_eq_true rfl) dX3_add_118 (fun H locs hP hD hS => ?_)
  have hP : va_P D vwCl [(o, .inr (3, [.ref g, .int (nI (c + 1)), .int (nx + 1)])), (g, .inr (2, [.int 12, .int 7, .ref a])), (a, .inl (cA, 84, .inl f70))] H := hP
  have hD : va_D AA [(o, .inr (3, [.ref g, .int (nI (c + 1)), .int (nx + 1)])), (g, .inr (2, [.int 12, .int 7, .ref a])), (a, .inl (cA, 84, .inl f70))] := hD
  refine lv_iload hx hb dX3_add_121 (lv_at hl 0 rfl) ?_
  exact hret nx f70 rfl (rfl) (m_P hP (is := [0, 1, 2]) rfl) (hK.sub [] rfl) (hD.sub [0, 1, 2] (by decide) rfl) hS (Nat.le_of_ble_eq_true rfl) (Nat.le_of_ble_eq_true rfl) dX3_add_123
set_option maxHeartbeats 4000000 in
set_option maxRecDepth 100000 in
theorem c_X3_has (l : Launch) (D : va_G) (sz : Nat) (o g a : Nat) (cA : ClassId) (c : Nat) (nx : Int32) (f : Nat → Int32) (p t : Int32) (hc : c ≤ 12) : mI l yX3_has wsX3_has (rk 2 0 0) D [.ref o, .int p, .int t] [(cA, .int)] sz [(o, .inr (3, [.ref g, .int (nI c), .int nx])), (g, .inr (2, [.int 12, .int 7, .ref a])), (a, .inl (cA, 84, .inl f))] (S := Unit) (fun r _ => (r = 1 ∧ 0 < c) ∨ r = 0) (fun _ => []) (fun _ => [(o, .inr (3, [.ref g, .int (nI c), .int nx])), (g, .inr (2, [.int 12, .int 7, .ref a])), (a, .inl (cA, 84, .inl f))]) := by
  refine mI_of (cc := cX3_has) (maxL := 4) (ty := .boolean) (plainFor_of_name (by decide)) rfl (Nat.le_of_ble_eq_true rfl) ?_
  intro pp ee ss mm bl mt cd AA QQ hx hb hml hts hown hN hA hK hP hD hS hret ls hl
  have hl : lv_has ls 4 [(0, .ref o), (1, .int p), (2, .int t)] := hl
  have inX3 : ∀ w ∈ wsX30, w ∈ wsX3_has := fun _ h => List.mem_cons_of_mem _ (List.mem_append_left _ (List.mem_append_right _ h))
  refine lv_iconst (v := 0) hx hb dX3_has_0 (by decide) ?_
  refine lv_istore_n (lv' := [(3, .int 0), (0, .ref o), (1, .int p), (2, .int t)]) hx hb dX3_has_1 rfl hl (by decide) rfl (fun ls hl => ?_)
  have lp : ∀ (fu : Nat) (i : Nat), (i ≤ c) → (c < i + fu) → ∀ (H : Heap) (locs : List Loc) (ls : Array Slot), va_P D vwCl [(o, .inr (3, [.ref g, .int (nI c), .int nx])), (g, .inr (2, [.int 12, .int 7, .ref a])), (a, .inl (cA, 84, .inl f))] H → va_S AA ss.heap H locs → lv_has ls 4 [(3, .int (nI i)), (0, .ref o), (1, .int p), (2, .int t)] → W pp l ee (rk 2 0 0) ss mm ([.ref o, .int p, .int t] : List Value).toArray bl mt cd H locs 0 0 QQ (F0 mm 2 ls []) := by
    intro fu
    induction fu with
    | zero =>
      intro i hi hf H locs ls hP hS hl
      exact absurd hf (by omega)
    | succ fu ih =>
      intro i hi hf H locs ls hP hS hl
      refine lv_iload_n hx hb dX3_has_2 rfl (lv_at hl 0 rfl) ?_
      refine lv_aload_n hx hb dX3_has_3 rfl (lv_at hl 1 rfl) ?_
      refine va_get (D := D) (ci := 3) (v := .int (nI c)) (C := RX3) (T := TX3) (N := 3) hx hb hts inX3 hown hK hP 0 rfl rfl 1 (by decide) (hts (.fieldLink RX3 24 "LoanHouse$Holds" "count" "I") (List.mem_of_getElem? (i := 1) rfl)) (fun _ h9 => h9) rfl dX3_has_4 ?_
      refine lv_icmp_ge (tgt := 36) hx hb dX3_has_7 (by decide) (fun zc7 => ?_) (fun zc7 => ?_)
      · refine lv_iconst (v := 0) hx hb dX3_has_36 (by decide) ?_
        exact hret 0 () rfl (Or.inr rfl) hP (hK.sub [] rfl) hD hS (Nat.le_of_ble_eq_true rfl) (Nat.le_of_ble_eq_true rfl) dX3_has_37
      · refine lv_aload_n hx hb dX3_has_10 rfl (lv_at hl 1 rfl) ?_
        refine lv_iload_n hx hb dX3_has_11 rfl (lv_at hl 0 rfl) ?_
        refine k_pi (va_runV (As := [.int (nI i)]) (rest := []) ⟨hx, hb, hml, hown, hts⟩ (c_X3_reader l D H.size o g a cA (nI c) nx f (nI i) ) (cwV 1 hts gX3_has_X3_reader rfl rfl rfl (by decide +kernel) ⟨(Nat.le_of_ble_eq_true rfl), (Nat.le_of_ble_eq_true rfl)⟩) ⟨mP_blind, va_recv hK hP (ci := 3) (q0 := 0) rfl rfl, m_pre _ hN hK hP hD [0] rfl [0, 1, 2] rfl (by decide)⟩ rfl rfl hl.1 rfl (lv_room (Nat.le_of_ble_eq_true rfl)) dX3_has_12 ⟨(Nat.le_of_ble_eq_true rfl), (Nat.le_of_ble_eq_true rfl)⟩) hP hD hS hA [0, 1, 2] rfl (fun r73 u H locs hw hP hS => ?_)
        have zw12 := hw
        refine lv_iload_n hx hb dX3_has_15 rfl (lv_at hl 2 rfl) ?_
        refine lv_icmp_ne (tgt := 30) hx hb dX3_has_16 (by decide) (fun zc16 => ?_) (fun zc16 => ?_)
        · refine lv_iinc (v := nI (i + 1)) (lv' := [(3, .int (nI (i + 1))), (0, .ref o), (1, .int p), (2, .int t)]) hx hb dX3_has_30 hl (k := 0) rfl (nI_1 i) (by decide) rfl (fun ls hl => ?_)
          refine lv_goto (tgt := 2) hx hb dX3_has_33 (by decide) ?_
          exact ih (i + 1) (by have := lt_of_nle zc7 hi hc; omega) (by omega) _ _ ls hP hS (lv_sub hl [0, 1, 2, 3] rfl)
        · refine lv_aload_n hx hb dX3_has_19 rfl (lv_at hl 1 rfl) ?_
          refine lv_iload_n hx hb dX3_has_20 rfl (lv_at hl 0 rfl) ?_
          refine k_pi (va_runV (As := [.int (nI i)]) (rest := []) ⟨hx, hb, hml, hown, hts⟩ (c_X3_title l D H.size o g a cA (nI c) nx f (nI i) ) (cwV 1 hts gX3_has_X3_title rfl rfl rfl (by decide +kernel) ⟨(Nat.le_of_ble_eq_true rfl), (Nat.le_of_ble_eq_true rfl)⟩) ⟨mP_blind, va_recv hK hP (ci := 3) (q0 := 0) rfl rfl, m_pre _ hN hK hP hD [0] rfl [0, 1, 2] rfl (by decide)⟩ rfl rfl hl.1 rfl (lv_room (Nat.le_of_ble_eq_true rfl)) dX3_has_21 ⟨(Nat.le_of_ble_eq_true rfl), (Nat.le_of_ble_eq_true rfl)⟩) hP hD hS hA [0, 1, 2] rfl (fun r74 u H locs hw hP hS => ?_)
          have zw21 := hw
          refine lv_iload_n hx hb dX3_has_24 rfl (lv_at hl 3 rfl) ?_
          refine lv_icmp_ne (tgt := 30) hx hb dX3_has_25 (by decide) (fun zc25 => ?_) (fun zc25 => ?_)
          · refine lv_iinc (v := nI (i + 1)) (lv' := [(3, .int (nI (i + 1))), (0, .ref o), (1, .int p), (2, .int t)]) hx hb dX3_has_30 hl (k := 0) rfl (nI_1 i) (by decide) rfl (fun ls hl => ?_)
            refine lv_goto (tgt := 2) hx hb dX3_has_33 (by decide) ?_
            exact ih (i + 1) (by have := lt_of_nle zc7 hi hc; omega) (by omega) _ _ ls hP hS (lv_sub hl [0, 1, 2, 3] rfl)
          · refine lv_iconst (v := 1) hx hb dX3_has_28 (by decide) ?_
            exact hret 1 () rfl (Or.inl ⟨rfl, by have := lt_of_nle zc7 hi hc; omega⟩) hP (hK.sub [] rfl) hD hS (Nat.le_of_ble_eq_true rfl) (Nat.le_of_ble_eq_true rfl) dX3_has_29
  exact lp (c + 1) 0 (Nat.zero_le c) (by omega) _ _ ls hP hS (lv_sub hl [0, 1, 2, 3] rfl)
set_option maxHeartbeats 4000000 in
set_option maxRecDepth 100000 in
theorem c_X3_firstOfRow (l : Launch) (D : va_G) (sz : Nat) (o g a : Nat) (cA : ClassId) (c : Nat) (nx : Int32) (f : Nat → Int32) (t : Int32) (hc : c ≤ 12) : mI l yX3_firstOfRow wsX3_firstOfRow (rk 2 0 0) D [.ref o, .int t] [(cA, .int)] sz [(o, .inr (3, [.ref g, .int (nI c), .int nx])), (g, .inr (2, [.int 12, .int 7, .ref a])), (a, .inl (cA, 84, .inl f))] (S := Unit) (fun r _ => c = 0 → r = -1) (fun _ => []) (fun _ => [(o, .inr (3, [.ref g, .int (nI c), .int nx])), (g, .inr (2, [.int 12, .int 7, .ref a])), (a, .inl (cA, 84, .inl f))]) := by
  refine mI_of (cc := cX3_firstOfRow) (maxL := 4) (ty := .int) (plainFor_of_name (by decide)) rfl (Nat.le_of_ble_eq_true rfl) ?_
  intro pp ee ss mm bl mt cd AA QQ hx hb hml hts hown hN hA hK hP hD hS hret ls hl
  have hl : lv_has ls 4 [(0, .ref o), (1, .int t)] := hl
  have inX3 : ∀ w ∈ wsX30, w ∈ wsX3_firstOfRow := fun _ h => List.mem_cons_of_mem _ (List.mem_append_left _ (List.mem_append_right _ h))
  refine lv_iconst (v := (-1)) hx hb dX3_firstOfRow_0 (by decide) ?_
  refine lv_istore_n (lv' := [(2, .int (-1)), (0, .ref o), (1, .int t)]) hx hb dX3_firstOfRow_1 rfl hl (by decide) rfl (fun ls hl => ?_)
  refine lv_iconst (v := 0) hx hb dX3_firstOfRow_2 (by decide) ?_
  refine lv_istore_n (lv' := [(3, .int 0), (2, .int (-1)), (0, .ref o), (1, .int t)]) hx hb dX3_firstOfRow_3 rfl hl (by decide) rfl (fun ls hl => ?_)
  have lp : ∀ (fu : Nat) (i : Nat) (x : Int32), (i ≤ c) → (c = 0 → x = -1) → (c < i + fu) → ∀ (H : Heap) (locs : List Loc) (ls : Array Slot), va_P D vwCl [(o, .inr (3, [.ref g, .int (nI c), .int nx])), (g, .inr (2, [.int 12, .int 7, .ref a])), (a, .inl (cA, 84, .inl f))] H → va_S AA ss.heap H locs → lv_has ls 4 [(3, .int (nI i)), (2, .int x), (0, .ref o), (1, .int t)] → W pp l ee (rk 2 0 0) ss mm ([.ref o, .int t] : List Value).toArray bl mt cd H locs 0 0 QQ (F0 mm 4 ls []) := by
    intro fu
    induction fu with
    | zero =>
      intro i x hi hx0 hf H locs ls hP hS hl
      exact absurd hf (by omega)
    | succ fu ih =>
      intro i x hi hx0 hf H locs ls hP hS hl
      refine lv_iload_n hx hb dX3_firstOfRow_4 rfl (lv_at hl 0 rfl) ?_
      refine lv_aload_n hx hb dX3_firstOfRow_5 rfl (lv_at hl 2 rfl) ?_
      refine va_get (D := D) (ci := 3) (v := .int (nI c)) (C := RX3) (T := TX3) (N := 3) hx hb hts inX3 hown hK hP 0 rfl rfl 1 (by decide) (hts (.fieldLink RX3 24 "LoanHouse$Holds" "count" "I") (List.mem_of_getElem? (i := 1) rfl)) (fun _ h9 => h9) rfl dX3_firstOfRow_6 ?_
      refine lv_icmp_ge (tgt := 47) hx hb dX3_firstOfRow_9 (by decide) (fun zc9 => ?_) (fun zc9 => ?_)
      · refine lv_iload_n hx hb dX3_firstOfRow_47 rfl (lv_at hl 1 rfl) ?_
        exact hret x () rfl (hx0) hP (hK.sub [] rfl) hD hS (Nat.le_of_ble_eq_true rfl) (Nat.le_of_ble_eq_true rfl) dX3_firstOfRow_48
      · refine lv_aload_n hx hb dX3_firstOfRow_12 rfl (lv_at hl 2 rfl) ?_
        refine lv_iload_n hx hb dX3_firstOfRow_13 rfl (lv_at hl 0 rfl) ?_
        refine lv_iload_n hx hb dX3_firstOfRow_14 rfl (lv_at hl 3 rfl) ?_
        refine k_pi (va_runV (As := [.int (nI i), .int t]) (rest := []) ⟨hx, hb, hml, hown, hts⟩ (c_X3_isInRow l D H.size o g a cA (nI c) nx f (nI i) t ) (cwV 2 hts gX3_firstOfRow_X3_isInRow rfl rfl rfl (by decide +kernel) ⟨(Nat.le_of_ble_eq_true rfl), (Nat.le_of_ble_eq_true rfl)⟩) ⟨mP_blind, va_recv hK hP (ci := 3) (q0 := 0) rfl rfl, m_pre _ hN hK hP hD [0] rfl [0, 1, 2] rfl (by decide)⟩ rfl rfl hl.1 rfl (lv_room (Nat.le_of_ble_eq_true rfl)) dX3_firstOfRow_15 ⟨(Nat.le_of_ble_eq_true rfl), (Nat.le_of_ble_eq_true rfl)⟩) hP hD hS hA [0, 1, 2] rfl (fun r75 u H locs hw hP hS => ?_)
        rcases hw with rfl | rfl
        · refine lv_if_eq (tgt := 41) hx hb dX3_firstOfRow_18 (by decide) (fun hc => absurd hc (by decide)) (fun zc18 => ?_)
          refine lv_iload_n hx hb dX3_firstOfRow_21 rfl (lv_at hl 1 rfl) ?_
          refine lv_iconst (v := (-1)) hx hb dX3_firstOfRow_22 (by decide) ?_
          refine lv_icmp_eq (tgt := 39) hx hb dX3_firstOfRow_23 (by decide) (fun zc23 => ?_) (fun zc23 => ?_)
          · refine lv_iload_n hx hb dX3_firstOfRow_39 rfl (lv_at hl 0 rfl) ?_
            refine lv_istore_n (lv' := [(2, .int (nI i)), (3, .int (nI i)), (0, .ref o), (1, .int t)]) hx hb dX3_firstOfRow_40 rfl hl (by decide) rfl (fun ls hl => ?_)
            refine lv_iinc (v := nI (i + 1)) (lv' := [(3, .int (nI (i + 1))), (2, .int (nI i)), (0, .ref o), (1, .int t)]) hx hb dX3_firstOfRow_41 hl (k := 1) rfl (nI_1 i) (by decide) rfl (fun ls hl => ?_)
            refine lv_goto (tgt := 4) hx hb dX3_firstOfRow_44 (by decide) ?_
            exact ih (i + 1) (nI i) (by have := lt_of_nle zc9 hi hc; omega) (fun h => absurd h (by have := lt_of_nle zc9 hi hc; omega)) (by omega) _ _ ls hP hS (lv_sub hl [0, 1, 2, 3] rfl)
          · refine lv_aload_n hx hb dX3_firstOfRow_26 rfl (lv_at hl 2 rfl) ?_
            refine lv_iload_n hx hb dX3_firstOfRow_27 rfl (lv_at hl 0 rfl) ?_
            refine k_pi (va_runV (As := [.int (nI i)]) (rest := []) ⟨hx, hb, hml, hown, hts⟩ (c_X3_need l D H.size o g a cA (nI c) nx f (nI i) ) (cwV 1 hts gX3_firstOfRow_X3_need rfl rfl rfl (by decide +kernel) ⟨(Nat.le_of_ble_eq_true rfl), (Nat.le_of_ble_eq_true rfl)⟩) ⟨mP_blind, va_recv hK hP (ci := 3) (q0 := 0) rfl rfl, m_pre _ hN hK hP hD [0] rfl [0, 1, 2] rfl (by decide)⟩ rfl rfl hl.1 rfl (lv_room (Nat.le_of_ble_eq_true rfl)) dX3_firstOfRow_28 ⟨(Nat.le_of_ble_eq_true rfl), (Nat.le_of_ble_eq_true rfl)⟩) hP hD hS hA [0, 1, 2] rfl (fun r76 u H locs hw hP hS => ?_)
            have zw28 := hw
            refine lv_aload_n hx hb dX3_firstOfRow_31 rfl (lv_at hl 2 rfl) ?_
            refine lv_iload_n hx hb dX3_firstOfRow_32 rfl (lv_at hl 1 rfl) ?_
            refine k_pi (va_runV (As := [.int x]) (rest := [.int r76]) ⟨hx, hb, hml, hown, hts⟩ (c_X3_need l D H.size o g a cA (nI c) nx f x ) (cwV 1 hts gX3_firstOfRow_X3_need rfl rfl rfl (by decide +kernel) ⟨(Nat.le_of_ble_eq_true rfl), (Nat.le_of_ble_eq_true rfl)⟩) ⟨mP_blind, va_recv hK hP (ci := 3) (q0 := 0) rfl rfl, m_pre _ hN hK hP hD [0] rfl [0, 1, 2] rfl (by decide)⟩ rfl rfl hl.1 rfl (lv_room (Nat.le_of_ble_eq_true rfl)) dX3_firstOfRow_33 ⟨(Nat.le_of_ble_eq_true rfl), (Nat.le_of_ble_eq_true rfl)⟩) hP hD hS hA [0, 1, 2] rfl (fun r77 u H locs hw hP hS => ?_)
            have zw33 := hw
            refine lv_icmp_le (tgt := 41) hx hb dX3_firstOfRow_36 (by decide) (fun zc36 => ?_) (fun zc36 => ?_)
            · refine lv_iinc (v := nI (i + 1)) (lv' := [(3, .int (nI (i + 1))), (2, .int x), (0, .ref o), (1, .int t)]) hx hb dX3_firstOfRow_41 hl (k := 0) rfl (nI_1 i) (by decide) rfl (fun ls hl => ?_)
              refine lv_goto (tgt := 4) hx hb dX3_firstOfRow_44 (by decide) ?_
              exact ih (i + 1) x (by have := lt_of_nle zc9 hi hc; omega) (fun h => absurd h (by have := lt_of_nle zc9 hi hc; omega)) (by omega) _ _ ls hP hS (lv_sub hl [0, 1, 2, 3] rfl)
            · refine lv_iload_n hx hb dX3_firstOfRow_39 rfl (lv_at hl 0 rfl) ?_
              refine lv_istore_n (lv' := [(2, .int (nI i)), (3, .int (nI i)), (0, .ref o), (1, .int t)]) hx hb dX3_firstOfRow_40 rfl hl (by decide) rfl (fun ls hl => ?_)
              refine lv_iinc (v := nI (i + 1)) (lv' := [(3, .int (nI (i + 1))), (2, .int (nI i)), (0, .ref o), (1, .int t)]) hx hb dX3_firstOfRow_41 hl (k := 1) rfl (nI_1 i) (by decide) rfl (fun ls hl => ?_)
              refine lv_goto (tgt := 4) hx hb dX3_firstOfRow_44 (by decide) ?_
              exact ih (i + 1) (nI i) (by have := lt_of_nle zc9 hi hc; omega) (fun h => absurd h (by have := lt_of_nle zc9 hi hc; omega)) (by omega) _ _ ls hP hS (lv_sub hl [0, 1, 2, 3] rfl)
        · refine lv_if_eq (tgt := 41) hx hb dX3_firstOfRow_18 (by decide) (fun zc18 => ?_) (fun hc => absurd (by decide) hc)
          refine lv_iinc (v := nI (i + 1)) (lv' := [(3, .int (nI (i + 1))), (2, .int x), (0, .ref o), (1, .int t)]) hx hb dX3_firstOfRow_41 hl (k := 0) rfl (nI_1 i) (by decide) rfl (fun ls hl => ?_)
          refine lv_goto (tgt := 4) hx hb dX3_firstOfRow_44 (by decide) ?_
          exact ih (i + 1) x (by have := lt_of_nle zc9 hi hc; omega) (fun h => absurd h (by have := lt_of_nle zc9 hi hc; omega)) (by omega) _ _ ls hP hS (lv_sub hl [0, 1, 2, 3] rfl)
  exact lp (c + 1) 0 (-1) (Nat.zero_le c) (fun _ => rfl) (by omega) _ _ ls hP hS (lv_sub hl [0, 1, 2, 3] rfl)
set_option maxHeartbeats 4000000 in
set_option maxRecDepth 100000 in
theorem c_X3_become (l : Launch) (D : va_G) (sz : Nat) (o g a o2 g2 a2 : Nat) (cA cA2 : ClassId) (cnt nx cnt2 nx2 : Int32) (f f2 : Nat → Int32) : mV l yX3_become wsX3_become (rk 2 0 0) D [.ref o, .ref o2] [(cA, .int), (cA2, .int)] sz [(o, .inr (3, [.ref g, .int cnt, .int nx])), (g, .inr (2, [.int 12, .int 7, .ref a])), (a, .inl (cA, 84, .inl f)), (o2, .inr (3, [.ref g2, .int cnt2, .int nx2])), (g2, .inr (2, [.int 12, .int 7, .ref a2])), (a2, .inl (cA2, 84, .inl f2))] (S := Unit) (fun _ => True) (fun _ => []) (fun _ => [(o2, .inr (3, [.ref g2, .int cnt2, .int nx2])), (g2, .inr (2, [.int 12, .int 7, .ref a2])), (a2, .inl (cA2, 84, .inl f2))]) := by
  refine mV_of (cc := cX3_become) (maxL := 2) (plainFor_of_name (by decide)) rfl (Nat.le_of_ble_eq_true rfl) ?_
  intro pp ee ss mm bl mt cd AA QQ hx hb hml hts hown hN hA hK hP hD hS hmn hret ls hl
  have hl : lv_has ls 2 [(0, .ref o), (1, .ref o2)] := hl
  have inX3 : ∀ w ∈ wsX30, w ∈ wsX3_become := fun _ h => List.mem_cons_of_mem _ (List.mem_append_left _ (List.mem_append_right _ h))
  refine lv_aload_n hx hb dX3_become_0 rfl (lv_at hl 0 rfl) ?_
  refine lv_aload_n hx hb dX3_become_1 rfl (lv_at hl 1 rfl) ?_
  refine va_get (D := D) (ci := 3) (v := .int cnt2) (C := RX3) (T := TX3) (N := 3) hx hb hts inX3 hown hK hP 3 rfl rfl 1 (by decide) (hts (.fieldLink RX3 24 "LoanHouse$Holds" "count" "I") (List.mem_of_getElem? (i := 1) rfl)) (fun _ h9 => h9) rfl dX3_become_2 ?_
  refine va_put (D := D) (ci := 3) (v := .int cnt2) (ty := .int) (C := RX3) (T := TX3) (N := 3) hx hb hts inX3 tyX3 tyX3_ok nmX3 hown hK hP hD hS 0 rfl rfl 1 (by decide) (hts (.fieldLink RX3 24 "LoanHouse$Holds" "count" "I") (List.mem_of_getElem? (i := 1) rfl)) (fun _ h9 => h9) rfl (by decide +kernel) rfl rfl (Nat.le_of_ble_eq_true rfl) dX3_become_5 (fun H locs hP hD hS => ?_)
  have hP : va_P D vwCl [(o, .inr (3, [.ref g, .int cnt2, .int nx])), (g, .inr (2, [.int 12, .int 7, .ref a])), (a, .inl (cA, 84, .inl f)), (o2, .inr (3, [.ref g2, .int cnt2, .int nx2])), (g2, .inr (2, [.int 12, .int 7, .ref a2])), (a2, .inl (cA2, 84, .inl f2))] H := hP
  have hD : va_D AA [(o, .inr (3, [.ref g, .int cnt2, .int nx])), (g, .inr (2, [.int 12, .int 7, .ref a])), (a, .inl (cA, 84, .inl f)), (o2, .inr (3, [.ref g2, .int cnt2, .int nx2])), (g2, .inr (2, [.int 12, .int 7, .ref a2])), (a2, .inl (cA2, 84, .inl f2))] := hD
  refine lv_aload_n hx hb dX3_become_8 rfl (lv_at hl 0 rfl) ?_
  refine lv_aload_n hx hb dX3_become_9 rfl (lv_at hl 1 rfl) ?_
  refine va_get (D := D) (ci := 3) (v := .int nx2) (C := RX3) (T := TX3) (N := 3) hx hb hts inX3 hown hK hP 3 rfl rfl 2 (by decide) (hts (.fieldLink RX3 32 "LoanHouse$Holds" "nextNumber" "I") (List.mem_of_getElem? (i := 2) rfl)) (fun _ h9 => h9) rfl dX3_become_10 ?_
  refine va_put (D := D) (ci := 3) (v := .int nx2) (ty := .int) (C := RX3) (T := TX3) (N := 3) hx hb hts inX3 tyX3 tyX3_ok nmX3 hown hK hP hD hS 0 rfl rfl 2 (by decide) (hts (.fieldLink RX3 32 "LoanHouse$Holds" "nextNumber" "I") (List.mem_of_getElem? (i := 2) rfl)) (fun _ h9 => h9) rfl (by decide +kernel) rfl rfl (Nat.le_of_ble_eq_true rfl) dX3_become_13 (fun H locs hP hD hS => ?_)
  have hP : va_P D vwCl [(o, .inr (3, [.ref g, .int cnt2, .int nx2])), (g, .inr (2, [.int 12, .int 7, .ref a])), (a, .inl (cA, 84, .inl f)), (o2, .inr (3, [.ref g2, .int cnt2, .int nx2])), (g2, .inr (2, [.int 12, .int 7, .ref a2])), (a2, .inl (cA2, 84, .inl f2))] H := hP
  have hD : va_D AA [(o, .inr (3, [.ref g, .int cnt2, .int nx2])), (g, .inr (2, [.int 12, .int 7, .ref a])), (a, .inl (cA, 84, .inl f)), (o2, .inr (3, [.ref g2, .int cnt2, .int nx2])), (g2, .inr (2, [.int 12, .int 7, .ref a2])), (a2, .inl (cA2, 84, .inl f2))] := hD
  refine lv_aload_n hx hb dX3_become_16 rfl (lv_at hl 0 rfl) ?_
  refine va_get (D := D) (ci := 3) (v := .ref g) (C := RX3) (T := TX3) (N := 3) hx hb hts inX3 hown hK hP 0 rfl rfl 0 (by decide) (hts (.fieldLink RX3 16 "LoanHouse$Holds" "grid" "LLoanHouse$Grid;") (List.mem_of_getElem? (i := 3) rfl)) (fun _ h9 => h9) rfl dX3_become_17 ?_
  refine lv_aload_n hx hb dX3_become_20 rfl (lv_at hl 1 rfl) ?_
  refine va_get (D := D) (ci := 3) (v := .ref g2) (C := RX3) (T := TX3) (N := 3) hx hb hts inX3 hown hK hP 3 rfl rfl 0 (by decide) (hts (.fieldLink RX3 16 "LoanHouse$Holds" "grid" "LLoanHouse$Grid;") (List.mem_of_getElem? (i := 3) rfl)) (fun _ h9 => h9) rfl dX3_become_21 ?_
  refine k_v (wr := [(o, .inr (3, [.ref g, .int cnt2, .int nx2])), (o2, .inr (3, [.ref g2, .int cnt2, .int nx2]))]) (va_runV (As := [.ref g2]) (rest := []) ⟨hx, hb, hml, hown, hts⟩ (c_X2_become l D H.size g a g2 a2 cA cA2 12 7 12 7 84 f f2 (by decide)) (cwV 1 hts gX3_become_X2_become rfl rfl rfl (by decide +kernel) ⟨(Nat.le_of_ble_eq_true rfl), (Nat.le_of_ble_eq_true rfl)⟩) ⟨mP_blind, va_recv hK hP (ci := 2) (q0 := 1) rfl rfl, m_pre _ hN hK hP hD [0, 1] rfl [1, 2, 4, 5] rfl (by decide)⟩ rfl rfl hl.1 rfl (lv_room (Nat.le_of_ble_eq_true rfl)) dX3_become_24 ⟨(Nat.le_of_ble_eq_true rfl), (Nat.le_of_ble_eq_true rfl)⟩) hP hD hS hA [1, 2, 4, 5] [0, 3] rfl rfl (by decide) (by decide) (fun u H locs hw hK1 hP hD hS => ?_)
  have hP : va_P D vwCl [(o, .inr (3, [.ref g, .int cnt2, .int nx2])), (o2, .inr (3, [.ref g2, .int cnt2, .int nx2])), (g2, .inr (2, [.int 12, .int 7, .ref a2])), (a2, .inl (cA2, 84, .inl f2))] H := hP
  have hD : va_D AA [(o, .inr (3, [.ref g, .int cnt2, .int nx2])), (o2, .inr (3, [.ref g2, .int cnt2, .int nx2])), (g2, .inr (2, [.int 12, .int 7, .ref a2])), (a2, .inl (cA2, 84, .inl f2))] := hD
  try dsimp only at hw
  refine W.widen (k := 0) (n := 0) (Nat.le_of_ble_eq_true rfl) (Nat.le_of_ble_eq_true rfl) ?_
  exact hret () (trivial) (m_P hP (is := [1, 2, 3]) rfl) (hK.sub [] rfl) (hD.sub [1, 2, 3] (by decide) rfl) hS (Nat.le_of_ble_eq_true rfl) (Nat.le_of_ble_eq_true rfl) dX3_become_27
