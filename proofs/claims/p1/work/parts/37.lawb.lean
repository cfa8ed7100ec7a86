set_option maxHeartbeats 4000000 in
set_option maxRecDepth 100000 in
theorem law_drift {pp : Program} {ee : Env} {ss : State} {mm : MethodId} {bl : List Frame} {mt : Method} {cd : Code} {l : Launch} {b : Nat} {xs : Nat → Int32} (C0 : lw_At pp ss mm mt cd b 5 xs) {D : va_G} {AA : Nat → Prop} (hAA : AA = fun q => ss.heap.size ≤ q) (hN : nW ss) {a1 a2 am c g1 g2 h ia im k kam lt m o pa pam ps x zam : Nat} {cA1 cA2 cP cI cAm cPm cKm cZm : ClassId} {f1 f2 fm fpm fkm : Nat → Int32} (hF : st0 fm) {H : Heap} {locs : List Loc} {ls : Array Slot} (hK : va_K D vwCl [(cA1, .int), (cA2, .int), (cP, .object "LoanHouse$House"), (cI, .object "LoanHouse$House"), (cAm, .int), (cPm, .int), (cKm, .int), (cZm, .boolean)] ss) (hP : va_P D vwCl [(x, .inr (7, [.ref h, .ref ps, .ref im, .ref lt, .int 0, .int 0])), (h, .inr (4, [.ref k, .ref c, .ref o, .int 0])), (k, .inr (0, [.int 0, .int 14, .int 3, .int 64])), (c, .inr (1, [.ref g1, .int 0])), (g1, .inr (2, [.int 16, .int 5, .ref a1])), (a1, .inl (cA1, 80, .inl f1)), (o, .inr (3, [.ref g2, .int 0, .int 0])), (g2, .inr (2, [.int 12, .int 7, .ref a2])), (a2, .inl (cA2, 84, .inl f2)), (ps, .inr (6, [.ref pa])), (pa, .inl (cP, 8, .inr (.inr (.inr (.inr (fun _ => none)))))), (im, .inr (6, [.ref ia])), (ia, .inl (cI, 2, .inr (.inr (.inr (.inr (fun _ => none)))))), (lt, .inr (5, [.long 0])), (m, .inr (8, [.ref am, .ref pam, .int 0, .ref kam, .ref zam, .long 0])), (am, .inl (cAm, 172, .inl fm)), (pam, .inl (cPm, 1376, .inl fpm)), (kam, .inl (cKm, 344, .inl fkm)), (zam, .inl (cZm, 2, .inl (fun _ => 0)))] H) (hD : va_D AA [(x, .inr (7, [.ref h, .ref ps, .ref im, .ref lt, .int 0, .int 0])), (h, .inr (4, [.ref k, .ref c, .ref o, .int 0])), (k, .inr (0, [.int 0, .int 14, .int 3, .int 64])), (c, .inr (1, [.ref g1, .int 0])), (g1, .inr (2, [.int 16, .int 5, .ref a1])), (a1, .inl (cA1, 80, .inl f1)), (o, .inr (3, [.ref g2, .int 0, .int 0])), (g2, .inr (2, [.int 12, .int 7, .ref a2])), (a2, .inl (cA2, 84, .inl f2)), (ps, .inr (6, [.ref pa])), (pa, .inl (cP, 8, .inr (.inr (.inr (.inr (fun _ => none)))))), (im, .inr (6, [.ref ia])), (ia, .inl (cI, 2, .inr (.inr (.inr (.inr (fun _ => none)))))), (lt, .inr (5, [.long 0])), (m, .inr (8, [.ref am, .ref pam, .int 0, .ref kam, .ref zam, .long 0])), (am, .inl (cAm, 172, .inl fm)), (pam, .inl (cPm, 1376, .inl fpm)), (kam, .inl (cKm, 344, .inl fkm)), (zam, .inl (cZm, 2, .inl (fun _ => 0)))]) (hS : va_S AA ss.heap H locs) (hl : lv_has ls 4 [(3, .int 0), (2, .ref m), (1, .ref x), (0, .ref b)]) : W pp l ee room_1 ss mm #[Value.ref b] bl mt cd H locs 19 2102 (lw_Z bl #[Value.ref b] ss) (F0 mm 397 ls []) := by
  obtain ⟨hx, hb, hr, hml, hown, hts0, hX, hbl, hlocks, hgv⟩ := id C0
  have hts : ∀ w ∈ lw_tbl, w.before #[Value.ref b] ss = true := hts0
  have hA : ∀ q, ss.heap.size ≤ q → AA q := fun q h => by rw [hAA]; exact h
  have hbA : ¬ AA b := by rw [hAA]; exact Nat.not_le.mpr hbl
  refine lv_aload_n hx hb dL_law_397 rfl (lv_at hl 2 rfl) ?_
  refine lv_aload_n hx hb dL_law_398 rfl (lv_at hl 3 rfl) ?_
  refine lv_iload_n hx hb dL_law_399 rfl (lv_at hl 0 rfl) ?_
  refine lv_iconst (v := 1) hx hb dL_law_400 (by decide) ?_
  refine lv_iadd hx hb dL_law_401 ?_
  refine lv_topi (fun x554 ex554 => ?_)
  have ex554 : x554 = 1 := ex554.trans (by decide)
  subst ex554
  refine va_sld hx hb hX hbl hbA hS (vi_ok (by decide)) dL_law_402 ?_
  refine lv_aload_n hx hb dL_law_403 rfl (lv_at hl 3 rfl) ?_
  refine lv_iload_n hx hb dL_law_404 rfl (lv_at hl 0 rfl) ?_
  refine lv_iconst (v := 2) hx hb dL_law_405 (by decide) ?_
  refine lv_iadd hx hb dL_law_406 ?_
  refine lv_topi (fun x555 ex555 => ?_)
  have ex555 : x555 = 2 := ex555.trans (by decide)
  subst ex555
  refine va_sld hx hb hX hbl hbA hS (vi_ok (by decide)) dL_law_407 ?_
  refine k_i (wr := [(im, .inr (6, [.ref ia])), (ia, .inl (cI, 2, .inr (.inr (.inr (.inr (fun _ => none)))))), (m, .inr (8, [.ref am, .ref pam, .int 0, .ref kam, .ref zam, .long 0])), (am, .inl (cAm, 172, .inl fm)), (pam, .inl (cPm, 1376, .inl fpm)), (kam, .inl (cKm, 344, .inl fkm)), (zam, .inl (cZm, 2, .inl (fun _ => 0)))]) (va_runV (As := [.int (xs (1 : Int32).toNatClampNeg), .int (xs (2 : Int32).toNatClampNeg)]) (rest := []) ⟨hx, hb, hml, hown, hts⟩ (c_X7_drift l D H.size x ps pa im lt cP h k c g1 a1 o g2 a2 cA1 cA2 f1 f2 0 (xs (1 : Int32).toNatClampNeg) (xs (2 : Int32).toNatClampNeg) ) (cwV 2 hts gL_law_X7_drift rfl rfl rfl (by decide +kernel) ⟨(Nat.le_of_ble_eq_true rfl), (Nat.le_of_ble_eq_true rfl)⟩) ⟨mP_blind, va_recv hK hP (ci := 7) (q0 := 0) rfl rfl, m_pre _ hN hK hP hD [2, 0, 1] rfl [0, 9, 10, 1, 2, 3, 4, 5, 6, 7, 8, 13] rfl (by decide)⟩ rfl rfl hl.1 rfl (lv_room (Nat.le_of_ble_eq_true rfl)) dL_law_408 ⟨(Nat.le_of_ble_eq_true rfl), (Nat.le_of_ble_eq_true rfl)⟩) hP hD hS hA [0, 9, 10, 1, 2, 3, 4, 5, 6, 7, 8, 13] [11, 12, 14, 15, 16, 17, 18] rfl rfl (by decide) (by decide) (fun r556 u H locs hw hK1 hP hD hS => ?_)
  have hP : va_P D vwCl [(im, .inr (6, [.ref ia])), (ia, .inl (cI, 2, .inr (.inr (.inr (.inr (fun _ => none)))))), (m, .inr (8, [.ref am, .ref pam, .int 0, .ref kam, .ref zam, .long 0])), (am, .inl (cAm, 172, .inl fm)), (pam, .inl (cPm, 1376, .inl fpm)), (kam, .inl (cKm, 344, .inl fkm)), (zam, .inl (cZm, 2, .inl (fun _ => 0)))] H := hP
  have hD : va_D AA [(im, .inr (6, [.ref ia])), (ia, .inl (cI, 2, .inr (.inr (.inr (.inr (fun _ => none)))))), (m, .inr (8, [.ref am, .ref pam, .int 0, .ref kam, .ref zam, .long 0])), (am, .inl (cAm, 172, .inl fm)), (pam, .inl (cPm, 1376, .inl fpm)), (kam, .inl (cKm, 344, .inl fkm)), (zam, .inl (cZm, 2, .inl (fun _ => 0)))] := hD
  try dsimp only at hw
  refine W.widen (k := 27) (n := 2285) (Nat.le_of_ble_eq_true rfl) (Nat.le_of_ble_eq_true rfl) ?_
  have zw408 := hw
  refine lv_aload_n hx hb dL_law_411 rfl (lv_at hl 1 rfl) ?_
  refine lv_aload_n hx hb dL_law_412 rfl (lv_at hl 3 rfl) ?_
  refine lv_iload_n hx hb dL_law_413 rfl (lv_at hl 0 rfl) ?_
  refine lv_iconst (v := 1) hx hb dL_law_414 (by decide) ?_
  refine lv_iadd hx hb dL_law_415 ?_
  refine lv_topi (fun x557 ex557 => ?_)
  have ex557 : x557 = 1 := ex557.trans (by decide)
  subst ex557
  refine va_sld hx hb hX hbl hbA hS (vi_ok (by decide)) dL_law_416 ?_
  refine lv_aload_n hx hb dL_law_417 rfl (lv_at hl 3 rfl) ?_
  refine lv_iload_n hx hb dL_law_418 rfl (lv_at hl 0 rfl) ?_
  refine lv_iconst (v := 2) hx hb dL_law_419 (by decide) ?_
  refine lv_iadd hx hb dL_law_420 ?_
  refine lv_topi (fun x558 ex558 => ?_)
  have ex558 : x558 = 2 := ex558.trans (by decide)
  subst ex558
  refine va_sld hx hb hX hbl hbA hS (vi_ok (by decide)) dL_law_421 ?_
  refine k_i (wr := [(im, .inr (6, [.ref ia])), (ia, .inl (cI, 2, .inr (.inr (.inr (.inr (fun _ => none)))))), (kam, .inl (cKm, 344, .inl fkm)), (zam, .inl (cZm, 2, .inl (fun _ => 0)))]) (va_runV (As := [.int (xs (1 : Int32).toNatClampNeg), .int (xs (2 : Int32).toNatClampNeg)]) (rest := [.int r556]) ⟨hx, hb, hml, hown, hts⟩ (c_X8_drift l D H.size m am pam kam zam cAm cPm 0 fm fpm (xs (1 : Int32).toNatClampNeg) (xs (2 : Int32).toNatClampNeg) hF) (cwV 2 hts gL_law_X8_drift rfl rfl rfl (by decide +kernel) ⟨(Nat.le_of_ble_eq_true rfl), (Nat.le_of_ble_eq_true rfl)⟩) ⟨mP_blind, va_recv hK hP (ci := 8) (q0 := 2) rfl rfl, m_pre _ hN hK hP hD [4, 5] rfl [2, 3, 4] rfl (by decide)⟩ rfl rfl hl.1 rfl (lv_room (Nat.le_of_ble_eq_true rfl)) dL_law_422 ⟨(Nat.le_of_ble_eq_true rfl), (Nat.le_of_ble_eq_true rfl)⟩) hP hD hS hA [2, 3, 4] [0, 1, 5, 6] rfl rfl (by decide) (by decide) (fun r559 u H locs hw hK1 hP hD hS => ?_)
  have hP : va_P D vwCl [(im, .inr (6, [.ref ia])), (ia, .inl (cI, 2, .inr (.inr (.inr (.inr (fun _ => none)))))), (kam, .inl (cKm, 344, .inl fkm)), (zam, .inl (cZm, 2, .inl (fun _ => 0)))] H := hP
  have hD : va_D AA [(im, .inr (6, [.ref ia])), (ia, .inl (cI, 2, .inr (.inr (.inr (.inr (fun _ => none)))))), (kam, .inl (cKm, 344, .inl fkm)), (zam, .inl (cZm, 2, .inl (fun _ => 0)))] := hD
  try dsimp only at hw
  refine W.widen (k := 27) (n := 2285) (Nat.le_of_ble_eq_true rfl) (Nat.le_of_ble_eq_true rfl) ?_
  have zw422 := hw
  refine lv_icmp_eq (tgt := 644) hx hb dL_law_425 (by decide) (fun zc425 => ?_) (fun hc => absurd (q2_eq zw408 zw422) hc)
  exact law_end C0 hAA hN hS (Nat.le_of_ble_eq_true rfl) (Nat.le_of_ble_eq_true rfl) (lv_sub hl [0, 3] rfl)
set_option maxHeartbeats 4000000 in
set_option maxRecDepth 100000 in
theorem law_undo {pp : Program} {ee : Env} {ss : State} {mm : MethodId} {bl : List Frame} {mt : Method} {cd : Code} {l : Launch} {b : Nat} {xs : Nat → Int32} (C0 : lw_At pp ss mm mt cd b 5 xs) {D : va_G} {AA : Nat → Prop} (hAA : AA = fun q => ss.heap.size ≤ q) (hN : nW ss) {a1 a2 am c g1 g2 h ia im k kam lt m o pa pam ps x zam : Nat} {cA1 cA2 cP cI cAm cPm cKm cZm : ClassId} {f1 f2 fm fpm fkm : Nat → Int32} (hF : st0 fm) {H : Heap} {locs : List Loc} {ls : Array Slot} (hK : va_K D vwCl [(cA1, .int), (cA2, .int), (cP, .object "LoanHouse$House"), (cI, .object "LoanHouse$House"), (cAm, .int), (cPm, .int), (cKm, .int), (cZm, .boolean)] ss) (hP : va_P D vwCl [(x, .inr (7, [.ref h, .ref ps, .ref im, .ref lt, .int 0, .int 0])), (h, .inr (4, [.ref k, .ref c, .ref o, .int 0])), (k, .inr (0, [.int 0, .int 14, .int 3, .int 64])), (c, .inr (1, [.ref g1, .int 0])), (g1, .inr (2, [.int 16, .int 5, .ref a1])), (a1, .inl (cA1, 80, .inl f1)), (o, .inr (3, [.ref g2, .int 0, .int 0])), (g2, .inr (2, [.int 12, .int 7, .ref a2])), (a2, .inl (cA2, 84, .inl f2)), (ps, .inr (6, [.ref pa])), (pa, .inl (cP, 8, .inr (.inr (.inr (.inr (fun _ => none)))))), (im, .inr (6, [.ref ia])), (ia, .inl (cI, 2, .inr (.inr (.inr (.inr (fun _ => none)))))), (lt, .inr (5, [.long 0])), (m, .inr (8, [.ref am, .ref pam, .int 0, .ref kam, .ref zam, .long 0])), (am, .inl (cAm, 172, .inl fm)), (pam, .inl (cPm, 1376, .inl fpm)), (kam, .inl (cKm, 344, .inl fkm)), (zam, .inl (cZm, 2, .inl (fun _ => 0)))] H) (hD : va_D AA [(x, .inr (7, [.ref h, .ref ps, .ref im, .ref lt, .int 0, .int 0])), (h, .inr (4, [.ref k, .ref c, .ref o, .int 0])), (k, .inr (0, [.int 0, .int 14, .int 3, .int 64])), (c, .inr (1, [.ref g1, .int 0])), (g1, .inr (2, [.int 16, .int 5, .ref a1])), (a1, .inl (cA1, 80, .inl f1)), (o, .inr (3, [.ref g2, .int 0, .int 0])), (g2, .inr (2, [.int 12, .int 7, .ref a2])), (a2, .inl (cA2, 84, .inl f2)), (ps, .inr (6, [.ref pa])), (pa, .inl (cP, 8, .inr (.inr (.inr (.inr (fun _ => none)))))), (im, .inr (6, [.ref ia])), (ia, .inl (cI, 2, .inr (.inr (.inr (.inr (fun _ => none)))))), (lt, .inr (5, [.long 0])), (m, .inr (8, [.ref am, .ref pam, .int 0, .ref kam, .ref zam, .long 0])), (am, .inl (cAm, 172, .inl fm)), (pam, .inl (cPm, 1376, .inl fpm)), (kam, .inl (cKm, 344, .inl fkm)), (zam, .inl (cZm, 2, .inl (fun _ => 0)))]) (hS : va_S AA ss.heap H locs) (hl : lv_has ls 4 [(3, .int 0), (2, .ref m), (1, .ref x), (0, .ref b)]) : W pp l ee room_1 ss mm #[Value.ref b] bl mt cd H locs 19 2102 (lw_Z bl #[Value.ref b] ss) (F0 mm 430 ls []) := by
  obtain ⟨hx, hb, hr, hml, hown, hts0, hX, hbl, hlocks, hgv⟩ := id C0
  have hts : ∀ w ∈ lw_tbl, w.before #[Value.ref b] ss = true := hts0
  have hA : ∀ q, ss.heap.size ≤ q → AA q := fun q h => by rw [hAA]; exact h
  have hbA : ¬ AA b := by rw [hAA]; exact Nat.not_le.mpr hbl
  refine lv_aload_n hx hb dL_law_430 rfl (lv_at hl 2 rfl) ?_
  refine k_pi (va_runV (As := []) (rest := []) ⟨hx, hb, hml, hown, hts⟩ (c_X7_undo l D H.size x h ps im lt 0 ) (cwV 0 hts gL_law_X7_undo rfl rfl rfl (by decide +kernel) ⟨(Nat.le_of_ble_eq_true rfl), (Nat.le_of_ble_eq_true rfl)⟩) ⟨mP_blind, va_recv hK hP (ci := 7) (q0 := 0) rfl rfl, m_pre _ hN hK hP hD [] rfl [0] rfl (by decide)⟩ rfl rfl hl.1 rfl (lv_room (Nat.le_of_ble_eq_true rfl)) dL_law_431 ⟨(Nat.le_of_ble_eq_true rfl), (Nat.le_of_ble_eq_true rfl)⟩) hP hD hS hA [0] rfl (fun r560 u H locs hw hP hS => ?_)
  obtain rfl := hw
  refine lv_aload_n hx hb dL_law_434 rfl (lv_at hl 1 rfl) ?_
  refine k_pi (va_runV (As := []) (rest := [.int (-1000000003)]) ⟨hx, hb, hml, hown, hts⟩ (c_X8_undo l D H.size m am pam kam zam 0 ) (cwV 0 hts gL_law_X8_undo rfl rfl rfl (by decide +kernel) ⟨(Nat.le_of_ble_eq_true rfl), (Nat.le_of_ble_eq_true rfl)⟩) ⟨mP_blind, va_recv hK hP (ci := 8) (q0 := 14) rfl rfl, m_pre _ hN hK hP hD [] rfl [14] rfl (by decide)⟩ rfl rfl hl.1 rfl (lv_room (Nat.le_of_ble_eq_true rfl)) dL_law_435 ⟨(Nat.le_of_ble_eq_true rfl), (Nat.le_of_ble_eq_true rfl)⟩) hP hD hS hA [14] rfl (fun r561 u H locs hw hP hS => ?_)
  obtain rfl := hw
  refine lv_icmp_eq (tgt := 644) hx hb dL_law_438 (by decide) (fun zc438 => ?_) (fun hc => absurd (by decide) hc)
  exact law_end C0 hAA hN hS (Nat.le_of_ble_eq_true rfl) (Nat.le_of_ble_eq_true rfl) (lv_sub hl [0, 3] rfl)
set_option maxHeartbeats 4000000 in
set_option maxRecDepth 100000 in
theorem law_told {pp : Program} {ee : Env} {ss : State} {mm : MethodId} {bl : List Frame} {mt : Method} {cd : Code} {l : Launch} {b : Nat} {xs : Nat → Int32} (C0 : lw_At pp ss mm mt cd b 5 xs) {D : va_G} {AA : Nat → Prop} (hAA : AA = fun q => ss.heap.size ≤ q) (hN : nW ss) {a1 a2 am c g1 g2 h ia im k kam lt m o pa pam ps x zam : Nat} {cA1 cA2 cP cI cAm cPm cKm cZm : ClassId} {f1 f2 fm fpm fkm : Nat → Int32} (hF : st0 fm) {H : Heap} {locs : List Loc} {ls : Array Slot} (hK : va_K D vwCl [(cA1, .int), (cA2, .int), (cP, .object "LoanHouse$House"), (cI, .object "LoanHouse$House"), (cAm, .int), (cPm, .int), (cKm, .int), (cZm, .boolean)] ss) (hP : va_P D vwCl [(x, .inr (7, [.ref h, .ref ps, .ref im, .ref lt, .int 0, .int 0])), (h, .inr (4, [.ref k, .ref c, .ref o, .int 0])), (k, .inr (0, [.int 0, .int 14, .int 3, .int 64])), (c, .inr (1, [.ref g1, .int 0])), (g1, .inr (2, [.int 16, .int 5, .ref a1])), (a1, .inl (cA1, 80, .inl f1)), (o, .inr (3, [.ref g2, .int 0, .int 0])), (g2, .inr (2, [.int 12, .int 7, .ref a2])), (a2, .inl (cA2, 84, .inl f2)), (ps, .inr (6, [.ref pa])), (pa, .inl (cP, 8, .inr (.inr (.inr (.inr (fun _ => none)))))), (im, .inr (6, [.ref ia])), (ia, .inl (cI, 2, .inr (.inr (.inr (.inr (fun _ => none)))))), (lt, .inr (5, [.long 0])), (m, .inr (8, [.ref am, .ref pam, .int 0, .ref kam, .ref zam, .long 0])), (am, .inl (cAm, 172, .inl fm)), (pam, .inl (cPm, 1376, .inl fpm)), (kam, .inl (cKm, 344, .inl fkm)), (zam, .inl (cZm, 2, .inl (fun _ => 0)))] H) (hD : va_D AA [(x, .inr (7, [.ref h, .ref ps, .ref im, .ref lt, .int 0, .int 0])), (h, .inr (4, [.ref k, .ref c, .ref o, .int 0])), (k, .inr (0, [.int 0, .int 14, .int 3, .int 64])), (c, .inr (1, [.ref g1, .int 0])), (g1, .inr (2, [.int 16, .int 5, .ref a1])), (a1, .inl (cA1, 80, .inl f1)), (o, .inr (3, [.ref g2, .int 0, .int 0])), (g2, .inr (2, [.int 12, .int 7, .ref a2])), (a2, .inl (cA2, 84, .inl f2)), (ps, .inr (6, [.ref pa])), (pa, .inl (cP, 8, .inr (.inr (.inr (.inr (fun _ => none)))))), (im, .inr (6, [.ref ia])), (ia, .inl (cI, 2, .inr (.inr (.inr (.inr (fun _ => none)))))), (lt, .inr (5, [.long 0])), (m, .inr (8, [.ref am, .ref pam, .int 0, .ref kam, .ref zam, .long 0])), (am, .inl (cAm, 172, .inl fm)), (pam, .inl (cPm, 1376, .inl fpm)), (kam, .inl (cKm, 344, .inl fkm)), (zam, .inl (cZm, 2, .inl (fun _ => 0)))]) (hS : va_S AA ss.heap H locs) (hl : lv_has ls 4 [(3, .int 0), (2, .ref m), (1, .ref x), (0, .ref b)]) : W pp l ee room_1 ss mm #[Value.ref b] bl mt cd H locs 19 2102 (lw_Z bl #[Value.ref b] ss) (F0 mm 443 ls []) := by
  obtain ⟨hx, hb, hr, hml, hown, hts0, hX, hbl, hlocks, hgv⟩ := id C0
  have hts : ∀ w ∈ lw_tbl, w.before #[Value.ref b] ss = true := hts0
  have hA : ∀ q, ss.heap.size ≤ q → AA q := fun q h => by rw [hAA]; exact h
  have hbA : ¬ AA b := by rw [hAA]; exact Nat.not_le.mpr hbl
  refine lv_aload_n hx hb dL_law_443 rfl (lv_at hl 2 rfl) ?_
  refine lv_aload_n hx hb dL_law_444 rfl (lv_at hl 3 rfl) ?_
  refine lv_iload_n hx hb dL_law_445 rfl (lv_at hl 0 rfl) ?_
  refine lv_iconst (v := 1) hx hb dL_law_446 (by decide) ?_
  refine lv_iadd hx hb dL_law_447 ?_
  refine lv_topi (fun x562 ex562 => ?_)
  have ex562 : x562 = 1 := ex562.trans (by decide)
  subst ex562
  refine va_sld hx hb hX hbl hbA hS (vi_ok (by decide)) dL_law_448 ?_
  refine k_pi (va_runV (As := [.int (xs (1 : Int32).toNatClampNeg)]) (rest := []) ⟨hx, hb, hml, hown, hts⟩ (c_X7_told l D H.size x h ps im lt k c o g1 g2 (xs (1 : Int32).toNatClampNeg) ) (cwV 1 hts gL_law_X7_told rfl rfl rfl (by decide +kernel) ⟨(Nat.le_of_ble_eq_true rfl), (Nat.le_of_ble_eq_true rfl)⟩) ⟨mP_blind, va_recv hK hP (ci := 7) (q0 := 0) rfl rfl, m_pre _ hN hK hP hD [] rfl [0, 1, 2, 3, 6] rfl (by decide)⟩ rfl rfl hl.1 rfl (lv_room (Nat.le_of_ble_eq_true rfl)) dL_law_449 ⟨(Nat.le_of_ble_eq_true rfl), (Nat.le_of_ble_eq_true rfl)⟩) hP hD hS hA [0, 1, 2, 3, 6] rfl (fun r563 u H locs hw hP hS => ?_)
  have zw449 := hw
  refine lv_aload_n hx hb dL_law_452 rfl (lv_at hl 1 rfl) ?_
  refine lv_aload_n hx hb dL_law_453 rfl (lv_at hl 3 rfl) ?_
  refine lv_iload_n hx hb dL_law_454 rfl (lv_at hl 0 rfl) ?_
  refine lv_iconst (v := 1) hx hb dL_law_455 (by decide) ?_
  refine lv_iadd hx hb dL_law_456 ?_
  refine lv_topi (fun x564 ex564 => ?_)
  have ex564 : x564 = 1 := ex564.trans (by decide)
  subst ex564
  refine va_sld hx hb hX hbl hbA hS (vi_ok (by decide)) dL_law_457 ?_
  refine k_pi (va_runV (As := [.int (xs (1 : Int32).toNatClampNeg)]) (rest := [.int r563]) ⟨hx, hb, hml, hown, hts⟩ (c_X8_told l D H.size m am pam kam zam cAm 0 fm (xs (1 : Int32).toNatClampNeg) hF) (cwV 1 hts gL_law_X8_told rfl rfl rfl (by decide +kernel) ⟨(Nat.le_of_ble_eq_true rfl), (Nat.le_of_ble_eq_true rfl)⟩) ⟨mP_blind, va_recv hK hP (ci := 8) (q0 := 14) rfl rfl, m_pre _ hN hK hP hD [4] rfl [14, 15] rfl (by decide)⟩ rfl rfl hl.1 rfl (lv_room (Nat.le_of_ble_eq_true rfl)) dL_law_458 ⟨(Nat.le_of_ble_eq_true rfl), (Nat.le_of_ble_eq_true rfl)⟩) hP hD hS hA [14, 15] rfl (fun r565 u H locs hw hP hS => ?_)
  have zw458 := hw
  refine lv_icmp_eq (tgt := 644) hx hb dL_law_461 (by decide) (fun zc461 => ?_) (fun hc => absurd (told_eq zw449 zw458) hc)
  exact law_end C0 hAA hN hS (Nat.le_of_ble_eq_true rfl) (Nat.le_of_ble_eq_true rfl) (lv_sub hl [0, 3] rfl)
set_option maxHeartbeats 4000000 in
set_option maxRecDepth 100000 in
theorem law_copyOf {pp : Program} {ee : Env} {ss : State} {mm : MethodId} {bl : List Frame} {mt : Method} {cd : Code} {l : Launch} {b : Nat} {xs : Nat → Int32} (C0 : lw_At pp ss mm mt cd b 5 xs) {D : va_G} {AA : Nat → Prop} (hAA : AA = fun q => ss.heap.size ≤ q) (hN : nW ss) {a1 a2 am c g1 g2 h ia im k kam lt m o pa pam ps x zam : Nat} {cA1 cA2 cP cI cAm cPm cKm cZm : ClassId} {f1 f2 fm fpm fkm : Nat → Int32} (hF : st0 fm) {H : Heap} {locs : List Loc} {ls : Array Slot} (hK : va_K D vwCl [(cA1, .int), (cA2, .int), (cP, .object "LoanHouse$House"), (cI, .object "LoanHouse$House"), (cAm, .int), (cPm, .int), (cKm, .int), (cZm, .boolean)] ss) (hP : va_P D vwCl [(x, .inr (7, [.ref h, .ref ps, .ref im, .ref lt, .int 0, .int 0])), (h, .inr (4, [.ref k, .ref c, .ref o, .int 0])), (k, .inr (0, [.int 0, .int 14, .int 3, .int 64])), (c, .inr (1, [.ref g1, .int 0])), (g1, .inr (2, [.int 16, .int 5, .ref a1])), (a1, .inl (cA1, 80, .inl f1)), (o, .inr (3, [.ref g2, .int 0, .int 0])), (g2, .inr (2, [.int 12, .int 7, .ref a2])), (a2, .inl (cA2, 84, .inl f2)), (ps, .inr (6, [.ref pa])), (pa, .inl (cP, 8, .inr (.inr (.inr (.inr (fun _ => none)))))), (im, .inr (6, [.ref ia])), (ia, .inl (cI, 2, .inr (.inr (.inr (.inr (fun _ => none)))))), (lt, .inr (5, [.long 0])), (m, .inr (8, [.ref am, .ref pam, .int 0, .ref kam, .ref zam, .long 0])), (am, .inl (cAm, 172, .inl fm)), (pam, .inl (cPm, 1376, .inl fpm)), (kam, .inl (cKm, 344, .inl fkm)), (zam, .inl (cZm, 2, .inl (fun _ => 0)))] H) (hD : va_D AA [(x, .inr (7, [.ref h, .ref ps, .ref im, .ref lt, .int 0, .int 0])), (h, .inr (4, [.ref k, .ref c, .ref o, .int 0])), (k, .inr (0, [.int 0, .int 14, .int 3, .int 64])), (c, .inr (1, [.ref g1, .int 0])), (g1, .inr (2, [.int 16, .int 5, .ref a1])), (a1, .inl (cA1, 80, .inl f1)), (o, .inr (3, [.ref g2, .int 0, .int 0])), (g2, .inr (2, [.int 12, .int 7, .ref a2])), (a2, .inl (cA2, 84, .inl f2)), (ps, .inr (6, [.ref pa])), (pa, .inl (cP, 8, .inr (.inr (.inr (.inr (fun _ => none)))))), (im, .inr (6, [.ref ia])), (ia, .inl (cI, 2, .inr (.inr (.inr (.inr (fun _ => none)))))), (lt, .inr (5, [.long 0])), (m, .inr (8, [.ref am, .ref pam, .int 0, .ref kam, .ref zam, .long 0])), (am, .inl (cAm, 172, .inl fm)), (pam, .inl (cPm, 1376, .inl fpm)), (kam, .inl (cKm, 344, .inl fkm)), (zam, .inl (cZm, 2, .inl (fun _ => 0)))]) (hS : va_S AA ss.heap H locs) (hl : lv_has ls 4 [(3, .int 0), (2, .ref m), (1, .ref x), (0, .ref b)]) : W pp l ee room_1 ss mm #[Value.ref b] bl mt cd H locs 19 2102 (lw_Z bl #[Value.ref b] ss) (F0 mm 466 ls []) := by
  obtain ⟨hx, hb, hr, hml, hown, hts0, hX, hbl, hlocks, hgv⟩ := id C0
  have hts : ∀ w ∈ lw_tbl, w.before #[Value.ref b] ss = true := hts0
  have hA : ∀ q, ss.heap.size ≤ q → AA q := fun q h => by rw [hAA]; exact h
  have hbA : ¬ AA b := by rw [hAA]; exact Nat.not_le.mpr hbl
  refine lv_aload_n hx hb dL_law_466 rfl (lv_at hl 2 rfl) ?_
  refine lv_aload_n hx hb dL_law_467 rfl (lv_at hl 3 rfl) ?_
  refine lv_iload_n hx hb dL_law_468 rfl (lv_at hl 0 rfl) ?_
  refine lv_iconst (v := 1) hx hb dL_law_469 (by decide) ?_
  refine lv_iadd hx hb dL_law_470 ?_
  refine lv_topi (fun x566 ex566 => ?_)
  have ex566 : x566 = 1 := ex566.trans (by decide)
  subst ex566
  refine va_sld hx hb hX hbl hbA hS (vi_ok (by decide)) dL_law_471 ?_
  refine lv_aload_n hx hb dL_law_472 rfl (lv_at hl 3 rfl) ?_
  refine lv_iload_n hx hb dL_law_473 rfl (lv_at hl 0 rfl) ?_
  refine lv_iconst (v := 2) hx hb dL_law_474 (by decide) ?_
  refine lv_iadd hx hb dL_law_475 ?_
  refine lv_topi (fun x567 ex567 => ?_)
  have ex567 : x567 = 2 := ex567.trans (by decide)
  subst ex567
  refine va_sld hx hb hX hbl hbA hS (vi_ok (by decide)) dL_law_476 ?_
  refine k_pi (va_runV (As := [.int (xs (1 : Int32).toNatClampNeg), .int (xs (2 : Int32).toNatClampNeg)]) (rest := []) ⟨hx, hb, hml, hown, hts⟩ (c_X7_copyOf l D H.size x h ps im lt k c o g1 0 0 0 (xs (1 : Int32).toNatClampNeg) (xs (2 : Int32).toNatClampNeg) ) (cwV 2 hts gL_law_X7_copyOf rfl rfl rfl (by decide +kernel) ⟨(Nat.le_of_ble_eq_true rfl), (Nat.le_of_ble_eq_true rfl)⟩) ⟨mP_blind, va_recv hK hP (ci := 7) (q0 := 0) rfl rfl, m_pre _ hN hK hP hD [] rfl [0, 1, 3] rfl (by decide)⟩ rfl rfl hl.1 rfl (lv_room (Nat.le_of_ble_eq_true rfl)) dL_law_477 ⟨(Nat.le_of_ble_eq_true rfl), (Nat.le_of_ble_eq_true rfl)⟩) hP hD hS hA [0, 1, 3] rfl (fun r568 u H locs hw hP hS => ?_)
  obtain rfl := hw
  refine lv_aload_n hx hb dL_law_480 rfl (lv_at hl 1 rfl) ?_
  refine lv_aload_n hx hb dL_law_481 rfl (lv_at hl 3 rfl) ?_
  refine lv_iload_n hx hb dL_law_482 rfl (lv_at hl 0 rfl) ?_
  refine lv_iconst (v := 1) hx hb dL_law_483 (by decide) ?_
  refine lv_iadd hx hb dL_law_484 ?_
  refine lv_topi (fun x569 ex569 => ?_)
  have ex569 : x569 = 1 := ex569.trans (by decide)
  subst ex569
  refine va_sld hx hb hX hbl hbA hS (vi_ok (by decide)) dL_law_485 ?_
  refine lv_aload_n hx hb dL_law_486 rfl (lv_at hl 3 rfl) ?_
  refine lv_iload_n hx hb dL_law_487 rfl (lv_at hl 0 rfl) ?_
  refine lv_iconst (v := 2) hx hb dL_law_488 (by decide) ?_
  refine lv_iadd hx hb dL_law_489 ?_
  refine lv_topi (fun x570 ex570 => ?_)
  have ex570 : x570 = 2 := ex570.trans (by decide)
  subst ex570
  refine va_sld hx hb hX hbl hbA hS (vi_ok (by decide)) dL_law_490 ?_
  refine k_pi (va_runV (As := [.int (xs (1 : Int32).toNatClampNeg), .int (xs (2 : Int32).toNatClampNeg)]) (rest := [.int (-1000000001)]) ⟨hx, hb, hml, hown, hts⟩ (c_X8_copyOf l D H.size m am pam kam zam cAm 0 0 fm (xs (1 : Int32).toNatClampNeg) (xs (2 : Int32).toNatClampNeg) hF.2.2.2.2.1) (cwV 2 hts gL_law_X8_copyOf rfl rfl rfl (by decide +kernel) ⟨(Nat.le_of_ble_eq_true rfl), (Nat.le_of_ble_eq_true rfl)⟩) ⟨mP_blind, va_recv hK hP (ci := 8) (q0 := 14) rfl rfl, m_pre _ hN hK hP hD [4] rfl [14, 15] rfl (by decide)⟩ rfl rfl hl.1 rfl (lv_room (Nat.le_of_ble_eq_true rfl)) dL_law_491 ⟨(Nat.le_of_ble_eq_true rfl), (Nat.le_of_ble_eq_true rfl)⟩) hP hD hS hA [14, 15] rfl (fun r571 u H locs hw hP hS => ?_)
  obtain rfl := hw
  refine lv_icmp_eq (tgt := 644) hx hb dL_law_494 (by decide) (fun zc494 => ?_) (fun hc => absurd (by decide) hc)
  exact law_end C0 hAA hN hS (Nat.le_of_ble_eq_true rfl) (Nat.le_of_ble_eq_true rfl) (lv_sub hl [0, 3] rfl)
set_option maxHeartbeats 4000000 in
set_option maxRecDepth 100000 in
theorem law_holdOf {pp : Program} {ee : Env} {ss : State} {mm : MethodId} {bl : List Frame} {mt : Method} {cd : Code} {l : Launch} {b : Nat} {xs : Nat → Int32} (C0 : lw_At pp ss mm mt cd b 5 xs) {D : va_G} {AA : Nat → Prop} (hAA : AA = fun q => ss.heap.size ≤ q) (hN : nW ss) {a1 a2 am c g1 g2 h ia im k kam lt m o pa pam ps x zam : Nat} {cA1 cA2 cP cI cAm cPm cKm cZm : ClassId} {f1 f2 fm fpm fkm : Nat → Int32} (hF : st0 fm) {H : Heap} {locs : List Loc} {ls : Array Slot} (hK : va_K D vwCl [(cA1, .int), (cA2, .int), (cP, .object "LoanHouse$House"), (cI, .object "LoanHouse$House"), (cAm, .int), (cPm, .int), (cKm, .int), (cZm, .boolean)] ss) (hP : va_P D vwCl [(x, .inr (7, [.ref h, .ref ps, .ref im, .ref lt, .int 0, .int 0])), (h, .inr (4, [.ref k, .ref c, .ref o, .int 0])), (k, .inr (0, [.int 0, .int 14, .int 3, .int 64])), (c, .inr (1, [.ref g1, .int 0])), (g1, .inr (2, [.int 16, .int 5, .ref a1])), (a1, .inl (cA1, 80, .inl f1)), (o, .inr (3, [.ref g2, .int 0, .int 0])), (g2, .inr (2, [.int 12, .int 7, .ref a2])), (a2, .inl (cA2, 84, .inl f2)), (ps, .inr (6, [.ref pa])), (pa, .inl (cP, 8, .inr (.inr (.inr (.inr (fun _ => none)))))), (im, .inr (6, [.ref ia])), (ia, .inl (cI, 2, .inr (.inr (.inr (.inr (fun _ => none)))))), (lt, .inr (5, [.long 0])), (m, .inr (8, [.ref am, .ref pam, .int 0, .ref kam, .ref zam, .long 0])), (am, .inl (cAm, 172, .inl fm)), (pam, .inl (cPm, 1376, .inl fpm)), (kam, .inl (cKm, 344, .inl fkm)), (zam, .inl (cZm, 2, .inl (fun _ => 0)))] H) (hD : va_D AA [(x, .inr (7, [.ref h, .ref ps, .ref im, .ref lt, .int 0, .int 0])), (h, .inr (4, [.ref k, .ref c, .ref o, .int 0])), (k, .inr (0, [.int 0, .int 14, .int 3, .int 64])), (c, .inr (1, [.ref g1, .int 0])), (g1, .inr (2, [.int 16, .int 5, .ref a1])), (a1, .inl (cA1, 80, .inl f1)), (o, .inr (3, [.ref g2, .int 0, .int 0])), (g2, .inr (2, [.int 12, .int 7, .ref a2])), (a2, .inl (cA2, 84, .inl f2)), (ps, .inr (6, [.ref pa])), (pa, .inl (cP, 8, .inr (.inr (.inr (.inr (fun _ => none)))))), (im, .inr (6, [.ref ia])), (ia, .inl (cI, 2, .inr (.inr (.inr (.inr (fun _ => none)))))), (lt, .inr (5, [.long 0])), (m, .inr (8, [.ref am, .ref pam, .int 0, .ref kam, .ref zam, .long 0])), (am, .inl (cAm, 172, .inl fm)), (pam, .inl (cPm, 1376, .inl fpm)), (kam, .inl (cKm, 344, .inl fkm)), (zam, .inl (cZm, 2, .inl (fun _ => 0)))]) (hS : va_S AA ss.heap H locs) (hl : lv_has ls 4 [(3, .int 0), (2, .ref m), (1, .ref x), (0, .ref b)]) : W pp l ee room_1 ss mm #[Value.ref b] bl mt cd H locs 19 2102 (lw_Z bl #[Value.ref b] ss) (F0 mm 499 ls []) := by
  obtain ⟨hx, hb, hr, hml, hown, hts0, hX, hbl, hlocks, hgv⟩ := id C0
  have hts : ∀ w ∈ lw_tbl, w.before #[Value.ref b] ss = true := hts0
  have hA : ∀ q, ss.heap.size ≤ q → AA q := fun q h => by rw [hAA]; exact h
  have hbA : ¬ AA b := by rw [hAA]; exact Nat.not_le.mpr hbl
  refine lv_aload_n hx hb dL_law_499 rfl (lv_at hl 2 rfl) ?_
  refine lv_aload_n hx hb dL_law_500 rfl (lv_at hl 3 rfl) ?_
  refine lv_iload_n hx hb dL_law_501 rfl (lv_at hl 0 rfl) ?_
  refine lv_iconst (v := 1) hx hb dL_law_502 (by decide) ?_
  refine lv_iadd hx hb dL_law_503 ?_
  refine lv_topi (fun x572 ex572 => ?_)
  have ex572 : x572 = 1 := ex572.trans (by decide)
  subst ex572
  refine va_sld hx hb hX hbl hbA hS (vi_ok (by decide)) dL_law_504 ?_
  refine lv_aload_n hx hb dL_law_505 rfl (lv_at hl 3 rfl) ?_
  refine lv_iload_n hx hb dL_law_506 rfl (lv_at hl 0 rfl) ?_
  refine lv_iconst (v := 2) hx hb dL_law_507 (by decide) ?_
  refine lv_iadd hx hb dL_law_508 ?_
  refine lv_topi (fun x573 ex573 => ?_)
  have ex573 : x573 = 2 := ex573.trans (by decide)
  subst ex573
  refine va_sld hx hb hX hbl hbA hS (vi_ok (by decide)) dL_law_509 ?_
  refine k_pi (va_runV (As := [.int (xs (1 : Int32).toNatClampNeg), .int (xs (2 : Int32).toNatClampNeg)]) (rest := []) ⟨hx, hb, hml, hown, hts⟩ (c_X7_holdOf l D H.size x h ps im lt k c o g2 0 0 0 0 (xs (1 : Int32).toNatClampNeg) (xs (2 : Int32).toNatClampNeg) ) (cwV 2 hts gL_law_X7_holdOf rfl rfl rfl (by decide +kernel) ⟨(Nat.le_of_ble_eq_true rfl), (Nat.le_of_ble_eq_true rfl)⟩) ⟨mP_blind, va_recv hK hP (ci := 7) (q0 := 0) rfl rfl, m_pre _ hN hK hP hD [] rfl [0, 1, 6] rfl (by decide)⟩ rfl rfl hl.1 rfl (lv_room (Nat.le_of_ble_eq_true rfl)) dL_law_510 ⟨(Nat.le_of_ble_eq_true rfl), (Nat.le_of_ble_eq_true rfl)⟩) hP hD hS hA [0, 1, 6] rfl (fun r574 u H locs hw hP hS => ?_)
  obtain rfl := hw
  refine lv_aload_n hx hb dL_law_513 rfl (lv_at hl 1 rfl) ?_
  refine lv_aload_n hx hb dL_law_514 rfl (lv_at hl 3 rfl) ?_
  refine lv_iload_n hx hb dL_law_515 rfl (lv_at hl 0 rfl) ?_
  refine lv_iconst (v := 1) hx hb dL_law_516 (by decide) ?_
  refine lv_iadd hx hb dL_law_517 ?_
  refine lv_topi (fun x575 ex575 => ?_)
  have ex575 : x575 = 1 := ex575.trans (by decide)
  subst ex575
  refine va_sld hx hb hX hbl hbA hS (vi_ok (by decide)) dL_law_518 ?_
  refine lv_aload_n hx hb dL_law_519 rfl (lv_at hl 3 rfl) ?_
  refine lv_iload_n hx hb dL_law_520 rfl (lv_at hl 0 rfl) ?_
  refine lv_iconst (v := 2) hx hb dL_law_521 (by decide) ?_
  refine lv_iadd hx hb dL_law_522 ?_
  refine lv_topi (fun x576 ex576 => ?_)
  have ex576 : x576 = 2 := ex576.trans (by decide)
  subst ex576
  refine va_sld hx hb hX hbl hbA hS (vi_ok (by decide)) dL_law_523 ?_
  refine k_pi (va_runV (As := [.int (xs (1 : Int32).toNatClampNeg), .int (xs (2 : Int32).toNatClampNeg)]) (rest := [.int (-1000000001)]) ⟨hx, hb, hml, hown, hts⟩ (c_X8_holdOf l D H.size m am pam kam zam cAm 0 0 fm (xs (1 : Int32).toNatClampNeg) (xs (2 : Int32).toNatClampNeg) hF.2.2.2.2.2.1) (cwV 2 hts gL_law_X8_holdOf rfl rfl rfl (by decide +kernel) ⟨(Nat.le_of_ble_eq_true rfl), (Nat.le_of_ble_eq_true rfl)⟩) ⟨mP_blind, va_recv hK hP (ci := 8) (q0 := 14) rfl rfl, m_pre _ hN hK hP hD [4] rfl [14, 15] rfl (by decide)⟩ rfl rfl hl.1 rfl (lv_room (Nat.le_of_ble_eq_true rfl)) dL_law_524 ⟨(Nat.le_of_ble_eq_true rfl), (Nat.le_of_ble_eq_true rfl)⟩) hP hD hS hA [14, 15] rfl (fun r577 u H locs hw hP hS => ?_)
  obtain rfl := hw
  refine lv_icmp_eq (tgt := 644) hx hb dL_law_527 (by decide) (fun zc527 => ?_) (fun hc => absurd (by decide) hc)
  exact law_end C0 hAA hN hS (Nat.le_of_ble_eq_true rfl) (Nat.le_of_ble_eq_true rfl) (lv_sub hl [0, 3] rfl)
set_option maxHeartbeats 4000000 in
set_option maxRecDepth 100000 in
theorem law_titleOf {pp : Program} {ee : Env} {ss : State} {mm : MethodId} {bl : List Frame} {mt : Method} {cd : Code} {l : Launch} {b : Nat} {xs : Nat → Int32} (C0 : lw_At pp ss mm mt cd b 5 xs) {D : va_G} {AA : Nat → Prop} (hAA : AA = fun q => ss.heap.size ≤ q) (hN : nW ss) {a1 a2 am c g1 g2 h ia im k kam lt m o pa pam ps x zam : Nat} {cA1 cA2 cP cI cAm cPm cKm cZm : ClassId} {f1 f2 fm fpm fkm : Nat → Int32} (hF : st0 fm) {H : Heap} {locs : List Loc} {ls : Array Slot} (hK : va_K D vwCl [(cA1, .int), (cA2, .int), (cP, .object "LoanHouse$House"), (cI, .object "LoanHouse$House"), (cAm, .int), (cPm, .int), (cKm, .int), (cZm, .boolean)] ss) (hP : va_P D vwCl [(x, .inr (7, [.ref h, .ref ps, .ref im, .ref lt, .int 0, .int 0])), (h, .inr (4, [.ref k, .ref c, .ref o, .int 0])), (k, .inr (0, [.int 0, .int 14, .int 3, .int 64])), (c, .inr (1, [.ref g1, .int 0])), (g1, .inr (2, [.int 16, .int 5, .ref a1])), (a1, .inl (cA1, 80, .inl f1)), (o, .inr (3, [.ref g2, .int 0, .int 0])), (g2, .inr (2, [.int 12, .int 7, .ref a2])), (a2, .inl (cA2, 84, .inl f2)), (ps, .inr (6, [.ref pa])), (pa, .inl (cP, 8, .inr (.inr (.inr (.inr (fun _ => none)))))), (im, .inr (6, [.ref ia])), (ia, .inl (cI, 2, .inr (.inr (.inr (.inr (fun _ => none)))))), (lt, .inr (5, [.long 0])), (m, .inr (8, [.ref am, .ref pam, .int 0, .ref kam, .ref zam, .long 0])), (am, .inl (cAm, 172, .inl fm)), (pam, .inl (cPm, 1376, .inl fpm)), (kam, .inl (cKm, 344, .inl fkm)), (zam, .inl (cZm, 2, .inl (fun _ => 0)))] H) (hD : va_D AA [(x, .inr (7, [.ref h, .ref ps, .ref im, .ref lt, .int 0, .int 0])), (h, .inr (4, [.ref k, .ref c, .ref o, .int 0])), (k, .inr (0, [.int 0, .int 14, .int 3, .int 64])), (c, .inr (1, [.ref g1, .int 0])), (g1, .inr (2, [.int 16, .int 5, .ref a1])), (a1, .inl (cA1, 80, .inl f1)), (o, .inr (3, [.ref g2, .int 0, .int 0])), (g2, .inr (2, [.int 12, .int 7, .ref a2])), (a2, .inl (cA2, 84, .inl f2)), (ps, .inr (6, [.ref pa])), (pa, .inl (cP, 8, .inr (.inr (.inr (.inr (fun _ => none)))))), (im, .inr (6, [.ref ia])), (ia, .inl (cI, 2, .inr (.inr (.inr (.inr (fun _ => none)))))), (lt, .inr (5, [.long 0])), (m, .inr (8, [.ref am, .ref pam, .int 0, .ref kam, .ref zam, .long 0])), (am, .inl (cAm, 172, .inl fm)), (pam, .inl (cPm, 1376, .inl fpm)), (kam, .inl (cKm, 344, .inl fkm)), (zam, .inl (cZm, 2, .inl (fun _ => 0)))]) (hS : va_S AA ss.heap H locs) (hl : lv_has ls 4 [(3, .int 0), (2, .ref m), (1, .ref x), (0, .ref b)]) : W pp l ee room_1 ss mm #[Value.ref b] bl mt cd H locs 19 2102 (lw_Z bl #[Value.ref b] ss) (F0 mm 532 ls []) := by
  obtain ⟨hx, hb, hr, hml, hown, hts0, hX, hbl, hlocks, hgv⟩ := id C0
  have hts : ∀ w ∈ lw_tbl, w.before #[Value.ref b] ss = true := hts0
  have hA : ∀ q, ss.heap.size ≤ q → AA q := fun q h => by rw [hAA]; exact h
  have hbA : ¬ AA b := by rw [hAA]; exact Nat.not_le.mpr hbl
  refine lv_aload_n hx hb dL_law_532 rfl (lv_at hl 2 rfl) ?_
  refine lv_aload_n hx hb dL_law_533 rfl (lv_at hl 3 rfl) ?_
  refine lv_iload_n hx hb dL_law_534 rfl (lv_at hl 0 rfl) ?_
  refine lv_iconst (v := 1) hx hb dL_law_535 (by decide) ?_
  refine lv_iadd hx hb dL_law_536 ?_
  refine lv_topi (fun x578 ex578 => ?_)
  have ex578 : x578 = 1 := ex578.trans (by decide)
  subst ex578
  refine va_sld hx hb hX hbl hbA hS (vi_ok (by decide)) dL_law_537 ?_
  refine lv_aload_n hx hb dL_law_538 rfl (lv_at hl 3 rfl) ?_
  refine lv_iload_n hx hb dL_law_539 rfl (lv_at hl 0 rfl) ?_
  refine lv_iconst (v := 2) hx hb dL_law_540 (by decide) ?_
  refine lv_iadd hx hb dL_law_541 ?_
  refine lv_topi (fun x579 ex579 => ?_)
  have ex579 : x579 = 2 := ex579.trans (by decide)
  subst ex579
  refine va_sld hx hb hX hbl hbA hS (vi_ok (by decide)) dL_law_542 ?_
  refine k_pi (va_runV (As := [.int (xs (1 : Int32).toNatClampNeg), .int (xs (2 : Int32).toNatClampNeg)]) (rest := []) ⟨hx, hb, hml, hown, hts⟩ (c_X7_titleOf l D H.size x h ps im lt k c o g1 g2 a2 cA2 f2 (xs (1 : Int32).toNatClampNeg) (xs (2 : Int32).toNatClampNeg) ) (cwV 2 hts gL_law_X7_titleOf rfl rfl rfl (by decide +kernel) ⟨(Nat.le_of_ble_eq_true rfl), (Nat.le_of_ble_eq_true rfl)⟩) ⟨mP_blind, va_recv hK hP (ci := 7) (q0 := 0) rfl rfl, m_pre _ hN hK hP hD [1] rfl [0, 1, 2, 3, 6, 7, 8] rfl (by decide)⟩ rfl rfl hl.1 rfl (lv_room (Nat.le_of_ble_eq_true rfl)) dL_law_543 ⟨(Nat.le_of_ble_eq_true rfl), (Nat.le_of_ble_eq_true rfl)⟩) hP hD hS hA [0, 1, 2, 3, 6, 7, 8] rfl (fun r580 u H locs hw hP hS => ?_)
  have zw543 := hw
  refine lv_aload_n hx hb dL_law_546 rfl (lv_at hl 1 rfl) ?_
  refine lv_aload_n hx hb dL_law_547 rfl (lv_at hl 3 rfl) ?_
  refine lv_iload_n hx hb dL_law_548 rfl (lv_at hl 0 rfl) ?_
  refine lv_iconst (v := 1) hx hb dL_law_549 (by decide) ?_
  refine lv_iadd hx hb dL_law_550 ?_
  refine lv_topi (fun x581 ex581 => ?_)
  have ex581 : x581 = 1 := ex581.trans (by decide)
  subst ex581
  refine va_sld hx hb hX hbl hbA hS (vi_ok (by decide)) dL_law_551 ?_
  refine lv_aload_n hx hb dL_law_552 rfl (lv_at hl 3 rfl) ?_
  refine lv_iload_n hx hb dL_law_553 rfl (lv_at hl 0 rfl) ?_
  refine lv_iconst (v := 2) hx hb dL_law_554 (by decide) ?_
  refine lv_iadd hx hb dL_law_555 ?_
  refine lv_topi (fun x582 ex582 => ?_)
  have ex582 : x582 = 2 := ex582.trans (by decide)
  subst ex582
  refine va_sld hx hb hX hbl hbA hS (vi_ok (by decide)) dL_law_556 ?_
  refine k_pi (va_runV (As := [.int (xs (1 : Int32).toNatClampNeg), .int (xs (2 : Int32).toNatClampNeg)]) (rest := [.int r580]) ⟨hx, hb, hml, hown, hts⟩ (c_X8_titleOf l D H.size m am pam kam zam cAm 0 fm (xs (1 : Int32).toNatClampNeg) (xs (2 : Int32).toNatClampNeg) hF) (cwV 2 hts gL_law_X8_titleOf rfl rfl rfl (by decide +kernel) ⟨(Nat.le_of_ble_eq_true rfl), (Nat.le_of_ble_eq_true rfl)⟩) ⟨mP_blind, va_recv hK hP (ci := 8) (q0 := 14) rfl rfl, m_pre _ hN hK hP hD [4] rfl [14, 15] rfl (by decide)⟩ rfl rfl hl.1 rfl (lv_room (Nat.le_of_ble_eq_true rfl)) dL_law_557 ⟨(Nat.le_of_ble_eq_true rfl), (Nat.le_of_ble_eq_true rfl)⟩) hP hD hS hA [14, 15] rfl (fun r583 u H locs hw hP hS => ?_)
  have zw557 := hw
  refine lv_icmp_eq (tgt := 644) hx hb dL_law_560 (by decide) (fun zc560 => ?_) (fun hc => absurd (q2_eq zw543 zw557) hc)
  exact law_end C0 hAA hN hS (Nat.le_of_ble_eq_true rfl) (Nat.le_of_ble_eq_true rfl) (lv_sub hl [0, 3] rfl)
set_option maxHeartbeats 4000000 in
set_option maxRecDepth 100000 in
theorem law_readerOf {pp : Program} {ee : Env} {ss : State} {mm : MethodId} {bl : List Frame} {mt : Method} {cd : Code} {l : Launch} {b : Nat} {xs : Nat → Int32} (C0 : lw_At pp ss mm mt cd b 5 xs) {D : va_G} {AA : Nat → Prop} (hAA : AA = fun q => ss.heap.size ≤ q) (hN : nW ss) {a1 a2 am c g1 g2 h ia im k kam lt m o pa pam ps x zam : Nat} {cA1 cA2 cP cI cAm cPm cKm cZm : ClassId} {f1 f2 fm fpm fkm : Nat → Int32} (hF : st0 fm) {H : Heap} {locs : List Loc} {ls : Array Slot} (hK : va_K D vwCl [(cA1, .int), (cA2, .int), (cP, .object "LoanHouse$House"), (cI, .object "LoanHouse$House"), (cAm, .int), (cPm, .int), (cKm, .int), (cZm, .boolean)] ss) (hP : va_P D vwCl [(x, .inr (7, [.ref h, .ref ps, .ref im, .ref lt, .int 0, .int 0])), (h, .inr (4, [.ref k, .ref c, .ref o, .int 0])), (k, .inr (0, [.int 0, .int 14, .int 3, .int 64])), (c, .inr (1, [.ref g1, .int 0])), (g1, .inr (2, [.int 16, .int 5, .ref a1])), (a1, .inl (cA1, 80, .inl f1)), (o, .inr (3, [.ref g2, .int 0, .int 0])), (g2, .inr (2, [.int 12, .int 7, .ref a2])), (a2, .inl (cA2, 84, .inl f2)), (ps, .inr (6, [.ref pa])), (pa, .inl (cP, 8, .inr (.inr (.inr (.inr (fun _ => none)))))), (im, .inr (6, [.ref ia])), (ia, .inl (cI, 2, .inr (.inr (.inr (.inr (fun _ => none)))))), (lt, .inr (5, [.long 0])), (m, .inr (8, [.ref am, .ref pam, .int 0, .ref kam, .ref zam, .long 0])), (am, .inl (cAm, 172, .inl fm)), (pam, .inl (cPm, 1376, .inl fpm)), (kam, .inl (cKm, 344, .inl fkm)), (zam, .inl (cZm, 2, .inl (fun _ => 0)))] H) (hD : va_D AA [(x, .inr (7, [.ref h, .ref ps, .ref im, .ref lt, .int 0, .int 0])), (h, .inr (4, [.ref k, .ref c, .ref o, .int 0])), (k, .inr (0, [.int 0, .int 14, .int 3, .int 64])), (c, .inr (1, [.ref g1, .int 0])), (g1, .inr (2, [.int 16, .int 5, .ref a1])), (a1, .inl (cA1, 80, .inl f1)), (o, .inr (3, [.ref g2, .int 0, .int 0])), (g2, .inr (2, [.int 12, .int 7, .ref a2])), (a2, .inl (cA2, 84, .inl f2)), (ps, .inr (6, [.ref pa])), (pa, .inl (cP, 8, .inr (.inr (.inr (.inr (fun _ => none)))))), (im, .inr (6, [.ref ia])), (ia, .inl (cI, 2, .inr (.inr (.inr (.inr (fun _ => none)))))), (lt, .inr (5, [.long 0])), (m, .inr (8, [.ref am, .ref pam, .int 0, .ref kam, .ref zam, .long 0])), (am, .inl (cAm, 172, .inl fm)), (pam, .inl (cPm, 1376, .inl fpm)), (kam, .inl (cKm, 344, .inl fkm)), (zam, .inl (cZm, 2, .inl (fun _ => 0)))]) (hS : va_S AA ss.heap H locs) (hl : lv_has ls 4 [(3, .int 0), (2, .ref m), (1, .ref x), (0, .ref b)]) : W pp l ee room_1 ss mm #[Value.ref b] bl mt cd H locs 19 2102 (lw_Z bl #[Value.ref b] ss) (F0 mm 565 ls []) := by
  obtain ⟨hx, hb, hr, hml, hown, hts0, hX, hbl, hlocks, hgv⟩ := id C0
  have hts : ∀ w ∈ lw_tbl, w.before #[Value.ref b] ss = true := hts0
  have hA : ∀ q, ss.heap.size ≤ q → AA q := fun q h => by rw [hAA]; exact h
  have hbA : ¬ AA b := by rw [hAA]; exact Nat.not_le.mpr hbl
  refine lv_aload_n hx hb dL_law_565 rfl (lv_at hl 2 rfl) ?_
  refine lv_aload_n hx hb dL_law_566 rfl (lv_at hl 3 rfl) ?_
  refine lv_iload_n hx hb dL_law_567 rfl (lv_at hl 0 rfl) ?_
  refine lv_iconst (v := 1) hx hb dL_law_568 (by decide) ?_
  refine lv_iadd hx hb dL_law_569 ?_
  refine lv_topi (fun x584 ex584 => ?_)
  have ex584 : x584 = 1 := ex584.trans (by decide)
  subst ex584
  refine va_sld hx hb hX hbl hbA hS (vi_ok (by decide)) dL_law_570 ?_
  refine lv_aload_n hx hb dL_law_571 rfl (lv_at hl 3 rfl) ?_
  refine lv_iload_n hx hb dL_law_572 rfl (lv_at hl 0 rfl) ?_
  refine lv_iconst (v := 2) hx hb dL_law_573 (by decide) ?_
  refine lv_iadd hx hb dL_law_574 ?_
  refine lv_topi (fun x585 ex585 => ?_)
  have ex585 : x585 = 2 := ex585.trans (by decide)
  subst ex585
  refine va_sld hx hb hX hbl hbA hS (vi_ok (by decide)) dL_law_575 ?_
  refine k_pi (va_runV (As := [.int (xs (1 : Int32).toNatClampNeg), .int (xs (2 : Int32).toNatClampNeg)]) (rest := []) ⟨hx, hb, hml, hown, hts⟩ (c_X7_readerOf l D H.size x h ps im lt k c o g1 g2 (xs (1 : Int32).toNatClampNeg) (xs (2 : Int32).toNatClampNeg) ) (cwV 2 hts gL_law_X7_readerOf rfl rfl rfl (by decide +kernel) ⟨(Nat.le_of_ble_eq_true rfl), (Nat.le_of_ble_eq_true rfl)⟩) ⟨mP_blind, va_recv hK hP (ci := 7) (q0 := 0) rfl rfl, m_pre _ hN hK hP hD [] rfl [0, 1, 2, 3, 6] rfl (by decide)⟩ rfl rfl hl.1 rfl (lv_room (Nat.le_of_ble_eq_true rfl)) dL_law_576 ⟨(Nat.le_of_ble_eq_true rfl), (Nat.le_of_ble_eq_true rfl)⟩) hP hD hS hA [0, 1, 2, 3, 6] rfl (fun r586 u H locs hw hP hS => ?_)
  have zw576 := hw
  refine lv_aload_n hx hb dL_law_579 rfl (lv_at hl 1 rfl) ?_
  refine lv_aload_n hx hb dL_law_580 rfl (lv_at hl 3 rfl) ?_
  refine lv_iload_n hx hb dL_law_581 rfl (lv_at hl 0 rfl) ?_
  refine lv_iconst (v := 1) hx hb dL_law_582 (by decide) ?_
  refine lv_iadd hx hb dL_law_583 ?_
  refine lv_topi (fun x587 ex587 => ?_)
  have ex587 : x587 = 1 := ex587.trans (by decide)
  subst ex587
  refine va_sld hx hb hX hbl hbA hS (vi_ok (by decide)) dL_law_584 ?_
  refine lv_aload_n hx hb dL_law_585 rfl (lv_at hl 3 rfl) ?_
  refine lv_iload_n hx hb dL_law_586 rfl (lv_at hl 0 rfl) ?_
  refine lv_iconst (v := 2) hx hb dL_law_587 (by decide) ?_
  refine lv_iadd hx hb dL_law_588 ?_
  refine lv_topi (fun x588 ex588 => ?_)
  have ex588 : x588 = 2 := ex588.trans (by decide)
  subst ex588
  refine va_sld hx hb hX hbl hbA hS (vi_ok (by decide)) dL_law_589 ?_
  refine k_pi (va_runV (As := [.int (xs (1 : Int32).toNatClampNeg), .int (xs (2 : Int32).toNatClampNeg)]) (rest := [.int r586]) ⟨hx, hb, hml, hown, hts⟩ (c_X8_readerOf l D H.size m am pam kam zam cAm 0 fm (xs (1 : Int32).toNatClampNeg) (xs (2 : Int32).toNatClampNeg) hF) (cwV 2 hts gL_law_X8_readerOf rfl rfl rfl (by decide +kernel) ⟨(Nat.le_of_ble_eq_true rfl), (Nat.le_of_ble_eq_true rfl)⟩) ⟨mP_blind, va_recv hK hP (ci := 8) (q0 := 14) rfl rfl, m_pre _ hN hK hP hD [4] rfl [14, 15] rfl (by decide)⟩ rfl rfl hl.1 rfl (lv_room (Nat.le_of_ble_eq_true rfl)) dL_law_590 ⟨(Nat.le_of_ble_eq_true rfl), (Nat.le_of_ble_eq_true rfl)⟩) hP hD hS hA [14, 15] rfl (fun r589 u H locs hw hP hS => ?_)
  have zw590 := hw
  refine lv_icmp_eq (tgt := 644) hx hb dL_law_593 (by decide) (fun zc593 => ?_) (fun hc => absurd (q2_eq zw576 zw590) hc)
  exact law_end C0 hAA hN hS (Nat.le_of_ble_eq_true rfl) (Nat.le_of_ble_eq_true rfl) (lv_sub hl [0, 3] rfl)
set_option maxHeartbeats 4000000 in
set_option maxRecDepth 100000 in
theorem law_keep {pp : Program} {ee : Env} {ss : State} {mm : MethodId} {bl : List Frame} {mt : Method} {cd : Code} {l : Launch} {b : Nat} {xs : Nat → Int32} (C0 : lw_At pp ss mm mt cd b 5 xs) {D : va_G} {AA : Nat → Prop} (hAA : AA = fun q => ss.heap.size ≤ q) (hN : nW ss) {a1 a2 am c g1 g2 h ia im k kam lt m o pa pam ps x zam : Nat} {cA1 cA2 cP cI cAm cPm cKm cZm : ClassId} {f1 f2 fm fpm fkm : Nat → Int32} (hF : st0 fm) {H : Heap} {locs : List Loc} {ls : Array Slot} (hK : va_K D vwCl [(cA1, .int), (cA2, .int), (cP, .object "LoanHouse$House"), (cI, .object "LoanHouse$House"), (cAm, .int), (cPm, .int), (cKm, .int), (cZm, .boolean)] ss) (hP : va_P D vwCl [(x, .inr (7, [.ref h, .ref ps, .ref im, .ref lt, .int 0, .int 0])), (h, .inr (4, [.ref k, .ref c, .ref o, .int 0])), (k, .inr (0, [.int 0, .int 14, .int 3, .int 64])), (c, .inr (1, [.ref g1, .int 0])), (g1, .inr (2, [.int 16, .int 5, .ref a1])), (a1, .inl (cA1, 80, .inl f1)), (o, .inr (3, [.ref g2, .int 0, .int 0])), (g2, .inr (2, [.int 12, .int 7, .ref a2])), (a2, .inl (cA2, 84, .inl f2)), (ps, .inr (6, [.ref pa])), (pa, .inl (cP, 8, .inr (.inr (.inr (.inr (fun _ => none)))))), (im, .inr (6, [.ref ia])), (ia, .inl (cI, 2, .inr (.inr (.inr (.inr (fun _ => none)))))), (lt, .inr (5, [.long 0])), (m, .inr (8, [.ref am, .ref pam, .int 0, .ref kam, .ref zam, .long 0])), (am, .inl (cAm, 172, .inl fm)), (pam, .inl (cPm, 1376, .inl fpm)), (kam, .inl (cKm, 344, .inl fkm)), (zam, .inl (cZm, 2, .inl (fun _ => 0)))] H) (hD : va_D AA [(x, .inr (7, [.ref h, .ref ps, .ref im, .ref lt, .int 0, .int 0])), (h, .inr (4, [.ref k, .ref c, .ref o, .int 0])), (k, .inr (0, [.int 0, .int 14, .int 3, .int 64])), (c, .inr (1, [.ref g1, .int 0])), (g1, .inr (2, [.int 16, .int 5, .ref a1])), (a1, .inl (cA1, 80, .inl f1)), (o, .inr (3, [.ref g2, .int 0, .int 0])), (g2, .inr (2, [.int 12, .int 7, .ref a2])), (a2, .inl (cA2, 84, .inl f2)), (ps, .inr (6, [.ref pa])), (pa, .inl (cP, 8, .inr (.inr (.inr (.inr (fun _ => none)))))), (im, .inr (6, [.ref ia])), (ia, .inl (cI, 2, .inr (.inr (.inr (.inr (fun _ => none)))))), (lt, .inr (5, [.long 0])), (m, .inr (8, [.ref am, .ref pam, .int 0, .ref kam, .ref zam, .long 0])), (am, .inl (cAm, 172, .inl fm)), (pam, .inl (cPm, 1376, .inl fpm)), (kam, .inl (cKm, 344, .inl fkm)), (zam, .inl (cZm, 2, .inl (fun _ => 0)))]) (hS : va_S AA ss.heap H locs) (hl : lv_has ls 4 [(3, .int 0), (2, .ref m), (1, .ref x), (0, .ref b)]) : W pp l ee room_1 ss mm #[Value.ref b] bl mt cd H locs 19 2102 (lw_Z bl #[Value.ref b] ss) (F0 mm 598 ls []) := by
  obtain ⟨hx, hb, hr, hml, hown, hts0, hX, hbl, hlocks, hgv⟩ := id C0
  have hts : ∀ w ∈ lw_tbl, w.before #[Value.ref b] ss = true := hts0
  have hA : ∀ q, ss.heap.size ≤ q → AA q := fun q h => by rw [hAA]; exact h
  have hbA : ¬ AA b := by rw [hAA]; exact Nat.not_le.mpr hbl
  refine lv_aload_n hx hb dL_law_598 rfl (lv_at hl 2 rfl) ?_
  refine lv_aload_n hx hb dL_law_599 rfl (lv_at hl 3 rfl) ?_
  refine lv_iload_n hx hb dL_law_600 rfl (lv_at hl 0 rfl) ?_
  refine lv_iconst (v := 1) hx hb dL_law_601 (by decide) ?_
  refine lv_iadd hx hb dL_law_602 ?_
  refine lv_topi (fun x590 ex590 => ?_)
  have ex590 : x590 = 1 := ex590.trans (by decide)
  subst ex590
  refine va_sld hx hb hX hbl hbA hS (vi_ok (by decide)) dL_law_603 ?_
  refine k_i (wr := [(ps, .inr (6, [.ref pa])), (pa, .inl (cP, 8, .inr (.inr (.inr (.inr (fun _ => none)))))), (lt, .inr (5, [.long 0])), (m, .inr (8, [.ref am, .ref pam, .int 0, .ref kam, .ref zam, .long 0])), (am, .inl (cAm, 172, .inl fm)), (pam, .inl (cPm, 1376, .inl fpm)), (kam, .inl (cKm, 344, .inl fkm)), (zam, .inl (cZm, 2, .inl (fun _ => 0)))]) (va_runV (As := [.int (xs (1 : Int32).toNatClampNeg)]) (rest := []) ⟨hx, hb, hml, hown, hts⟩ (c_X7_keep l D H.size x ps im ia lt cI h k c g1 a1 o g2 a2 cA1 cA2 f1 f2 (xs (1 : Int32).toNatClampNeg) ) (cwV 1 hts gL_law_X7_keep rfl rfl rfl (by decide +kernel) ⟨(Nat.le_of_ble_eq_true rfl), (Nat.le_of_ble_eq_true rfl)⟩) ⟨mP_blind, va_recv hK hP (ci := 7) (q0 := 0) rfl rfl, m_pre _ hN hK hP hD [3, 0, 1] rfl [0, 11, 12, 1, 2, 3, 4, 5, 6, 7, 8] rfl (by decide)⟩ rfl rfl hl.1 rfl (lv_room (Nat.le_of_ble_eq_true rfl)) dL_law_604 ⟨(Nat.le_of_ble_eq_true rfl), (Nat.le_of_ble_eq_true rfl)⟩) hP hD hS hA [0, 11, 12, 1, 2, 3, 4, 5, 6, 7, 8] [9, 10, 13, 14, 15, 16, 17, 18] rfl rfl (by decide) (by decide) (fun r591 u H locs hw hK1 hP hD hS => ?_)
  have hP : va_P D vwCl [(ps, .inr (6, [.ref pa])), (pa, .inl (cP, 8, .inr (.inr (.inr (.inr (fun _ => none)))))), (lt, .inr (5, [.long 0])), (m, .inr (8, [.ref am, .ref pam, .int 0, .ref kam, .ref zam, .long 0])), (am, .inl (cAm, 172, .inl fm)), (pam, .inl (cPm, 1376, .inl fpm)), (kam, .inl (cKm, 344, .inl fkm)), (zam, .inl (cZm, 2, .inl (fun _ => 0)))] H := hP
  have hD : va_D AA [(ps, .inr (6, [.ref pa])), (pa, .inl (cP, 8, .inr (.inr (.inr (.inr (fun _ => none)))))), (lt, .inr (5, [.long 0])), (m, .inr (8, [.ref am, .ref pam, .int 0, .ref kam, .ref zam, .long 0])), (am, .inl (cAm, 172, .inl fm)), (pam, .inl (cPm, 1376, .inl fpm)), (kam, .inl (cKm, 344, .inl fkm)), (zam, .inl (cZm, 2, .inl (fun _ => 0)))] := hD
  try dsimp only at hw
  refine W.widen (k := 27) (n := 2285) (Nat.le_of_ble_eq_true rfl) (Nat.le_of_ble_eq_true rfl) ?_
  have zw604 := hw
  refine lv_aload_n hx hb dL_law_607 rfl (lv_at hl 1 rfl) ?_
  refine lv_aload_n hx hb dL_law_608 rfl (lv_at hl 3 rfl) ?_
  refine lv_iload_n hx hb dL_law_609 rfl (lv_at hl 0 rfl) ?_
  refine lv_iconst (v := 1) hx hb dL_law_610 (by decide) ?_
  refine lv_iadd hx hb dL_law_611 ?_
  refine lv_topi (fun x592 ex592 => ?_)
  have ex592 : x592 = 1 := ex592.trans (by decide)
  subst ex592
  refine va_sld hx hb hX hbl hbA hS (vi_ok (by decide)) dL_law_612 ?_
  refine k_i (wr := [(ps, .inr (6, [.ref pa])), (pa, .inl (cP, 8, .inr (.inr (.inr (.inr (fun _ => none)))))), (lt, .inr (5, [.long 0])), (pam, .inl (cPm, 1376, .inl fpm))]) (va_runV (As := [.int (xs (1 : Int32).toNatClampNeg)]) (rest := [.int r591]) ⟨hx, hb, hml, hown, hts⟩ (c_X8_keep l D H.size m am pam kam zam cAm cKm cZm 0 fm fkm (xs (1 : Int32).toNatClampNeg) hF) (cwV 1 hts gL_law_X8_keep rfl rfl rfl (by decide +kernel) ⟨(Nat.le_of_ble_eq_true rfl), (Nat.le_of_ble_eq_true rfl)⟩) ⟨mP_blind, va_recv hK hP (ci := 8) (q0 := 3) rfl rfl, m_pre _ hN hK hP hD [4, 6, 7] rfl [3, 4, 6, 7] rfl (by decide)⟩ rfl rfl hl.1 rfl (lv_room (Nat.le_of_ble_eq_true rfl)) dL_law_613 ⟨(Nat.le_of_ble_eq_true rfl), (Nat.le_of_ble_eq_true rfl)⟩) hP hD hS hA [3, 4, 6, 7] [0, 1, 2, 5] rfl rfl (by decide) (by decide) (fun r593 u H locs hw hK1 hP hD hS => ?_)
  have hP : va_P D vwCl [(ps, .inr (6, [.ref pa])), (pa, .inl (cP, 8, .inr (.inr (.inr (.inr (fun _ => none)))))), (lt, .inr (5, [.long 0])), (pam, .inl (cPm, 1376, .inl fpm))] H := hP
  have hD : va_D AA [(ps, .inr (6, [.ref pa])), (pa, .inl (cP, 8, .inr (.inr (.inr (.inr (fun _ => none)))))), (lt, .inr (5, [.long 0])), (pam, .inl (cPm, 1376, .inl fpm))] := hD
  try dsimp only at hw
  refine W.widen (k := 27) (n := 2285) (Nat.le_of_ble_eq_true rfl) (Nat.le_of_ble_eq_true rfl) ?_
  have zw613 := hw
  refine lv_icmp_eq (tgt := 644) hx hb dL_law_616 (by decide) (fun zc616 => ?_) (fun hc => absurd (q2_eq zw604 zw613) hc)
  exact law_end C0 hAA hN hS (Nat.le_of_ble_eq_true rfl) (Nat.le_of_ble_eq_true rfl) (lv_sub hl [0, 3] rfl)
set_option maxHeartbeats 4000000 in
set_option maxRecDepth 100000 in
theorem law_goBack {pp : Program} {ee : Env} {ss : State} {mm : MethodId} {bl : List Frame} {mt : Method} {cd : Code} {l : Launch} {b : Nat} {xs : Nat → Int32} (C0 : lw_At pp ss mm mt cd b 5 xs) {D : va_G} {AA : Nat → Prop} (hAA : AA = fun q => ss.heap.size ≤ q) (hN : nW ss) {a1 a2 am c g1 g2 h ia im k kam lt m o pa pam ps x zam : Nat} {cA1 cA2 cP cI cAm cPm cKm cZm : ClassId} {f1 f2 fm fpm fkm : Nat → Int32} (hF : st0 fm) {H : Heap} {locs : List Loc} {ls : Array Slot} (hK : va_K D vwCl [(cA1, .int), (cA2, .int), (cP, .object "LoanHouse$House"), (cI, .object "LoanHouse$House"), (cAm, .int), (cPm, .int), (cKm, .int), (cZm, .boolean)] ss) (hP : va_P D vwCl [(x, .inr (7, [.ref h, .ref ps, .ref im, .ref lt, .int 0, .int 0])), (h, .inr (4, [.ref k, .ref c, .ref o, .int 0])), (k, .inr (0, [.int 0, .int 14, .int 3, .int 64])), (c, .inr (1, [.ref g1, .int 0])), (g1, .inr (2, [.int 16, .int 5, .ref a1])), (a1, .inl (cA1, 80, .inl f1)), (o, .inr (3, [.ref g2, .int 0, .int 0])), (g2, .inr (2, [.int 12, .int 7, .ref a2])), (a2, .inl (cA2, 84, .inl f2)), (ps, .inr (6, [.ref pa])), (pa, .inl (cP, 8, .inr (.inr (.inr (.inr (fun _ => none)))))), (im, .inr (6, [.ref ia])), (ia, .inl (cI, 2, .inr (.inr (.inr (.inr (fun _ => none)))))), (lt, .inr (5, [.long 0])), (m, .inr (8, [.ref am, .ref pam, .int 0, .ref kam, .ref zam, .long 0])), (am, .inl (cAm, 172, .inl fm)), (pam, .inl (cPm, 1376, .inl fpm)), (kam, .inl (cKm, 344, .inl fkm)), (zam, .inl (cZm, 2, .inl (fun _ => 0)))] H) (hD : va_D AA [(x, .inr (7, [.ref h, .ref ps, .ref im, .ref lt, .int 0, .int 0])), (h, .inr (4, [.ref k, .ref c, .ref o, .int 0])), (k, .inr (0, [.int 0, .int 14, .int 3, .int 64])), (c, .inr (1, [.ref g1, .int 0])), (g1, .inr (2, [.int 16, .int 5, .ref a1])), (a1, .inl (cA1, 80, .inl f1)), (o, .inr (3, [.ref g2, .int 0, .int 0])), (g2, .inr (2, [.int 12, .int 7, .ref a2])), (a2, .inl (cA2, 84, .inl f2)), (ps, .inr (6, [.ref pa])), (pa, .inl (cP, 8, .inr (.inr (.inr (.inr (fun _ => none)))))), (im, .inr (6, [.ref ia])), (ia, .inl (cI, 2, .inr (.inr (.inr (.inr (fun _ => none)))))), (lt, .inr (5, [.long 0])), (m, .inr (8, [.ref am, .ref pam, .int 0, .ref kam, .ref zam, .long 0])), (am, .inl (cAm, 172, .inl fm)), (pam, .inl (cPm, 1376, .inl fpm)), (kam, .inl (cKm, 344, .inl fkm)), (zam, .inl (cZm, 2, .inl (fun _ => 0)))]) (hS : va_S AA ss.heap H locs) (hl : lv_has ls 4 [(3, .int 0), (2, .ref m), (1, .ref x), (0, .ref b)]) : W pp l ee room_1 ss mm #[Value.ref b] bl mt cd H locs 19 2102 (lw_Z bl #[Value.ref b] ss) (F0 mm 621 ls []) := by
  obtain ⟨hx, hb, hr, hml, hown, hts0, hX, hbl, hlocks, hgv⟩ := id C0
  have hts : ∀ w ∈ lw_tbl, w.before #[Value.ref b] ss = true := hts0
  have hA : ∀ q, ss.heap.size ≤ q → AA q := fun q h => by rw [hAA]; exact h
  have hbA : ¬ AA b := by rw [hAA]; exact Nat.not_le.mpr hbl
  refine lv_aload_n hx hb dL_law_621 rfl (lv_at hl 2 rfl) ?_
  refine lv_aload_n hx hb dL_law_622 rfl (lv_at hl 3 rfl) ?_
  refine lv_iload_n hx hb dL_law_623 rfl (lv_at hl 0 rfl) ?_
  refine lv_iconst (v := 1) hx hb dL_law_624 (by decide) ?_
  refine lv_iadd hx hb dL_law_625 ?_
  refine lv_topi (fun x594 ex594 => ?_)
  have ex594 : x594 = 1 := ex594.trans (by decide)
  subst ex594
  refine va_sld hx hb hX hbl hbA hS (vi_ok (by decide)) dL_law_626 ?_
  refine k_pi (va_runV (As := [.int (xs (1 : Int32).toNatClampNeg)]) (rest := []) ⟨hx, hb, hml, hown, hts⟩ (c_X7_goBack l D H.size x h ps im ia lt cI (xs (1 : Int32).toNatClampNeg) ) (cwV 1 hts gL_law_X7_goBack rfl rfl rfl (by decide +kernel) ⟨(Nat.le_of_ble_eq_true rfl), (Nat.le_of_ble_eq_true rfl)⟩) ⟨mP_blind, va_recv hK hP (ci := 7) (q0 := 0) rfl rfl, m_pre _ hN hK hP hD [3] rfl [0, 11, 12] rfl (by decide)⟩ rfl rfl hl.1 rfl (lv_room (Nat.le_of_ble_eq_true rfl)) dL_law_627 ⟨(Nat.le_of_ble_eq_true rfl), (Nat.le_of_ble_eq_true rfl)⟩) hP hD hS hA [0, 11, 12] rfl (fun r595 u H locs hw hP hS => ?_)
  have zw627 := hw
  refine lv_aload_n hx hb dL_law_630 rfl (lv_at hl 1 rfl) ?_
  refine lv_aload_n hx hb dL_law_631 rfl (lv_at hl 3 rfl) ?_
  refine lv_iload_n hx hb dL_law_632 rfl (lv_at hl 0 rfl) ?_
  refine lv_iconst (v := 1) hx hb dL_law_633 (by decide) ?_
  refine lv_iadd hx hb dL_law_634 ?_
  refine lv_topi (fun x596 ex596 => ?_)
  have ex596 : x596 = 1 := ex596.trans (by decide)
  subst ex596
  refine va_sld hx hb hX hbl hbA hS (vi_ok (by decide)) dL_law_635 ?_
  refine k_pi (va_runV (As := [.int (xs (1 : Int32).toNatClampNeg)]) (rest := [.int r595]) ⟨hx, hb, hml, hown, hts⟩ (c_X8_goBack l D H.size m am pam kam zam cZm 0 (xs (1 : Int32).toNatClampNeg) ) (cwV 1 hts gL_law_X8_goBack rfl rfl rfl (by decide +kernel) ⟨(Nat.le_of_ble_eq_true rfl), (Nat.le_of_ble_eq_true rfl)⟩) ⟨mP_blind, va_recv hK hP (ci := 8) (q0 := 14) rfl rfl, m_pre _ hN hK hP hD [7] rfl [14, 18] rfl (by decide)⟩ rfl rfl hl.1 rfl (lv_room (Nat.le_of_ble_eq_true rfl)) dL_law_636 ⟨(Nat.le_of_ble_eq_true rfl), (Nat.le_of_ble_eq_true rfl)⟩) hP hD hS hA [14, 18] rfl (fun r597 u H locs hw hP hS => ?_)
  have zw636 := hw
  refine lv_icmp_eq (tgt := 644) hx hb dL_law_639 (by decide) (fun zc639 => ?_) (fun hc => absurd (q2_eq zw627 zw636) hc)
  exact law_end C0 hAA hN hS (Nat.le_of_ble_eq_true rfl) (Nat.le_of_ble_eq_true rfl) (lv_sub hl [0, 3] rfl)
