set_option maxHeartbeats 4000000 in
set_option maxRecDepth 100000 in
theorem law_end {pp : Program} {ee : Env} {ss : State} {mm : MethodId} {bl : List Frame} {mt : Method} {cd : Code} {l : Launch} {b : Nat} {xs : Nat → Int32} (C0 : lw_At pp ss mm mt cd b 5 xs) {AA : Nat → Prop} (hAA : AA = fun q => ss.heap.size ≤ q) (hN : nW ss) {H : Heap} {locs : List Loc} {ls : Array Slot} {cells slots : Nat} (hS : va_S AA ss.heap H locs) (h1 : cells ≤ 600000) (h2 : slots ≤ 7302249) (hl : lv_has ls 4 [(3, .int 0), (0, .ref b)]) : W pp l ee room_1 ss mm #[Value.ref b] bl mt cd H locs cells slots (lw_Z bl #[Value.ref b] ss) (F0 mm 644 ls []) := by
  obtain ⟨hx, hb, hr, hml, hown, hts0, hX, hbl, hlocks, hgv⟩ := id C0
  have hts : ∀ w ∈ lw_tbl, w.before #[Value.ref b] ss = true := hts0
  have hA : ∀ q, ss.heap.size ≤ q → AA q := fun q h => by rw [hAA]; exact h
  have hbA : ¬ AA b := by rw [hAA]; exact Nat.not_le.mpr hbl
  refine lv_iinc (v := 5) (lv' := [(3, .int 5), (0, .ref b)]) hx hb dL_law_644 hl (k := 0) rfl (by decide) (by decide) rfl (fun ls hl => ?_)
  refine lv_goto (tgt := 18) hx hb dL_law_647 (by decide) ?_
  refine lv_iload_n hx hb dL_law_18 rfl (lv_at hl 0 rfl) ?_
  refine lv_aload_n hx hb dL_law_19 rfl (lv_at hl 1 rfl) ?_
  refine va_slen hx hb hX hbl hbA hS dL_law_20 ?_
  refine lv_iconst (v := 5) hx hb dL_law_21 (by decide) ?_
  refine lv_isub hx hb dL_law_22 ?_
  refine lv_topi (fun x503 ex503 => ?_)
  have ex503 : x503 = 0 := ex503.trans (by decide)
  subst ex503
  refine lv_icmp_gt (tgt := 650) hx hb dL_law_23 (by decide) (fun zc23 => ?_) (fun hc => absurd (by decide) hc)
  refine lv_iconst (v := 1) hx hb dL_law_650 (by decide) ?_
  refine va_forget (fun q hq => by have := hS.2.2 q hq; rw [hAA] at this; exact this) ?_
  refine W.widen (k := 600000) (n := 7302249) h1 h2 ?_
  exact lw_ret hx hb hr hlocks dL_law_651
set_option maxHeartbeats 4000000 in
set_option maxRecDepth 100000 in
theorem law_copy {pp : Program} {ee : Env} {ss : State} {mm : MethodId} {bl : List Frame} {mt : Method} {cd : Code} {l : Launch} {b : Nat} {xs : Nat → Int32} (C0 : lw_At pp ss mm mt cd b 5 xs) {D : va_G} {AA : Nat → Prop} (hAA : AA = fun q => ss.heap.size ≤ q) (hN : nW ss) {a1 a2 am c g1 g2 h ia im k kam lt m o pa pam ps x zam : Nat} {cA1 cA2 cP cI cAm cPm cKm cZm : ClassId} {f1 f2 fm fpm fkm : Nat → Int32} (hF : st0 fm) {H : Heap} {locs : List Loc} {ls : Array Slot} (hK : va_K D vwCl [(cA1, .int), (cA2, .int), (cP, .object "LoanHouse$House"), (cI, .object "LoanHouse$House"), (cAm, .int), (cPm, .int), (cKm, .int), (cZm, .boolean)] ss) (hP : va_P D vwCl [(x, .inr (7, [.ref h, .ref ps, .ref im, .ref lt, .int 0, .int 0])), (h, .inr (4, [.ref k, .ref c, .ref o, .int 0])), (k, .inr (0, [.int 0, .int 14, .int 3, .int 64])), (c, .inr (1, [.ref g1, .int 0])), (g1, .inr (2, [.int 16, .int 5, .ref a1])), (a1, .inl (cA1, 80, .inl f1)), (o, .inr (3, [.ref g2, .int 0, .int 0])), (g2, .inr (2, [.int 12, .int 7, .ref a2])), (a2, .inl (cA2, 84, .inl f2)), (ps, .inr (6, [.ref pa])), (pa, .inl (cP, 8, .inr (.inr (.inr (.inr (fun _ => none)))))), (im, .inr (6, [.ref ia])), (ia, .inl (cI, 2, .inr (.inr (.inr (.inr (fun _ => none)))))), (lt, .inr (5, [.long 0])), (m, .inr (8, [.ref am, .ref pam, .int 0, .ref kam, .ref zam, .long 0])), (am, .inl (cAm, 172, .inl fm)), (pam, .inl (cPm, 1376, .inl fpm)), (kam, .inl (cKm, 344, .inl fkm)), (zam, .inl (cZm, 2, .inl (fun _ => 0)))] H) (hD : va_D AA [(x, .inr (7, [.ref h, .ref ps, .ref im, .ref lt, .int 0, .int 0])), (h, .inr (4, [.ref k, .ref c, .ref o, .int 0])), (k, .inr (0, [.int 0, .int 14, .int 3, .int 64])), (c, .inr (1, [.ref g1, .int 0])), (g1, .inr (2, [.int 16, .int 5, .ref a1])), (a1, .inl (cA1, 80, .inl f1)), (o, .inr (3, [.ref g2, .int 0, .int 0])), (g2, .inr (2, [.int 12, .int 7, .ref a2])), (a2, .inl (cA2, 84, .inl f2)), (ps, .inr (6, [.ref pa])), (pa, .inl (cP, 8, .inr (.inr (.inr (.inr (fun _ => none)))))), (im, .inr (6, [.ref ia])), (ia, .inl (cI, 2, .inr (.inr (.inr (.inr (fun _ => none)))))), (lt, .inr (5, [.long 0])), (m, .inr (8, [.ref am, .ref pam, .int 0, .ref kam, .ref zam, .long 0])), (am, .inl (cAm, 172, .inl fm)), (pam, .inl (cPm, 1376, .inl fpm)), (kam, .inl (cKm, 344, .inl fkm)), (zam, .inl (cZm, 2, .inl (fun _ => 0)))]) (hS : va_S AA ss.heap H locs) (hl : lv_has ls 4 [(3, .int 0), (2, .ref m), (1, .ref x), (0, .ref b)]) : W pp l ee room_1 ss mm #[Value.ref b] bl mt cd H locs 19 2102 (lw_Z bl #[Value.ref b] ss) (F0 mm 120 ls []) := by
  obtain ⟨hx, hb, hr, hml, hown, hts0, hX, hbl, hlocks, hgv⟩ := id C0
  have hts : ∀ w ∈ lw_tbl, w.before #[Value.ref b] ss = true := hts0
  have hA : ∀ q, ss.heap.size ≤ q → AA q := fun q h => by rw [hAA]; exact h
  have hbA : ¬ AA b := by rw [hAA]; exact Nat.not_le.mpr hbl
  refine lv_aload_n hx hb dL_law_120 rfl (lv_at hl 2 rfl) ?_
  refine lv_aload_n hx hb dL_law_121 rfl (lv_at hl 3 rfl) ?_
  refine lv_iload_n hx hb dL_law_122 rfl (lv_at hl 0 rfl) ?_
  refine lv_iconst (v := 1) hx hb dL_law_123 (by decide) ?_
  refine lv_iadd hx hb dL_law_124 ?_
  refine lv_topi (fun x504 ex504 => ?_)
  have ex504 : x504 = 1 := ex504.trans (by decide)
  subst ex504
  refine va_sld hx hb hX hbl hbA hS (vi_ok (by decide)) dL_law_125 ?_
  refine lv_aload_n hx hb dL_law_126 rfl (lv_at hl 3 rfl) ?_
  refine lv_iload_n hx hb dL_law_127 rfl (lv_at hl 0 rfl) ?_
  refine lv_iconst (v := 2) hx hb dL_law_128 (by decide) ?_
  refine lv_iadd hx hb dL_law_129 ?_
  refine lv_topi (fun x505 ex505 => ?_)
  have ex505 : x505 = 2 := ex505.trans (by decide)
  subst ex505
  refine va_sld hx hb hX hbl hbA hS (vi_ok (by decide)) dL_law_130 ?_
  refine k_i (wr := [(im, .inr (6, [.ref ia])), (ia, .inl (cI, 2, .inr (.inr (.inr (.inr (fun _ => none)))))), (lt, .inr (5, [.long 0])), (m, .inr (8, [.ref am, .ref pam, .int 0, .ref kam, .ref zam, .long 0])), (am, .inl (cAm, 172, .inl fm)), (pam, .inl (cPm, 1376, .inl fpm)), (kam, .inl (cKm, 344, .inl fkm)), (zam, .inl (cZm, 2, .inl (fun _ => 0)))]) (va_runV (As := [.int (xs (1 : Int32).toNatClampNeg), .int (xs (2 : Int32).toNatClampNeg)]) (rest := []) ⟨hx, hb, hml, hown, hts⟩ (c_X7_copy l D H.size x ps pa im lt cP h k c g1 a1 o g2 a2 cA1 cA2 f1 f2 (xs (1 : Int32).toNatClampNeg) (xs (2 : Int32).toNatClampNeg) ) (cwV 2 hts gL_law_X7_copy rfl rfl rfl (by decide +kernel) ⟨(Nat.le_of_ble_eq_true rfl), (Nat.le_of_ble_eq_true rfl)⟩) ⟨mP_blind, va_recv hK hP (ci := 7) (q0 := 0) rfl rfl, m_pre _ hN hK hP hD [2, 0, 1] rfl [0, 9, 10, 1, 2, 3, 4, 5, 6, 7, 8] rfl (by decide)⟩ rfl rfl hl.1 rfl (lv_room (Nat.le_of_ble_eq_true rfl)) dL_law_131 ⟨(Nat.le_of_ble_eq_true rfl), (Nat.le_of_ble_eq_true rfl)⟩) hP hD hS hA [0, 9, 10, 1, 2, 3, 4, 5, 6, 7, 8] [11, 12, 13, 14, 15, 16, 17, 18] rfl rfl (by decide) (by decide) (fun r506 u H locs hw hK1 hP hD hS => ?_)
  have hP : va_P D vwCl [(im, .inr (6, [.ref ia])), (ia, .inl (cI, 2, .inr (.inr (.inr (.inr (fun _ => none)))))), (lt, .inr (5, [.long 0])), (m, .inr (8, [.ref am, .ref pam, .int 0, .ref kam, .ref zam, .long 0])), (am, .inl (cAm, 172, .inl fm)), (pam, .inl (cPm, 1376, .inl fpm)), (kam, .inl (cKm, 344, .inl fkm)), (zam, .inl (cZm, 2, .inl (fun _ => 0)))] H := hP
  have hD : va_D AA [(im, .inr (6, [.ref ia])), (ia, .inl (cI, 2, .inr (.inr (.inr (.inr (fun _ => none)))))), (lt, .inr (5, [.long 0])), (m, .inr (8, [.ref am, .ref pam, .int 0, .ref kam, .ref zam, .long 0])), (am, .inl (cAm, 172, .inl fm)), (pam, .inl (cPm, 1376, .inl fpm)), (kam, .inl (cKm, 344, .inl fkm)), (zam, .inl (cZm, 2, .inl (fun _ => 0)))] := hD
  try dsimp only at hw
  refine W.widen (k := 27) (n := 2285) (Nat.le_of_ble_eq_true rfl) (Nat.le_of_ble_eq_true rfl) ?_
  have zw131 := hw
  refine lv_aload_n hx hb dL_law_134 rfl (lv_at hl 1 rfl) ?_
  refine lv_aload_n hx hb dL_law_135 rfl (lv_at hl 3 rfl) ?_
  refine lv_iload_n hx hb dL_law_136 rfl (lv_at hl 0 rfl) ?_
  refine lv_iconst (v := 1) hx hb dL_law_137 (by decide) ?_
  refine lv_iadd hx hb dL_law_138 ?_
  refine lv_topi (fun x507 ex507 => ?_)
  have ex507 : x507 = 1 := ex507.trans (by decide)
  subst ex507
  refine va_sld hx hb hX hbl hbA hS (vi_ok (by decide)) dL_law_139 ?_
  refine lv_aload_n hx hb dL_law_140 rfl (lv_at hl 3 rfl) ?_
  refine lv_iload_n hx hb dL_law_141 rfl (lv_at hl 0 rfl) ?_
  refine lv_iconst (v := 2) hx hb dL_law_142 (by decide) ?_
  refine lv_iadd hx hb dL_law_143 ?_
  refine lv_topi (fun x508 ex508 => ?_)
  have ex508 : x508 = 2 := ex508.trans (by decide)
  subst ex508
  refine va_sld hx hb hX hbl hbA hS (vi_ok (by decide)) dL_law_144 ?_
  refine k_i (wr := [(im, .inr (6, [.ref ia])), (ia, .inl (cI, 2, .inr (.inr (.inr (.inr (fun _ => none)))))), (lt, .inr (5, [.long 0])), (kam, .inl (cKm, 344, .inl fkm)), (zam, .inl (cZm, 2, .inl (fun _ => 0)))]) (va_runV (As := [.int (xs (1 : Int32).toNatClampNeg), .int (xs (2 : Int32).toNatClampNeg)]) (rest := [.int r506]) ⟨hx, hb, hml, hown, hts⟩ (c_X8_copy l D H.size m am pam kam zam cAm cPm 0 fm fpm (xs (1 : Int32).toNatClampNeg) (xs (2 : Int32).toNatClampNeg) hF) (cwV 2 hts gL_law_X8_copy rfl rfl rfl (by decide +kernel) ⟨(Nat.le_of_ble_eq_true rfl), (Nat.le_of_ble_eq_true rfl)⟩) ⟨mP_blind, va_recv hK hP (ci := 8) (q0 := 3) rfl rfl, m_pre _ hN hK hP hD [4, 5] rfl [3, 4, 5] rfl (by decide)⟩ rfl rfl hl.1 rfl (lv_room (Nat.le_of_ble_eq_true rfl)) dL_law_145 ⟨(Nat.le_of_ble_eq_true rfl), (Nat.le_of_ble_eq_true rfl)⟩) hP hD hS hA [3, 4, 5] [0, 1, 2, 6, 7] rfl rfl (by decide) (by decide) (fun r509 u H locs hw hK1 hP hD hS => ?_)
  have hP : va_P D vwCl [(im, .inr (6, [.ref ia])), (ia, .inl (cI, 2, .inr (.inr (.inr (.inr (fun _ => none)))))), (lt, .inr (5, [.long 0])), (kam, .inl (cKm, 344, .inl fkm)), (zam, .inl (cZm, 2, .inl (fun _ => 0)))] H := hP
  have hD : va_D AA [(im, .inr (6, [.ref ia])), (ia, .inl (cI, 2, .inr (.inr (.inr (.inr (fun _ => none)))))), (lt, .inr (5, [.long 0])), (kam, .inl (cKm, 344, .inl fkm)), (zam, .inl (cZm, 2, .inl (fun _ => 0)))] := hD
  try dsimp only at hw
  refine W.widen (k := 27) (n := 2285) (Nat.le_of_ble_eq_true rfl) (Nat.le_of_ble_eq_true rfl) ?_
  have zw145 := hw
  refine lv_icmp_eq (tgt := 644) hx hb dL_law_148 (by decide) (fun zc148 => ?_) (fun hc => absurd (q2_eq zw131 zw145) hc)
  exact law_end C0 hAA hN hS (Nat.le_of_ble_eq_true rfl) (Nat.le_of_ble_eq_true rfl) (lv_sub hl [0, 3] rfl)
set_option maxHeartbeats 4000000 in
set_option maxRecDepth 100000 in
theorem law_lend {pp : Program} {ee : Env} {ss : State} {mm : MethodId} {bl : List Frame} {mt : Method} {cd : Code} {l : Launch} {b : Nat} {xs : Nat → Int32} (C0 : lw_At pp ss mm mt cd b 5 xs) {D : va_G} {AA : Nat → Prop} (hAA : AA = fun q => ss.heap.size ≤ q) (hN : nW ss) {a1 a2 am c g1 g2 h ia im k kam lt m o pa pam ps x zam : Nat} {cA1 cA2 cP cI cAm cPm cKm cZm : ClassId} {f1 f2 fm fpm fkm : Nat → Int32} (hF : st0 fm) {H : Heap} {locs : List Loc} {ls : Array Slot} (hK : va_K D vwCl [(cA1, .int), (cA2, .int), (cP, .object "LoanHouse$House"), (cI, .object "LoanHouse$House"), (cAm, .int), (cPm, .int), (cKm, .int), (cZm, .boolean)] ss) (hP : va_P D vwCl [(x, .inr (7, [.ref h, .ref ps, .ref im, .ref lt, .int 0, .int 0])), (h, .inr (4, [.ref k, .ref c, .ref o, .int 0])), (k, .inr (0, [.int 0, .int 14, .int 3, .int 64])), (c, .inr (1, [.ref g1, .int 0])), (g1, .inr (2, [.int 16, .int 5, .ref a1])), (a1, .inl (cA1, 80, .inl f1)), (o, .inr (3, [.ref g2, .int 0, .int 0])), (g2, .inr (2, [.int 12, .int 7, .ref a2])), (a2, .inl (cA2, 84, .inl f2)), (ps, .inr (6, [.ref pa])), (pa, .inl (cP, 8, .inr (.inr (.inr (.inr (fun _ => none)))))), (im, .inr (6, [.ref ia])), (ia, .inl (cI, 2, .inr (.inr (.inr (.inr (fun _ => none)))))), (lt, .inr (5, [.long 0])), (m, .inr (8, [.ref am, .ref pam, .int 0, .ref kam, .ref zam, .long 0])), (am, .inl (cAm, 172, .inl fm)), (pam, .inl (cPm, 1376, .inl fpm)), (kam, .inl (cKm, 344, .inl fkm)), (zam, .inl (cZm, 2, .inl (fun _ => 0)))] H) (hD : va_D AA [(x, .inr (7, [.ref h, .ref ps, .ref im, .ref lt, .int 0, .int 0])), (h, .inr (4, [.ref k, .ref c, .ref o, .int 0])), (k, .inr (0, [.int 0, .int 14, .int 3, .int 64])), (c, .inr (1, [.ref g1, .int 0])), (g1, .inr (2, [.int 16, .int 5, .ref a1])), (a1, .inl (cA1, 80, .inl f1)), (o, .inr (3, [.ref g2, .int 0, .int 0])), (g2, .inr (2, [.int 12, .int 7, .ref a2])), (a2, .inl (cA2, 84, .inl f2)), (ps, .inr (6, [.ref pa])), (pa, .inl (cP, 8, .inr (.inr (.inr (.inr (fun _ => none)))))), (im, .inr (6, [.ref ia])), (ia, .inl (cI, 2, .inr (.inr (.inr (.inr (fun _ => none)))))), (lt, .inr (5, [.long 0])), (m, .inr (8, [.ref am, .ref pam, .int 0, .ref kam, .ref zam, .long 0])), (am, .inl (cAm, 172, .inl fm)), (pam, .inl (cPm, 1376, .inl fpm)), (kam, .inl (cKm, 344, .inl fkm)), (zam, .inl (cZm, 2, .inl (fun _ => 0)))]) (hS : va_S AA ss.heap H locs) (hl : lv_has ls 4 [(3, .int 0), (2, .ref m), (1, .ref x), (0, .ref b)]) : W pp l ee room_1 ss mm #[Value.ref b] bl mt cd H locs 19 2102 (lw_Z bl #[Value.ref b] ss) (F0 mm 153 ls []) := by
  obtain ⟨hx, hb, hr, hml, hown, hts0, hX, hbl, hlocks, hgv⟩ := id C0
  have hts : ∀ w ∈ lw_tbl, w.before #[Value.ref b] ss = true := hts0
  have hA : ∀ q, ss.heap.size ≤ q → AA q := fun q h => by rw [hAA]; exact h
  have hbA : ¬ AA b := by rw [hAA]; exact Nat.not_le.mpr hbl
  refine lv_aload_n hx hb dL_law_153 rfl (lv_at hl 2 rfl) ?_
  refine lv_aload_n hx hb dL_law_154 rfl (lv_at hl 3 rfl) ?_
  refine lv_iload_n hx hb dL_law_155 rfl (lv_at hl 0 rfl) ?_
  refine lv_iconst (v := 1) hx hb dL_law_156 (by decide) ?_
  refine lv_iadd hx hb dL_law_157 ?_
  refine lv_topi (fun x510 ex510 => ?_)
  have ex510 : x510 = 1 := ex510.trans (by decide)
  subst ex510
  refine va_sld hx hb hX hbl hbA hS (vi_ok (by decide)) dL_law_158 ?_
  refine lv_aload_n hx hb dL_law_159 rfl (lv_at hl 3 rfl) ?_
  refine lv_iload_n hx hb dL_law_160 rfl (lv_at hl 0 rfl) ?_
  refine lv_iconst (v := 2) hx hb dL_law_161 (by decide) ?_
  refine lv_iadd hx hb dL_law_162 ?_
  refine lv_topi (fun x511 ex511 => ?_)
  have ex511 : x511 = 2 := ex511.trans (by decide)
  subst ex511
  refine va_sld hx hb hX hbl hbA hS (vi_ok (by decide)) dL_law_163 ?_
  refine k_pi (va_runV (As := [.int (xs (1 : Int32).toNatClampNeg), .int (xs (2 : Int32).toNatClampNeg)]) (rest := []) ⟨hx, hb, hml, hown, hts⟩ (c_X7_lend l D H.size x h ps im lt k c o g1 0 0 0 (xs (1 : Int32).toNatClampNeg) (xs (2 : Int32).toNatClampNeg) ) (cwV 2 hts gL_law_X7_lend rfl rfl rfl (by decide +kernel) ⟨(Nat.le_of_ble_eq_true rfl), (Nat.le_of_ble_eq_true rfl)⟩) ⟨mP_blind, va_recv hK hP (ci := 7) (q0 := 0) rfl rfl, m_pre _ hN hK hP hD [] rfl [0, 1, 3] rfl (by decide)⟩ rfl rfl hl.1 rfl (lv_room (Nat.le_of_ble_eq_true rfl)) dL_law_164 ⟨(Nat.le_of_ble_eq_true rfl), (Nat.le_of_ble_eq_true rfl)⟩) hP hD hS hA [0, 1, 3] rfl (fun r512 u H locs hw hP hS => ?_)
  obtain rfl := hw
  refine lv_aload_n hx hb dL_law_167 rfl (lv_at hl 1 rfl) ?_
  refine lv_aload_n hx hb dL_law_168 rfl (lv_at hl 3 rfl) ?_
  refine lv_iload_n hx hb dL_law_169 rfl (lv_at hl 0 rfl) ?_
  refine lv_iconst (v := 1) hx hb dL_law_170 (by decide) ?_
  refine lv_iadd hx hb dL_law_171 ?_
  refine lv_topi (fun x513 ex513 => ?_)
  have ex513 : x513 = 1 := ex513.trans (by decide)
  subst ex513
  refine va_sld hx hb hX hbl hbA hS (vi_ok (by decide)) dL_law_172 ?_
  refine lv_aload_n hx hb dL_law_173 rfl (lv_at hl 3 rfl) ?_
  refine lv_iload_n hx hb dL_law_174 rfl (lv_at hl 0 rfl) ?_
  refine lv_iconst (v := 2) hx hb dL_law_175 (by decide) ?_
  refine lv_iadd hx hb dL_law_176 ?_
  refine lv_topi (fun x514 ex514 => ?_)
  have ex514 : x514 = 2 := ex514.trans (by decide)
  subst ex514
  refine va_sld hx hb hX hbl hbA hS (vi_ok (by decide)) dL_law_177 ?_
  refine k_pi (va_runV (As := [.int (xs (1 : Int32).toNatClampNeg), .int (xs (2 : Int32).toNatClampNeg)]) (rest := [.int (-1000000001)]) ⟨hx, hb, hml, hown, hts⟩ (c_X8_lend l D H.size m am pam kam zam cAm 0 0 fm (xs (1 : Int32).toNatClampNeg) (xs (2 : Int32).toNatClampNeg) hF.2.2.2.2.1) (cwV 2 hts gL_law_X8_lend rfl rfl rfl (by decide +kernel) ⟨(Nat.le_of_ble_eq_true rfl), (Nat.le_of_ble_eq_true rfl)⟩) ⟨mP_blind, va_recv hK hP (ci := 8) (q0 := 14) rfl rfl, m_pre _ hN hK hP hD [4] rfl [14, 15] rfl (by decide)⟩ rfl rfl hl.1 rfl (lv_room (Nat.le_of_ble_eq_true rfl)) dL_law_178 ⟨(Nat.le_of_ble_eq_true rfl), (Nat.le_of_ble_eq_true rfl)⟩) hP hD hS hA [14, 15] rfl (fun r515 u H locs hw hP hS => ?_)
  obtain rfl := hw
  refine lv_icmp_eq (tgt := 644) hx hb dL_law_181 (by decide) (fun zc181 => ?_) (fun hc => absurd (by decide) hc)
  exact law_end C0 hAA hN hS (Nat.le_of_ble_eq_true rfl) (Nat.le_of_ble_eq_true rfl) (lv_sub hl [0, 3] rfl)
set_option maxHeartbeats 4000000 in
set_option maxRecDepth 100000 in
theorem law_giveBack {pp : Program} {ee : Env} {ss : State} {mm : MethodId} {bl : List Frame} {mt : Method} {cd : Code} {l : Launch} {b : Nat} {xs : Nat → Int32} (C0 : lw_At pp ss mm mt cd b 5 xs) {D : va_G} {AA : Nat → Prop} (hAA : AA = fun q => ss.heap.size ≤ q) (hN : nW ss) {a1 a2 am c g1 g2 h ia im k kam lt m o pa pam ps x zam : Nat} {cA1 cA2 cP cI cAm cPm cKm cZm : ClassId} {f1 f2 fm fpm fkm : Nat → Int32} (hF : st0 fm) {H : Heap} {locs : List Loc} {ls : Array Slot} (hK : va_K D vwCl [(cA1, .int), (cA2, .int), (cP, .object "LoanHouse$House"), (cI, .object "LoanHouse$House"), (cAm, .int), (cPm, .int), (cKm, .int), (cZm, .boolean)] ss) (hP : va_P D vwCl [(x, .inr (7, [.ref h, .ref ps, .ref im, .ref lt, .int 0, .int 0])), (h, .inr (4, [.ref k, .ref c, .ref o, .int 0])), (k, .inr (0, [.int 0, .int 14, .int 3, .int 64])), (c, .inr (1, [.ref g1, .int 0])), (g1, .inr (2, [.int 16, .int 5, .ref a1])), (a1, .inl (cA1, 80, .inl f1)), (o, .inr (3, [.ref g2, .int 0, .int 0])), (g2, .inr (2, [.int 12, .int 7, .ref a2])), (a2, .inl (cA2, 84, .inl f2)), (ps, .inr (6, [.ref pa])), (pa, .inl (cP, 8, .inr (.inr (.inr (.inr (fun _ => none)))))), (im, .inr (6, [.ref ia])), (ia, .inl (cI, 2, .inr (.inr (.inr (.inr (fun _ => none)))))), (lt, .inr (5, [.long 0])), (m, .inr (8, [.ref am, .ref pam, .int 0, .ref kam, .ref zam, .long 0])), (am, .inl (cAm, 172, .inl fm)), (pam, .inl (cPm, 1376, .inl fpm)), (kam, .inl (cKm, 344, .inl fkm)), (zam, .inl (cZm, 2, .inl (fun _ => 0)))] H) (hD : va_D AA [(x, .inr (7, [.ref h, .ref ps, .ref im, .ref lt, .int 0, .int 0])), (h, .inr (4, [.ref k, .ref c, .ref o, .int 0])), (k, .inr (0, [.int 0, .int 14, .int 3, .int 64])), (c, .inr (1, [.ref g1, .int 0])), (g1, .inr (2, [.int 16, .int 5, .ref a1])), (a1, .inl (cA1, 80, .inl f1)), (o, .inr (3, [.ref g2, .int 0, .int 0])), (g2, .inr (2, [.int 12, .int 7, .ref a2])), (a2, .inl (cA2, 84, .inl f2)), (ps, .inr (6, [.ref pa])), (pa, .inl (cP, 8, .inr (.inr (.inr (.inr (fun _ => none)))))), (im, .inr (6, [.ref ia])), (ia, .inl (cI, 2, .inr (.inr (.inr (.inr (fun _ => none)))))), (lt, .inr (5, [.long 0])), (m, .inr (8, [.ref am, .ref pam, .int 0, .ref kam, .ref zam, .long 0])), (am, .inl (cAm, 172, .inl fm)), (pam, .inl (cPm, 1376, .inl fpm)), (kam, .inl (cKm, 344, .inl fkm)), (zam, .inl (cZm, 2, .inl (fun _ => 0)))]) (hS : va_S AA ss.heap H locs) (hl : lv_has ls 4 [(3, .int 0), (2, .ref m), (1, .ref x), (0, .ref b)]) : W pp l ee room_1 ss mm #[Value.ref b] bl mt cd H locs 19 2102 (lw_Z bl #[Value.ref b] ss) (F0 mm 186 ls []) := by
  obtain ⟨hx, hb, hr, hml, hown, hts0, hX, hbl, hlocks, hgv⟩ := id C0
  have hts : ∀ w ∈ lw_tbl, w.before #[Value.ref b] ss = true := hts0
  have hA : ∀ q, ss.heap.size ≤ q → AA q := fun q h => by rw [hAA]; exact h
  have hbA : ¬ AA b := by rw [hAA]; exact Nat.not_le.mpr hbl
  refine lv_aload_n hx hb dL_law_186 rfl (lv_at hl 2 rfl) ?_
  refine lv_aload_n hx hb dL_law_187 rfl (lv_at hl 3 rfl) ?_
  refine lv_iload_n hx hb dL_law_188 rfl (lv_at hl 0 rfl) ?_
  refine lv_iconst (v := 1) hx hb dL_law_189 (by decide) ?_
  refine lv_iadd hx hb dL_law_190 ?_
  refine lv_topi (fun x516 ex516 => ?_)
  have ex516 : x516 = 1 := ex516.trans (by decide)
  subst ex516
  refine va_sld hx hb hX hbl hbA hS (vi_ok (by decide)) dL_law_191 ?_
  refine lv_aload_n hx hb dL_law_192 rfl (lv_at hl 3 rfl) ?_
  refine lv_iload_n hx hb dL_law_193 rfl (lv_at hl 0 rfl) ?_
  refine lv_iconst (v := 2) hx hb dL_law_194 (by decide) ?_
  refine lv_iadd hx hb dL_law_195 ?_
  refine lv_topi (fun x517 ex517 => ?_)
  have ex517 : x517 = 2 := ex517.trans (by decide)
  subst ex517
  refine va_sld hx hb hX hbl hbA hS (vi_ok (by decide)) dL_law_196 ?_
  refine k_pi (va_runV (As := [.int (xs (1 : Int32).toNatClampNeg), .int (xs (2 : Int32).toNatClampNeg)]) (rest := []) ⟨hx, hb, hml, hown, hts⟩ (c_X7_giveBack l D H.size x h ps im lt k c o g1 0 0 0 (xs (1 : Int32).toNatClampNeg) (xs (2 : Int32).toNatClampNeg) ) (cwV 2 hts gL_law_X7_giveBack rfl rfl rfl (by decide +kernel) ⟨(Nat.le_of_ble_eq_true rfl), (Nat.le_of_ble_eq_true rfl)⟩) ⟨mP_blind, va_recv hK hP (ci := 7) (q0 := 0) rfl rfl, m_pre _ hN hK hP hD [] rfl [0, 1, 3] rfl (by decide)⟩ rfl rfl hl.1 rfl (lv_room (Nat.le_of_ble_eq_true rfl)) dL_law_197 ⟨(Nat.le_of_ble_eq_true rfl), (Nat.le_of_ble_eq_true rfl)⟩) hP hD hS hA [0, 1, 3] rfl (fun r518 u H locs hw hP hS => ?_)
  obtain rfl := hw
  refine lv_aload_n hx hb dL_law_200 rfl (lv_at hl 1 rfl) ?_
  refine lv_aload_n hx hb dL_law_201 rfl (lv_at hl 3 rfl) ?_
  refine lv_iload_n hx hb dL_law_202 rfl (lv_at hl 0 rfl) ?_
  refine lv_iconst (v := 1) hx hb dL_law_203 (by decide) ?_
  refine lv_iadd hx hb dL_law_204 ?_
  refine lv_topi (fun x519 ex519 => ?_)
  have ex519 : x519 = 1 := ex519.trans (by decide)
  subst ex519
  refine va_sld hx hb hX hbl hbA hS (vi_ok (by decide)) dL_law_205 ?_
  refine lv_aload_n hx hb dL_law_206 rfl (lv_at hl 3 rfl) ?_
  refine lv_iload_n hx hb dL_law_207 rfl (lv_at hl 0 rfl) ?_
  refine lv_iconst (v := 2) hx hb dL_law_208 (by decide) ?_
  refine lv_iadd hx hb dL_law_209 ?_
  refine lv_topi (fun x520 ex520 => ?_)
  have ex520 : x520 = 2 := ex520.trans (by decide)
  subst ex520
  refine va_sld hx hb hX hbl hbA hS (vi_ok (by decide)) dL_law_210 ?_
  refine k_pi (va_runV (As := [.int (xs (1 : Int32).toNatClampNeg), .int (xs (2 : Int32).toNatClampNeg)]) (rest := [.int (-1000000001)]) ⟨hx, hb, hml, hown, hts⟩ (c_X8_giveBack l D H.size m am pam kam zam cAm 0 0 fm (xs (1 : Int32).toNatClampNeg) (xs (2 : Int32).toNatClampNeg) hF.2.2.2.2.1) (cwV 2 hts gL_law_X8_giveBack rfl rfl rfl (by decide +kernel) ⟨(Nat.le_of_ble_eq_true rfl), (Nat.le_of_ble_eq_true rfl)⟩) ⟨mP_blind, va_recv hK hP (ci := 8) (q0 := 14) rfl rfl, m_pre _ hN hK hP hD [4] rfl [14, 15] rfl (by decide)⟩ rfl rfl hl.1 rfl (lv_room (Nat.le_of_ble_eq_true rfl)) dL_law_211 ⟨(Nat.le_of_ble_eq_true rfl), (Nat.le_of_ble_eq_true rfl)⟩) hP hD hS hA [14, 15] rfl (fun r521 u H locs hw hP hS => ?_)
  obtain rfl := hw
  refine lv_icmp_eq (tgt := 644) hx hb dL_law_214 (by decide) (fun zc214 => ?_) (fun hc => absurd (by decide) hc)
  exact law_end C0 hAA hN hS (Nat.le_of_ble_eq_true rfl) (Nat.le_of_ble_eq_true rfl) (lv_sub hl [0, 3] rfl)
set_option maxHeartbeats 4000000 in
set_option maxRecDepth 100000 in
theorem law_renew {pp : Program} {ee : Env} {ss : State} {mm : MethodId} {bl : List Frame} {mt : Method} {cd : Code} {l : Launch} {b : Nat} {xs : Nat → Int32} (C0 : lw_At pp ss mm mt cd b 5 xs) {D : va_G} {AA : Nat → Prop} (hAA : AA = fun q => ss.heap.size ≤ q) (hN : nW ss) {a1 a2 am c g1 g2 h ia im k kam lt m o pa pam ps x zam : Nat} {cA1 cA2 cP cI cAm cPm cKm cZm : ClassId} {f1 f2 fm fpm fkm : Nat → Int32} (hF : st0 fm) {H : Heap} {locs : List Loc} {ls : Array Slot} (hK : va_K D vwCl [(cA1, .int), (cA2, .int), (cP, .object "LoanHouse$House"), (cI, .object "LoanHouse$House"), (cAm, .int), (cPm, .int), (cKm, .int), (cZm, .boolean)] ss) (hP : va_P D vwCl [(x, .inr (7, [.ref h, .ref ps, .ref im, .ref lt, .int 0, .int 0])), (h, .inr (4, [.ref k, .ref c, .ref o, .int 0])), (k, .inr (0, [.int 0, .int 14, .int 3, .int 64])), (c, .inr (1, [.ref g1, .int 0])), (g1, .inr (2, [.int 16, .int 5, .ref a1])), (a1, .inl (cA1, 80, .inl f1)), (o, .inr (3, [.ref g2, .int 0, .int 0])), (g2, .inr (2, [.int 12, .int 7, .ref a2])), (a2, .inl (cA2, 84, .inl f2)), (ps, .inr (6, [.ref pa])), (pa, .inl (cP, 8, .inr (.inr (.inr (.inr (fun _ => none)))))), (im, .inr (6, [.ref ia])), (ia, .inl (cI, 2, .inr (.inr (.inr (.inr (fun _ => none)))))), (lt, .inr (5, [.long 0])), (m, .inr (8, [.ref am, .ref pam, .int 0, .ref kam, .ref zam, .long 0])), (am, .inl (cAm, 172, .inl fm)), (pam, .inl (cPm, 1376, .inl fpm)), (kam, .inl (cKm, 344, .inl fkm)), (zam, .inl (cZm, 2, .inl (fun _ => 0)))] H) (hD : va_D AA [(x, .inr (7, [.ref h, .ref ps, .ref im, .ref lt, .int 0, .int 0])), (h, .inr (4, [.ref k, .ref c, .ref o, .int 0])), (k, .inr (0, [.int 0, .int 14, .int 3, .int 64])), (c, .inr (1, [.ref g1, .int 0])), (g1, .inr (2, [.int 16, .int 5, .ref a1])), (a1, .inl (cA1, 80, .inl f1)), (o, .inr (3, [.ref g2, .int 0, .int 0])), (g2, .inr (2, [.int 12, .int 7, .ref a2])), (a2, .inl (cA2, 84, .inl f2)), (ps, .inr (6, [.ref pa])), (pa, .inl (cP, 8, .inr (.inr (.inr (.inr (fun _ => none)))))), (im, .inr (6, [.ref ia])), (ia, .inl (cI, 2, .inr (.inr (.inr (.inr (fun _ => none)))))), (lt, .inr (5, [.long 0])), (m, .inr (8, [.ref am, .ref pam, .int 0, .ref kam, .ref zam, .long 0])), (am, .inl (cAm, 172, .inl fm)), (pam, .inl (cPm, 1376, .inl fpm)), (kam, .inl (cKm, 344, .inl fkm)), (zam, .inl (cZm, 2, .inl (fun _ => 0)))]) (hS : va_S AA ss.heap H locs) (hl : lv_has ls 4 [(3, .int 0), (2, .ref m), (1, .ref x), (0, .ref b)]) : W pp l ee room_1 ss mm #[Value.ref b] bl mt cd H locs 19 2102 (lw_Z bl #[Value.ref b] ss) (F0 mm 219 ls []) := by
  obtain ⟨hx, hb, hr, hml, hown, hts0, hX, hbl, hlocks, hgv⟩ := id C0
  have hts : ∀ w ∈ lw_tbl, w.before #[Value.ref b] ss = true := hts0
  have hA : ∀ q, ss.heap.size ≤ q → AA q := fun q h => by rw [hAA]; exact h
  have hbA : ¬ AA b := by rw [hAA]; exact Nat.not_le.mpr hbl
  refine lv_aload_n hx hb dL_law_219 rfl (lv_at hl 2 rfl) ?_
  refine lv_aload_n hx hb dL_law_220 rfl (lv_at hl 3 rfl) ?_
  refine lv_iload_n hx hb dL_law_221 rfl (lv_at hl 0 rfl) ?_
  refine lv_iconst (v := 1) hx hb dL_law_222 (by decide) ?_
  refine lv_iadd hx hb dL_law_223 ?_
  refine lv_topi (fun x522 ex522 => ?_)
  have ex522 : x522 = 1 := ex522.trans (by decide)
  subst ex522
  refine va_sld hx hb hX hbl hbA hS (vi_ok (by decide)) dL_law_224 ?_
  refine k_pi (va_runV (As := [.int (xs (1 : Int32).toNatClampNeg)]) (rest := []) ⟨hx, hb, hml, hown, hts⟩ (c_X7_renew l D H.size x h ps im lt k c o g1 0 0 0 (xs (1 : Int32).toNatClampNeg) ) (cwV 1 hts gL_law_X7_renew rfl rfl rfl (by decide +kernel) ⟨(Nat.le_of_ble_eq_true rfl), (Nat.le_of_ble_eq_true rfl)⟩) ⟨mP_blind, va_recv hK hP (ci := 7) (q0 := 0) rfl rfl, m_pre _ hN hK hP hD [] rfl [0, 1, 3] rfl (by decide)⟩ rfl rfl hl.1 rfl (lv_room (Nat.le_of_ble_eq_true rfl)) dL_law_225 ⟨(Nat.le_of_ble_eq_true rfl), (Nat.le_of_ble_eq_true rfl)⟩) hP hD hS hA [0, 1, 3] rfl (fun r523 u H locs hw hP hS => ?_)
  obtain rfl := hw
  refine lv_aload_n hx hb dL_law_228 rfl (lv_at hl 1 rfl) ?_
  refine lv_aload_n hx hb dL_law_229 rfl (lv_at hl 3 rfl) ?_
  refine lv_iload_n hx hb dL_law_230 rfl (lv_at hl 0 rfl) ?_
  refine lv_iconst (v := 1) hx hb dL_law_231 (by decide) ?_
  refine lv_iadd hx hb dL_law_232 ?_
  refine lv_topi (fun x524 ex524 => ?_)
  have ex524 : x524 = 1 := ex524.trans (by decide)
  subst ex524
  refine va_sld hx hb hX hbl hbA hS (vi_ok (by decide)) dL_law_233 ?_
  refine k_pi (va_runV (As := [.int (xs (1 : Int32).toNatClampNeg)]) (rest := [.int (-1000000001)]) ⟨hx, hb, hml, hown, hts⟩ (c_X8_renew l D H.size m am pam kam zam cAm 0 0 fm (xs (1 : Int32).toNatClampNeg) hF.2.2.2.2.1) (cwV 1 hts gL_law_X8_renew rfl rfl rfl (by decide +kernel) ⟨(Nat.le_of_ble_eq_true rfl), (Nat.le_of_ble_eq_true rfl)⟩) ⟨mP_blind, va_recv hK hP (ci := 8) (q0 := 14) rfl rfl, m_pre _ hN hK hP hD [4] rfl [14, 15] rfl (by decide)⟩ rfl rfl hl.1 rfl (lv_room (Nat.le_of_ble_eq_true rfl)) dL_law_234 ⟨(Nat.le_of_ble_eq_true rfl), (Nat.le_of_ble_eq_true rfl)⟩) hP hD hS hA [14, 15] rfl (fun r525 u H locs hw hP hS => ?_)
  obtain rfl := hw
  refine lv_icmp_eq (tgt := 644) hx hb dL_law_237 (by decide) (fun zc237 => ?_) (fun hc => absurd (by decide) hc)
  exact law_end C0 hAA hN hS (Nat.le_of_ble_eq_true rfl) (Nat.le_of_ble_eq_true rfl) (lv_sub hl [0, 3] rfl)
set_option maxHeartbeats 4000000 in
set_option maxRecDepth 100000 in
theorem law_lose {pp : Program} {ee : Env} {ss : State} {mm : MethodId} {bl : List Frame} {mt : Method} {cd : Code} {l : Launch} {b : Nat} {xs : Nat → Int32} (C0 : lw_At pp ss mm mt cd b 5 xs) {D : va_G} {AA : Nat → Prop} (hAA : AA = fun q => ss.heap.size ≤ q) (hN : nW ss) {a1 a2 am c g1 g2 h ia im k kam lt m o pa pam ps x zam : Nat} {cA1 cA2 cP cI cAm cPm cKm cZm : ClassId} {f1 f2 fm fpm fkm : Nat → Int32} (hF : st0 fm) {H : Heap} {locs : List Loc} {ls : Array Slot} (hK : va_K D vwCl [(cA1, .int), (cA2, .int), (cP, .object "LoanHouse$House"), (cI, .object "LoanHouse$House"), (cAm, .int), (cPm, .int), (cKm, .int), (cZm, .boolean)] ss) (hP : va_P D vwCl [(x, .inr (7, [.ref h, .ref ps, .ref im, .ref lt, .int 0, .int 0])), (h, .inr (4, [.ref k, .ref c, .ref o, .int 0])), (k, .inr (0, [.int 0, .int 14, .int 3, .int 64])), (c, .inr (1, [.ref g1, .int 0])), (g1, .inr (2, [.int 16, .int 5, .ref a1])), (a1, .inl (cA1, 80, .inl f1)), (o, .inr (3, [.ref g2, .int 0, .int 0])), (g2, .inr (2, [.int 12, .int 7, .ref a2])), (a2, .inl (cA2, 84, .inl f2)), (ps, .inr (6, [.ref pa])), (pa, .inl (cP, 8, .inr (.inr (.inr (.inr (fun _ => none)))))), (im, .inr (6, [.ref ia])), (ia, .inl (cI, 2, .inr (.inr (.inr (.inr (fun _ => none)))))), (lt, .inr (5, [.long 0])), (m, .inr (8, [.ref am, .ref pam, .int 0, .ref kam, .ref zam, .long 0])), (am, .inl (cAm, 172, .inl fm)), (pam, .inl (cPm, 1376, .inl fpm)), (kam, .inl (cKm, 344, .inl fkm)), (zam, .inl (cZm, 2, .inl (fun _ => 0)))] H) (hD : va_D AA [(x, .inr (7, [.ref h, .ref ps, .ref im, .ref lt, .int 0, .int 0])), (h, .inr (4, [.ref k, .ref c, .ref o, .int 0])), (k, .inr (0, [.int 0, .int 14, .int 3, .int 64])), (c, .inr (1, [.ref g1, .int 0])), (g1, .inr (2, [.int 16, .int 5, .ref a1])), (a1, .inl (cA1, 80, .inl f1)), (o, .inr (3, [.ref g2, .int 0, .int 0])), (g2, .inr (2, [.int 12, .int 7, .ref a2])), (a2, .inl (cA2, 84, .inl f2)), (ps, .inr (6, [.ref pa])), (pa, .inl (cP, 8, .inr (.inr (.inr (.inr (fun _ => none)))))), (im, .inr (6, [.ref ia])), (ia, .inl (cI, 2, .inr (.inr (.inr (.inr (fun _ => none)))))), (lt, .inr (5, [.long 0])), (m, .inr (8, [.ref am, .ref pam, .int 0, .ref kam, .ref zam, .long 0])), (am, .inl (cAm, 172, .inl fm)), (pam, .inl (cPm, 1376, .inl fpm)), (kam, .inl (cKm, 344, .inl fkm)), (zam, .inl (cZm, 2, .inl (fun _ => 0)))]) (hS : va_S AA ss.heap H locs) (hl : lv_has ls 4 [(3, .int 0), (2, .ref m), (1, .ref x), (0, .ref b)]) : W pp l ee room_1 ss mm #[Value.ref b] bl mt cd H locs 19 2102 (lw_Z bl #[Value.ref b] ss) (F0 mm 242 ls []) := by
  obtain ⟨hx, hb, hr, hml, hown, hts0, hX, hbl, hlocks, hgv⟩ := id C0
  have hts : ∀ w ∈ lw_tbl, w.before #[Value.ref b] ss = true := hts0
  have hA : ∀ q, ss.heap.size ≤ q → AA q := fun q h => by rw [hAA]; exact h
  have hbA : ¬ AA b := by rw [hAA]; exact Nat.not_le.mpr hbl
  refine lv_aload_n hx hb dL_law_242 rfl (lv_at hl 2 rfl) ?_
  refine lv_aload_n hx hb dL_law_243 rfl (lv_at hl 3 rfl) ?_
  refine lv_iload_n hx hb dL_law_244 rfl (lv_at hl 0 rfl) ?_
  refine lv_iconst (v := 1) hx hb dL_law_245 (by decide) ?_
  refine lv_iadd hx hb dL_law_246 ?_
  refine lv_topi (fun x526 ex526 => ?_)
  have ex526 : x526 = 1 := ex526.trans (by decide)
  subst ex526
  refine va_sld hx hb hX hbl hbA hS (vi_ok (by decide)) dL_law_247 ?_
  refine k_pi (va_runV (As := [.int (xs (1 : Int32).toNatClampNeg)]) (rest := []) ⟨hx, hb, hml, hown, hts⟩ (c_X7_lose l D H.size x h ps im lt k c o g1 0 0 0 (xs (1 : Int32).toNatClampNeg) ) (cwV 1 hts gL_law_X7_lose rfl rfl rfl (by decide +kernel) ⟨(Nat.le_of_ble_eq_true rfl), (Nat.le_of_ble_eq_true rfl)⟩) ⟨mP_blind, va_recv hK hP (ci := 7) (q0 := 0) rfl rfl, m_pre _ hN hK hP hD [] rfl [0, 1, 3] rfl (by decide)⟩ rfl rfl hl.1 rfl (lv_room (Nat.le_of_ble_eq_true rfl)) dL_law_248 ⟨(Nat.le_of_ble_eq_true rfl), (Nat.le_of_ble_eq_true rfl)⟩) hP hD hS hA [0, 1, 3] rfl (fun r527 u H locs hw hP hS => ?_)
  obtain rfl := hw
  refine lv_aload_n hx hb dL_law_251 rfl (lv_at hl 1 rfl) ?_
  refine lv_aload_n hx hb dL_law_252 rfl (lv_at hl 3 rfl) ?_
  refine lv_iload_n hx hb dL_law_253 rfl (lv_at hl 0 rfl) ?_
  refine lv_iconst (v := 1) hx hb dL_law_254 (by decide) ?_
  refine lv_iadd hx hb dL_law_255 ?_
  refine lv_topi (fun x528 ex528 => ?_)
  have ex528 : x528 = 1 := ex528.trans (by decide)
  subst ex528
  refine va_sld hx hb hX hbl hbA hS (vi_ok (by decide)) dL_law_256 ?_
  refine k_pi (va_runV (As := [.int (xs (1 : Int32).toNatClampNeg)]) (rest := [.int (-1000000001)]) ⟨hx, hb, hml, hown, hts⟩ (c_X8_lose l D H.size m am pam kam zam cAm 0 0 fm (xs (1 : Int32).toNatClampNeg) hF.2.2.2.2.1) (cwV 1 hts gL_law_X8_lose rfl rfl rfl (by decide +kernel) ⟨(Nat.le_of_ble_eq_true rfl), (Nat.le_of_ble_eq_true rfl)⟩) ⟨mP_blind, va_recv hK hP (ci := 8) (q0 := 14) rfl rfl, m_pre _ hN hK hP hD [4] rfl [14, 15] rfl (by decide)⟩ rfl rfl hl.1 rfl (lv_room (Nat.le_of_ble_eq_true rfl)) dL_law_257 ⟨(Nat.le_of_ble_eq_true rfl), (Nat.le_of_ble_eq_true rfl)⟩) hP hD hS hA [14, 15] rfl (fun r529 u H locs hw hP hS => ?_)
  obtain rfl := hw
  refine lv_icmp_eq (tgt := 644) hx hb dL_law_260 (by decide) (fun zc260 => ?_) (fun hc => absurd (by decide) hc)
  exact law_end C0 hAA hN hS (Nat.le_of_ble_eq_true rfl) (Nat.le_of_ble_eq_true rfl) (lv_sub hl [0, 3] rfl)
set_option maxHeartbeats 4000000 in
set_option maxRecDepth 100000 in
theorem law_hold {pp : Program} {ee : Env} {ss : State} {mm : MethodId} {bl : List Frame} {mt : Method} {cd : Code} {l : Launch} {b : Nat} {xs : Nat → Int32} (C0 : lw_At pp ss mm mt cd b 5 xs) {D : va_G} {AA : Nat → Prop} (hAA : AA = fun q => ss.heap.size ≤ q) (hN : nW ss) {a1 a2 am c g1 g2 h ia im k kam lt m o pa pam ps x zam : Nat} {cA1 cA2 cP cI cAm cPm cKm cZm : ClassId} {f1 f2 fm fpm fkm : Nat → Int32} (hF : st0 fm) {H : Heap} {locs : List Loc} {ls : Array Slot} (hK : va_K D vwCl [(cA1, .int), (cA2, .int), (cP, .object "LoanHouse$House"), (cI, .object "LoanHouse$House"), (cAm, .int), (cPm, .int), (cKm, .int), (cZm, .boolean)] ss) (hP : va_P D vwCl [(x, .inr (7, [.ref h, .ref ps, .ref im, .ref lt, .int 0, .int 0])), (h, .inr (4, [.ref k, .ref c, .ref o, .int 0])), (k, .inr (0, [.int 0, .int 14, .int 3, .int 64])), (c, .inr (1, [.ref g1, .int 0])), (g1, .inr (2, [.int 16, .int 5, .ref a1])), (a1, .inl (cA1, 80, .inl f1)), (o, .inr (3, [.ref g2, .int 0, .int 0])), (g2, .inr (2, [.int 12, .int 7, .ref a2])), (a2, .inl (cA2, 84, .inl f2)), (ps, .inr (6, [.ref pa])), (pa, .inl (cP, 8, .inr (.inr (.inr (.inr (fun _ => none)))))), (im, .inr (6, [.ref ia])), (ia, .inl (cI, 2, .inr (.inr (.inr (.inr (fun _ => none)))))), (lt, .inr (5, [.long 0])), (m, .inr (8, [.ref am, .ref pam, .int 0, .ref kam, .ref zam, .long 0])), (am, .inl (cAm, 172, .inl fm)), (pam, .inl (cPm, 1376, .inl fpm)), (kam, .inl (cKm, 344, .inl fkm)), (zam, .inl (cZm, 2, .inl (fun _ => 0)))] H) (hD : va_D AA [(x, .inr (7, [.ref h, .ref ps, .ref im, .ref lt, .int 0, .int 0])), (h, .inr (4, [.ref k, .ref c, .ref o, .int 0])), (k, .inr (0, [.int 0, .int 14, .int 3, .int 64])), (c, .inr (1, [.ref g1, .int 0])), (g1, .inr (2, [.int 16, .int 5, .ref a1])), (a1, .inl (cA1, 80, .inl f1)), (o, .inr (3, [.ref g2, .int 0, .int 0])), (g2, .inr (2, [.int 12, .int 7, .ref a2])), (a2, .inl (cA2, 84, .inl f2)), (ps, .inr (6, [.ref pa])), (pa, .inl (cP, 8, .inr (.inr (.inr (.inr (fun _ => none)))))), (im, .inr (6, [.ref ia])), (ia, .inl (cI, 2, .inr (.inr (.inr (.inr (fun _ => none)))))), (lt, .inr (5, [.long 0])), (m, .inr (8, [.ref am, .ref pam, .int 0, .ref kam, .ref zam, .long 0])), (am, .inl (cAm, 172, .inl fm)), (pam, .inl (cPm, 1376, .inl fpm)), (kam, .inl (cKm, 344, .inl fkm)), (zam, .inl (cZm, 2, .inl (fun _ => 0)))]) (hS : va_S AA ss.heap H locs) (hl : lv_has ls 4 [(3, .int 0), (2, .ref m), (1, .ref x), (0, .ref b)]) : W pp l ee room_1 ss mm #[Value.ref b] bl mt cd H locs 19 2102 (lw_Z bl #[Value.ref b] ss) (F0 mm 265 ls []) := by
  obtain ⟨hx, hb, hr, hml, hown, hts0, hX, hbl, hlocks, hgv⟩ := id C0
  have hts : ∀ w ∈ lw_tbl, w.before #[Value.ref b] ss = true := hts0
  have hA : ∀ q, ss.heap.size ≤ q → AA q := fun q h => by rw [hAA]; exact h
  have hbA : ¬ AA b := by rw [hAA]; exact Nat.not_le.mpr hbl
  refine lv_aload_n hx hb dL_law_265 rfl (lv_at hl 2 rfl) ?_
  refine lv_aload_n hx hb dL_law_266 rfl (lv_at hl 3 rfl) ?_
  refine lv_iload_n hx hb dL_law_267 rfl (lv_at hl 0 rfl) ?_
  refine lv_iconst (v := 1) hx hb dL_law_268 (by decide) ?_
  refine lv_iadd hx hb dL_law_269 ?_
  refine lv_topi (fun x530 ex530 => ?_)
  have ex530 : x530 = 1 := ex530.trans (by decide)
  subst ex530
  refine va_sld hx hb hX hbl hbA hS (vi_ok (by decide)) dL_law_270 ?_
  refine lv_aload_n hx hb dL_law_271 rfl (lv_at hl 3 rfl) ?_
  refine lv_iload_n hx hb dL_law_272 rfl (lv_at hl 0 rfl) ?_
  refine lv_iconst (v := 2) hx hb dL_law_273 (by decide) ?_
  refine lv_iadd hx hb dL_law_274 ?_
  refine lv_topi (fun x531 ex531 => ?_)
  have ex531 : x531 = 2 := ex531.trans (by decide)
  subst ex531
  refine va_sld hx hb hX hbl hbA hS (vi_ok (by decide)) dL_law_275 ?_
  refine lv_aload_n hx hb dL_law_276 rfl (lv_at hl 3 rfl) ?_
  refine lv_iload_n hx hb dL_law_277 rfl (lv_at hl 0 rfl) ?_
  refine lv_iconst (v := 3) hx hb dL_law_278 (by decide) ?_
  refine lv_iadd hx hb dL_law_279 ?_
  refine lv_topi (fun x532 ex532 => ?_)
  have ex532 : x532 = 3 := ex532.trans (by decide)
  subst ex532
  refine va_sld hx hb hX hbl hbA hS (vi_ok (by decide)) dL_law_280 ?_
  refine lv_aload_n hx hb dL_law_281 rfl (lv_at hl 3 rfl) ?_
  refine lv_iload_n hx hb dL_law_282 rfl (lv_at hl 0 rfl) ?_
  refine lv_iconst (v := 4) hx hb dL_law_283 (by decide) ?_
  refine lv_iadd hx hb dL_law_284 ?_
  refine lv_topi (fun x533 ex533 => ?_)
  have ex533 : x533 = 4 := ex533.trans (by decide)
  subst ex533
  refine va_sld hx hb hX hbl hbA hS (vi_ok (by decide)) dL_law_285 ?_
  refine k_i (wr := [(im, .inr (6, [.ref ia])), (ia, .inl (cI, 2, .inr (.inr (.inr (.inr (fun _ => none)))))), (lt, .inr (5, [.long 0])), (m, .inr (8, [.ref am, .ref pam, .int 0, .ref kam, .ref zam, .long 0])), (am, .inl (cAm, 172, .inl fm)), (pam, .inl (cPm, 1376, .inl fpm)), (kam, .inl (cKm, 344, .inl fkm)), (zam, .inl (cZm, 2, .inl (fun _ => 0)))]) (va_runV (As := [.int (xs (1 : Int32).toNatClampNeg), .int (xs (2 : Int32).toNatClampNeg), .int (xs (3 : Int32).toNatClampNeg), .int (xs (4 : Int32).toNatClampNeg)]) (rest := []) ⟨hx, hb, hml, hown, hts⟩ (c_X7_hold l D H.size x ps pa im lt cP h k c g1 a1 o g2 a2 cA1 cA2 f1 f2 (xs (1 : Int32).toNatClampNeg) (xs (2 : Int32).toNatClampNeg) (xs (3 : Int32).toNatClampNeg) (xs (4 : Int32).toNatClampNeg) ) (cwV 4 hts gL_law_X7_hold rfl rfl rfl (by decide +kernel) ⟨(Nat.le_of_ble_eq_true rfl), (Nat.le_of_ble_eq_true rfl)⟩) ⟨mP_blind, va_recv hK hP (ci := 7) (q0 := 0) rfl rfl, m_pre _ hN hK hP hD [2, 0, 1] rfl [0, 9, 10, 1, 2, 3, 4, 5, 6, 7, 8] rfl (by decide)⟩ rfl rfl hl.1 rfl (lv_room (Nat.le_of_ble_eq_true rfl)) dL_law_286 ⟨(Nat.le_of_ble_eq_true rfl), (Nat.le_of_ble_eq_true rfl)⟩) hP hD hS hA [0, 9, 10, 1, 2, 3, 4, 5, 6, 7, 8] [11, 12, 13, 14, 15, 16, 17, 18] rfl rfl (by decide) (by decide) (fun r534 u H locs hw hK1 hP hD hS => ?_)
  have hP : va_P D vwCl [(im, .inr (6, [.ref ia])), (ia, .inl (cI, 2, .inr (.inr (.inr (.inr (fun _ => none)))))), (lt, .inr (5, [.long 0])), (m, .inr (8, [.ref am, .ref pam, .int 0, .ref kam, .ref zam, .long 0])), (am, .inl (cAm, 172, .inl fm)), (pam, .inl (cPm, 1376, .inl fpm)), (kam, .inl (cKm, 344, .inl fkm)), (zam, .inl (cZm, 2, .inl (fun _ => 0)))] H := hP
  have hD : va_D AA [(im, .inr (6, [.ref ia])), (ia, .inl (cI, 2, .inr (.inr (.inr (.inr (fun _ => none)))))), (lt, .inr (5, [.long 0])), (m, .inr (8, [.ref am, .ref pam, .int 0, .ref kam, .ref zam, .long 0])), (am, .inl (cAm, 172, .inl fm)), (pam, .inl (cPm, 1376, .inl fpm)), (kam, .inl (cKm, 344, .inl fkm)), (zam, .inl (cZm, 2, .inl (fun _ => 0)))] := hD
  try dsimp only at hw
  refine W.widen (k := 27) (n := 2285) (Nat.le_of_ble_eq_true rfl) (Nat.le_of_ble_eq_true rfl) ?_
  have zw286 := hw
  refine lv_aload_n hx hb dL_law_289 rfl (lv_at hl 1 rfl) ?_
  refine lv_aload_n hx hb dL_law_290 rfl (lv_at hl 3 rfl) ?_
  refine lv_iload_n hx hb dL_law_291 rfl (lv_at hl 0 rfl) ?_
  refine lv_iconst (v := 1) hx hb dL_law_292 (by decide) ?_
  refine lv_iadd hx hb dL_law_293 ?_
  refine lv_topi (fun x535 ex535 => ?_)
  have ex535 : x535 = 1 := ex535.trans (by decide)
  subst ex535
  refine va_sld hx hb hX hbl hbA hS (vi_ok (by decide)) dL_law_294 ?_
  refine lv_aload_n hx hb dL_law_295 rfl (lv_at hl 3 rfl) ?_
  refine lv_iload_n hx hb dL_law_296 rfl (lv_at hl 0 rfl) ?_
  refine lv_iconst (v := 2) hx hb dL_law_297 (by decide) ?_
  refine lv_iadd hx hb dL_law_298 ?_
  refine lv_topi (fun x536 ex536 => ?_)
  have ex536 : x536 = 2 := ex536.trans (by decide)
  subst ex536
  refine va_sld hx hb hX hbl hbA hS (vi_ok (by decide)) dL_law_299 ?_
  refine lv_aload_n hx hb dL_law_300 rfl (lv_at hl 3 rfl) ?_
  refine lv_iload_n hx hb dL_law_301 rfl (lv_at hl 0 rfl) ?_
  refine lv_iconst (v := 3) hx hb dL_law_302 (by decide) ?_
  refine lv_iadd hx hb dL_law_303 ?_
  refine lv_topi (fun x537 ex537 => ?_)
  have ex537 : x537 = 3 := ex537.trans (by decide)
  subst ex537
  refine va_sld hx hb hX hbl hbA hS (vi_ok (by decide)) dL_law_304 ?_
  refine lv_aload_n hx hb dL_law_305 rfl (lv_at hl 3 rfl) ?_
  refine lv_iload_n hx hb dL_law_306 rfl (lv_at hl 0 rfl) ?_
  refine lv_iconst (v := 4) hx hb dL_law_307 (by decide) ?_
  refine lv_iadd hx hb dL_law_308 ?_
  refine lv_topi (fun x538 ex538 => ?_)
  have ex538 : x538 = 4 := ex538.trans (by decide)
  subst ex538
  refine va_sld hx hb hX hbl hbA hS (vi_ok (by decide)) dL_law_309 ?_
  refine k_i (wr := [(im, .inr (6, [.ref ia])), (ia, .inl (cI, 2, .inr (.inr (.inr (.inr (fun _ => none)))))), (lt, .inr (5, [.long 0])), (kam, .inl (cKm, 344, .inl fkm)), (zam, .inl (cZm, 2, .inl (fun _ => 0)))]) (va_runV (As := [.int (xs (1 : Int32).toNatClampNeg), .int (xs (2 : Int32).toNatClampNeg), .int (xs (3 : Int32).toNatClampNeg), .int (xs (4 : Int32).toNatClampNeg)]) (rest := [.int r534]) ⟨hx, hb, hml, hown, hts⟩ (c_X8_hold l D H.size m am pam kam zam cAm cPm 0 fm fpm (xs (1 : Int32).toNatClampNeg) (xs (2 : Int32).toNatClampNeg) (xs (3 : Int32).toNatClampNeg) (xs (4 : Int32).toNatClampNeg) hF) (cwV 4 hts gL_law_X8_hold rfl rfl rfl (by decide +kernel) ⟨(Nat.le_of_ble_eq_true rfl), (Nat.le_of_ble_eq_true rfl)⟩) ⟨mP_blind, va_recv hK hP (ci := 8) (q0 := 3) rfl rfl, m_pre _ hN hK hP hD [4, 5] rfl [3, 4, 5] rfl (by decide)⟩ rfl rfl hl.1 rfl (lv_room (Nat.le_of_ble_eq_true rfl)) dL_law_310 ⟨(Nat.le_of_ble_eq_true rfl), (Nat.le_of_ble_eq_true rfl)⟩) hP hD hS hA [3, 4, 5] [0, 1, 2, 6, 7] rfl rfl (by decide) (by decide) (fun r539 u H locs hw hK1 hP hD hS => ?_)
  have hP : va_P D vwCl [(im, .inr (6, [.ref ia])), (ia, .inl (cI, 2, .inr (.inr (.inr (.inr (fun _ => none)))))), (lt, .inr (5, [.long 0])), (kam, .inl (cKm, 344, .inl fkm)), (zam, .inl (cZm, 2, .inl (fun _ => 0)))] H := hP
  have hD : va_D AA [(im, .inr (6, [.ref ia])), (ia, .inl (cI, 2, .inr (.inr (.inr (.inr (fun _ => none)))))), (lt, .inr (5, [.long 0])), (kam, .inl (cKm, 344, .inl fkm)), (zam, .inl (cZm, 2, .inl (fun _ => 0)))] := hD
  try dsimp only at hw
  refine W.widen (k := 27) (n := 2285) (Nat.le_of_ble_eq_true rfl) (Nat.le_of_ble_eq_true rfl) ?_
  have zw310 := hw
  refine lv_icmp_eq (tgt := 644) hx hb dL_law_313 (by decide) (fun zc313 => ?_) (fun hc => absurd (hold_eq zw286 zw310) hc)
  exact law_end C0 hAA hN hS (Nat.le_of_ble_eq_true rfl) (Nat.le_of_ble_eq_true rfl) (lv_sub hl [0, 3] rfl)
set_option maxHeartbeats 4000000 in
set_option maxRecDepth 100000 in
theorem law_giveUp {pp : Program} {ee : Env} {ss : State} {mm : MethodId} {bl : List Frame} {mt : Method} {cd : Code} {l : Launch} {b : Nat} {xs : Nat → Int32} (C0 : lw_At pp ss mm mt cd b 5 xs) {D : va_G} {AA : Nat → Prop} (hAA : AA = fun q => ss.heap.size ≤ q) (hN : nW ss) {a1 a2 am c g1 g2 h ia im k kam lt m o pa pam ps x zam : Nat} {cA1 cA2 cP cI cAm cPm cKm cZm : ClassId} {f1 f2 fm fpm fkm : Nat → Int32} (hF : st0 fm) {H : Heap} {locs : List Loc} {ls : Array Slot} (hK : va_K D vwCl [(cA1, .int), (cA2, .int), (cP, .object "LoanHouse$House"), (cI, .object "LoanHouse$House"), (cAm, .int), (cPm, .int), (cKm, .int), (cZm, .boolean)] ss) (hP : va_P D vwCl [(x, .inr (7, [.ref h, .ref ps, .ref im, .ref lt, .int 0, .int 0])), (h, .inr (4, [.ref k, .ref c, .ref o, .int 0])), (k, .inr (0, [.int 0, .int 14, .int 3, .int 64])), (c, .inr (1, [.ref g1, .int 0])), (g1, .inr (2, [.int 16, .int 5, .ref a1])), (a1, .inl (cA1, 80, .inl f1)), (o, .inr (3, [.ref g2, .int 0, .int 0])), (g2, .inr (2, [.int 12, .int 7, .ref a2])), (a2, .inl (cA2, 84, .inl f2)), (ps, .inr (6, [.ref pa])), (pa, .inl (cP, 8, .inr (.inr (.inr (.inr (fun _ => none)))))), (im, .inr (6, [.ref ia])), (ia, .inl (cI, 2, .inr (.inr (.inr (.inr (fun _ => none)))))), (lt, .inr (5, [.long 0])), (m, .inr (8, [.ref am, .ref pam, .int 0, .ref kam, .ref zam, .long 0])), (am, .inl (cAm, 172, .inl fm)), (pam, .inl (cPm, 1376, .inl fpm)), (kam, .inl (cKm, 344, .inl fkm)), (zam, .inl (cZm, 2, .inl (fun _ => 0)))] H) (hD : va_D AA [(x, .inr (7, [.ref h, .ref ps, .ref im, .ref lt, .int 0, .int 0])), (h, .inr (4, [.ref k, .ref c, .ref o, .int 0])), (k, .inr (0, [.int 0, .int 14, .int 3, .int 64])), (c, .inr (1, [.ref g1, .int 0])), (g1, .inr (2, [.int 16, .int 5, .ref a1])), (a1, .inl (cA1, 80, .inl f1)), (o, .inr (3, [.ref g2, .int 0, .int 0])), (g2, .inr (2, [.int 12, .int 7, .ref a2])), (a2, .inl (cA2, 84, .inl f2)), (ps, .inr (6, [.ref pa])), (pa, .inl (cP, 8, .inr (.inr (.inr (.inr (fun _ => none)))))), (im, .inr (6, [.ref ia])), (ia, .inl (cI, 2, .inr (.inr (.inr (.inr (fun _ => none)))))), (lt, .inr (5, [.long 0])), (m, .inr (8, [.ref am, .ref pam, .int 0, .ref kam, .ref zam, .long 0])), (am, .inl (cAm, 172, .inl fm)), (pam, .inl (cPm, 1376, .inl fpm)), (kam, .inl (cKm, 344, .inl fkm)), (zam, .inl (cZm, 2, .inl (fun _ => 0)))]) (hS : va_S AA ss.heap H locs) (hl : lv_has ls 4 [(3, .int 0), (2, .ref m), (1, .ref x), (0, .ref b)]) : W pp l ee room_1 ss mm #[Value.ref b] bl mt cd H locs 19 2102 (lw_Z bl #[Value.ref b] ss) (F0 mm 318 ls []) := by
  obtain ⟨hx, hb, hr, hml, hown, hts0, hX, hbl, hlocks, hgv⟩ := id C0
  have hts : ∀ w ∈ lw_tbl, w.before #[Value.ref b] ss = true := hts0
  have hA : ∀ q, ss.heap.size ≤ q → AA q := fun q h => by rw [hAA]; exact h
  have hbA : ¬ AA b := by rw [hAA]; exact Nat.not_le.mpr hbl
  refine lv_aload_n hx hb dL_law_318 rfl (lv_at hl 2 rfl) ?_
  refine lv_aload_n hx hb dL_law_319 rfl (lv_at hl 3 rfl) ?_
  refine lv_iload_n hx hb dL_law_320 rfl (lv_at hl 0 rfl) ?_
  refine lv_iconst (v := 1) hx hb dL_law_321 (by decide) ?_
  refine lv_iadd hx hb dL_law_322 ?_
  refine lv_topi (fun x540 ex540 => ?_)
  have ex540 : x540 = 1 := ex540.trans (by decide)
  subst ex540
  refine va_sld hx hb hX hbl hbA hS (vi_ok (by decide)) dL_law_323 ?_
  refine k_pi (va_runV (As := [.int (xs (1 : Int32).toNatClampNeg)]) (rest := []) ⟨hx, hb, hml, hown, hts⟩ (c_X7_giveUp l D H.size x h ps im lt k c o g2 0 0 0 0 (xs (1 : Int32).toNatClampNeg) ) (cwV 1 hts gL_law_X7_giveUp rfl rfl rfl (by decide +kernel) ⟨(Nat.le_of_ble_eq_true rfl), (Nat.le_of_ble_eq_true rfl)⟩) ⟨mP_blind, va_recv hK hP (ci := 7) (q0 := 0) rfl rfl, m_pre _ hN hK hP hD [] rfl [0, 1, 6] rfl (by decide)⟩ rfl rfl hl.1 rfl (lv_room (Nat.le_of_ble_eq_true rfl)) dL_law_324 ⟨(Nat.le_of_ble_eq_true rfl), (Nat.le_of_ble_eq_true rfl)⟩) hP hD hS hA [0, 1, 6] rfl (fun r541 u H locs hw hP hS => ?_)
  obtain rfl := hw
  refine lv_aload_n hx hb dL_law_327 rfl (lv_at hl 1 rfl) ?_
  refine lv_aload_n hx hb dL_law_328 rfl (lv_at hl 3 rfl) ?_
  refine lv_iload_n hx hb dL_law_329 rfl (lv_at hl 0 rfl) ?_
  refine lv_iconst (v := 1) hx hb dL_law_330 (by decide) ?_
  refine lv_iadd hx hb dL_law_331 ?_
  refine lv_topi (fun x542 ex542 => ?_)
  have ex542 : x542 = 1 := ex542.trans (by decide)
  subst ex542
  refine va_sld hx hb hX hbl hbA hS (vi_ok (by decide)) dL_law_332 ?_
  refine k_pi (va_runV (As := [.int (xs (1 : Int32).toNatClampNeg)]) (rest := [.int (-1000000001)]) ⟨hx, hb, hml, hown, hts⟩ (c_X8_giveUp l D H.size m am pam kam zam cAm 0 0 fm (xs (1 : Int32).toNatClampNeg) hF.2.2.2.2.2.1) (cwV 1 hts gL_law_X8_giveUp rfl rfl rfl (by decide +kernel) ⟨(Nat.le_of_ble_eq_true rfl), (Nat.le_of_ble_eq_true rfl)⟩) ⟨mP_blind, va_recv hK hP (ci := 8) (q0 := 14) rfl rfl, m_pre _ hN hK hP hD [4] rfl [14, 15] rfl (by decide)⟩ rfl rfl hl.1 rfl (lv_room (Nat.le_of_ble_eq_true rfl)) dL_law_333 ⟨(Nat.le_of_ble_eq_true rfl), (Nat.le_of_ble_eq_true rfl)⟩) hP hD hS hA [14, 15] rfl (fun r543 u H locs hw hP hS => ?_)
  obtain rfl := hw
  refine lv_icmp_eq (tgt := 644) hx hb dL_law_336 (by decide) (fun zc336 => ?_) (fun hc => absurd (by decide) hc)
  exact law_end C0 hAA hN hS (Nat.le_of_ble_eq_true rfl) (Nat.le_of_ble_eq_true rfl) (lv_sub hl [0, 3] rfl)
set_option maxHeartbeats 4000000 in
set_option maxRecDepth 100000 in
theorem law_pass {pp : Program} {ee : Env} {ss : State} {mm : MethodId} {bl : List Frame} {mt : Method} {cd : Code} {l : Launch} {b : Nat} {xs : Nat → Int32} (C0 : lw_At pp ss mm mt cd b 5 xs) {D : va_G} {AA : Nat → Prop} (hAA : AA = fun q => ss.heap.size ≤ q) (hN : nW ss) {a1 a2 am c g1 g2 h ia im k kam lt m o pa pam ps x zam : Nat} {cA1 cA2 cP cI cAm cPm cKm cZm : ClassId} {f1 f2 fm fpm fkm : Nat → Int32} (hF : st0 fm) {H : Heap} {locs : List Loc} {ls : Array Slot} (hK : va_K D vwCl [(cA1, .int), (cA2, .int), (cP, .object "LoanHouse$House"), (cI, .object "LoanHouse$House"), (cAm, .int), (cPm, .int), (cKm, .int), (cZm, .boolean)] ss) (hP : va_P D vwCl [(x, .inr (7, [.ref h, .ref ps, .ref im, .ref lt, .int 0, .int 0])), (h, .inr (4, [.ref k, .ref c, .ref o, .int 0])), (k, .inr (0, [.int 0, .int 14, .int 3, .int 64])), (c, .inr (1, [.ref g1, .int 0])), (g1, .inr (2, [.int 16, .int 5, .ref a1])), (a1, .inl (cA1, 80, .inl f1)), (o, .inr (3, [.ref g2, .int 0, .int 0])), (g2, .inr (2, [.int 12, .int 7, .ref a2])), (a2, .inl (cA2, 84, .inl f2)), (ps, .inr (6, [.ref pa])), (pa, .inl (cP, 8, .inr (.inr (.inr (.inr (fun _ => none)))))), (im, .inr (6, [.ref ia])), (ia, .inl (cI, 2, .inr (.inr (.inr (.inr (fun _ => none)))))), (lt, .inr (5, [.long 0])), (m, .inr (8, [.ref am, .ref pam, .int 0, .ref kam, .ref zam, .long 0])), (am, .inl (cAm, 172, .inl fm)), (pam, .inl (cPm, 1376, .inl fpm)), (kam, .inl (cKm, 344, .inl fkm)), (zam, .inl (cZm, 2, .inl (fun _ => 0)))] H) (hD : va_D AA [(x, .inr (7, [.ref h, .ref ps, .ref im, .ref lt, .int 0, .int 0])), (h, .inr (4, [.ref k, .ref c, .ref o, .int 0])), (k, .inr (0, [.int 0, .int 14, .int 3, .int 64])), (c, .inr (1, [.ref g1, .int 0])), (g1, .inr (2, [.int 16, .int 5, .ref a1])), (a1, .inl (cA1, 80, .inl f1)), (o, .inr (3, [.ref g2, .int 0, .int 0])), (g2, .inr (2, [.int 12, .int 7, .ref a2])), (a2, .inl (cA2, 84, .inl f2)), (ps, .inr (6, [.ref pa])), (pa, .inl (cP, 8, .inr (.inr (.inr (.inr (fun _ => none)))))), (im, .inr (6, [.ref ia])), (ia, .inl (cI, 2, .inr (.inr (.inr (.inr (fun _ => none)))))), (lt, .inr (5, [.long 0])), (m, .inr (8, [.ref am, .ref pam, .int 0, .ref kam, .ref zam, .long 0])), (am, .inl (cAm, 172, .inl fm)), (pam, .inl (cPm, 1376, .inl fpm)), (kam, .inl (cKm, 344, .inl fkm)), (zam, .inl (cZm, 2, .inl (fun _ => 0)))]) (hS : va_S AA ss.heap H locs) (hl : lv_has ls 4 [(3, .int 0), (2, .ref m), (1, .ref x), (0, .ref b)]) : W pp l ee room_1 ss mm #[Value.ref b] bl mt cd H locs 19 2102 (lw_Z bl #[Value.ref b] ss) (F0 mm 341 ls []) := by
  obtain ⟨hx, hb, hr, hml, hown, hts0, hX, hbl, hlocks, hgv⟩ := id C0
  have hts : ∀ w ∈ lw_tbl, w.before #[Value.ref b] ss = true := hts0
  have hA : ∀ q, ss.heap.size ≤ q → AA q := fun q h => by rw [hAA]; exact h
  have hbA : ¬ AA b := by rw [hAA]; exact Nat.not_le.mpr hbl
  refine lv_aload_n hx hb dL_law_341 rfl (lv_at hl 2 rfl) ?_
  refine lv_aload_n hx hb dL_law_342 rfl (lv_at hl 3 rfl) ?_
  refine lv_iload_n hx hb dL_law_343 rfl (lv_at hl 0 rfl) ?_
  refine lv_iconst (v := 1) hx hb dL_law_344 (by decide) ?_
  refine lv_iadd hx hb dL_law_345 ?_
  refine lv_topi (fun x544 ex544 => ?_)
  have ex544 : x544 = 1 := ex544.trans (by decide)
  subst ex544
  refine va_sld hx hb hX hbl hbA hS (vi_ok (by decide)) dL_law_346 ?_
  refine k_i (wr := [(im, .inr (6, [.ref ia])), (ia, .inl (cI, 2, .inr (.inr (.inr (.inr (fun _ => none)))))), (lt, .inr (5, [.long 0])), (m, .inr (8, [.ref am, .ref pam, .int 0, .ref kam, .ref zam, .long 0])), (am, .inl (cAm, 172, .inl fm)), (pam, .inl (cPm, 1376, .inl fpm)), (kam, .inl (cKm, 344, .inl fkm)), (zam, .inl (cZm, 2, .inl (fun _ => 0)))]) (va_runV (As := [.int (xs (1 : Int32).toNatClampNeg)]) (rest := []) ⟨hx, hb, hml, hown, hts⟩ (c_X7_pass l D H.size x ps pa im lt cP h k c g1 a1 o g2 a2 cA1 cA2 f1 f2 (xs (1 : Int32).toNatClampNeg) ) (cwV 1 hts gL_law_X7_pass rfl rfl rfl (by decide +kernel) ⟨(Nat.le_of_ble_eq_true rfl), (Nat.le_of_ble_eq_true rfl)⟩) ⟨mP_blind, va_recv hK hP (ci := 7) (q0 := 0) rfl rfl, m_pre _ hN hK hP hD [2, 0, 1] rfl [0, 9, 10, 1, 2, 3, 4, 5, 6, 7, 8] rfl (by decide)⟩ rfl rfl hl.1 rfl (lv_room (Nat.le_of_ble_eq_true rfl)) dL_law_347 ⟨(Nat.le_of_ble_eq_true rfl), (Nat.le_of_ble_eq_true rfl)⟩) hP hD hS hA [0, 9, 10, 1, 2, 3, 4, 5, 6, 7, 8] [11, 12, 13, 14, 15, 16, 17, 18] rfl rfl (by decide) (by decide) (fun r545 u H locs hw hK1 hP hD hS => ?_)
  have hP : va_P D vwCl [(im, .inr (6, [.ref ia])), (ia, .inl (cI, 2, .inr (.inr (.inr (.inr (fun _ => none)))))), (lt, .inr (5, [.long 0])), (m, .inr (8, [.ref am, .ref pam, .int 0, .ref kam, .ref zam, .long 0])), (am, .inl (cAm, 172, .inl fm)), (pam, .inl (cPm, 1376, .inl fpm)), (kam, .inl (cKm, 344, .inl fkm)), (zam, .inl (cZm, 2, .inl (fun _ => 0)))] H := hP
  have hD : va_D AA [(im, .inr (6, [.ref ia])), (ia, .inl (cI, 2, .inr (.inr (.inr (.inr (fun _ => none)))))), (lt, .inr (5, [.long 0])), (m, .inr (8, [.ref am, .ref pam, .int 0, .ref kam, .ref zam, .long 0])), (am, .inl (cAm, 172, .inl fm)), (pam, .inl (cPm, 1376, .inl fpm)), (kam, .inl (cKm, 344, .inl fkm)), (zam, .inl (cZm, 2, .inl (fun _ => 0)))] := hD
  try dsimp only at hw
  refine W.widen (k := 27) (n := 2285) (Nat.le_of_ble_eq_true rfl) (Nat.le_of_ble_eq_true rfl) ?_
  have zw347 := hw
  refine lv_aload_n hx hb dL_law_350 rfl (lv_at hl 1 rfl) ?_
  refine lv_aload_n hx hb dL_law_351 rfl (lv_at hl 3 rfl) ?_
  refine lv_iload_n hx hb dL_law_352 rfl (lv_at hl 0 rfl) ?_
  refine lv_iconst (v := 1) hx hb dL_law_353 (by decide) ?_
  refine lv_iadd hx hb dL_law_354 ?_
  refine lv_topi (fun x546 ex546 => ?_)
  have ex546 : x546 = 1 := ex546.trans (by decide)
  subst ex546
  refine va_sld hx hb hX hbl hbA hS (vi_ok (by decide)) dL_law_355 ?_
  refine k_i (wr := [(im, .inr (6, [.ref ia])), (ia, .inl (cI, 2, .inr (.inr (.inr (.inr (fun _ => none)))))), (lt, .inr (5, [.long 0])), (kam, .inl (cKm, 344, .inl fkm)), (zam, .inl (cZm, 2, .inl (fun _ => 0)))]) (va_runV (As := [.int (xs (1 : Int32).toNatClampNeg)]) (rest := [.int r545]) ⟨hx, hb, hml, hown, hts⟩ (c_X8_pass l D H.size m am pam kam zam cAm cPm 0 fm fpm (xs (1 : Int32).toNatClampNeg) hF) (cwV 1 hts gL_law_X8_pass rfl rfl rfl (by decide +kernel) ⟨(Nat.le_of_ble_eq_true rfl), (Nat.le_of_ble_eq_true rfl)⟩) ⟨mP_blind, va_recv hK hP (ci := 8) (q0 := 3) rfl rfl, m_pre _ hN hK hP hD [4, 5] rfl [3, 4, 5] rfl (by decide)⟩ rfl rfl hl.1 rfl (lv_room (Nat.le_of_ble_eq_true rfl)) dL_law_356 ⟨(Nat.le_of_ble_eq_true rfl), (Nat.le_of_ble_eq_true rfl)⟩) hP hD hS hA [3, 4, 5] [0, 1, 2, 6, 7] rfl rfl (by decide) (by decide) (fun r547 u H locs hw hK1 hP hD hS => ?_)
  have hP : va_P D vwCl [(im, .inr (6, [.ref ia])), (ia, .inl (cI, 2, .inr (.inr (.inr (.inr (fun _ => none)))))), (lt, .inr (5, [.long 0])), (kam, .inl (cKm, 344, .inl fkm)), (zam, .inl (cZm, 2, .inl (fun _ => 0)))] H := hP
  have hD : va_D AA [(im, .inr (6, [.ref ia])), (ia, .inl (cI, 2, .inr (.inr (.inr (.inr (fun _ => none)))))), (lt, .inr (5, [.long 0])), (kam, .inl (cKm, 344, .inl fkm)), (zam, .inl (cZm, 2, .inl (fun _ => 0)))] := hD
  try dsimp only at hw
  refine W.widen (k := 27) (n := 2285) (Nat.le_of_ble_eq_true rfl) (Nat.le_of_ble_eq_true rfl) ?_
  have zw356 := hw
  refine lv_icmp_eq (tgt := 644) hx hb dL_law_359 (by decide) (fun zc359 => ?_) (fun hc => absurd (q2_eq zw347 zw356) hc)
  exact law_end C0 hAA hN hS (Nat.le_of_ble_eq_true rfl) (Nat.le_of_ble_eq_true rfl) (lv_sub hl [0, 3] rfl)
set_option maxHeartbeats 4000000 in
set_option maxRecDepth 100000 in
theorem law_set {pp : Program} {ee : Env} {ss : State} {mm : MethodId} {bl : List Frame} {mt : Method} {cd : Code} {l : Launch} {b : Nat} {xs : Nat → Int32} (C0 : lw_At pp ss mm mt cd b 5 xs) {D : va_G} {AA : Nat → Prop} (hAA : AA = fun q => ss.heap.size ≤ q) (hN : nW ss) {a1 a2 am c g1 g2 h ia im k kam lt m o pa pam ps x zam : Nat} {cA1 cA2 cP cI cAm cPm cKm cZm : ClassId} {f1 f2 fm fpm fkm : Nat → Int32} (hF : st0 fm) {H : Heap} {locs : List Loc} {ls : Array Slot} (hK : va_K D vwCl [(cA1, .int), (cA2, .int), (cP, .object "LoanHouse$House"), (cI, .object "LoanHouse$House"), (cAm, .int), (cPm, .int), (cKm, .int), (cZm, .boolean)] ss) (hP : va_P D vwCl [(x, .inr (7, [.ref h, .ref ps, .ref im, .ref lt, .int 0, .int 0])), (h, .inr (4, [.ref k, .ref c, .ref o, .int 0])), (k, .inr (0, [.int 0, .int 14, .int 3, .int 64])), (c, .inr (1, [.ref g1, .int 0])), (g1, .inr (2, [.int 16, .int 5, .ref a1])), (a1, .inl (cA1, 80, .inl f1)), (o, .inr (3, [.ref g2, .int 0, .int 0])), (g2, .inr (2, [.int 12, .int 7, .ref a2])), (a2, .inl (cA2, 84, .inl f2)), (ps, .inr (6, [.ref pa])), (pa, .inl (cP, 8, .inr (.inr (.inr (.inr (fun _ => none)))))), (im, .inr (6, [.ref ia])), (ia, .inl (cI, 2, .inr (.inr (.inr (.inr (fun _ => none)))))), (lt, .inr (5, [.long 0])), (m, .inr (8, [.ref am, .ref pam, .int 0, .ref kam, .ref zam, .long 0])), (am, .inl (cAm, 172, .inl fm)), (pam, .inl (cPm, 1376, .inl fpm)), (kam, .inl (cKm, 344, .inl fkm)), (zam, .inl (cZm, 2, .inl (fun _ => 0)))] H) (hD : va_D AA [(x, .inr (7, [.ref h, .ref ps, .ref im, .ref lt, .int 0, .int 0])), (h, .inr (4, [.ref k, .ref c, .ref o, .int 0])), (k, .inr (0, [.int 0, .int 14, .int 3, .int 64])), (c, .inr (1, [.ref g1, .int 0])), (g1, .inr (2, [.int 16, .int 5, .ref a1])), (a1, .inl (cA1, 80, .inl f1)), (o, .inr (3, [.ref g2, .int 0, .int 0])), (g2, .inr (2, [.int 12, .int 7, .ref a2])), (a2, .inl (cA2, 84, .inl f2)), (ps, .inr (6, [.ref pa])), (pa, .inl (cP, 8, .inr (.inr (.inr (.inr (fun _ => none)))))), (im, .inr (6, [.ref ia])), (ia, .inl (cI, 2, .inr (.inr (.inr (.inr (fun _ => none)))))), (lt, .inr (5, [.long 0])), (m, .inr (8, [.ref am, .ref pam, .int 0, .ref kam, .ref zam, .long 0])), (am, .inl (cAm, 172, .inl fm)), (pam, .inl (cPm, 1376, .inl fpm)), (kam, .inl (cKm, 344, .inl fkm)), (zam, .inl (cZm, 2, .inl (fun _ => 0)))]) (hS : va_S AA ss.heap H locs) (hl : lv_has ls 4 [(3, .int 0), (2, .ref m), (1, .ref x), (0, .ref b)]) : W pp l ee room_1 ss mm #[Value.ref b] bl mt cd H locs 19 2102 (lw_Z bl #[Value.ref b] ss) (F0 mm 364 ls []) := by
  obtain ⟨hx, hb, hr, hml, hown, hts0, hX, hbl, hlocks, hgv⟩ := id C0
  have hts : ∀ w ∈ lw_tbl, w.before #[Value.ref b] ss = true := hts0
  have hA : ∀ q, ss.heap.size ≤ q → AA q := fun q h => by rw [hAA]; exact h
  have hbA : ¬ AA b := by rw [hAA]; exact Nat.not_le.mpr hbl
  refine lv_aload_n hx hb dL_law_364 rfl (lv_at hl 2 rfl) ?_
  refine lv_aload_n hx hb dL_law_365 rfl (lv_at hl 3 rfl) ?_
  refine lv_iload_n hx hb dL_law_366 rfl (lv_at hl 0 rfl) ?_
  refine lv_iconst (v := 1) hx hb dL_law_367 (by decide) ?_
  refine lv_iadd hx hb dL_law_368 ?_
  refine lv_topi (fun x548 ex548 => ?_)
  have ex548 : x548 = 1 := ex548.trans (by decide)
  subst ex548
  refine va_sld hx hb hX hbl hbA hS (vi_ok (by decide)) dL_law_369 ?_
  refine lv_aload_n hx hb dL_law_370 rfl (lv_at hl 3 rfl) ?_
  refine lv_iload_n hx hb dL_law_371 rfl (lv_at hl 0 rfl) ?_
  refine lv_iconst (v := 2) hx hb dL_law_372 (by decide) ?_
  refine lv_iadd hx hb dL_law_373 ?_
  refine lv_topi (fun x549 ex549 => ?_)
  have ex549 : x549 = 2 := ex549.trans (by decide)
  subst ex549
  refine va_sld hx hb hX hbl hbA hS (vi_ok (by decide)) dL_law_374 ?_
  refine k_i (wr := [(im, .inr (6, [.ref ia])), (ia, .inl (cI, 2, .inr (.inr (.inr (.inr (fun _ => none)))))), (lt, .inr (5, [.long 0])), (m, .inr (8, [.ref am, .ref pam, .int 0, .ref kam, .ref zam, .long 0])), (am, .inl (cAm, 172, .inl fm)), (pam, .inl (cPm, 1376, .inl fpm)), (kam, .inl (cKm, 344, .inl fkm)), (zam, .inl (cZm, 2, .inl (fun _ => 0)))]) (va_runV (As := [.int (xs (1 : Int32).toNatClampNeg), .int (xs (2 : Int32).toNatClampNeg)]) (rest := []) ⟨hx, hb, hml, hown, hts⟩ (c_X7_set l D H.size x ps pa im lt cP h k c g1 a1 o g2 a2 cA1 cA2 f1 f2 (xs (1 : Int32).toNatClampNeg) (xs (2 : Int32).toNatClampNeg) ) (cwV 2 hts gL_law_X7_set rfl rfl rfl (by decide +kernel) ⟨(Nat.le_of_ble_eq_true rfl), (Nat.le_of_ble_eq_true rfl)⟩) ⟨mP_blind, va_recv hK hP (ci := 7) (q0 := 0) rfl rfl, m_pre _ hN hK hP hD [2, 0, 1] rfl [0, 9, 10, 1, 2, 3, 4, 5, 6, 7, 8] rfl (by decide)⟩ rfl rfl hl.1 rfl (lv_room (Nat.le_of_ble_eq_true rfl)) dL_law_375 ⟨(Nat.le_of_ble_eq_true rfl), (Nat.le_of_ble_eq_true rfl)⟩) hP hD hS hA [0, 9, 10, 1, 2, 3, 4, 5, 6, 7, 8] [11, 12, 13, 14, 15, 16, 17, 18] rfl rfl (by decide) (by decide) (fun r550 u H locs hw hK1 hP hD hS => ?_)
  have hP : va_P D vwCl [(im, .inr (6, [.ref ia])), (ia, .inl (cI, 2, .inr (.inr (.inr (.inr (fun _ => none)))))), (lt, .inr (5, [.long 0])), (m, .inr (8, [.ref am, .ref pam, .int 0, .ref kam, .ref zam, .long 0])), (am, .inl (cAm, 172, .inl fm)), (pam, .inl (cPm, 1376, .inl fpm)), (kam, .inl (cKm, 344, .inl fkm)), (zam, .inl (cZm, 2, .inl (fun _ => 0)))] H := hP
  have hD : va_D AA [(im, .inr (6, [.ref ia])), (ia, .inl (cI, 2, .inr (.inr (.inr (.inr (fun _ => none)))))), (lt, .inr (5, [.long 0])), (m, .inr (8, [.ref am, .ref pam, .int 0, .ref kam, .ref zam, .long 0])), (am, .inl (cAm, 172, .inl fm)), (pam, .inl (cPm, 1376, .inl fpm)), (kam, .inl (cKm, 344, .inl fkm)), (zam, .inl (cZm, 2, .inl (fun _ => 0)))] := hD
  try dsimp only at hw
  refine W.widen (k := 27) (n := 2285) (Nat.le_of_ble_eq_true rfl) (Nat.le_of_ble_eq_true rfl) ?_
  have zw375 := hw
  refine lv_aload_n hx hb dL_law_378 rfl (lv_at hl 1 rfl) ?_
  refine lv_aload_n hx hb dL_law_379 rfl (lv_at hl 3 rfl) ?_
  refine lv_iload_n hx hb dL_law_380 rfl (lv_at hl 0 rfl) ?_
  refine lv_iconst (v := 1) hx hb dL_law_381 (by decide) ?_
  refine lv_iadd hx hb dL_law_382 ?_
  refine lv_topi (fun x551 ex551 => ?_)
  have ex551 : x551 = 1 := ex551.trans (by decide)
  subst ex551
  refine va_sld hx hb hX hbl hbA hS (vi_ok (by decide)) dL_law_383 ?_
  refine lv_aload_n hx hb dL_law_384 rfl (lv_at hl 3 rfl) ?_
  refine lv_iload_n hx hb dL_law_385 rfl (lv_at hl 0 rfl) ?_
  refine lv_iconst (v := 2) hx hb dL_law_386 (by decide) ?_
  refine lv_iadd hx hb dL_law_387 ?_
  refine lv_topi (fun x552 ex552 => ?_)
  have ex552 : x552 = 2 := ex552.trans (by decide)
  subst ex552
  refine va_sld hx hb hX hbl hbA hS (vi_ok (by decide)) dL_law_388 ?_
  refine k_i (wr := [(im, .inr (6, [.ref ia])), (ia, .inl (cI, 2, .inr (.inr (.inr (.inr (fun _ => none)))))), (lt, .inr (5, [.long 0])), (kam, .inl (cKm, 344, .inl fkm)), (zam, .inl (cZm, 2, .inl (fun _ => 0)))]) (va_runV (As := [.int (xs (1 : Int32).toNatClampNeg), .int (xs (2 : Int32).toNatClampNeg)]) (rest := [.int r550]) ⟨hx, hb, hml, hown, hts⟩ (c_X8_set l D H.size m am pam kam zam cAm cPm 0 fm fpm (xs (1 : Int32).toNatClampNeg) (xs (2 : Int32).toNatClampNeg) hF) (cwV 2 hts gL_law_X8_set rfl rfl rfl (by decide +kernel) ⟨(Nat.le_of_ble_eq_true rfl), (Nat.le_of_ble_eq_true rfl)⟩) ⟨mP_blind, va_recv hK hP (ci := 8) (q0 := 3) rfl rfl, m_pre _ hN hK hP hD [4, 5] rfl [3, 4, 5] rfl (by decide)⟩ rfl rfl hl.1 rfl (lv_room (Nat.le_of_ble_eq_true rfl)) dL_law_389 ⟨(Nat.le_of_ble_eq_true rfl), (Nat.le_of_ble_eq_true rfl)⟩) hP hD hS hA [3, 4, 5] [0, 1, 2, 6, 7] rfl rfl (by decide) (by decide) (fun r553 u H locs hw hK1 hP hD hS => ?_)
  have hP : va_P D vwCl [(im, .inr (6, [.ref ia])), (ia, .inl (cI, 2, .inr (.inr (.inr (.inr (fun _ => none)))))), (lt, .inr (5, [.long 0])), (kam, .inl (cKm, 344, .inl fkm)), (zam, .inl (cZm, 2, .inl (fun _ => 0)))] H := hP
  have hD : va_D AA [(im, .inr (6, [.ref ia])), (ia, .inl (cI, 2, .inr (.inr (.inr (.inr (fun _ => none)))))), (lt, .inr (5, [.long 0])), (kam, .inl (cKm, 344, .inl fkm)), (zam, .inl (cZm, 2, .inl (fun _ => 0)))] := hD
  try dsimp only at hw
  refine W.widen (k := 27) (n := 2285) (Nat.le_of_ble_eq_true rfl) (Nat.le_of_ble_eq_true rfl) ?_
  have zw389 := hw
  refine lv_icmp_eq (tgt := 644) hx hb dL_law_392 (by decide) (fun zc392 => ?_) (fun hc => absurd (q2_eq zw375 zw389) hc)
  exact law_end C0 hAA hN hS (Nat.le_of_ble_eq_true rfl) (Nat.le_of_ble_eq_true rfl) (lv_sub hl [0, 3] rfl)
