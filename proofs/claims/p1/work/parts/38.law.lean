set_option maxHeartbeats 4000000 in
set_option maxRecDepth 100000 in
/-- THE LAW, from its entry -/
theorem whole_start {pp : Program} {ee : Env} {ss : State} {mm : MethodId} {bl : List Frame} {mt : Method} {cd : Code} (l : Launch) (hflags : l.flags = flags0) {b L : Nat} {xs : Nat → Int32} (hL : L ≤ 5) (C0 : lw_At pp ss mm mt cd b L xs) : W pp l ee room_1 ss mm #[Value.ref b] bl mt cd ss.heap [] 0 0 (lw_Z bl #[Value.ref b] ss) (entryFrame mm ([Value.ref b] : List Value).toArray 4) := by
  obtain ⟨hx, hb, hr, hml, hown, hts0, hX, hbl, hlocks, hgv⟩ := id C0
  have hts : ∀ w ∈ lw_tbl, w.before #[Value.ref b] ss = true := hts0
  obtain ⟨AA, hAA⟩ : ∃ A : Nat → Prop, A = fun q => ss.heap.size ≤ q := ⟨_, rfl⟩
  have hA : ∀ q, ss.heap.size ≤ q → AA q := fun q h => by rw [hAA]; exact h
  have hbA : ¬ AA b := by rw [hAA]; exact Nat.not_le.mpr hbl
  have hN : nW ss := law_nW hts0
  obtain ⟨c0, iS0, hKn0⟩ := u_known (C := RX0) (T := TX0) (N := 4) (n := 4) hts lyX0 (hts (.instantiable RX0 4) (List.mem_of_getElem? (i := 84) (by decide +kernel)))
  obtain ⟨c1, iS1, hKn1⟩ := u_known (C := RX1) (T := TX1) (N := 2) (n := 2) hts lyX1 (hts (.instantiable RX1 2) (List.mem_of_getElem? (i := 108) (by decide +kernel)))
  obtain ⟨c2, iS2, hKn2⟩ := u_known (C := RX2) (T := TX2) (N := 3) (n := 3) hts lyX2 (hts (.instantiable RX2 3) (List.mem_of_getElem? (i := 114) (by decide +kernel)))
  obtain ⟨c3, iS3, hKn3⟩ := u_known (C := RX3) (T := TX3) (N := 3) (n := 3) hts lyX3 (hts (.instantiable RX3 3) (List.mem_of_getElem? (i := 143) (by decide +kernel)))
  obtain ⟨c4, iS4, hKn4⟩ := u_known (C := RX4) (T := TX4) (N := 4) (n := 4) hts lyX4 (hts (.instantiable RX4 4) (List.mem_of_getElem? (i := 78) (by decide +kernel)))
  obtain ⟨c5, iS5, hKn5⟩ := u_known (C := RX5) (T := TX5) (N := 1) (n := 1) hts lyX5 (hts (.instantiable RX5 1) (List.mem_of_getElem? (i := 193) (by decide +kernel)))
  obtain ⟨c6, iS6, hKn6⟩ := u_known (C := RX6) (T := TX6) (N := 1) (n := 1) hts lyX6 (hts (.instantiable RX6 1) (List.mem_of_getElem? (i := 180) (by decide +kernel)))
  obtain ⟨c7, iS7, hKn7⟩ := u_known (C := RX7) (T := TX7) (N := 6) (n := 6) hts lyX7 (hts (.instantiable RX7 6) (List.mem_of_getElem? (i := 70) (by decide +kernel)))
  obtain ⟨c8, iS8, hKn8⟩ := u_known (C := RX8) (T := TX8) (N := 6) (n := 6) hts lyX8 (hts (.instantiable RX8 6) (List.mem_of_getElem? (i := 683) (by decide +kernel)))
  obtain ⟨D, hKc⟩ : ∃ D : va_G, ∀ (k : Nat) (q : vw_C), vwCl[k]? = some q → u_Kn ss q.1 q.2.1 q.2.2 (D.1 k) (D.2 k) := by
    refine ⟨(fun k => if k = 0 then c0 else if k = 1 then c1 else if k = 2 then c2 else if k = 3 then c3 else if k = 4 then c4 else if k = 5 then c5 else if k = 6 then c6 else if k = 7 then c7 else c8, fun k => if k = 0 then iS0 else if k = 1 then iS1 else if k = 2 then iS2 else if k = 3 then iS3 else if k = 4 then iS4 else if k = 5 then iS5 else if k = 6 then iS6 else if k = 7 then iS7 else iS8), ?_⟩
    intro k q hq
    match k, hq with
    | 0, hq => cases hq; exact hKn0
    | 1, hq => cases hq; exact hKn1
    | 2, hq => cases hq; exact hKn2
    | 3, hq => cases hq; exact hKn3
    | 4, hq => cases hq; exact hKn4
    | 5, hq => cases hq; exact hKn5
    | 6, hq => cases hq; exact hKn6
    | 7, hq => cases hq; exact hKn7
    | 8, hq => cases hq; exact hKn8
    | k + 9, hq => simp [vwCl] at hq
  have hS : va_S AA ss.heap ss.heap [] := va_S.rf
  have hK : va_K D vwCl [] ss := ⟨hKc, fun k q h => by simp at h⟩
  have hP : va_P D vwCl [] ss.heap := fun k q h => by simp at h
  have hD : va_D AA [] := ⟨fun i j p q h => by simp at h, fun k q h => by simp at h⟩
  have hl := lv_entry ([.ref b]) (n := 4) (Nat.le_of_ble_eq_true rfl)
  rw [lg_entry_eq]
  generalize (lg_sl ([.ref b]) ++ List.replicate (4 - (lg_sl ([.ref b])).length) Slot.unset).toArray = ls at hl ⊢
  have hl : lv_has ls 4 [(0, .ref b)] := hl
  have inX7 : ∀ w ∈ wsX70, w ∈ lw_tbl := lyX7
  have inX8 : ∀ w ∈ wsX80, w ∈ lw_tbl := lyX8
  refine va_new (ci := 7) (fs := [.null, .null, .null, .null, .int 0, .int 0]) (C := RX7) (T := TX7) (N := 6) hx hb hts inX7 tyX7 tyX7_ok hown (hts (.classLink RL 7 RX7) (List.mem_of_getElem? (i := 69) (by decide +kernel))) (hts (.instantiable RX7 6) (List.mem_of_getElem? (i := 70) (by decide +kernel))) (hts (.initialized RX7) (List.mem_of_getElem? (i := 57) (by decide +kernel))) hK hP hD hS hA rfl (fun j hj => by rcases (show j = 0 ∨ j = 1 ∨ j = 2 ∨ j = 3 ∨ j = 4 ∨ j = 5 by omega) with rfl | rfl | rfl | rfl | rfl | rfl <;> rfl) (Nat.le_of_ble_eq_true rfl) (Nat.le_of_ble_eq_true rfl) dL_law_0 (fun q598 H hP hD hS => ?_)
  have hP : va_P D vwCl [(q598, .inr (7, [.null, .null, .null, .null, .int 0, .int 0]))] H := hP
  have hD : va_D AA [(q598, .inr (7, [.null, .null, .null, .null, .int 0, .int 0]))] := hD
  refine W.widen (k := 1) (n := 6) (Nat.le_of_ble_eq_true rfl) (Nat.le_of_ble_eq_true rfl) ?_
  refine lv_dup hx hb dL_law_3 rfl ?_
  refine k_v (wr := []) (va_runI (As := []) (rest := [.ref q598]) ⟨hx, hb, hml, hown, hts⟩ (c_X7_init l D H.size q598 ) (cwI 0 hts gL_law_X7_init rfl rfl rfl (hts (.initialized RX7) (List.mem_of_getElem? (i := 57) (by decide +kernel))) (hts (.methodLink RL 9 yX7_init) (List.mem_of_getElem? (i := 71) (by decide +kernel))) (hts (.instanceMethod yX7_init) (List.mem_of_getElem? (i := 72) (by decide +kernel))) rfl (by decide +kernel) ⟨(Nat.le_of_ble_eq_true rfl), (Nat.le_of_ble_eq_true rfl)⟩) ⟨mP_blind, m_pre _ hN hK hP hD [] rfl [0] rfl (by decide)⟩ rfl rfl hl.1 rfl (lv_room (Nat.le_of_ble_eq_true rfl)) dL_law_4 ⟨(Nat.le_of_ble_eq_true rfl), (Nat.le_of_ble_eq_true rfl)⟩) hP hD hS hA [0] [] rfl rfl (by decide) (by decide) (fun u H locs hw hK1 hP hD hS => ?_)
  obtain ⟨h600, k601, c602, g1603, a1604, cA1605, f1606, o607, g2608, a2609, cA2610, f2611, ps612, pa613, cP614, im615, ia616, cI617, lt618⟩ := u
  have hK : va_K D vwCl [(cA1605, .int), (cA2610, .int), (cP614, .object "LoanHouse$House"), (cI617, .object "LoanHouse$House")] ss := hK.app hK1
  have hP : va_P D vwCl [(q598, .inr (7, [.ref h600, .ref ps612, .ref im615, .ref lt618, .int 0, .int 0])), (h600, .inr (4, [.ref k601, .ref c602, .ref o607, .int 0])), (k601, .inr (0, [.int 0, .int 14, .int 3, .int 64])), (c602, .inr (1, [.ref g1603, .int 0])), (g1603, .inr (2, [.int 16, .int 5, .ref a1604])), (a1604, .inl (cA1605, 80, .inl f1606)), (o607, .inr (3, [.ref g2608, .int 0, .int 0])), (g2608, .inr (2, [.int 12, .int 7, .ref a2609])), (a2609, .inl (cA2610, 84, .inl f2611)), (ps612, .inr (6, [.ref pa613])), (pa613, .inl (cP614, 8, .inr (.inr (.inr (.inr (fun _ => none)))))), (im615, .inr (6, [.ref ia616])), (ia616, .inl (cI617, 2, .inr (.inr (.inr (.inr (fun _ => none)))))), (lt618, .inr (5, [.long 0]))] H := hP
  have hD : va_D AA [(q598, .inr (7, [.ref h600, .ref ps612, .ref im615, .ref lt618, .int 0, .int 0])), (h600, .inr (4, [.ref k601, .ref c602, .ref o607, .int 0])), (k601, .inr (0, [.int 0, .int 14, .int 3, .int 64])), (c602, .inr (1, [.ref g1603, .int 0])), (g1603, .inr (2, [.int 16, .int 5, .ref a1604])), (a1604, .inl (cA1605, 80, .inl f1606)), (o607, .inr (3, [.ref g2608, .int 0, .int 0])), (g2608, .inr (2, [.int 12, .int 7, .ref a2609])), (a2609, .inl (cA2610, 84, .inl f2611)), (ps612, .inr (6, [.ref pa613])), (pa613, .inl (cP614, 8, .inr (.inr (.inr (.inr (fun _ => none)))))), (im615, .inr (6, [.ref ia616])), (ia616, .inl (cI617, 2, .inr (.inr (.inr (.inr (fun _ => none)))))), (lt618, .inr (5, [.long 0]))] := hD
  try dsimp only at hw
  refine W.widen (k := 14) (n := 202) (Nat.le_of_ble_eq_true rfl) (Nat.le_of_ble_eq_true rfl) ?_
  refine lv_astore_n (lv' := [(1, .ref q598), (0, .ref b)]) hx hb dL_law_7 rfl hl (by decide) rfl (fun ls hl => ?_)
  refine va_new (ci := 8) (fs := [.null, .null, .int 0, .null, .null, .long 0]) (C := RX8) (T := TX8) (N := 6) hx hb hts inX8 tyX8 tyX8_ok hown (hts (.classLink RL 10 RX8) (List.mem_of_getElem? (i := 682) (by decide +kernel))) (hts (.instantiable RX8 6) (List.mem_of_getElem? (i := 683) (by decide +kernel))) (hts (.initialized RX8) (List.mem_of_getElem? (i := 66) (by decide +kernel))) hK hP hD hS hA rfl (fun j hj => by rcases (show j = 0 ∨ j = 1 ∨ j = 2 ∨ j = 3 ∨ j = 4 ∨ j = 5 by omega) with rfl | rfl | rfl | rfl | rfl | rfl <;> rfl) (Nat.le_of_ble_eq_true rfl) (Nat.le_of_ble_eq_true rfl) dL_law_8 (fun q619 H hP hD hS => ?_)
  have hP : va_P D vwCl [(q598, .inr (7, [.ref h600, .ref ps612, .ref im615, .ref lt618, .int 0, .int 0])), (h600, .inr (4, [.ref k601, .ref c602, .ref o607, .int 0])), (k601, .inr (0, [.int 0, .int 14, .int 3, .int 64])), (c602, .inr (1, [.ref g1603, .int 0])), (g1603, .inr (2, [.int 16, .int 5, .ref a1604])), (a1604, .inl (cA1605, 80, .inl f1606)), (o607, .inr (3, [.ref g2608, .int 0, .int 0])), (g2608, .inr (2, [.int 12, .int 7, .ref a2609])), (a2609, .inl (cA2610, 84, .inl f2611)), (ps612, .inr (6, [.ref pa613])), (pa613, .inl (cP614, 8, .inr (.inr (.inr (.inr (fun _ => none)))))), (im615, .inr (6, [.ref ia616])), (ia616, .inl (cI617, 2, .inr (.inr (.inr (.inr (fun _ => none)))))), (lt618, .inr (5, [.long 0])), (q619, .inr (8, [.null, .null, .int 0, .null, .null, .long 0]))] H := hP
  have hD : va_D AA [(q598, .inr (7, [.ref h600, .ref ps612, .ref im615, .ref lt618, .int 0, .int 0])), (h600, .inr (4, [.ref k601, .ref c602, .ref o607, .int 0])), (k601, .inr (0, [.int 0, .int 14, .int 3, .int 64])), (c602, .inr (1, [.ref g1603, .int 0])), (g1603, .inr (2, [.int 16, .int 5, .ref a1604])), (a1604, .inl (cA1605, 80, .inl f1606)), (o607, .inr (3, [.ref g2608, .int 0, .int 0])), (g2608, .inr (2, [.int 12, .int 7, .ref a2609])), (a2609, .inl (cA2610, 84, .inl f2611)), (ps612, .inr (6, [.ref pa613])), (pa613, .inl (cP614, 8, .inr (.inr (.inr (.inr (fun _ => none)))))), (im615, .inr (6, [.ref ia616])), (ia616, .inl (cI617, 2, .inr (.inr (.inr (.inr (fun _ => none)))))), (lt618, .inr (5, [.long 0])), (q619, .inr (8, [.null, .null, .int 0, .null, .null, .long 0]))] := hD
  refine W.widen (k := 15) (n := 208) (Nat.le_of_ble_eq_true rfl) (Nat.le_of_ble_eq_true rfl) ?_
  refine lv_dup hx hb dL_law_11 rfl ?_
  refine k_v (wr := [(q598, .inr (7, [.ref h600, .ref ps612, .ref im615, .ref lt618, .int 0, .int 0])), (h600, .inr (4, [.ref k601, .ref c602, .ref o607, .int 0])), (k601, .inr (0, [.int 0, .int 14, .int 3, .int 64])), (c602, .inr (1, [.ref g1603, .int 0])), (g1603, .inr (2, [.int 16, .int 5, .ref a1604])), (a1604, .inl (cA1605, 80, .inl f1606)), (o607, .inr (3, [.ref g2608, .int 0, .int 0])), (g2608, .inr (2, [.int 12, .int 7, .ref a2609])), (a2609, .inl (cA2610, 84, .inl f2611)), (ps612, .inr (6, [.ref pa613])), (pa613, .inl (cP614, 8, .inr (.inr (.inr (.inr (fun _ => none)))))), (im615, .inr (6, [.ref ia616])), (ia616, .inl (cI617, 2, .inr (.inr (.inr (.inr (fun _ => none)))))), (lt618, .inr (5, [.long 0]))]) (va_runI (As := []) (rest := [.ref q619]) ⟨hx, hb, hml, hown, hts⟩ (c_X8_init l D H.size q619 ) (cwI 0 hts gL_law_X8_init rfl rfl rfl (hts (.initialized RX8) (List.mem_of_getElem? (i := 66) (by decide +kernel))) (hts (.methodLink RL 12 yX8_init) (List.mem_of_getElem? (i := 684) (by decide +kernel))) (hts (.instanceMethod yX8_init) (List.mem_of_getElem? (i := 685) (by decide +kernel))) rfl (by decide +kernel) ⟨(Nat.le_of_ble_eq_true rfl), (Nat.le_of_ble_eq_true rfl)⟩) ⟨mP_blind, m_pre _ hN hK hP hD [] rfl [14] rfl (by decide)⟩ rfl rfl hl.1 rfl (lv_room (Nat.le_of_ble_eq_true rfl)) dL_law_12 ⟨(Nat.le_of_ble_eq_true rfl), (Nat.le_of_ble_eq_true rfl)⟩) hP hD hS hA [14] [0, 1, 2, 3, 4, 5, 6, 7, 8, 9, 10, 11, 12, 13] rfl rfl (by decide) (by decide) (fun u H locs hw hK1 hP hD hS => ?_)
  obtain ⟨a621, cA622, f623, pa624, cP625, fp626, ka627, cK628, fk629, za630, cZ631⟩ := u
  have hK : va_K D vwCl [(cA1605, .int), (cA2610, .int), (cP614, .object "LoanHouse$House"), (cI617, .object "LoanHouse$House"), (cA622, .int), (cP625, .int), (cK628, .int), (cZ631, .boolean)] ss := hK.app hK1
  have hP : va_P D vwCl [(q598, .inr (7, [.ref h600, .ref ps612, .ref im615, .ref lt618, .int 0, .int 0])), (h600, .inr (4, [.ref k601, .ref c602, .ref o607, .int 0])), (k601, .inr (0, [.int 0, .int 14, .int 3, .int 64])), (c602, .inr (1, [.ref g1603, .int 0])), (g1603, .inr (2, [.int 16, .int 5, .ref a1604])), (a1604, .inl (cA1605, 80, .inl f1606)), (o607, .inr (3, [.ref g2608, .int 0, .int 0])), (g2608, .inr (2, [.int 12, .int 7, .ref a2609])), (a2609, .inl (cA2610, 84, .inl f2611)), (ps612, .inr (6, [.ref pa613])), (pa613, .inl (cP614, 8, .inr (.inr (.inr (.inr (fun _ => none)))))), (im615, .inr (6, [.ref ia616])), (ia616, .inl (cI617, 2, .inr (.inr (.inr (.inr (fun _ => none)))))), (lt618, .inr (5, [.long 0])), (q619, .inr (8, [.ref a621, .ref pa624, .int 0, .ref ka627, .ref za630, .long 0])), (a621, .inl (cA622, 172, .inl f623)), (pa624, .inl (cP625, 1376, .inl fp626)), (ka627, .inl (cK628, 344, .inl fk629)), (za630, .inl (cZ631, 2, .inl (fun _ => 0)))] H := hP
  have hD : va_D AA [(q598, .inr (7, [.ref h600, .ref ps612, .ref im615, .ref lt618, .int 0, .int 0])), (h600, .inr (4, [.ref k601, .ref c602, .ref o607, .int 0])), (k601, .inr (0, [.int 0, .int 14, .int 3, .int 64])), (c602, .inr (1, [.ref g1603, .int 0])), (g1603, .inr (2, [.int 16, .int 5, .ref a1604])), (a1604, .inl (cA1605, 80, .inl f1606)), (o607, .inr (3, [.ref g2608, .int 0, .int 0])), (g2608, .inr (2, [.int 12, .int 7, .ref a2609])), (a2609, .inl (cA2610, 84, .inl f2611)), (ps612, .inr (6, [.ref pa613])), (pa613, .inl (cP614, 8, .inr (.inr (.inr (.inr (fun _ => none)))))), (im615, .inr (6, [.ref ia616])), (ia616, .inl (cI617, 2, .inr (.inr (.inr (.inr (fun _ => none)))))), (lt618, .inr (5, [.long 0])), (q619, .inr (8, [.ref a621, .ref pa624, .int 0, .ref ka627, .ref za630, .long 0])), (a621, .inl (cA622, 172, .inl f623)), (pa624, .inl (cP625, 1376, .inl fp626)), (ka627, .inl (cK628, 344, .inl fk629)), (za630, .inl (cZ631, 2, .inl (fun _ => 0)))] := hD
  try dsimp only at hw
  refine W.widen (k := 19) (n := 2102) (Nat.le_of_ble_eq_true rfl) (Nat.le_of_ble_eq_true rfl) ?_
  have zw12 := hw
  refine lv_astore_n (lv' := [(2, .ref q619), (1, .ref q598), (0, .ref b)]) hx hb dL_law_15 rfl hl (by decide) rfl (fun ls hl => ?_)
  refine lv_iconst (v := 0) hx hb dL_law_16 (by decide) ?_
  refine lv_istore_n (lv' := [(3, .int 0), (2, .ref q619), (1, .ref q598), (0, .ref b)]) hx hb dL_law_17 rfl hl (by decide) rfl (fun ls hl => ?_)
  refine lv_iload_n hx hb dL_law_18 rfl (lv_at hl 0 rfl) ?_
  refine lv_aload_n hx hb dL_law_19 rfl (lv_at hl 3 rfl) ?_
  refine va_slen hx hb hX hbl hbA hS dL_law_20 ?_
  refine lv_iconst (v := 5) hx hb dL_law_21 (by decide) ?_
  refine lv_isub hx hb dL_law_22 ?_
  refine lv_topi (fun x632 ex632 => ?_)
  rcases Nat.lt_or_ge L 5 with hlt | hge
  · refine lv_icmp_gt (tgt := 650) hx hb dL_law_23 (by decide) (fun zc23 => ?_) (fun hc => absurd (short hlt ex632) hc)
    refine lv_iconst (v := 1) hx hb dL_law_650 (by decide) ?_
    refine va_forget (fun q hq => by have := hS.2.2 q hq; rw [hAA] at this; exact this) ?_
    refine W.widen (k := 600000) (n := 7302249) (Nat.le_of_ble_eq_true rfl) (Nat.le_of_ble_eq_true rfl) ?_
    exact lw_ret hx hb hr hlocks dL_law_651
  · have h5 : L = 5 := by omega
    subst h5
    refine lv_icmp_gt (tgt := 650) hx hb dL_law_23 (by decide) (fun hc => absurd hc (by rw [ex632]; decide)) (fun zc23 => ?_)
    refine lv_aload_n hx hb dL_law_26 rfl (lv_at hl 3 rfl) ?_
    refine lv_iload_n hx hb dL_law_27 rfl (lv_at hl 0 rfl) ?_
    refine va_sld hx hb hX hbl hbA hS (vi_ok (by decide)) dL_law_28 ?_
    refine lv_bipush (v := 31) hx hb dL_law_29 (by decide) ?_
    refine lv_iand hx hb dL_law_31 ?_
    refine lv_topi (fun x633 ex633 => ?_)
    obtain ⟨kk, hkk, hkx⟩ := pk_andE (xs (0 : Int32).toNatClampNeg) (m := 31) 5 (by decide)
    rw [hkx] at ex633
    subst ex633
    match kk, hkk with
    | 0, _ =>
      refine lv_tableIn (off := 88) (tgt := 120) hx hb dL_law_32 (by decide) (by decide) (by decide) (by decide) ?_
      exact law_copy C0 hAA hN zw12 hK (m_P hP (is := [0, 1, 2, 3, 4, 5, 6, 7, 8, 9, 10, 11, 12, 13, 14, 15, 16, 17, 18]) rfl) (hD.sub [0, 1, 2, 3, 4, 5, 6, 7, 8, 9, 10, 11, 12, 13, 14, 15, 16, 17, 18] (by decide) rfl) hS (lv_sub hl [0, 1, 2, 3] rfl)
    | 1, _ =>
      refine lv_tableIn (off := 121) (tgt := 153) hx hb dL_law_32 (by decide) (by decide) (by decide) (by decide) ?_
      exact law_lend C0 hAA hN zw12 hK (m_P hP (is := [0, 1, 2, 3, 4, 5, 6, 7, 8, 9, 10, 11, 12, 13, 14, 15, 16, 17, 18]) rfl) (hD.sub [0, 1, 2, 3, 4, 5, 6, 7, 8, 9, 10, 11, 12, 13, 14, 15, 16, 17, 18] (by decide) rfl) hS (lv_sub hl [0, 1, 2, 3] rfl)
    | 2, _ =>
      refine lv_tableIn (off := 154) (tgt := 186) hx hb dL_law_32 (by decide) (by decide) (by decide) (by decide) ?_
      exact law_giveBack C0 hAA hN zw12 hK (m_P hP (is := [0, 1, 2, 3, 4, 5, 6, 7, 8, 9, 10, 11, 12, 13, 14, 15, 16, 17, 18]) rfl) (hD.sub [0, 1, 2, 3, 4, 5, 6, 7, 8, 9, 10, 11, 12, 13, 14, 15, 16, 17, 18] (by decide) rfl) hS (lv_sub hl [0, 1, 2, 3] rfl)
    | 3, _ =>
      refine lv_tableIn (off := 187) (tgt := 219) hx hb dL_law_32 (by decide) (by decide) (by decide) (by decide) ?_
      exact law_renew C0 hAA hN zw12 hK (m_P hP (is := [0, 1, 2, 3, 4, 5, 6, 7, 8, 9, 10, 11, 12, 13, 14, 15, 16, 17, 18]) rfl) (hD.sub [0, 1, 2, 3, 4, 5, 6, 7, 8, 9, 10, 11, 12, 13, 14, 15, 16, 17, 18] (by decide) rfl) hS (lv_sub hl [0, 1, 2, 3] rfl)
    | 4, _ =>
      refine lv_tableIn (off := 210) (tgt := 242) hx hb dL_law_32 (by decide) (by decide) (by decide) (by decide) ?_
      exact law_lose C0 hAA hN zw12 hK (m_P hP (is := [0, 1, 2, 3, 4, 5, 6, 7, 8, 9, 10, 11, 12, 13, 14, 15, 16, 17, 18]) rfl) (hD.sub [0, 1, 2, 3, 4, 5, 6, 7, 8, 9, 10, 11, 12, 13, 14, 15, 16, 17, 18] (by decide) rfl) hS (lv_sub hl [0, 1, 2, 3] rfl)
    | 5, _ =>
      refine lv_tableIn (off := 233) (tgt := 265) hx hb dL_law_32 (by decide) (by decide) (by decide) (by decide) ?_
      exact law_hold C0 hAA hN zw12 hK (m_P hP (is := [0, 1, 2, 3, 4, 5, 6, 7, 8, 9, 10, 11, 12, 13, 14, 15, 16, 17, 18]) rfl) (hD.sub [0, 1, 2, 3, 4, 5, 6, 7, 8, 9, 10, 11, 12, 13, 14, 15, 16, 17, 18] (by decide) rfl) hS (lv_sub hl [0, 1, 2, 3] rfl)
    | 6, _ =>
      refine lv_tableIn (off := 286) (tgt := 318) hx hb dL_law_32 (by decide) (by decide) (by decide) (by decide) ?_
      exact law_giveUp C0 hAA hN zw12 hK (m_P hP (is := [0, 1, 2, 3, 4, 5, 6, 7, 8, 9, 10, 11, 12, 13, 14, 15, 16, 17, 18]) rfl) (hD.sub [0, 1, 2, 3, 4, 5, 6, 7, 8, 9, 10, 11, 12, 13, 14, 15, 16, 17, 18] (by decide) rfl) hS (lv_sub hl [0, 1, 2, 3] rfl)
    | 7, _ =>
      refine lv_tableIn (off := 309) (tgt := 341) hx hb dL_law_32 (by decide) (by decide) (by decide) (by decide) ?_
      exact law_pass C0 hAA hN zw12 hK (m_P hP (is := [0, 1, 2, 3, 4, 5, 6, 7, 8, 9, 10, 11, 12, 13, 14, 15, 16, 17, 18]) rfl) (hD.sub [0, 1, 2, 3, 4, 5, 6, 7, 8, 9, 10, 11, 12, 13, 14, 15, 16, 17, 18] (by decide) rfl) hS (lv_sub hl [0, 1, 2, 3] rfl)
    | 8, _ =>
      refine lv_tableIn (off := 332) (tgt := 364) hx hb dL_law_32 (by decide) (by decide) (by decide) (by decide) ?_
      exact law_set C0 hAA hN zw12 hK (m_P hP (is := [0, 1, 2, 3, 4, 5, 6, 7, 8, 9, 10, 11, 12, 13, 14, 15, 16, 17, 18]) rfl) (hD.sub [0, 1, 2, 3, 4, 5, 6, 7, 8, 9, 10, 11, 12, 13, 14, 15, 16, 17, 18] (by decide) rfl) hS (lv_sub hl [0, 1, 2, 3] rfl)
    | 9, _ =>
      refine lv_tableIn (off := 365) (tgt := 397) hx hb dL_law_32 (by decide) (by decide) (by decide) (by decide) ?_
      exact law_drift C0 hAA hN zw12 hK (m_P hP (is := [0, 1, 2, 3, 4, 5, 6, 7, 8, 9, 10, 11, 12, 13, 14, 15, 16, 17, 18]) rfl) (hD.sub [0, 1, 2, 3, 4, 5, 6, 7, 8, 9, 10, 11, 12, 13, 14, 15, 16, 17, 18] (by decide) rfl) hS (lv_sub hl [0, 1, 2, 3] rfl)
    | 10, _ =>
      refine lv_tableIn (off := 398) (tgt := 430) hx hb dL_law_32 (by decide) (by decide) (by decide) (by decide) ?_
      exact law_undo C0 hAA hN zw12 hK (m_P hP (is := [0, 1, 2, 3, 4, 5, 6, 7, 8, 9, 10, 11, 12, 13, 14, 15, 16, 17, 18]) rfl) (hD.sub [0, 1, 2, 3, 4, 5, 6, 7, 8, 9, 10, 11, 12, 13, 14, 15, 16, 17, 18] (by decide) rfl) hS (lv_sub hl [0, 1, 2, 3] rfl)
    | 11, _ =>
      refine lv_tableIn (off := 411) (tgt := 443) hx hb dL_law_32 (by decide) (by decide) (by decide) (by decide) ?_
      exact law_told C0 hAA hN zw12 hK (m_P hP (is := [0, 1, 2, 3, 4, 5, 6, 7, 8, 9, 10, 11, 12, 13, 14, 15, 16, 17, 18]) rfl) (hD.sub [0, 1, 2, 3, 4, 5, 6, 7, 8, 9, 10, 11, 12, 13, 14, 15, 16, 17, 18] (by decide) rfl) hS (lv_sub hl [0, 1, 2, 3] rfl)
    | 12, _ =>
      refine lv_tableIn (off := 434) (tgt := 466) hx hb dL_law_32 (by decide) (by decide) (by decide) (by decide) ?_
      exact law_copyOf C0 hAA hN zw12 hK (m_P hP (is := [0, 1, 2, 3, 4, 5, 6, 7, 8, 9, 10, 11, 12, 13, 14, 15, 16, 17, 18]) rfl) (hD.sub [0, 1, 2, 3, 4, 5, 6, 7, 8, 9, 10, 11, 12, 13, 14, 15, 16, 17, 18] (by decide) rfl) hS (lv_sub hl [0, 1, 2, 3] rfl)
    | 13, _ =>
      refine lv_tableIn (off := 467) (tgt := 499) hx hb dL_law_32 (by decide) (by decide) (by decide) (by decide) ?_
      exact law_holdOf C0 hAA hN zw12 hK (m_P hP (is := [0, 1, 2, 3, 4, 5, 6, 7, 8, 9, 10, 11, 12, 13, 14, 15, 16, 17, 18]) rfl) (hD.sub [0, 1, 2, 3, 4, 5, 6, 7, 8, 9, 10, 11, 12, 13, 14, 15, 16, 17, 18] (by decide) rfl) hS (lv_sub hl [0, 1, 2, 3] rfl)
    | 14, _ =>
      refine lv_tableIn (off := 500) (tgt := 532) hx hb dL_law_32 (by decide) (by decide) (by decide) (by decide) ?_
      exact law_titleOf C0 hAA hN zw12 hK (m_P hP (is := [0, 1, 2, 3, 4, 5, 6, 7, 8, 9, 10, 11, 12, 13, 14, 15, 16, 17, 18]) rfl) (hD.sub [0, 1, 2, 3, 4, 5, 6, 7, 8, 9, 10, 11, 12, 13, 14, 15, 16, 17, 18] (by decide) rfl) hS (lv_sub hl [0, 1, 2, 3] rfl)
    | 15, _ =>
      refine lv_tableIn (off := 533) (tgt := 565) hx hb dL_law_32 (by decide) (by decide) (by decide) (by decide) ?_
      exact law_readerOf C0 hAA hN zw12 hK (m_P hP (is := [0, 1, 2, 3, 4, 5, 6, 7, 8, 9, 10, 11, 12, 13, 14, 15, 16, 17, 18]) rfl) (hD.sub [0, 1, 2, 3, 4, 5, 6, 7, 8, 9, 10, 11, 12, 13, 14, 15, 16, 17, 18] (by decide) rfl) hS (lv_sub hl [0, 1, 2, 3] rfl)
    | 16, _ =>
      refine lv_tableIn (off := 566) (tgt := 598) hx hb dL_law_32 (by decide) (by decide) (by decide) (by decide) ?_
      exact law_keep C0 hAA hN zw12 hK (m_P hP (is := [0, 1, 2, 3, 4, 5, 6, 7, 8, 9, 10, 11, 12, 13, 14, 15, 16, 17, 18]) rfl) (hD.sub [0, 1, 2, 3, 4, 5, 6, 7, 8, 9, 10, 11, 12, 13, 14, 15, 16, 17, 18] (by decide) rfl) hS (lv_sub hl [0, 1, 2, 3] rfl)
    | 17, _ =>
      refine lv_tableIn (off := 589) (tgt := 621) hx hb dL_law_32 (by decide) (by decide) (by decide) (by decide) ?_
      exact law_goBack C0 hAA hN zw12 hK (m_P hP (is := [0, 1, 2, 3, 4, 5, 6, 7, 8, 9, 10, 11, 12, 13, 14, 15, 16, 17, 18]) rfl) (hD.sub [0, 1, 2, 3, 4, 5, 6, 7, 8, 9, 10, 11, 12, 13, 14, 15, 16, 17, 18] (by decide) rfl) hS (lv_sub hl [0, 1, 2, 3] rfl)
    | kk + 18, hkk =>
      refine lv_tableOut (tgt := 644) hx hb dL_law_32 (Or.inr (by rw [nI_toInt (by omega)]; omega)) (by decide) ?_
      exact law_end C0 hAA hN hS (Nat.le_of_ble_eq_true rfl) (Nat.le_of_ble_eq_true rfl) (lv_sub hl [0, 3] rfl)
set_option maxHeartbeats 4000000 in
theorem lw_walk (l : Launch) (hflags : l.flags = flags0) (b : Addr) (xs : List Int32) : MetFree l x (headSpec (Jvm.Cond.code x code maxLocals ret :: tables_1) room_1) (lw_P b xs) (fun _ _ _ _ _ => True) lw_Q := by
  refine MetFree.of_bodyS (code := code) (maxLocals := maxLocals) (ret := ret) (by decide) ?_ ?_
  · intro args s m h hn
    obtain ⟨meth, c, h1, h2, h3, h4, h5, h6, -, -⟩ := Cond.code_spec hn (atoms_spec (ws := Jvm.Cond.code x code maxLocals ret :: tables_1) h _ List.mem_cons_self)
    exact ⟨meth, c, h1, h2, h3, h4, h5, h6⟩
  · intro p e s m args below meth c s₁ B hml0 hP _
    obtain ⟨rfl, hx, hbd, hgv⟩ := hP
    obtain ⟨scr, harrAt, hlist, hof, hsmall⟩ := hx
    obtain ⟨hcb, hkn, -, -⟩ := State.arrayAt?_spec harrAt
    have hown : s.vm.findClass R_law = some m.cls := findClass_of_methodNamed B.named
    have hts0 : ∀ c ∈ (Jvm.Cond.code x code maxLocals ret :: tables_1), c.before #[Value.ref b] s = true := atoms_spec (ws := Jvm.Cond.code x code maxLocals ret :: tables_1) B.pre
    have hts : ∀ w ∈ lw_tbl, w.before #[Value.ref b] s = true := k2_hts_sels lw_privs (fun w hw => hts0 w (List.mem_cons_of_mem _ hw)) lw_privs_ok
    have hml : c.maxLocals = 4 := B.maxLocals_eq (hts0 _ List.mem_cons_self)
    have X₀ : Stand p l e room_1 s m #[Value.ref b] below meth c s₁ [] 0 0 := Stand.of_body B
    have hh0 : s₁.heap = s.heap := by rw [B.state]; rfl
    have hsz : scr.slots.size = xs.length := by rw [← Array.length_toList, hlist, List.length_map]
    have hval : ∀ j : Nat, j < xs.length → scr.slots[j]? = some (.int (xs.getD j 0)) := fun j hj => by
      rw [← Array.getElem?_toList, hlist]
      simp [hj]
    have hbl : b < s.heap.size := (Array.getElem?_eq_some_iff.mp hcb).1
    have hX : va_X b xs.length (fun j => xs.getD j 0) s s.heap := ⟨scr, hcb, hof, hkn, hsz, hval⟩
    have K : W p l e room_1 s m #[Value.ref b] below meth c s₁.heap [] 0 0 (lw_Z below #[Value.ref b] s) (entryFrame m ([Value.ref b] : List Value).toArray 4) := by
      rw [hh0]
      exact whole_start l hflags hbd ⟨B.exec, B.bytes, B.returns, hml, hown, hts, hX, hbl, B.notSynchronized, hgv⟩
    obtain ⟨t, a1, o, b1, b2, b3⟩ := K s₁ rfl X₀
    exact ⟨t, o, a1, b1, b2, b3⟩
theorem lw_pre_spec {args : Array Value} {s : State} (h : (Jvm.Cond.and given_1 narrow_1).before args s = true) (hr : rest_1_c.before args s = true) : ∃ (b : Addr) (xs : List Int32), lw_P b xs args s := by
  have hs := flat_of_before _ h
  have hq := flat_of_before _ hr
  have hc : (Cond.count 1).before args s = true := hs _ (by decide +kernel)
  have harr : (Cond.arrayOf (.arg 0) .int).before args s = true := hs _ (by decide +kernel)
  have hle : (Cond.le (.length (.arg 0)) (.int 5)).before args s = true := hs _ (by decide +kernel)
  have hlen : (Cond.isInt (.length (.arg 0))).before args s = true := hq _ (by decide +kernel)
  have hall : (Cond.all (.arg 0) (.isInt (.elem (.arg 0) (.index 0)))).before args s = true := hq _ (by decide +kernel)
  obtain ⟨b, xs, hb, hx⟩ := State.ints_of_pre rfl harr hlen hall
  have hsm : xs.length < 2 ^ 31 := hx.choose_spec.2.2.2
  have hev : (Term.length (.arg 0)).eval args s none [] s = some (.int xs.length.toInt32) := hx.length_eval hb
  have hv := Cond.le_ints hev (show (Term.int 5).eval args s none [] s = some (.int 5) from rfl)
  have hd : xs.length.toInt32 ≤ 5 := by
    simpa [Cond.before, Cond.holds, hv] using hle
  have hN : xs.length ≤ 5 := (Int32.ofNat_le_ofNat hsm (by decide)).mp (show Int32.ofNat xs.length ≤ Int32.ofNat 5 from hd)
  exact ⟨b, xs, Cond.one_arg hc (show args[0]? = some (.ref b) from hb), hx, hN, h⟩
theorem lw_comes (l : Launch) (hflags : l.flags = flags0) : Comes l x (Jvm.Cond.code x code maxLocals ret :: tables_1) room_1 (fun tb e args s => Calls_1 tb e args s ∧ rest_1 tb e args s ∧ Pre_1 tb e args s)
    (fun _ _ args s o t => lw_Q args s o t) := by
  intro p e ha hc hk s m args below hf hfit hheap happ hpre
  obtain ⟨b, xs, hP⟩ := lw_pre_spec hpre.2.2 hpre.2.1
  obtain ⟨k, o, h1, h2, h3, hQ⟩ := lw_walk l hflags b xs p e ha hc hk s m args below hf ((Spec.applies_iff_loose hf).mp happ).1 hP trivial
  exact ⟨k, o, h1, h2, h3, hQ⟩
theorem lw_frame {s t : State} {o : Outcome} {args : Array Value} (h : Framed s o t [] 600000 7302249) :
    Framed s o t (fieldLocs frame_1_writes args s ++ arrayLocs frame_1_arrays args s ++ staticLocs frame_1_statics s) 600000 7302249 := h
theorem lw_limb (L : Cond) (hL : ∀ (args : Array Value) (s t : State), L.after args s (.returned (some (.int 1))) t = true) :
    ArmFor flags0 classFile x code maxLocals ret World_1 tables_1 room_1 Calls_1 rest_1 Pre_1
      (fun tb e a s o t => postC L tb e a s o t ∧ Framed s o t (fieldLocs frame_1_writes a s ++ arrayLocs frame_1_arrays a s ++ staticLocs frame_1_statics s) 600000 7302249) := by
  intro l hflags _ _ p e ha hc hk s m args below hf hfit hheap happ hpre
  obtain ⟨k, o, h1, h2, h3, rfl, hF⟩ := lw_comes l hflags p e ha hc hk s m args below hf hfit hheap happ hpre
  exact ⟨k, _, h1, h2, h3, hL args s _, lw_frame hF⟩
theorem i_vc : Claimed_1_1 ∧ Claimed_1_2 := ⟨lw_limb limb_1_1 (fun args s t => by simp [limb_1_1, Cond.after, Cond.holds, Cond.value]), lw_limb limb_1_2 (fun args s t => Cond.after_iff.mpr (by
  first | (rw [show limb_1_2 = Cond.eq .result (.int 1) from rfl, Cond.eq_ints (x := 1) (y := 1) rfl rfl]; simp; done) | (simp [limb_1_2, Cond.value, Term.eval]; done)))⟩
