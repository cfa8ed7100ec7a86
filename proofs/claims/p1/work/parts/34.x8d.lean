set_option maxHeartbeats 4000000 in
set_option maxRecDepth 100000 in
theorem c_X8_mayHold (l : Launch) (D : va_G) (sz : Nat) (m a pa ka za : Nat) (cA : ClassId) (u0 : Int32) (y : Int64) (f : Nat → Int32) (hc : Nat) (p t : Int32) (h5 : f 5 = nI hc) (hh : hc ≤ 12) (h4 : f 4 = 0) : mI l yX8_mayHold wsX8_mayHold (rk 1 0 0) D [.ref m, .int p, .int t] [(cA, .int)] sz [(m, .inr (8, [.ref a, .ref pa, .int u0, .ref ka, .ref za, .long y])), (a, .inl (cA, 172, .inl f))] (S := Unit) (fun r _ => r = 1 ∨ (r = 0 ∧ 0 < hc)) (fun _ => []) (fun _ => [(m, .inr (8, [.ref a, .ref pa, .int u0, .ref ka, .ref za, .long y])), (a, .inl (cA, 172, .inl f))]) := by
  refine mI_of (cc := cX8_mayHold) (maxL := 5) (ty := .boolean) (plainFor_of_name (by decide)) rfl (Nat.le_of_ble_eq_true rfl) ?_
  intro pp ee ss mm bl mt cd AA QQ hx hb hml hts hown hN hA hK hP hD hS hret ls hl
  have hl : lv_has ls 5 [(0, .ref m), (1, .int p), (2, .int t)] := hl
  have inX8 : ∀ w ∈ wsX80, w ∈ wsX8_mayHold := fun _ h => List.mem_cons_of_mem _ (List.mem_append_right _ h)
  refine lv_iconst (v := 1) hx hb dX8_mayHold_0 (by decide) ?_
  refine lv_istore_n (lv' := [(3, .int 1), (0, .ref m), (1, .int p), (2, .int t)]) hx hb dX8_mayHold_1 rfl hl (by decide) rfl (fun ls hl => ?_)
  refine lv_iconst (v := 0) hx hb dX8_mayHold_2 (by decide) ?_
  refine lv_istore (lv' := [(4, .int 0), (3, .int 1), (0, .ref m), (1, .int p), (2, .int t)]) hx hb dX8_mayHold_3 hl (by decide) rfl (fun ls hl => ?_)
  have lp : ∀ (fu : Nat) (i : Nat) (x : Int32), (i ≤ hc) → (x = 1 ∨ (x = 0 ∧ 0 < hc)) → (hc < i + fu) → ∀ (H : Heap) (locs : List Loc) (ls : Array Slot), va_P D vwCl [(m, .inr (8, [.ref a, .ref pa, .int u0, .ref ka, .ref za, .long y])), (a, .inl (cA, 172, .inl f))] H → va_S AA ss.heap H locs → lv_has ls 5 [(4, .int (nI i)), (3, .int x), (0, .ref m), (1, .int p), (2, .int t)] → W pp l ee (rk 1 0 0) ss mm ([.ref m, .int p, .int t] : List Value).toArray bl mt cd H locs 0 0 QQ (F0 mm 5 ls []) := by
    intro fu
    induction fu with
    | zero =>
      intro i x hi hxm hf H locs ls hP hS hl
      exact absurd hf (by omega)
    | succ fu ih =>
      intro i x hi hxm hf H locs ls hP hS hl
      refine lv_iload hx hb dX8_mayHold_5 (lv_at hl 0 rfl) ?_
      refine lv_aload_n hx hb dX8_mayHold_7 rfl (lv_at hl 2 rfl) ?_
      refine va_get (D := D) (ci := 8) (v := .ref a) (C := RX8) (T := TX8) (N := 6) hx hb hts inX8 hown hK hP 0 rfl rfl 0 (by decide) (hts (.fieldLink RX8 7 "LoanHouseModel" "st" "[I") (List.mem_of_getElem? (i := 1) rfl)) (fun _ h9 => h9) rfl dX8_mayHold_8 ?_
      refine lv_iconst (v := 5) hx hb dX8_mayHold_11 (by decide) ?_
      refine va_iald hx hb hK hP 1 0 rfl rfl (vi_ok (by decide)) dX8_mayHold_12 ?_
      refine lv_topi (fun x370 ex370 => ?_)
      have ex370 : x370 = nI hc := ex370.trans ((congrArg f (by decide : (5 : Int32).toNatClampNeg = 5)).trans h5)
      subst ex370
      refine lv_icmp_ge (tgt := 54) hx hb dX8_mayHold_13 (by decide) (fun zc13 => ?_) (fun zc13 => ?_)
      · rcases hxm with rfl | ⟨rfl, hpos⟩
        · refine lv_iconst (v := 0) hx hb dX8_mayHold_54 (by decide) ?_
          refine lv_istore (lv' := [(4, .int 0), (3, .int 1), (0, .ref m), (1, .int p), (2, .int t)]) hx hb dX8_mayHold_55 hl (by decide) rfl (fun ls hl => ?_)
          refine lv_iload hx hb dX8_mayHold_57 (lv_at hl 0 rfl) ?_
          refine lv_aload_n hx hb dX8_mayHold_59 rfl (lv_at hl 2 rfl) ?_
          refine va_get (D := D) (ci := 8) (v := .ref a) (C := RX8) (T := TX8) (N := 6) hx hb hts inX8 hown hK hP 0 rfl rfl 0 (by decide) (hts (.fieldLink RX8 7 "LoanHouseModel" "st" "[I") (List.mem_of_getElem? (i := 1) rfl)) (fun _ h9 => h9) rfl dX8_mayHold_60 ?_
          refine lv_iconst (v := 4) hx hb dX8_mayHold_63 (by decide) ?_
          refine va_iald hx hb hK hP 1 0 rfl rfl (vi_ok (by decide)) dX8_mayHold_64 ?_
          refine lv_topi (fun x371 ex371 => ?_)
          have ex371 : x371 = 0 := ex371.trans ((congrArg f (by decide : (4 : Int32).toNatClampNeg = 4)).trans h4)
          subst ex371
          refine lv_icmp_ge (tgt := 108) hx hb dX8_mayHold_65 (by decide) (fun zc65 => ?_) (fun hc => absurd (by decide) hc)
          refine lv_iload_n hx hb dX8_mayHold_108 rfl (lv_at hl 1 rfl) ?_
          exact hret 1 () rfl (Or.inl rfl) hP (hK.sub [] rfl) hD hS (Nat.le_of_ble_eq_true rfl) (Nat.le_of_ble_eq_true rfl) dX8_mayHold_109
        · refine lv_iconst (v := 0) hx hb dX8_mayHold_54 (by decide) ?_
          refine lv_istore (lv' := [(4, .int 0), (3, .int 0), (0, .ref m), (1, .int p), (2, .int t)]) hx hb dX8_mayHold_55 hl (by decide) rfl (fun ls hl => ?_)
          refine lv_iload hx hb dX8_mayHold_57 (lv_at hl 0 rfl) ?_
          refine lv_aload_n hx hb dX8_mayHold_59 rfl (lv_at hl 2 rfl) ?_
          refine va_get (D := D) (ci := 8) (v := .ref a) (C := RX8) (T := TX8) (N := 6) hx hb hts inX8 hown hK hP 0 rfl rfl 0 (by decide) (hts (.fieldLink RX8 7 "LoanHouseModel" "st" "[I") (List.mem_of_getElem? (i := 1) rfl)) (fun _ h9 => h9) rfl dX8_mayHold_60 ?_
          refine lv_iconst (v := 4) hx hb dX8_mayHold_63 (by decide) ?_
          refine va_iald hx hb hK hP 1 0 rfl rfl (vi_ok (by decide)) dX8_mayHold_64 ?_
          refine lv_topi (fun x372 ex372 => ?_)
          have ex372 : x372 = 0 := ex372.trans ((congrArg f (by decide : (4 : Int32).toNatClampNeg = 4)).trans h4)
          subst ex372
          refine lv_icmp_ge (tgt := 108) hx hb dX8_mayHold_65 (by decide) (fun zc65 => ?_) (fun hc => absurd (by decide) hc)
          refine lv_iload_n hx hb dX8_mayHold_108 rfl (lv_at hl 1 rfl) ?_
          exact hret 0 () rfl (Or.inr ⟨rfl, hpos⟩) hP (hK.sub [] rfl) hD hS (Nat.le_of_ble_eq_true rfl) (Nat.le_of_ble_eq_true rfl) dX8_mayHold_109
      · rcases hxm with rfl | ⟨rfl, hpos⟩
        · refine lv_iload_n hx hb dX8_mayHold_16 rfl (lv_at hl 1 rfl) ?_
          refine lv_if_eq (tgt := 46) hx hb dX8_mayHold_17 (by decide) (fun hc => absurd hc (by decide)) (fun zc17 => ?_)
          refine lv_aload_n hx hb dX8_mayHold_20 rfl (lv_at hl 2 rfl) ?_
          refine lv_iload hx hb dX8_mayHold_21 (lv_at hl 0 rfl) ?_
          refine lv_iconst (v := 1) hx hb dX8_mayHold_23 (by decide) ?_
          refine k_pi (va_runV (As := [.int (nI i), .int 1]) (rest := []) ⟨hx, hb, hml, hown, hts⟩ (c_X8_holdAt l D H.size m a pa ka za cA u0 y f i 1 ⟨by have := lt_of_nle zc13 hi hh; omega, by decide⟩) (cwV 2 hts gX8_mayHold_X8_holdAt rfl rfl rfl (by decide +kernel) ⟨(Nat.le_of_ble_eq_true rfl), (Nat.le_of_ble_eq_true rfl)⟩) ⟨mP_blind, va_recv hK hP (ci := 8) (q0 := 0) rfl rfl, m_pre _ hN hK hP hD [0] rfl [0, 1] rfl (by decide)⟩ rfl rfl hl.1 rfl (lv_room (Nat.le_of_ble_eq_true rfl)) dX8_mayHold_24 ⟨(Nat.le_of_ble_eq_true rfl), (Nat.le_of_ble_eq_true rfl)⟩) hP hD hS hA [0, 1] rfl (fun r373 u H locs hw hP hS => ?_)
          refine lv_iload_n hx hb dX8_mayHold_27 rfl (lv_at hl 3 rfl) ?_
          refine lv_icmp_ne (tgt := 42) hx hb dX8_mayHold_28 (by decide) (fun zc28 => ?_) (fun zc28 => ?_)
          · refine lv_iconst (v := 1) hx hb dX8_mayHold_42 (by decide) ?_
            refine lv_goto (tgt := 47) hx hb dX8_mayHold_43 (by decide) ?_
            refine lv_istore_n (lv' := [(3, .int 1), (4, .int (nI i)), (0, .ref m), (1, .int p), (2, .int t)]) hx hb dX8_mayHold_47 rfl hl (by decide) rfl (fun ls hl => ?_)
            refine lv_iinc (v := nI (i + 1)) (lv' := [(4, .int (nI (i + 1))), (3, .int 1), (0, .ref m), (1, .int p), (2, .int t)]) hx hb dX8_mayHold_48 hl (k := 1) rfl (nI_1 i) (by decide) rfl (fun ls hl => ?_)
            refine lv_goto (tgt := 5) hx hb dX8_mayHold_51 (by decide) ?_
            exact ih (i + 1) 1 (by have := lt_of_nle zc13 hi hh; omega) (Or.inl rfl) (by omega) _ _ ls hP hS (lv_sub hl [0, 1, 2, 3, 4] rfl)
          · refine lv_aload_n hx hb dX8_mayHold_31 rfl (lv_at hl 2 rfl) ?_
            refine lv_iload hx hb dX8_mayHold_32 (lv_at hl 0 rfl) ?_
            refine lv_iconst (v := 2) hx hb dX8_mayHold_34 (by decide) ?_
            refine k_pi (va_runV (As := [.int (nI i), .int 2]) (rest := []) ⟨hx, hb, hml, hown, hts⟩ (c_X8_holdAt l D H.size m a pa ka za cA u0 y f i 2 ⟨by have := lt_of_nle zc13 hi hh; omega, by decide⟩) (cwV 2 hts gX8_mayHold_X8_holdAt rfl rfl rfl (by decide +kernel) ⟨(Nat.le_of_ble_eq_true rfl), (Nat.le_of_ble_eq_true rfl)⟩) ⟨mP_blind, va_recv hK hP (ci := 8) (q0 := 0) rfl rfl, m_pre _ hN hK hP hD [0] rfl [0, 1] rfl (by decide)⟩ rfl rfl hl.1 rfl (lv_room (Nat.le_of_ble_eq_true rfl)) dX8_mayHold_35 ⟨(Nat.le_of_ble_eq_true rfl), (Nat.le_of_ble_eq_true rfl)⟩) hP hD hS hA [0, 1] rfl (fun r374 u H locs hw hP hS => ?_)
            refine lv_iload_n hx hb dX8_mayHold_38 rfl (lv_at hl 4 rfl) ?_
            refine lv_icmp_eq (tgt := 46) hx hb dX8_mayHold_39 (by decide) (fun zc39 => ?_) (fun zc39 => ?_)
            · refine lv_iconst (v := 0) hx hb dX8_mayHold_46 (by decide) ?_
              refine lv_istore_n (lv' := [(3, .int 0), (4, .int (nI i)), (0, .ref m), (1, .int p), (2, .int t)]) hx hb dX8_mayHold_47 rfl hl (by decide) rfl (fun ls hl => ?_)
              refine lv_iinc (v := nI (i + 1)) (lv' := [(4, .int (nI (i + 1))), (3, .int 0), (0, .ref m), (1, .int p), (2, .int t)]) hx hb dX8_mayHold_48 hl (k := 1) rfl (nI_1 i) (by decide) rfl (fun ls hl => ?_)
              refine lv_goto (tgt := 5) hx hb dX8_mayHold_51 (by decide) ?_
              exact ih (i + 1) 0 (by have := lt_of_nle zc13 hi hh; omega) (Or.inr ⟨rfl, by have := lt_of_nle zc13 hi hh; omega⟩) (by omega) _ _ ls hP hS (lv_sub hl [0, 1, 2, 3, 4] rfl)
            · refine lv_iconst (v := 1) hx hb dX8_mayHold_42 (by decide) ?_
              refine lv_goto (tgt := 47) hx hb dX8_mayHold_43 (by decide) ?_
              refine lv_istore_n (lv' := [(3, .int 1), (4, .int (nI i)), (0, .ref m), (1, .int p), (2, .int t)]) hx hb dX8_mayHold_47 rfl hl (by decide) rfl (fun ls hl => ?_)
              refine lv_iinc (v := nI (i + 1)) (lv' := [(4, .int (nI (i + 1))), (3, .int 1), (0, .ref m), (1, .int p), (2, .int t)]) hx hb dX8_mayHold_48 hl (k := 1) rfl (nI_1 i) (by decide) rfl (fun ls hl => ?_)
              refine lv_goto (tgt := 5) hx hb dX8_mayHold_51 (by decide) ?_
              exact ih (i + 1) 1 (by have := lt_of_nle zc13 hi hh; omega) (Or.inl rfl) (by omega) _ _ ls hP hS (lv_sub hl [0, 1, 2, 3, 4] rfl)
        · refine lv_iload_n hx hb dX8_mayHold_16 rfl (lv_at hl 1 rfl) ?_
          refine lv_if_eq (tgt := 46) hx hb dX8_mayHold_17 (by decide) (fun zc17 => ?_) (fun hc => absurd (by decide) hc)
          refine lv_iconst (v := 0) hx hb dX8_mayHold_46 (by decide) ?_
          refine lv_istore_n (lv' := [(3, .int 0), (4, .int (nI i)), (0, .ref m), (1, .int p), (2, .int t)]) hx hb dX8_mayHold_47 rfl hl (by decide) rfl (fun ls hl => ?_)
          refine lv_iinc (v := nI (i + 1)) (lv' := [(4, .int (nI (i + 1))), (3, .int 0), (0, .ref m), (1, .int p), (2, .int t)]) hx hb dX8_mayHold_48 hl (k := 1) rfl (nI_1 i) (by decide) rfl (fun ls hl => ?_)
          refine lv_goto (tgt := 5) hx hb dX8_mayHold_51 (by decide) ?_
          exact ih (i + 1) 0 (by have := lt_of_nle zc13 hi hh; omega) (Or.inr ⟨rfl, by have := lt_of_nle zc13 hi hh; omega⟩) (by omega) _ _ ls hP hS (lv_sub hl [0, 1, 2, 3, 4] rfl)
  exact lp (hc + 1) 0 1 (Nat.zero_le _) (Or.inl rfl) (by omega) _ _ ls hP hS (lv_sub hl [0, 1, 2, 3, 4] rfl)
set_option maxHeartbeats 4000000 in
set_option maxRecDepth 100000 in
theorem c_X8_doHold (l : Launch) (D : va_G) (sz : Nat) (m a pa ka za : Nat) (cA : ClassId) (u0 : Int32) (y : Int64) (f : Nat → Int32) (hc d : Nat) (p t b nd : Int32) (hF : mF f hc d) (hh : hc < 12) : mI l yX8_doHold wsX8_doHold (rk 4 0 0) D [.ref m, .int p, .int t, .int b, .int nd] [(cA, .int)] sz [(m, .inr (8, [.ref a, .ref pa, .int u0, .ref ka, .ref za, .long y])), (a, .inl (cA, 172, .inl f))] (S := Nat → Int32) (fun r g => r = f 6 ∧ mF g (hc + 1) d) (fun _ => []) (fun g => [(m, .inr (8, [.ref a, .ref pa, .int u0, .ref ka, .ref za, .long y])), (a, .inl (cA, 172, .inl g))]) := by
  refine mI_of (cc := cX8_doHold) (maxL := 7) (ty := .int) (plainFor_of_name (by decide)) rfl (Nat.le_of_ble_eq_true rfl) ?_
  intro pp ee ss mm bl mt cd AA QQ hx hb hml hts hown hN hA hK hP hD hS hret ls hl
  have hl : lv_has ls 7 [(0, .ref m), (1, .int p), (2, .int t), (3, .int b), (4, .int nd)] := hl
  have inX8 : ∀ w ∈ wsX80, w ∈ wsX8_doHold := fun _ h => List.mem_cons_of_mem _ (List.mem_append_right _ h)
  refine lv_bipush (v := 88) hx hb dX8_doHold_0 (by decide) ?_
  refine lv_bipush (v := 7) hx hb dX8_doHold_2 (by decide) ?_
  refine lv_aload_n hx hb dX8_doHold_4 rfl (lv_at hl 0 rfl) ?_
  refine va_get (D := D) (ci := 8) (v := .ref a) (C := RX8) (T := TX8) (N := 6) hx hb hts inX8 hown hK hP 0 rfl rfl 0 (by decide) (hts (.fieldLink RX8 7 "LoanHouseModel" "st" "[I") (List.mem_of_getElem? (i := 1) rfl)) (fun _ h9 => h9) rfl dX8_doHold_5 ?_
  refine lv_iconst (v := 5) hx hb dX8_doHold_8 (by decide) ?_
  refine va_iald hx hb hK hP 1 0 rfl rfl (vi_ok (by decide)) dX8_doHold_9 ?_
  refine lv_topi (fun x375 ex375 => ?_)
  have ex375 : x375 = nI hc := ex375.trans ((congrArg f (by decide : (5 : Int32).toNatClampNeg = 5)).trans hF.2.2)
  subst ex375
  refine lv_imul hx hb dX8_doHold_10 ?_
  refine lv_topi (fun x376 ex376 => ?_)
  have ex376 : x376 = nI (7 * hc) := ex376.trans (pk_mul 7 hc)
  subst ex376
  refine lv_iadd hx hb dX8_doHold_11 ?_
  refine lv_topi (fun x377 ex377 => ?_)
  have ex377 : x377 = nI (88 + 7 * hc) := ex377.trans (nI_add 88 _)
  subst ex377
  refine lv_istore (lv' := [(5, .int (nI (88 + 7 * hc))), (0, .ref m), (1, .int p), (2, .int t), (3, .int b), (4, .int nd)]) hx hb dX8_doHold_12 hl (by decide) rfl (fun ls hl => ?_)
  refine lv_aload_n hx hb dX8_doHold_14 rfl (lv_at hl 1 rfl) ?_
  refine va_get (D := D) (ci := 8) (v := .ref a) (C := RX8) (T := TX8) (N := 6) hx hb hts inX8 hown hK hP 0 rfl rfl 0 (by decide) (hts (.fieldLink RX8 7 "LoanHouseModel" "st" "[I") (List.mem_of_getElem? (i := 1) rfl)) (fun _ h9 => h9) rfl dX8_doHold_15 ?_
  refine lv_bipush (v := 6) hx hb dX8_doHold_18 (by decide) ?_
  refine va_iald hx hb hK hP 1 0 rfl rfl (vi_ok (by decide)) dX8_doHold_20 ?_
  refine lv_topi (fun x378 ex378 => ?_)
  have ex378 : x378 = f 6 := ex378.trans ((congrArg f (by decide : (6 : Int32).toNatClampNeg = 6)).trans rfl)
  subst ex378
  refine lv_istore (lv' := [(6, .int (f 6)), (5, .int (nI (88 + 7 * hc))), (0, .ref m), (1, .int p), (2, .int t), (3, .int b), (4, .int nd)]) hx hb dX8_doHold_21 hl (by decide) rfl (fun ls hl => ?_)
  refine lv_aload_n hx hb dX8_doHold_23 rfl (lv_at hl 2 rfl) ?_
  refine va_get (D := D) (ci := 8) (v := .ref a) (C := RX8) (T := TX8) (N := 6) hx hb hts inX8 hown hK hP 0 rfl rfl 0 (by decide) (hts (.fieldLink RX8 7 "LoanHouseModel" "st" "[I") (List.mem_of_getElem? (i := 1) rfl)) (fun _ h9 => h9) rfl dX8_doHold_24 ?_
  refine lv_iload hx hb dX8_doHold_27 (lv_at hl 1 rfl) ?_
  refine lv_iconst (v := 0) hx hb dX8_doHold_29 (by decide) ?_
  refine lv_iadd hx hb dX8_doHold_30 ?_
  refine lv_topi (fun x379 ex379 => ?_)
  have ex379 : x379 = nI (88 + 7 * hc + 0) := ex379.trans (nI_add _ 0)
  subst ex379
  refine lv_iload hx hb dX8_doHold_31 (lv_at hl 0 rfl) ?_
  refine va_iast hx hb hK hP hD hS 1 0 rfl rfl (vp_in_nI (by omega) (by decide)) dX8_doHold_33 (fun H locs hP hD hS => ?_)
  have hP : va_P D vwCl [(m, .inr (8, [.ref a, .ref pa, .int u0, .ref ka, .ref za, .long y])), (a, .inl (cA, 172, .inl (upd f (nI (88 + 7 * hc + 0)).toNatClampNeg (f 6))))] H := hP
  have hD : va_D AA [(m, .inr (8, [.ref a, .ref pa, .int u0, .ref ka, .ref za, .long y])), (a, .inl (cA, 172, .inl (upd f (nI (88 + 7 * hc + 0)).toNatClampNeg (f 6))))] := hD
  obtain ⟨f380, ef380⟩ : ∃ g : Nat → Int32, g = upd f (nI (88 + 7 * hc + 0)).toNatClampNeg (f 6) := ⟨_, rfl⟩
  rw [← ef380] at hP hD
  have hf380_0 : f380 0 = nI d := by rw [ef380]; exact (pk_un (by rw [nI_clamp (by omega)]; omega)).trans hF.1
  have hf380_4 : f380 4 = 0 := by rw [ef380]; exact (pk_un (by rw [nI_clamp (by omega)]; omega)).trans hF.2.1
  have hf380_5 : f380 5 = nI hc := by rw [ef380]; exact (pk_un (by rw [nI_clamp (by omega)]; omega)).trans hF.2.2
  have hf380_6 : f380 6 = f 6 := by rw [ef380]; exact (pk_un (by rw [nI_clamp (by omega)]; omega)).trans rfl
  refine lv_aload_n hx hb dX8_doHold_34 rfl (lv_at hl 2 rfl) ?_
  refine va_get (D := D) (ci := 8) (v := .ref a) (C := RX8) (T := TX8) (N := 6) hx hb hts inX8 hown hK hP 0 rfl rfl 0 (by decide) (hts (.fieldLink RX8 7 "LoanHouseModel" "st" "[I") (List.mem_of_getElem? (i := 1) rfl)) (fun _ h9 => h9) rfl dX8_doHold_35 ?_
  refine lv_iload hx hb dX8_doHold_38 (lv_at hl 1 rfl) ?_
  refine lv_iconst (v := 1) hx hb dX8_doHold_40 (by decide) ?_
  refine lv_iadd hx hb dX8_doHold_41 ?_
  refine lv_topi (fun x381 ex381 => ?_)
  have ex381 : x381 = nI (88 + 7 * hc + 1) := ex381.trans (nI_add _ 1)
  subst ex381
  refine lv_iload_n hx hb dX8_doHold_42 rfl (lv_at hl 3 rfl) ?_
  refine va_iast hx hb hK hP hD hS 1 0 rfl rfl (vp_in_nI (by omega) (by decide)) dX8_doHold_43 (fun H locs hP hD hS => ?_)
  have hP : va_P D vwCl [(m, .inr (8, [.ref a, .ref pa, .int u0, .ref ka, .ref za, .long y])), (a, .inl (cA, 172, .inl (upd f380 (nI (88 + 7 * hc + 1)).toNatClampNeg p)))] H := hP
  have hD : va_D AA [(m, .inr (8, [.ref a, .ref pa, .int u0, .ref ka, .ref za, .long y])), (a, .inl (cA, 172, .inl (upd f380 (nI (88 + 7 * hc + 1)).toNatClampNeg p)))] := hD
  obtain ⟨f382, ef382⟩ : ∃ g : Nat → Int32, g = upd f380 (nI (88 + 7 * hc + 1)).toNatClampNeg p := ⟨_, rfl⟩
  rw [← ef382] at hP hD
  have hf382_0 : f382 0 = nI d := by rw [ef382]; exact (pk_un (by rw [nI_clamp (by omega)]; omega)).trans hf380_0
  have hf382_4 : f382 4 = 0 := by rw [ef382]; exact (pk_un (by rw [nI_clamp (by omega)]; omega)).trans hf380_4
  have hf382_5 : f382 5 = nI hc := by rw [ef382]; exact (pk_un (by rw [nI_clamp (by omega)]; omega)).trans hf380_5
  have hf382_6 : f382 6 = f 6 := by rw [ef382]; exact (pk_un (by rw [nI_clamp (by omega)]; omega)).trans hf380_6
  refine lv_aload_n hx hb dX8_doHold_44 rfl (lv_at hl 2 rfl) ?_
  refine va_get (D := D) (ci := 8) (v := .ref a) (C := RX8) (T := TX8) (N := 6) hx hb hts inX8 hown hK hP 0 rfl rfl 0 (by decide) (hts (.fieldLink RX8 7 "LoanHouseModel" "st" "[I") (List.mem_of_getElem? (i := 1) rfl)) (fun _ h9 => h9) rfl dX8_doHold_45 ?_
  refine lv_iload hx hb dX8_doHold_48 (lv_at hl 1 rfl) ?_
  refine lv_iconst (v := 2) hx hb dX8_doHold_50 (by decide) ?_
  refine lv_iadd hx hb dX8_doHold_51 ?_
  refine lv_topi (fun x383 ex383 => ?_)
  have ex383 : x383 = nI (88 + 7 * hc + 2) := ex383.trans (nI_add _ 2)
  subst ex383
  refine lv_iload_n hx hb dX8_doHold_52 rfl (lv_at hl 4 rfl) ?_
  refine va_iast hx hb hK hP hD hS 1 0 rfl rfl (vp_in_nI (by omega) (by decide)) dX8_doHold_53 (fun H locs hP hD hS => ?_)
  have hP : va_P D vwCl [(m, .inr (8, [.ref a, .ref pa, .int u0, .ref ka, .ref za, .long y])), (a, .inl (cA, 172, .inl (upd f382 (nI (88 + 7 * hc + 2)).toNatClampNeg t)))] H := hP
  have hD : va_D AA [(m, .inr (8, [.ref a, .ref pa, .int u0, .ref ka, .ref za, .long y])), (a, .inl (cA, 172, .inl (upd f382 (nI (88 + 7 * hc + 2)).toNatClampNeg t)))] := hD
  obtain ⟨f384, ef384⟩ : ∃ g : Nat → Int32, g = upd f382 (nI (88 + 7 * hc + 2)).toNatClampNeg t := ⟨_, rfl⟩
  rw [← ef384] at hP hD
  have hf384_0 : f384 0 = nI d := by rw [ef384]; exact (pk_un (by rw [nI_clamp (by omega)]; omega)).trans hf382_0
  have hf384_4 : f384 4 = 0 := by rw [ef384]; exact (pk_un (by rw [nI_clamp (by omega)]; omega)).trans hf382_4
  have hf384_5 : f384 5 = nI hc := by rw [ef384]; exact (pk_un (by rw [nI_clamp (by omega)]; omega)).trans hf382_5
  have hf384_6 : f384 6 = f 6 := by rw [ef384]; exact (pk_un (by rw [nI_clamp (by omega)]; omega)).trans hf382_6
  refine lv_aload_n hx hb dX8_doHold_54 rfl (lv_at hl 2 rfl) ?_
  refine va_get (D := D) (ci := 8) (v := .ref a) (C := RX8) (T := TX8) (N := 6) hx hb hts inX8 hown hK hP 0 rfl rfl 0 (by decide) (hts (.fieldLink RX8 7 "LoanHouseModel" "st" "[I") (List.mem_of_getElem? (i := 1) rfl)) (fun _ h9 => h9) rfl dX8_doHold_55 ?_
  refine lv_iload hx hb dX8_doHold_58 (lv_at hl 1 rfl) ?_
  refine lv_iconst (v := 3) hx hb dX8_doHold_60 (by decide) ?_
  refine lv_iadd hx hb dX8_doHold_61 ?_
  refine lv_topi (fun x385 ex385 => ?_)
  have ex385 : x385 = nI (88 + 7 * hc + 3) := ex385.trans (nI_add _ 3)
  subst ex385
  refine lv_iload_n hx hb dX8_doHold_62 rfl (lv_at hl 5 rfl) ?_
  refine va_iast hx hb hK hP hD hS 1 0 rfl rfl (vp_in_nI (by omega) (by decide)) dX8_doHold_63 (fun H locs hP hD hS => ?_)
  have hP : va_P D vwCl [(m, .inr (8, [.ref a, .ref pa, .int u0, .ref ka, .ref za, .long y])), (a, .inl (cA, 172, .inl (upd f384 (nI (88 + 7 * hc + 3)).toNatClampNeg b)))] H := hP
  have hD : va_D AA [(m, .inr (8, [.ref a, .ref pa, .int u0, .ref ka, .ref za, .long y])), (a, .inl (cA, 172, .inl (upd f384 (nI (88 + 7 * hc + 3)).toNatClampNeg b)))] := hD
  obtain ⟨f386, ef386⟩ : ∃ g : Nat → Int32, g = upd f384 (nI (88 + 7 * hc + 3)).toNatClampNeg b := ⟨_, rfl⟩
  rw [← ef386] at hP hD
  have hf386_0 : f386 0 = nI d := by rw [ef386]; exact (pk_un (by rw [nI_clamp (by omega)]; omega)).trans hf384_0
  have hf386_4 : f386 4 = 0 := by rw [ef386]; exact (pk_un (by rw [nI_clamp (by omega)]; omega)).trans hf384_4
  have hf386_5 : f386 5 = nI hc := by rw [ef386]; exact (pk_un (by rw [nI_clamp (by omega)]; omega)).trans hf384_5
  have hf386_6 : f386 6 = f 6 := by rw [ef386]; exact (pk_un (by rw [nI_clamp (by omega)]; omega)).trans hf384_6
  refine lv_aload_n hx hb dX8_doHold_64 rfl (lv_at hl 2 rfl) ?_
  refine va_get (D := D) (ci := 8) (v := .ref a) (C := RX8) (T := TX8) (N := 6) hx hb hts inX8 hown hK hP 0 rfl rfl 0 (by decide) (hts (.fieldLink RX8 7 "LoanHouseModel" "st" "[I") (List.mem_of_getElem? (i := 1) rfl)) (fun _ h9 => h9) rfl dX8_doHold_65 ?_
  refine lv_iload hx hb dX8_doHold_68 (lv_at hl 1 rfl) ?_
  refine lv_iconst (v := 4) hx hb dX8_doHold_70 (by decide) ?_
  refine lv_iadd hx hb dX8_doHold_71 ?_
  refine lv_topi (fun x387 ex387 => ?_)
  have ex387 : x387 = nI (88 + 7 * hc + 4) := ex387.trans (nI_add _ 4)
  subst ex387
  refine lv_iload hx hb dX8_doHold_72 (lv_at hl 6 rfl) ?_
  refine va_iast hx hb hK hP hD hS 1 0 rfl rfl (vp_in_nI (by omega) (by decide)) dX8_doHold_74 (fun H locs hP hD hS => ?_)
  have hP : va_P D vwCl [(m, .inr (8, [.ref a, .ref pa, .int u0, .ref ka, .ref za, .long y])), (a, .inl (cA, 172, .inl (upd f386 (nI (88 + 7 * hc + 4)).toNatClampNeg nd)))] H := hP
  have hD : va_D AA [(m, .inr (8, [.ref a, .ref pa, .int u0, .ref ka, .ref za, .long y])), (a, .inl (cA, 172, .inl (upd f386 (nI (88 + 7 * hc + 4)).toNatClampNeg nd)))] := hD
  obtain ⟨f388, ef388⟩ : ∃ g : Nat → Int32, g = upd f386 (nI (88 + 7 * hc + 4)).toNatClampNeg nd := ⟨_, rfl⟩
  rw [← ef388] at hP hD
  have hf388_0 : f388 0 = nI d := by rw [ef388]; exact (pk_un (by rw [nI_clamp (by omega)]; omega)).trans hf386_0
  have hf388_4 : f388 4 = 0 := by rw [ef388]; exact (pk_un (by rw [nI_clamp (by omega)]; omega)).trans hf386_4
  have hf388_5 : f388 5 = nI hc := by rw [ef388]; exact (pk_un (by rw [nI_clamp (by omega)]; omega)).trans hf386_5
  have hf388_6 : f388 6 = f 6 := by rw [ef388]; exact (pk_un (by rw [nI_clamp (by omega)]; omega)).trans hf386_6
  refine lv_aload_n hx hb dX8_doHold_75 rfl (lv_at hl 2 rfl) ?_
  refine va_get (D := D) (ci := 8) (v := .ref a) (C := RX8) (T := TX8) (N := 6) hx hb hts inX8 hown hK hP 0 rfl rfl 0 (by decide) (hts (.fieldLink RX8 7 "LoanHouseModel" "st" "[I") (List.mem_of_getElem? (i := 1) rfl)) (fun _ h9 => h9) rfl dX8_doHold_76 ?_
  refine lv_iload hx hb dX8_doHold_79 (lv_at hl 1 rfl) ?_
  refine lv_iconst (v := 5) hx hb dX8_doHold_81 (by decide) ?_
  refine lv_iadd hx hb dX8_doHold_82 ?_
  refine lv_topi (fun x389 ex389 => ?_)
  have ex389 : x389 = nI (88 + 7 * hc + 5) := ex389.trans (nI_add _ 5)
  subst ex389
  refine lv_aload_n hx hb dX8_doHold_83 rfl (lv_at hl 2 rfl) ?_
  refine va_get (D := D) (ci := 8) (v := .ref a) (C := RX8) (T := TX8) (N := 6) hx hb hts inX8 hown hK hP 0 rfl rfl 0 (by decide) (hts (.fieldLink RX8 7 "LoanHouseModel" "st" "[I") (List.mem_of_getElem? (i := 1) rfl)) (fun _ h9 => h9) rfl dX8_doHold_84 ?_
  refine lv_iconst (v := 0) hx hb dX8_doHold_87 (by decide) ?_
  refine va_iald hx hb hK hP 1 0 rfl rfl (vi_ok (by decide)) dX8_doHold_88 ?_
  refine lv_topi (fun x390 ex390 => ?_)
  have ex390 : x390 = nI d := ex390.trans ((congrArg f388 (by decide : (0 : Int32).toNatClampNeg = 0)).trans hf388_0)
  subst ex390
  refine va_iast hx hb hK hP hD hS 1 0 rfl rfl (vp_in_nI (by omega) (by decide)) dX8_doHold_89 (fun H locs hP hD hS => ?_)
  have hP : va_P D vwCl [(m, .inr (8, [.ref a, .ref pa, .int u0, .ref ka, .ref za, .long y])), (a, .inl (cA, 172, .inl (upd f388 (nI (88 + 7 * hc + 5)).toNatClampNeg (nI d))))] H := hP
  have hD : va_D AA [(m, .inr (8, [.ref a, .ref pa, .int u0, .ref ka, .ref za, .long y])), (a, .inl (cA, 172, .inl (upd f388 (nI (88 + 7 * hc + 5)).toNatClampNeg (nI d))))] := hD
  obtain ⟨f391, ef391⟩ : ∃ g : Nat → Int32, g = upd f388 (nI (88 + 7 * hc + 5)).toNatClampNeg (nI d) := ⟨_, rfl⟩
  rw [← ef391] at hP hD
  have hf391_0 : f391 0 = nI d := by rw [ef391]; exact (pk_un (by rw [nI_clamp (by omega)]; omega)).trans hf388_0
  have hf391_4 : f391 4 = 0 := by rw [ef391]; exact (pk_un (by rw [nI_clamp (by omega)]; omega)).trans hf388_4
  have hf391_5 : f391 5 = nI hc := by rw [ef391]; exact (pk_un (by rw [nI_clamp (by omega)]; omega)).trans hf388_5
  have hf391_6 : f391 6 = f 6 := by rw [ef391]; exact (pk_un (by rw [nI_clamp (by omega)]; omega)).trans hf388_6
  refine lv_aload_n hx hb dX8_doHold_90 rfl (lv_at hl 2 rfl) ?_
  refine va_get (D := D) (ci := 8) (v := .ref a) (C := RX8) (T := TX8) (N := 6) hx hb hts inX8 hown hK hP 0 rfl rfl 0 (by decide) (hts (.fieldLink RX8 7 "LoanHouseModel" "st" "[I") (List.mem_of_getElem? (i := 1) rfl)) (fun _ h9 => h9) rfl dX8_doHold_91 ?_
  refine lv_iload hx hb dX8_doHold_94 (lv_at hl 1 rfl) ?_
  refine lv_bipush (v := 6) hx hb dX8_doHold_96 (by decide) ?_
  refine lv_iadd hx hb dX8_doHold_98 ?_
  refine lv_topi (fun x392 ex392 => ?_)
  have ex392 : x392 = nI (88 + 7 * hc + 6) := ex392.trans (nI_add _ 6)
  subst ex392
  refine lv_iconst (v := 0) hx hb dX8_doHold_99 (by decide) ?_
  refine va_iast hx hb hK hP hD hS 1 0 rfl rfl (vp_in_nI (by omega) (by decide)) dX8_doHold_100 (fun H locs hP hD hS => ?_)
  have hP : va_P D vwCl [(m, .inr (8, [.ref a, .ref pa, .int u0, .ref ka, .ref za, .long y])), (a, .inl (cA, 172, .inl (upd f391 (nI (88 + 7 * hc + 6)).toNatClampNeg 0)))] H := hP
  have hD : va_D AA [(m, .inr (8, [.ref a, .ref pa, .int u0, .ref ka, .ref za, .long y])), (a, .inl (cA, 172, .inl (upd f391 (nI (88 + 7 * hc + 6)).toNatClampNeg 0)))] := hD
  obtain ⟨f393, ef393⟩ : ∃ g : Nat → Int32, g = upd f391 (nI (88 + 7 * hc + 6)).toNatClampNeg 0 := ⟨_, rfl⟩
  rw [← ef393] at hP hD
  have hf393_0 : f393 0 = nI d := by rw [ef393]; exact (pk_un (by rw [nI_clamp (by omega)]; omega)).trans hf391_0
  have hf393_4 : f393 4 = 0 := by rw [ef393]; exact (pk_un (by rw [nI_clamp (by omega)]; omega)).trans hf391_4
  have hf393_5 : f393 5 = nI hc := by rw [ef393]; exact (pk_un (by rw [nI_clamp (by omega)]; omega)).trans hf391_5
  have hf393_6 : f393 6 = f 6 := by rw [ef393]; exact (pk_un (by rw [nI_clamp (by omega)]; omega)).trans hf391_6
  refine lv_aload_n hx hb dX8_doHold_101 rfl (lv_at hl 2 rfl) ?_
  refine va_get (D := D) (ci := 8) (v := .ref a) (C := RX8) (T := TX8) (N := 6) hx hb hts inX8 hown hK hP 0 rfl rfl 0 (by decide) (hts (.fieldLink RX8 7 "LoanHouseModel" "st" "[I") (List.mem_of_getElem? (i := 1) rfl)) (fun _ h9 => h9) rfl dX8_doHold_102 ?_
  refine lv_iconst (v := 5) hx hb dX8_doHold_105 (by decide) ?_
  refine lv_dup2_11 hx hb dX8_doHold_106 rfl rfl ?_
  refine va_iald hx hb hK hP 1 0 rfl rfl (vi_ok (by decide)) dX8_doHold_107 ?_
  refine lv_topi (fun x394 ex394 => ?_)
  have ex394 : x394 = nI hc := ex394.trans ((congrArg f393 (by decide : (5 : Int32).toNatClampNeg = 5)).trans hf393_5)
  subst ex394
  refine lv_iconst (v := 1) hx hb dX8_doHold_108 (by decide) ?_
  refine lv_iadd hx hb dX8_doHold_109 ?_
  refine lv_topi (fun x395 ex395 => ?_)
  have ex395 : x395 = nI (hc + 1) := ex395.trans (nI_1 hc)
  subst ex395
  refine va_iast hx hb hK hP hD hS 1 0 rfl rfl (vi_ok (by decide)) dX8_doHold_110 (fun H locs hP hD hS => ?_)
  have hP : va_P D vwCl [(m, .inr (8, [.ref a, .ref pa, .int u0, .ref ka, .ref za, .long y])), (a, .inl (cA, 172, .inl (upd f393 (5 : Int32).toNatClampNeg (nI (hc + 1)))))] H := hP
  have hD : va_D AA [(m, .inr (8, [.ref a, .ref pa, .int u0, .ref ka, .ref za, .long y])), (a, .inl (cA, 172, .inl (upd f393 (5 : Int32).toNatClampNeg (nI (hc + 1)))))] := hD
  obtain ⟨f396, ef396⟩ : ∃ g : Nat → Int32, g = upd f393 (5 : Int32).toNatClampNeg (nI (hc + 1)) := ⟨_, rfl⟩
  rw [← ef396] at hP hD
  have hf396_0 : f396 0 = nI d := by rw [ef396]; exact (pk_un (by decide)).trans hf393_0
  have hf396_4 : f396 4 = 0 := by rw [ef396]; exact (pk_un (by decide)).trans hf393_4
  have hf396_5 : f396 5 = nI (hc + 1) := by rw [ef396, show (5 : Int32).toNatClampNeg = 5 from by decide]; exact pk_us
  have hf396_6 : f396 6 = f 6 := by rw [ef396]; exact (pk_un (by decide)).trans hf393_6
  refine lv_aload_n hx hb dX8_doHold_111 rfl (lv_at hl 2 rfl) ?_
  refine va_get (D := D) (ci := 8) (v := .ref a) (C := RX8) (T := TX8) (N := 6) hx hb hts inX8 hown hK hP 0 rfl rfl 0 (by decide) (hts (.fieldLink RX8 7 "LoanHouseModel" "st" "[I") (List.mem_of_getElem? (i := 1) rfl)) (fun _ h9 => h9) rfl dX8_doHold_112 ?_
  refine lv_bipush (v := 6) hx hb dX8_doHold_115 (by decide) ?_
  refine lv_dup2_11 hx hb dX8_doHold_117 rfl rfl ?_
  refine va_iald hx hb hK hP 1 0 rfl rfl (vi_ok (by decide)) dX8_doHold_118 ?_
  refine lv_topi (fun x397 ex397 => ?_)
  have ex397 : x397 = f 6 := ex397.trans ((congrArg f396 (by decide : (6 : Int32).toNatClampNeg = 6)).trans hf396_6)
  subst ex397
  refine lv_iconst (v := 1) hx hb dX8_doHold_119 (by decide) ?_
  refine lv_iadd hx hb dX8_doHold_120 ?_
  refine lv_topi (fun x398 ex398 => ?_)
  refine va_iast hx hb hK hP hD hS 1 0 rfl rfl (vi_ok (by decide)) dX8_doHold_121 (fun H locs hP hD hS => ?_)
  have hP : va_P D vwCl [(m, .inr (8, [.ref a, .ref pa, .int u0, .ref ka, .ref za, .long y])), (a, .inl (cA, 172, .inl (upd f396 (6 : Int32).toNatClampNeg x398)))] H := hP
  have hD : va_D AA [(m, .inr (8, [.ref a, .ref pa, .int u0, .ref ka, .ref za, .long y])), (a, .inl (cA, 172, .inl (upd f396 (6 : Int32).toNatClampNeg x398)))] := hD
  obtain ⟨f399, ef399⟩ : ∃ g : Nat → Int32, g = upd f396 (6 : Int32).toNatClampNeg x398 := ⟨_, rfl⟩
  rw [← ef399] at hP hD
  have hf399_0 : f399 0 = nI d := by rw [ef399]; exact (pk_un (by decide)).trans hf396_0
  have hf399_4 : f399 4 = 0 := by rw [ef399]; exact (pk_un (by decide)).trans hf396_4
  have hf399_5 : f399 5 = nI (hc + 1) := by rw [ef399]; exact (pk_un (by decide)).trans hf396_5
  have hf399_6 : f399 6 = x398 := by rw [ef399, show (6 : Int32).toNatClampNeg = 6 from by decide]; exact pk_us
  refine lv_aload_n hx hb dX8_doHold_122 rfl (lv_at hl 2 rfl) ?_
  refine k_pv (va_runV (As := []) (rest := []) ⟨hx, hb, hml, hown, hts⟩ (c_X8_serve l D H.size m a pa ka za cA u0 y f399 (hc + 1) hf399_5 (by omega) (Or.inr hf399_4)) (cwV 0 hts gX8_doHold_X8_serve rfl rfl rfl (by decide +kernel) ⟨(Nat.le_of_ble_eq_true rfl), (Nat.le_of_ble_eq_true rfl)⟩) ⟨mP_blind, va_recv hK hP (ci := 8) (q0 := 0) rfl rfl, m_pre _ hN hK hP hD [0] rfl [0, 1] rfl (by decide)⟩ rfl rfl hl.1 rfl (lv_room (Nat.le_of_ble_eq_true rfl)) dX8_doHold_123 ⟨(Nat.le_of_ble_eq_true rfl), (Nat.le_of_ble_eq_true rfl)⟩) hP hD hS hA [0, 1] rfl (fun u H locs hw hP hS => ?_)
  refine lv_iload hx hb dX8_doHold_126 (lv_at hl 0 rfl) ?_
  exact hret (f 6) f399 rfl (⟨rfl, ⟨hf399_0, hf399_4, hf399_5⟩⟩) (m_P hP (is := [0, 1]) rfl) (hK.sub [] rfl) (hD.sub [0, 1] (by decide) rfl) hS (Nat.le_of_ble_eq_true rfl) (Nat.le_of_ble_eq_true rfl) dX8_doHold_128
set_option maxHeartbeats 4000000 in
set_option maxRecDepth 100000 in
theorem c_X8_hold (l : Launch) (D : va_G) (sz : Nat) (m a pa ka za : Nat) (cA cP : ClassId) (y : Int64) (f fp : Nat → Int32) (p t b nd : Int32) (hF : st0 f) : mI l yX8_hold wsX8_hold (rk 5 0 0) D [.ref m, .int p, .int t, .int b, .int nd] [(cA, .int), (cP, .int)] sz [(m, .inr (8, [.ref a, .ref pa, .int 0, .ref ka, .ref za, .long y])), (a, .inl (cA, 172, .inl f)), (pa, .inl (cP, 1376, .inl fp))] (S := Unit) (fun r _ => (r = (-1000000001) ∧ ¬ (ok p 10 ∧ ok t 6 ∧ ok b 4)) ∨ (r = (-1000000002) ∧ (ok p 10 ∧ ok t 6 ∧ ok b 4) ∧ ¬ ok nd 4) ∨ (r = 0 ∧ (ok p 10 ∧ ok t 6 ∧ ok b 4) ∧ ok nd 4)) (fun _ => []) (fun _ => []) := by
  refine mI_of (cc := cX8_hold) (maxL := 5) (ty := .int) (plainFor_of_name (by decide)) rfl (Nat.le_of_ble_eq_true rfl) ?_
  intro pp ee ss mm bl mt cd AA QQ hx hb hml hts hown hN hA hK hP hD hS hret ls hl
  have hl : lv_has ls 5 [(0, .ref m), (1, .int p), (2, .int t), (3, .int b), (4, .int nd)] := hl
  have inX8 : ∀ w ∈ wsX80, w ∈ wsX8_hold := fun _ h => List.mem_cons_of_mem _ (List.mem_append_right _ h)
  refine lv_iload_n hx hb dX8_hold_0 rfl (lv_at hl 1 rfl) ?_
  refine k_pi (va_runS (As := [.int p]) (rest := []) ⟨hx, hb, hml, hown, hts⟩ (c_X8_isReader l D ss.heap.size p ) (va_cwS 1 hts gX8_hold_X8_isReader rfl rfl rfl (by decide +kernel) ⟨(Nat.le_of_ble_eq_true rfl), (Nat.le_of_ble_eq_true rfl)⟩) ⟨mP_blind, m_pre _ hN hK hP hD [] rfl [] rfl (by decide)⟩ rfl rfl hl.1 rfl (lv_room (Nat.le_of_ble_eq_true rfl)) dX8_hold_1 ⟨(Nat.le_of_ble_eq_true rfl), (Nat.le_of_ble_eq_true rfl)⟩) hP hD hS hA [] rfl (fun r401 u H locs hw hP hS => ?_)
  rcases hw with ⟨rfl, zw1⟩ | ⟨rfl, zw1⟩
  · refine lv_if_eq (tgt := 21) hx hb dX8_hold_4 (by decide) (fun hc => absurd hc (by decide)) (fun zc4 => ?_)
    refine lv_iload_n hx hb dX8_hold_7 rfl (lv_at hl 2 rfl) ?_
    refine k_pi (va_runS (As := [.int t]) (rest := []) ⟨hx, hb, hml, hown, hts⟩ (c_X8_isTitle l D H.size t ) (va_cwS 1 hts gX8_hold_X8_isTitle rfl rfl rfl (by decide +kernel) ⟨(Nat.le_of_ble_eq_true rfl), (Nat.le_of_ble_eq_true rfl)⟩) ⟨mP_blind, m_pre _ hN hK hP hD [] rfl [] rfl (by decide)⟩ rfl rfl hl.1 rfl (lv_room (Nat.le_of_ble_eq_true rfl)) dX8_hold_8 ⟨(Nat.le_of_ble_eq_true rfl), (Nat.le_of_ble_eq_true rfl)⟩) hP hD hS hA [] rfl (fun r402 u H locs hw hP hS => ?_)
    rcases hw with ⟨rfl, zw8⟩ | ⟨rfl, zw8⟩
    · refine lv_if_eq (tgt := 21) hx hb dX8_hold_11 (by decide) (fun hc => absurd hc (by decide)) (fun zc11 => ?_)
      refine lv_iload_n hx hb dX8_hold_14 rfl (lv_at hl 3 rfl) ?_
      refine k_pi (va_runS (As := [.int b]) (rest := []) ⟨hx, hb, hml, hown, hts⟩ (c_X8_isBranch l D H.size b ) (va_cwS 1 hts gX8_hold_X8_isBranch rfl rfl rfl (by decide +kernel) ⟨(Nat.le_of_ble_eq_true rfl), (Nat.le_of_ble_eq_true rfl)⟩) ⟨mP_blind, m_pre _ hN hK hP hD [] rfl [] rfl (by decide)⟩ rfl rfl hl.1 rfl (lv_room (Nat.le_of_ble_eq_true rfl)) dX8_hold_15 ⟨(Nat.le_of_ble_eq_true rfl), (Nat.le_of_ble_eq_true rfl)⟩) hP hD hS hA [] rfl (fun r403 u H locs hw hP hS => ?_)
      rcases hw with ⟨rfl, zw15⟩ | ⟨rfl, zw15⟩
      · refine lv_if_ne (tgt := 24) hx hb dX8_hold_18 (by decide) (fun zc18 => ?_) (fun hc => absurd hc (by decide))
        refine lv_iload hx hb dX8_hold_24 (lv_at hl 4 rfl) ?_
        refine lv_i2l (v := (nd.toInt64)) hx hb dX8_hold_26 (rfl) ?_
        refine lv_lconst (v := 0) hx hb dX8_hold_27 (by decide) ?_
        refine lv_ldc2 hx hb hown (hts (.constantLong RX8 27 (3)) (List.mem_of_getElem? (i := 2) rfl)) dX8_hold_28 ?_
        refine k_pi (va_runS (As := [.long (nd.toInt64), .long 0, .long 3]) (rest := []) ⟨hx, hb, hml, hown, hts⟩ (c_X8_in l D H.size (nd.toInt64) 0 3 ) (va_cwS 3 hts gX8_hold_X8_in rfl rfl rfl (by decide +kernel) ⟨(Nat.le_of_ble_eq_true rfl), (Nat.le_of_ble_eq_true rfl)⟩) ⟨mP_blind, m_pre _ hN hK hP hD [] rfl [] rfl (by decide)⟩ rfl rfl hl.1 rfl (lv_room (Nat.le_of_ble_eq_true rfl)) dX8_hold_31 ⟨(Nat.le_of_ble_eq_true rfl), (Nat.le_of_ble_eq_true rfl)⟩) hP hD hS hA [] rfl (fun r404 u H locs hw hP hS => ?_)
        rcases hw with ⟨rfl, zw31⟩ | ⟨rfl, zw31⟩
        · refine lv_if_ne (tgt := 40) hx hb dX8_hold_34 (by decide) (fun zc34 => ?_) (fun hc => absurd hc (by decide))
          refine lv_aload_n hx hb dX8_hold_40 rfl (lv_at hl 0 rfl) ?_
          refine lv_iload_n hx hb dX8_hold_41 rfl (lv_at hl 1 rfl) ?_
          refine lv_iload_n hx hb dX8_hold_42 rfl (lv_at hl 2 rfl) ?_
          refine k_pi (va_runV (As := [.int p, .int t]) (rest := []) ⟨hx, hb, hml, hown, hts⟩ (c_X8_mayHold l D H.size m a pa ka za cA 0 y f 0 p t hF.2.2.2.2.2.1 (by decide) hF.2.2.2.2.1) (cwV 2 hts gX8_hold_X8_mayHold rfl rfl rfl (by decide +kernel) ⟨(Nat.le_of_ble_eq_true rfl), (Nat.le_of_ble_eq_true rfl)⟩) ⟨mP_blind, va_recv hK hP (ci := 8) (q0 := 0) rfl rfl, m_pre _ hN hK hP hD [0] rfl [0, 1] rfl (by decide)⟩ rfl rfl hl.1 rfl (lv_room (Nat.le_of_ble_eq_true rfl)) dX8_hold_43 ⟨(Nat.le_of_ble_eq_true rfl), (Nat.le_of_ble_eq_true rfl)⟩) hP hD hS hA [0, 1] rfl (fun r405 u H locs hw hP hS => ?_)
          rcases hw with rfl | ⟨rfl, zw43⟩
          · refine lv_if_ne (tgt := 52) hx hb dX8_hold_46 (by decide) (fun zc46 => ?_) (fun hc => absurd hc (by decide))
            refine lv_aload_n hx hb dX8_hold_52 rfl (lv_at hl 0 rfl) ?_
            refine va_get (D := D) (ci := 8) (v := .ref a) (C := RX8) (T := TX8) (N := 6) hx hb hts inX8 hown hK hP 0 rfl rfl 0 (by decide) (hts (.fieldLink RX8 7 "LoanHouseModel" "st" "[I") (List.mem_of_getElem? (i := 5) rfl)) (fun _ h9 => h9) rfl dX8_hold_53 ?_
            refine lv_iconst (v := 5) hx hb dX8_hold_56 (by decide) ?_
            refine va_iald hx hb hK hP 1 0 rfl rfl (vi_ok (by decide)) dX8_hold_57 ?_
            refine lv_topi (fun x406 ex406 => ?_)
            have ex406 : x406 = 0 := ex406.trans ((congrArg f (by decide : (5 : Int32).toNatClampNeg = 5)).trans hF.2.2.2.2.2.1)
            subst ex406
            refine lv_bipush (v := 12) hx hb dX8_hold_58 (by decide) ?_
            refine lv_icmp_ne (tgt := 66) hx hb dX8_hold_60 (by decide) (fun zc60 => ?_) (fun hc => absurd hc (by decide))
            refine lv_aload_n hx hb dX8_hold_66 rfl (lv_at hl 0 rfl) ?_
            refine k_v (wr := []) (va_runV (As := []) (rest := []) ⟨hx, hb, hml, hown, hts⟩ (c_X8_note l D H.size m a pa ka za cA cP y f fp ) (cwV 0 hts gX8_hold_X8_note rfl rfl rfl (by decide +kernel) ⟨(Nat.le_of_ble_eq_true rfl), (Nat.le_of_ble_eq_true rfl)⟩) ⟨mP_blind, va_recv hK hP (ci := 8) (q0 := 0) rfl rfl, m_pre _ hN hK hP hD [0, 1] rfl [0, 1, 2] rfl (by decide)⟩ rfl rfl hl.1 rfl (lv_room (Nat.le_of_ble_eq_true rfl)) dX8_hold_67 ⟨(Nat.le_of_ble_eq_true rfl), (Nat.le_of_ble_eq_true rfl)⟩) hP hD hS hA [0, 1, 2] [] rfl rfl (by decide) (by decide) (fun u H locs hw hK1 hP hD hS => ?_)
            have hP : va_P D vwCl [(m, .inr (8, [.ref a, .ref pa, .int 1, .ref ka, .ref za, .long y])), (a, .inl (cA, 172, .inl f))] H := hP
            have hD : va_D AA [(m, .inr (8, [.ref a, .ref pa, .int 1, .ref ka, .ref za, .long y])), (a, .inl (cA, 172, .inl f))] := hD
            try dsimp only at hw
            refine W.widen (k := 0) (n := 0) (Nat.le_of_ble_eq_true rfl) (Nat.le_of_ble_eq_true rfl) ?_
            refine lv_aload_n hx hb dX8_hold_70 rfl (lv_at hl 0 rfl) ?_
            refine lv_iload_n hx hb dX8_hold_71 rfl (lv_at hl 1 rfl) ?_
            refine lv_iload_n hx hb dX8_hold_72 rfl (lv_at hl 2 rfl) ?_
            refine lv_iload_n hx hb dX8_hold_73 rfl (lv_at hl 3 rfl) ?_
            refine lv_iload hx hb dX8_hold_74 (lv_at hl 4 rfl) ?_
            refine k_i (wr := []) (va_runV (As := [.int p, .int t, .int b, .int nd]) (rest := []) ⟨hx, hb, hml, hown, hts⟩ (c_X8_doHold l D H.size m a pa ka za cA 1 y f 0 0 p t b nd ⟨hF.1, hF.2.2.2.2.1, hF.2.2.2.2.2.1⟩ (by decide)) (cwV 4 hts gX8_hold_X8_doHold rfl rfl rfl (by decide +kernel) ⟨(Nat.le_of_ble_eq_true rfl), (Nat.le_of_ble_eq_true rfl)⟩) ⟨mP_blind, va_recv hK hP (ci := 8) (q0 := 0) rfl rfl, m_pre _ hN hK hP hD [0] rfl [0, 1] rfl (by decide)⟩ rfl rfl hl.1 rfl (lv_room (Nat.le_of_ble_eq_true rfl)) dX8_hold_76 ⟨(Nat.le_of_ble_eq_true rfl), (Nat.le_of_ble_eq_true rfl)⟩) hP hD hS hA [0, 1] [] rfl rfl (by decide) (by decide) (fun r408 u H locs hw hK1 hP hD hS => ?_)
            obtain ⟨g409, rfl⟩ : ∃ z, z = u := ⟨_, rfl⟩
            have hP : va_P D vwCl [(m, .inr (8, [.ref a, .ref pa, .int 1, .ref ka, .ref za, .long y])), (a, .inl (cA, 172, .inl g409))] H := hP
            have hD : va_D AA [(m, .inr (8, [.ref a, .ref pa, .int 1, .ref ka, .ref za, .long y])), (a, .inl (cA, 172, .inl g409))] := hD
            try dsimp only at hw
            refine W.widen (k := 0) (n := 0) (Nat.le_of_ble_eq_true rfl) (Nat.le_of_ble_eq_true rfl) ?_
            have zw76 := hw
            exact hret r408 () rfl (Or.inr (Or.inr ⟨zw76.1.trans hF.2.2.2.2.2.2.1, ⟨zw1, zw8, zw15⟩, (l_ok (by decide)).mp zw31⟩)) (m_P hP (is := []) rfl) (hK.sub [] rfl) (hD.sub [] (by decide) rfl) hS (Nat.le_of_ble_eq_true rfl) (Nat.le_of_ble_eq_true rfl) dX8_hold_79
          · exact absurd zw43 (by decide)
        · refine lv_if_ne (tgt := 40) hx hb dX8_hold_34 (by decide) (fun hc => absurd (by decide) hc) (fun zc34 => ?_)
          refine lv_ldc hx hb hown (hts (.constant RX8 131 (-1000000002)) (List.mem_of_getElem? (i := 3) rfl)) dX8_hold_37 ?_
          exact hret (-1000000002) () rfl (Or.inr (Or.inl ⟨rfl, ⟨zw1, zw8, zw15⟩, fun q => zw31 ((l_ok (by decide)).mpr q)⟩)) (m_P hP (is := []) rfl) (hK.sub [] rfl) (hD.sub [] (by decide) rfl) hS (Nat.le_of_ble_eq_true rfl) (Nat.le_of_ble_eq_true rfl) dX8_hold_39
      · refine lv_if_ne (tgt := 24) hx hb dX8_hold_18 (by decide) (fun hc => absurd (by decide) hc) (fun zc18 => ?_)
        refine lv_ldc hx hb hown (hts (.constant RX8 92 (-1000000001)) (List.mem_of_getElem? (i := 1) rfl)) dX8_hold_21 ?_
        exact hret (-1000000001) () rfl (Or.inl ⟨rfl, fun q => zw15 q.2.2⟩) (m_P hP (is := []) rfl) (hK.sub [] rfl) (hD.sub [] (by decide) rfl) hS (Nat.le_of_ble_eq_true rfl) (Nat.le_of_ble_eq_true rfl) dX8_hold_23
    · refine lv_if_eq (tgt := 21) hx hb dX8_hold_11 (by decide) (fun zc11 => ?_) (fun hc => absurd (by decide) hc)
      refine lv_ldc hx hb hown (hts (.constant RX8 92 (-1000000001)) (List.mem_of_getElem? (i := 1) rfl)) dX8_hold_21 ?_
      exact hret (-1000000001) () rfl (Or.inl ⟨rfl, fun q => zw8 q.2.1⟩) (m_P hP (is := []) rfl) (hK.sub [] rfl) (hD.sub [] (by decide) rfl) hS (Nat.le_of_ble_eq_true rfl) (Nat.le_of_ble_eq_true rfl) dX8_hold_23
  · refine lv_if_eq (tgt := 21) hx hb dX8_hold_4 (by decide) (fun zc4 => ?_) (fun hc => absurd (by decide) hc)
    refine lv_ldc hx hb hown (hts (.constant RX8 92 (-1000000001)) (List.mem_of_getElem? (i := 1) rfl)) dX8_hold_21 ?_
    exact hret (-1000000001) () rfl (Or.inl ⟨rfl, fun q => zw1 q.1⟩) (m_P hP (is := []) rfl) (hK.sub [] rfl) (hD.sub [] (by decide) rfl) hS (Nat.le_of_ble_eq_true rfl) (Nat.le_of_ble_eq_true rfl) dX8_hold_23
set_option maxHeartbeats 4000000 in
set_option maxRecDepth 100000 in
theorem c_X8_pass (l : Launch) (D : va_G) (sz : Nat) (m a pa ka za : Nat) (cA cP : ClassId) (y : Int64) (f fp : Nat → Int32) (v : Int32) (hF : st0 f) : mI l yX8_pass wsX8_pass (rk 5 0 0) D [.ref m, .int v] [(cA, .int), (cP, .int)] sz [(m, .inr (8, [.ref a, .ref pa, .int 0, .ref ka, .ref za, .long y])), (a, .inl (cA, 172, .inl f)), (pa, .inl (cP, 1376, .inl fp))] (S := Unit) (fun r _ => q2 (1 ≤ v ∧ v ≤ 30) v (-1000000002) r) (fun _ => []) (fun _ => []) := by
  refine mI_of (cc := cX8_pass) (maxL := 3) (ty := .int) (plainFor_of_name (by decide)) rfl (Nat.le_of_ble_eq_true rfl) ?_
  intro pp ee ss mm bl mt cd AA QQ hx hb hml hts hown hN hA hK hP hD hS hret ls hl
  have hl : lv_has ls 3 [(0, .ref m), (1, .int v)] := hl
  have inX8 : ∀ w ∈ wsX80, w ∈ wsX8_pass := fun _ h => List.mem_cons_of_mem _ (List.mem_append_right _ h)
  refine lv_iload_n hx hb dX8_pass_0 rfl (lv_at hl 1 rfl) ?_
  refine lv_i2l (v := (v.toInt64)) hx hb dX8_pass_1 (rfl) ?_
  refine lv_lconst (v := 1) hx hb dX8_pass_2 (by decide) ?_
  refine lv_ldc2 hx hb hown (hts (.constantLong RX8 142 (30)) (List.mem_of_getElem? (i := 1) rfl)) dX8_pass_3 ?_
  refine k_pi (va_runS (As := [.long (v.toInt64), .long 1, .long 30]) (rest := []) ⟨hx, hb, hml, hown, hts⟩ (c_X8_in l D ss.heap.size (v.toInt64) 1 30 ) (va_cwS 3 hts gX8_pass_X8_in rfl rfl rfl (by decide +kernel) ⟨(Nat.le_of_ble_eq_true rfl), (Nat.le_of_ble_eq_true rfl)⟩) ⟨mP_blind, m_pre _ hN hK hP hD [] rfl [] rfl (by decide)⟩ rfl rfl hl.1 rfl (lv_room (Nat.le_of_ble_eq_true rfl)) dX8_pass_6 ⟨(Nat.le_of_ble_eq_true rfl), (Nat.le_of_ble_eq_true rfl)⟩) hP hD hS hA [] rfl (fun r410 u H locs hw hP hS => ?_)
  rcases hw with ⟨rfl, zw6⟩ | ⟨rfl, zw6⟩
  · refine lv_if_ne (tgt := 15) hx hb dX8_pass_9 (by decide) (fun zc9 => ?_) (fun hc => absurd hc (by decide))
    obtain ⟨d0, hd1, hd2, rfl⟩ := nn_of2 ((l_rng (by decide) (by decide)).mp zw6)
    refine lv_aload_n hx hb dX8_pass_15 rfl (lv_at hl 0 rfl) ?_
    refine va_get (D := D) (ci := 8) (v := .ref a) (C := RX8) (T := TX8) (N := 6) hx hb hts inX8 hown hK hP 0 rfl rfl 0 (by decide) (hts (.fieldLink RX8 7 "LoanHouseModel" "st" "[I") (List.mem_of_getElem? (i := 3) rfl)) (fun _ h9 => h9) rfl dX8_pass_16 ?_
    refine lv_iconst (v := 0) hx hb dX8_pass_19 (by decide) ?_
    refine va_iald hx hb hK hP 1 0 rfl rfl (vi_ok (by decide)) dX8_pass_20 ?_
    refine lv_topi (fun x411 ex411 => ?_)
    have ex411 : x411 = 0 := ex411.trans ((congrArg f (by decide : (0 : Int32).toNatClampNeg = 0)).trans hF.1)
    subst ex411
    refine lv_iload_n hx hb dX8_pass_21 rfl (lv_at hl 1 rfl) ?_
    refine lv_iadd hx hb dX8_pass_22 ?_
    refine lv_topi (fun x412 ex412 => ?_)
    have ex412 : x412 = nI d0 := ex412.trans (Int32.zero_add _)
    subst ex412
    refine lv_sipush (v := 9999) hx hb dX8_pass_23 (by decide) ?_
    refine lv_icmp_le (tgt := 32) hx hb dX8_pass_26 (by decide) (fun zc26 => ?_) (fun hc => absurd (nI_le (b := 9999) (by omega) (by decide)) hc)
    refine lv_aload_n hx hb dX8_pass_32 rfl (lv_at hl 0 rfl) ?_
    refine k_v (wr := []) (va_runV (As := []) (rest := []) ⟨hx, hb, hml, hown, hts⟩ (c_X8_note l D H.size m a pa ka za cA cP y f fp ) (cwV 0 hts gX8_pass_X8_note rfl rfl rfl (by decide +kernel) ⟨(Nat.le_of_ble_eq_true rfl), (Nat.le_of_ble_eq_true rfl)⟩) ⟨mP_blind, va_recv hK hP (ci := 8) (q0 := 0) rfl rfl, m_pre _ hN hK hP hD [0, 1] rfl [0, 1, 2] rfl (by decide)⟩ rfl rfl hl.1 rfl (lv_room (Nat.le_of_ble_eq_true rfl)) dX8_pass_33 ⟨(Nat.le_of_ble_eq_true rfl), (Nat.le_of_ble_eq_true rfl)⟩) hP hD hS hA [0, 1, 2] [] rfl rfl (by decide) (by decide) (fun u H locs hw hK1 hP hD hS => ?_)
    have hP : va_P D vwCl [(m, .inr (8, [.ref a, .ref pa, .int 1, .ref ka, .ref za, .long y])), (a, .inl (cA, 172, .inl f))] H := hP
    have hD : va_D AA [(m, .inr (8, [.ref a, .ref pa, .int 1, .ref ka, .ref za, .long y])), (a, .inl (cA, 172, .inl f))] := hD
    try dsimp only at hw
    refine W.widen (k := 0) (n := 0) (Nat.le_of_ble_eq_true rfl) (Nat.le_of_ble_eq_true rfl) ?_
    refine lv_iconst (v := 0) hx hb dX8_pass_36 (by decide) ?_
    refine lv_istore_n (lv' := [(2, .int 0), (0, .ref m), (1, .int (nI d0))]) hx hb dX8_pass_37 rfl hl (by decide) rfl (fun ls hl => ?_)
    have lp : ∀ (fu : Nat) (d : Nat) (g : Nat → Int32), (d ≤ d0) → (mF g 0 d) → (d0 < d + fu) → ∀ (H : Heap) (locs : List Loc) (ls : Array Slot), va_P D vwCl [(m, .inr (8, [.ref a, .ref pa, .int 1, .ref ka, .ref za, .long y])), (a, .inl (cA, 172, .inl g))] H → va_D AA [(m, .inr (8, [.ref a, .ref pa, .int 1, .ref ka, .ref za, .long y])), (a, .inl (cA, 172, .inl g))] → va_S AA ss.heap H locs → lv_has ls 3 [(2, .int (nI d)), (0, .ref m), (1, .int (nI d0))] → W pp l ee (rk 5 0 0) ss mm ([.ref m, .int (nI d0)] : List Value).toArray bl mt cd H locs 0 0 QQ (F0 mm 38 ls []) := by
      intro fu
      induction fu with
      | zero =>
        intro d g hd hG hf H locs ls hP hD hS hl
        exact absurd hf (by omega)
      | succ fu ih =>
        intro d g hd hG hf H locs ls hP hD hS hl
        refine lv_iload_n hx hb dX8_pass_38 rfl (lv_at hl 0 rfl) ?_
        refine lv_iload_n hx hb dX8_pass_39 rfl (lv_at hl 2 rfl) ?_
        refine lv_icmp_ge (tgt := 53) hx hb dX8_pass_40 (by decide) (fun zc40 => ?_) (fun zc40 => ?_)
        · refine lv_aload_n hx hb dX8_pass_53 rfl (lv_at hl 1 rfl) ?_
          refine va_get (D := D) (ci := 8) (v := .ref a) (C := RX8) (T := TX8) (N := 6) hx hb hts inX8 hown hK hP 0 rfl rfl 0 (by decide) (hts (.fieldLink RX8 7 "LoanHouseModel" "st" "[I") (List.mem_of_getElem? (i := 3) rfl)) (fun _ h9 => h9) rfl dX8_pass_54 ?_
          refine lv_iconst (v := 0) hx hb dX8_pass_57 (by decide) ?_
          refine va_iald hx hb hK hP 1 0 rfl rfl (vi_ok (by decide)) dX8_pass_58 ?_
          refine lv_topi (fun x414 ex414 => ?_)
          have ex414 : x414 = nI d := ex414.trans ((congrArg g (by decide : (0 : Int32).toNatClampNeg = 0)).trans hG.1)
          subst ex414
          exact hret (nI d) () rfl (Or.inl ⟨⟨nI_le (a := 1) hd1 (by omega), nI_le (b := 30) hd2 (by decide)⟩, by rw [show d = d0 from by rcases Nat.lt_or_ge d d0 with q | q; exact absurd zc40 (nI_ge q (by omega)); omega]⟩) (m_P hP (is := []) rfl) (hK.sub [] rfl) (hD.sub [] (by decide) rfl) hS (Nat.le_of_ble_eq_true rfl) (Nat.le_of_ble_eq_true rfl) dX8_pass_59
        · refine lv_aload_n hx hb dX8_pass_43 rfl (lv_at hl 1 rfl) ?_
          refine k_v (wr := []) (va_runV (As := []) (rest := []) ⟨hx, hb, hml, hown, hts⟩ (c_X8_passDay l D H.size m a pa ka za cA 1 y g 0 d hG (by decide)) (cwV 0 hts gX8_pass_X8_passDay rfl rfl rfl (by decide +kernel) ⟨(Nat.le_of_ble_eq_true rfl), (Nat.le_of_ble_eq_true rfl)⟩) ⟨mP_blind, va_recv hK hP (ci := 8) (q0 := 0) rfl rfl, m_pre _ hN hK hP hD [0] rfl [0, 1] rfl (by decide)⟩ rfl rfl hl.1 rfl (lv_room (Nat.le_of_ble_eq_true rfl)) dX8_pass_44 ⟨(Nat.le_of_ble_eq_true rfl), (Nat.le_of_ble_eq_true rfl)⟩) hP hD hS hA [0, 1] [] rfl rfl (by decide) (by decide) (fun u H locs hw hK1 hP hD hS => ?_)
          obtain ⟨g416, rfl⟩ : ∃ z, z = u := ⟨_, rfl⟩
          have hP : va_P D vwCl [(m, .inr (8, [.ref a, .ref pa, .int 1, .ref ka, .ref za, .long y])), (a, .inl (cA, 172, .inl g416))] H := hP
          have hD : va_D AA [(m, .inr (8, [.ref a, .ref pa, .int 1, .ref ka, .ref za, .long y])), (a, .inl (cA, 172, .inl g416))] := hD
          try dsimp only at hw
          refine W.widen (k := 0) (n := 0) (Nat.le_of_ble_eq_true rfl) (Nat.le_of_ble_eq_true rfl) ?_
          have zw44 := hw
          refine lv_iinc (v := nI (d + 1)) (lv' := [(2, .int (nI (d + 1))), (0, .ref m), (1, .int (nI d0))]) hx hb dX8_pass_47 hl (k := 0) rfl (nI_1 d) (by decide) rfl (fun ls hl => ?_)
          refine lv_goto (tgt := 38) hx hb dX8_pass_50 (by decide) ?_
          exact ih (d + 1) g416 (by have := lt_of_nle30 zc40 hd hd2; omega) zw44 (by omega) _ _ ls hP hD hS (lv_sub hl [0, 1, 2] rfl)
    exact lp (d0 + 1) 0 f (Nat.zero_le _) ⟨hF.1, hF.2.2.2.2.1, hF.2.2.2.2.2.1⟩ (by omega) _ _ ls hP hD hS (lv_sub hl [0, 1, 2] rfl)
  · refine lv_if_ne (tgt := 15) hx hb dX8_pass_9 (by decide) (fun hc => absurd (by decide) hc) (fun zc9 => ?_)
    refine lv_ldc hx hb hown (hts (.constant RX8 131 (-1000000002)) (List.mem_of_getElem? (i := 2) rfl)) dX8_pass_12 ?_
    exact hret (-1000000002) () rfl (Or.inr ⟨fun q => zw6 ((l_rng (by decide) (by decide)).mpr q), rfl⟩) (m_P hP (is := []) rfl) (hK.sub [] rfl) (hD.sub [] (by decide) rfl) hS (Nat.le_of_ble_eq_true rfl) (Nat.le_of_ble_eq_true rfl) dX8_pass_14
set_option maxHeartbeats 4000000 in
set_option maxRecDepth 100000 in
theorem c_X8_set (l : Launch) (D : va_G) (sz : Nat) (m a pa ka za : Nat) (cA cP : ClassId) (y : Int64) (f fp : Nat → Int32) (w v : Int32) (hF : st0 f) : mI l yX8_set wsX8_set (rk 1 0 0) D [.ref m, .int w, .int v] [(cA, .int), (cP, .int)] sz [(m, .inr (8, [.ref a, .ref pa, .int 0, .ref ka, .ref za, .long y])), (a, .inl (cA, 172, .inl f)), (pa, .inl (cP, 1376, .inl fp))] (S := Unit) (fun r _ => q2 (p_set w v) (if w = 0 then 14 else if w = 1 then 3 else 64) (-1000000002) r) (fun _ => []) (fun _ => []) := by
  refine mI_of (cc := cX8_set) (maxL := 4) (ty := .int) (plainFor_of_name (by decide)) rfl (Nat.le_of_ble_eq_true rfl) ?_
  intro pp ee ss mm bl mt cd AA QQ hx hb hml hts hown hN hA hK hP hD hS hret ls hl
  have hl : lv_has ls 4 [(0, .ref m), (1, .int w), (2, .int v)] := hl
  have inX8 : ∀ w ∈ wsX80, w ∈ wsX8_set := fun _ h => List.mem_cons_of_mem _ (List.mem_append_right _ h)
  refine lv_iload_n hx hb dX8_set_0 rfl (lv_at hl 1 rfl) ?_
  refine lv_i2l (v := (w.toInt64)) hx hb dX8_set_1 (rfl) ?_
  refine lv_lconst (v := 0) hx hb dX8_set_2 (by decide) ?_
  refine lv_ldc2 hx hb hown (hts (.constantLong RX8 147 (2)) (List.mem_of_getElem? (i := 1) rfl)) dX8_set_3 ?_
  refine k_pi (va_runS (As := [.long (w.toInt64), .long 0, .long 2]) (rest := []) ⟨hx, hb, hml, hown, hts⟩ (c_X8_in l D ss.heap.size (w.toInt64) 0 2 ) (va_cwS 3 hts gX8_set_X8_in rfl rfl rfl (by decide +kernel) ⟨(Nat.le_of_ble_eq_true rfl), (Nat.le_of_ble_eq_true rfl)⟩) ⟨mP_blind, m_pre _ hN hK hP hD [] rfl [] rfl (by decide)⟩ rfl rfl hl.1 rfl (lv_room (Nat.le_of_ble_eq_true rfl)) dX8_set_6 ⟨(Nat.le_of_ble_eq_true rfl), (Nat.le_of_ble_eq_true rfl)⟩) hP hD hS hA [] rfl (fun r417 u H locs hw hP hS => ?_)
  rcases hw with ⟨rfl, zw6⟩ | ⟨rfl, zw6⟩
  · refine lv_if_eq (tgt := 54) hx hb dX8_set_9 (by decide) (fun hc => absurd hc (by decide)) (fun zc9 => ?_)
    obtain ⟨kw, hkw, rfl⟩ := w3_of ((l_rng (a := 0) (b := 2) (by decide) (by decide)).mp zw6)
    match kw, hkw with
    | 0, _ =>
      refine lv_iload_n hx hb dX8_set_12 rfl (lv_at hl 2 rfl) ?_
      refine lv_i2l (v := (v.toInt64)) hx hb dX8_set_13 (rfl) ?_
      refine lv_iload_n hx hb dX8_set_14 rfl (lv_at hl 1 rfl) ?_
      refine lv_iconst (v := 2) hx hb dX8_set_15 (by decide) ?_
      refine lv_icmp_ne (tgt := 23) hx hb dX8_set_16 (by decide) (fun zc16 => ?_) (fun hc => absurd hc (by decide))
      refine lv_lconst (v := 1) hx hb dX8_set_23 (by decide) ?_
      refine lv_iload_n hx hb dX8_set_24 rfl (lv_at hl 1 rfl) ?_
      refine lv_if_ne (tgt := 34) hx hb dX8_set_25 (by decide) (fun hc => absurd (by decide) hc) (fun zc25 => ?_)
      refine lv_ldc2 hx hb hown (hts (.constantLong RX8 149 (60)) (List.mem_of_getElem? (i := 2) rfl)) dX8_set_28 ?_
      refine lv_goto (tgt := 48) hx hb dX8_set_31 (by decide) ?_
      refine k_pi (va_runS (As := [.long (v.toInt64), .long 1, .long 60]) (rest := []) ⟨hx, hb, hml, hown, hts⟩ (c_X8_in l D H.size (v.toInt64) 1 60 ) (va_cwS 3 hts gX8_set_X8_in rfl rfl rfl (by decide +kernel) ⟨(Nat.le_of_ble_eq_true rfl), (Nat.le_of_ble_eq_true rfl)⟩) ⟨mP_blind, m_pre _ hN hK hP hD [] rfl [] rfl (by decide)⟩ rfl rfl hl.1 rfl (lv_room (Nat.le_of_ble_eq_true rfl)) dX8_set_48 ⟨(Nat.le_of_ble_eq_true rfl), (Nat.le_of_ble_eq_true rfl)⟩) hP hD hS hA [] rfl (fun r418 u H locs hw hP hS => ?_)
      rcases hw with ⟨rfl, zw48⟩ | ⟨rfl, zw48⟩
      · refine lv_if_ne (tgt := 57) hx hb dX8_set_51 (by decide) (fun zc51 => ?_) (fun hc => absurd hc (by decide))
        refine lv_aload_n hx hb dX8_set_57 rfl (lv_at hl 0 rfl) ?_
        refine k_v (wr := []) (va_runV (As := []) (rest := []) ⟨hx, hb, hml, hown, hts⟩ (c_X8_note l D H.size m a pa ka za cA cP y f fp ) (cwV 0 hts gX8_set_X8_note rfl rfl rfl (by decide +kernel) ⟨(Nat.le_of_ble_eq_true rfl), (Nat.le_of_ble_eq_true rfl)⟩) ⟨mP_blind, va_recv hK hP (ci := 8) (q0 := 0) rfl rfl, m_pre _ hN hK hP hD [0, 1] rfl [0, 1, 2] rfl (by decide)⟩ rfl rfl hl.1 rfl (lv_room (Nat.le_of_ble_eq_true rfl)) dX8_set_58 ⟨(Nat.le_of_ble_eq_true rfl), (Nat.le_of_ble_eq_true rfl)⟩) hP hD hS hA [0, 1, 2] [] rfl rfl (by decide) (by decide) (fun u H locs hw hK1 hP hD hS => ?_)
        have hP : va_P D vwCl [(m, .inr (8, [.ref a, .ref pa, .int 1, .ref ka, .ref za, .long y])), (a, .inl (cA, 172, .inl f))] H := hP
        have hD : va_D AA [(m, .inr (8, [.ref a, .ref pa, .int 1, .ref ka, .ref za, .long y])), (a, .inl (cA, 172, .inl f))] := hD
        try dsimp only at hw
        refine W.widen (k := 0) (n := 0) (Nat.le_of_ble_eq_true rfl) (Nat.le_of_ble_eq_true rfl) ?_
        refine lv_aload_n hx hb dX8_set_61 rfl (lv_at hl 0 rfl) ?_
        refine va_get (D := D) (ci := 8) (v := .ref a) (C := RX8) (T := TX8) (N := 6) hx hb hts inX8 hown hK hP 0 rfl rfl 0 (by decide) (hts (.fieldLink RX8 7 "LoanHouseModel" "st" "[I") (List.mem_of_getElem? (i := 6) rfl)) (fun _ h9 => h9) rfl dX8_set_62 ?_
        refine lv_iconst (v := 1) hx hb dX8_set_65 (by decide) ?_
        refine lv_iload_n hx hb dX8_set_66 rfl (lv_at hl 1 rfl) ?_
        refine lv_iadd hx hb dX8_set_67 ?_
        refine lv_topi (fun x420 ex420 => ?_)
        have ex420 : x420 = 1 := ex420.trans (by decide)
        subst ex420
        refine va_iald hx hb hK hP 1 0 rfl rfl (vi_ok (by decide)) dX8_set_68 ?_
        refine lv_topi (fun x421 ex421 => ?_)
        have ex421 : x421 = 14 := ex421.trans ((congrArg f (by decide : (1 : Int32).toNatClampNeg = 1)).trans hF.2.1)
        subst ex421
        refine lv_istore_n (lv' := [(3, .int 14), (0, .ref m), (1, .int (nI 0)), (2, .int v)]) hx hb dX8_set_69 rfl hl (by decide) rfl (fun ls hl => ?_)
        refine lv_aload_n hx hb dX8_set_70 rfl (lv_at hl 1 rfl) ?_
        refine va_get (D := D) (ci := 8) (v := .ref a) (C := RX8) (T := TX8) (N := 6) hx hb hts inX8 hown hK hP 0 rfl rfl 0 (by decide) (hts (.fieldLink RX8 7 "LoanHouseModel" "st" "[I") (List.mem_of_getElem? (i := 6) rfl)) (fun _ h9 => h9) rfl dX8_set_71 ?_
        refine lv_iconst (v := 1) hx hb dX8_set_74 (by decide) ?_
        refine lv_iload_n hx hb dX8_set_75 rfl (lv_at hl 2 rfl) ?_
        refine lv_iadd hx hb dX8_set_76 ?_
        refine lv_topi (fun x422 ex422 => ?_)
        have ex422 : x422 = 1 := ex422.trans (by decide)
        subst ex422
        refine lv_iload_n hx hb dX8_set_77 rfl (lv_at hl 3 rfl) ?_
        refine va_iast hx hb hK hP hD hS 1 0 rfl rfl (vi_ok (by decide)) dX8_set_78 (fun H locs hP hD hS => ?_)
        have hP : va_P D vwCl [(m, .inr (8, [.ref a, .ref pa, .int 1, .ref ka, .ref za, .long y])), (a, .inl (cA, 172, .inl (upd f (1 : Int32).toNatClampNeg v)))] H := hP
        have hD : va_D AA [(m, .inr (8, [.ref a, .ref pa, .int 1, .ref ka, .ref za, .long y])), (a, .inl (cA, 172, .inl (upd f (1 : Int32).toNatClampNeg v)))] := hD
        obtain ⟨f423, ef423⟩ : ∃ g : Nat → Int32, g = upd f (1 : Int32).toNatClampNeg v := ⟨_, rfl⟩
        rw [← ef423] at hP hD
        have hf423_0 : f423 0 = 0 := by rw [ef423]; exact (pk_un (by decide)).trans hF.1
        have hf423_1 : f423 1 = v := by rw [ef423, show (1 : Int32).toNatClampNeg = 1 from by decide]; exact pk_us
        have hf423_2 : f423 2 = 3 := by rw [ef423]; exact (pk_un (by decide)).trans hF.2.2.1
        have hf423_3 : f423 3 = 64 := by rw [ef423]; exact (pk_un (by decide)).trans hF.2.2.2.1
        have hf423_4 : f423 4 = 0 := by rw [ef423]; exact (pk_un (by decide)).trans hF.2.2.2.2.1
        have hf423_5 : f423 5 = 0 := by rw [ef423]; exact (pk_un (by decide)).trans hF.2.2.2.2.2.1
        have hf423_6 : f423 6 = 0 := by rw [ef423]; exact (pk_un (by decide)).trans hF.2.2.2.2.2.2.1
        have hf423_7 : f423 7 = 0 := by rw [ef423]; exact (pk_un (by decide)).trans hF.2.2.2.2.2.2.2
        refine lv_iload_n hx hb dX8_set_79 rfl (lv_at hl 0 rfl) ?_
        exact hret 14 () rfl (Or.inl ⟨Or.inl ⟨rfl, (l_rng (a := 1) (b := 60) (by decide) (by decide)).mp zw48⟩, by decide⟩) (m_P hP (is := []) rfl) (hK.sub [] rfl) (hD.sub [] (by decide) rfl) hS (Nat.le_of_ble_eq_true rfl) (Nat.le_of_ble_eq_true rfl) dX8_set_80
      · refine lv_if_ne (tgt := 57) hx hb dX8_set_51 (by decide) (fun hc => absurd (by decide) hc) (fun zc51 => ?_)
        refine lv_ldc hx hb hown (hts (.constant RX8 131 (-1000000002)) (List.mem_of_getElem? (i := 5) rfl)) dX8_set_54 ?_
        exact hret (-1000000002) () rfl (Or.inr ⟨fun q => zw48 ((l_rng (a := 1) (b := 60) (by decide) (by decide)).mpr (psx_0 q)), rfl⟩) (m_P hP (is := []) rfl) (hK.sub [] rfl) (hD.sub [] (by decide) rfl) hS (Nat.le_of_ble_eq_true rfl) (Nat.le_of_ble_eq_true rfl) dX8_set_56
    | 1, _ =>
      refine lv_iload_n hx hb dX8_set_12 rfl (lv_at hl 2 rfl) ?_
      refine lv_i2l (v := (v.toInt64)) hx hb dX8_set_13 (rfl) ?_
      refine lv_iload_n hx hb dX8_set_14 rfl (lv_at hl 1 rfl) ?_
      refine lv_iconst (v := 2) hx hb dX8_set_15 (by decide) ?_
      refine lv_icmp_ne (tgt := 23) hx hb dX8_set_16 (by decide) (fun zc16 => ?_) (fun hc => absurd hc (by decide))
      refine lv_lconst (v := 1) hx hb dX8_set_23 (by decide) ?_
      refine lv_iload_n hx hb dX8_set_24 rfl (lv_at hl 1 rfl) ?_
      refine lv_if_ne (tgt := 34) hx hb dX8_set_25 (by decide) (fun zc25 => ?_) (fun hc => absurd hc (by decide))
      refine lv_iload_n hx hb dX8_set_34 rfl (lv_at hl 1 rfl) ?_
      refine lv_iconst (v := 1) hx hb dX8_set_35 (by decide) ?_
      refine lv_icmp_ne (tgt := 45) hx hb dX8_set_36 (by decide) (fun hc => absurd (by decide) hc) (fun zc36 => ?_)
      refine lv_ldc2 hx hb hown (hts (.constantLong RX8 151 (20)) (List.mem_of_getElem? (i := 3) rfl)) dX8_set_39 ?_
      refine lv_goto (tgt := 48) hx hb dX8_set_42 (by decide) ?_
      refine k_pi (va_runS (As := [.long (v.toInt64), .long 1, .long 20]) (rest := []) ⟨hx, hb, hml, hown, hts⟩ (c_X8_in l D H.size (v.toInt64) 1 20 ) (va_cwS 3 hts gX8_set_X8_in rfl rfl rfl (by decide +kernel) ⟨(Nat.le_of_ble_eq_true rfl), (Nat.le_of_ble_eq_true rfl)⟩) ⟨mP_blind, m_pre _ hN hK hP hD [] rfl [] rfl (by decide)⟩ rfl rfl hl.1 rfl (lv_room (Nat.le_of_ble_eq_true rfl)) dX8_set_48 ⟨(Nat.le_of_ble_eq_true rfl), (Nat.le_of_ble_eq_true rfl)⟩) hP hD hS hA [] rfl (fun r424 u H locs hw hP hS => ?_)
      rcases hw with ⟨rfl, zw48⟩ | ⟨rfl, zw48⟩
      · refine lv_if_ne (tgt := 57) hx hb dX8_set_51 (by decide) (fun zc51 => ?_) (fun hc => absurd hc (by decide))
        refine lv_aload_n hx hb dX8_set_57 rfl (lv_at hl 0 rfl) ?_
        refine k_v (wr := []) (va_runV (As := []) (rest := []) ⟨hx, hb, hml, hown, hts⟩ (c_X8_note l D H.size m a pa ka za cA cP y f fp ) (cwV 0 hts gX8_set_X8_note rfl rfl rfl (by decide +kernel) ⟨(Nat.le_of_ble_eq_true rfl), (Nat.le_of_ble_eq_true rfl)⟩) ⟨mP_blind, va_recv hK hP (ci := 8) (q0 := 0) rfl rfl, m_pre _ hN hK hP hD [0, 1] rfl [0, 1, 2] rfl (by decide)⟩ rfl rfl hl.1 rfl (lv_room (Nat.le_of_ble_eq_true rfl)) dX8_set_58 ⟨(Nat.le_of_ble_eq_true rfl), (Nat.le_of_ble_eq_true rfl)⟩) hP hD hS hA [0, 1, 2] [] rfl rfl (by decide) (by decide) (fun u H locs hw hK1 hP hD hS => ?_)
        have hP : va_P D vwCl [(m, .inr (8, [.ref a, .ref pa, .int 1, .ref ka, .ref za, .long y])), (a, .inl (cA, 172, .inl f))] H := hP
        have hD : va_D AA [(m, .inr (8, [.ref a, .ref pa, .int 1, .ref ka, .ref za, .long y])), (a, .inl (cA, 172, .inl f))] := hD
        try dsimp only at hw
        refine W.widen (k := 0) (n := 0) (Nat.le_of_ble_eq_true rfl) (Nat.le_of_ble_eq_true rfl) ?_
        refine lv_aload_n hx hb dX8_set_61 rfl (lv_at hl 0 rfl) ?_
        refine va_get (D := D) (ci := 8) (v := .ref a) (C := RX8) (T := TX8) (N := 6) hx hb hts inX8 hown hK hP 0 rfl rfl 0 (by decide) (hts (.fieldLink RX8 7 "LoanHouseModel" "st" "[I") (List.mem_of_getElem? (i := 6) rfl)) (fun _ h9 => h9) rfl dX8_set_62 ?_
        refine lv_iconst (v := 1) hx hb dX8_set_65 (by decide) ?_
        refine lv_iload_n hx hb dX8_set_66 rfl (lv_at hl 1 rfl) ?_
        refine lv_iadd hx hb dX8_set_67 ?_
        refine lv_topi (fun x426 ex426 => ?_)
        have ex426 : x426 = 2 := ex426.trans (by decide)
        subst ex426
        refine va_iald hx hb hK hP 1 0 rfl rfl (vi_ok (by decide)) dX8_set_68 ?_
        refine lv_topi (fun x427 ex427 => ?_)
        have ex427 : x427 = 3 := ex427.trans ((congrArg f (by decide : (2 : Int32).toNatClampNeg = 2)).trans hF.2.2.1)
        subst ex427
        refine lv_istore_n (lv' := [(3, .int 3), (0, .ref m), (1, .int (nI 1)), (2, .int v)]) hx hb dX8_set_69 rfl hl (by decide) rfl (fun ls hl => ?_)
        refine lv_aload_n hx hb dX8_set_70 rfl (lv_at hl 1 rfl) ?_
        refine va_get (D := D) (ci := 8) (v := .ref a) (C := RX8) (T := TX8) (N := 6) hx hb hts inX8 hown hK hP 0 rfl rfl 0 (by decide) (hts (.fieldLink RX8 7 "LoanHouseModel" "st" "[I") (List.mem_of_getElem? (i := 6) rfl)) (fun _ h9 => h9) rfl dX8_set_71 ?_
        refine lv_iconst (v := 1) hx hb dX8_set_74 (by decide) ?_
        refine lv_iload_n hx hb dX8_set_75 rfl (lv_at hl 2 rfl) ?_
        refine lv_iadd hx hb dX8_set_76 ?_
        refine lv_topi (fun x428 ex428 => ?_)
        have ex428 : x428 = 2 := ex428.trans (by decide)
        subst ex428
        refine lv_iload_n hx hb dX8_set_77 rfl (lv_at hl 3 rfl) ?_
        refine va_iast hx hb hK hP hD hS 1 0 rfl rfl (vi_ok (by decide)) dX8_set_78 (fun H locs hP hD hS => ?_)
        have hP : va_P D vwCl [(m, .inr (8, [.ref a, .ref pa, .int 1, .ref ka, .ref za, .long y])), (a, .inl (cA, 172, .inl (upd f (2 : Int32).toNatClampNeg v)))] H := hP
        have hD : va_D AA [(m, .inr (8, [.ref a, .ref pa, .int 1, .ref ka, .ref za, .long y])), (a, .inl (cA, 172, .inl (upd f (2 : Int32).toNatClampNeg v)))] := hD
        obtain ⟨f429, ef429⟩ : ∃ g : Nat → Int32, g = upd f (2 : Int32).toNatClampNeg v := ⟨_, rfl⟩
        rw [← ef429] at hP hD
        have hf429_0 : f429 0 = 0 := by rw [ef429]; exact (pk_un (by decide)).trans hF.1
        have hf429_1 : f429 1 = 14 := by rw [ef429]; exact (pk_un (by decide)).trans hF.2.1
        have hf429_2 : f429 2 = v := by rw [ef429, show (2 : Int32).toNatClampNeg = 2 from by decide]; exact pk_us
        have hf429_3 : f429 3 = 64 := by rw [ef429]; exact (pk_un (by decide)).trans hF.2.2.2.1
        have hf429_4 : f429 4 = 0 := by rw [ef429]; exact (pk_un (by decide)).trans hF.2.2.2.2.1
        have hf429_5 : f429 5 = 0 := by rw [ef429]; exact (pk_un (by decide)).trans hF.2.2.2.2.2.1
        have hf429_6 : f429 6 = 0 := by rw [ef429]; exact (pk_un (by decide)).trans hF.2.2.2.2.2.2.1
        have hf429_7 : f429 7 = 0 := by rw [ef429]; exact (pk_un (by decide)).trans hF.2.2.2.2.2.2.2
        refine lv_iload_n hx hb dX8_set_79 rfl (lv_at hl 0 rfl) ?_
        exact hret 3 () rfl (Or.inl ⟨Or.inr (Or.inl ⟨rfl, (l_rng (a := 1) (b := 20) (by decide) (by decide)).mp zw48⟩), by decide⟩) (m_P hP (is := []) rfl) (hK.sub [] rfl) (hD.sub [] (by decide) rfl) hS (Nat.le_of_ble_eq_true rfl) (Nat.le_of_ble_eq_true rfl) dX8_set_80
      · refine lv_if_ne (tgt := 57) hx hb dX8_set_51 (by decide) (fun hc => absurd (by decide) hc) (fun zc51 => ?_)
        refine lv_ldc hx hb hown (hts (.constant RX8 131 (-1000000002)) (List.mem_of_getElem? (i := 5) rfl)) dX8_set_54 ?_
        exact hret (-1000000002) () rfl (Or.inr ⟨fun q => zw48 ((l_rng (a := 1) (b := 20) (by decide) (by decide)).mpr (psx_1 q)), rfl⟩) (m_P hP (is := []) rfl) (hK.sub [] rfl) (hD.sub [] (by decide) rfl) hS (Nat.le_of_ble_eq_true rfl) (Nat.le_of_ble_eq_true rfl) dX8_set_56
    | 2, _ =>
      refine lv_iload_n hx hb dX8_set_12 rfl (lv_at hl 2 rfl) ?_
      refine lv_i2l (v := (v.toInt64)) hx hb dX8_set_13 (rfl) ?_
      refine lv_iload_n hx hb dX8_set_14 rfl (lv_at hl 1 rfl) ?_
      refine lv_iconst (v := 2) hx hb dX8_set_15 (by decide) ?_
      refine lv_icmp_ne (tgt := 23) hx hb dX8_set_16 (by decide) (fun hc => absurd (by decide) hc) (fun zc16 => ?_)
      refine lv_lconst (v := 0) hx hb dX8_set_19 (by decide) ?_
      refine lv_goto (tgt := 24) hx hb dX8_set_20 (by decide) ?_
      refine lv_iload_n hx hb dX8_set_24 rfl (lv_at hl 1 rfl) ?_
      refine lv_if_ne (tgt := 34) hx hb dX8_set_25 (by decide) (fun zc25 => ?_) (fun hc => absurd hc (by decide))
      refine lv_iload_n hx hb dX8_set_34 rfl (lv_at hl 1 rfl) ?_
      refine lv_iconst (v := 1) hx hb dX8_set_35 (by decide) ?_
      refine lv_icmp_ne (tgt := 45) hx hb dX8_set_36 (by decide) (fun zc36 => ?_) (fun hc => absurd hc (by decide))
      refine lv_ldc2 hx hb hown (hts (.constantLong RX8 153 (127)) (List.mem_of_getElem? (i := 4) rfl)) dX8_set_45 ?_
      refine k_pi (va_runS (As := [.long (v.toInt64), .long 0, .long 127]) (rest := []) ⟨hx, hb, hml, hown, hts⟩ (c_X8_in l D H.size (v.toInt64) 0 127 ) (va_cwS 3 hts gX8_set_X8_in rfl rfl rfl (by decide +kernel) ⟨(Nat.le_of_ble_eq_true rfl), (Nat.le_of_ble_eq_true rfl)⟩) ⟨mP_blind, m_pre _ hN hK hP hD [] rfl [] rfl (by decide)⟩ rfl rfl hl.1 rfl (lv_room (Nat.le_of_ble_eq_true rfl)) dX8_set_48 ⟨(Nat.le_of_ble_eq_true rfl), (Nat.le_of_ble_eq_true rfl)⟩) hP hD hS hA [] rfl (fun r430 u H locs hw hP hS => ?_)
      rcases hw with ⟨rfl, zw48⟩ | ⟨rfl, zw48⟩
      · refine lv_if_ne (tgt := 57) hx hb dX8_set_51 (by decide) (fun zc51 => ?_) (fun hc => absurd hc (by decide))
        refine lv_aload_n hx hb dX8_set_57 rfl (lv_at hl 0 rfl) ?_
        refine k_v (wr := []) (va_runV (As := []) (rest := []) ⟨hx, hb, hml, hown, hts⟩ (c_X8_note l D H.size m a pa ka za cA cP y f fp ) (cwV 0 hts gX8_set_X8_note rfl rfl rfl (by decide +kernel) ⟨(Nat.le_of_ble_eq_true rfl), (Nat.le_of_ble_eq_true rfl)⟩) ⟨mP_blind, va_recv hK hP (ci := 8) (q0 := 0) rfl rfl, m_pre _ hN hK hP hD [0, 1] rfl [0, 1, 2] rfl (by decide)⟩ rfl rfl hl.1 rfl (lv_room (Nat.le_of_ble_eq_true rfl)) dX8_set_58 ⟨(Nat.le_of_ble_eq_true rfl), (Nat.le_of_ble_eq_true rfl)⟩) hP hD hS hA [0, 1, 2] [] rfl rfl (by decide) (by decide) (fun u H locs hw hK1 hP hD hS => ?_)
        have hP : va_P D vwCl [(m, .inr (8, [.ref a, .ref pa, .int 1, .ref ka, .ref za, .long y])), (a, .inl (cA, 172, .inl f))] H := hP
        have hD : va_D AA [(m, .inr (8, [.ref a, .ref pa, .int 1, .ref ka, .ref za, .long y])), (a, .inl (cA, 172, .inl f))] := hD
        try dsimp only at hw
        refine W.widen (k := 0) (n := 0) (Nat.le_of_ble_eq_true rfl) (Nat.le_of_ble_eq_true rfl) ?_
        refine lv_aload_n hx hb dX8_set_61 rfl (lv_at hl 0 rfl) ?_
        refine va_get (D := D) (ci := 8) (v := .ref a) (C := RX8) (T := TX8) (N := 6) hx hb hts inX8 hown hK hP 0 rfl rfl 0 (by decide) (hts (.fieldLink RX8 7 "LoanHouseModel" "st" "[I") (List.mem_of_getElem? (i := 6) rfl)) (fun _ h9 => h9) rfl dX8_set_62 ?_
        refine lv_iconst (v := 1) hx hb dX8_set_65 (by decide) ?_
        refine lv_iload_n hx hb dX8_set_66 rfl (lv_at hl 1 rfl) ?_
        refine lv_iadd hx hb dX8_set_67 ?_
        refine lv_topi (fun x432 ex432 => ?_)
        have ex432 : x432 = 3 := ex432.trans (by decide)
        subst ex432
        refine va_iald hx hb hK hP 1 0 rfl rfl (vi_ok (by decide)) dX8_set_68 ?_
        refine lv_topi (fun x433 ex433 => ?_)
        have ex433 : x433 = 64 := ex433.trans ((congrArg f (by decide : (3 : Int32).toNatClampNeg = 3)).trans hF.2.2.2.1)
        subst ex433
        refine lv_istore_n (lv' := [(3, .int 64), (0, .ref m), (1, .int (nI 2)), (2, .int v)]) hx hb dX8_set_69 rfl hl (by decide) rfl (fun ls hl => ?_)
        refine lv_aload_n hx hb dX8_set_70 rfl (lv_at hl 1 rfl) ?_
        refine va_get (D := D) (ci := 8) (v := .ref a) (C := RX8) (T := TX8) (N := 6) hx hb hts inX8 hown hK hP 0 rfl rfl 0 (by decide) (hts (.fieldLink RX8 7 "LoanHouseModel" "st" "[I") (List.mem_of_getElem? (i := 6) rfl)) (fun _ h9 => h9) rfl dX8_set_71 ?_
        refine lv_iconst (v := 1) hx hb dX8_set_74 (by decide) ?_
        refine lv_iload_n hx hb dX8_set_75 rfl (lv_at hl 2 rfl) ?_
        refine lv_iadd hx hb dX8_set_76 ?_
        refine lv_topi (fun x434 ex434 => ?_)
        have ex434 : x434 = 3 := ex434.trans (by decide)
        subst ex434
        refine lv_iload_n hx hb dX8_set_77 rfl (lv_at hl 3 rfl) ?_
        refine va_iast hx hb hK hP hD hS 1 0 rfl rfl (vi_ok (by decide)) dX8_set_78 (fun H locs hP hD hS => ?_)
        have hP : va_P D vwCl [(m, .inr (8, [.ref a, .ref pa, .int 1, .ref ka, .ref za, .long y])), (a, .inl (cA, 172, .inl (upd f (3 : Int32).toNatClampNeg v)))] H := hP
        have hD : va_D AA [(m, .inr (8, [.ref a, .ref pa, .int 1, .ref ka, .ref za, .long y])), (a, .inl (cA, 172, .inl (upd f (3 : Int32).toNatClampNeg v)))] := hD
        obtain ⟨f435, ef435⟩ : ∃ g : Nat → Int32, g = upd f (3 : Int32).toNatClampNeg v := ⟨_, rfl⟩
        rw [← ef435] at hP hD
        have hf435_0 : f435 0 = 0 := by rw [ef435]; exact (pk_un (by decide)).trans hF.1
        have hf435_1 : f435 1 = 14 := by rw [ef435]; exact (pk_un (by decide)).trans hF.2.1
        have hf435_2 : f435 2 = 3 := by rw [ef435]; exact (pk_un (by decide)).trans hF.2.2.1
        have hf435_3 : f435 3 = v := by rw [ef435, show (3 : Int32).toNatClampNeg = 3 from by decide]; exact pk_us
        have hf435_4 : f435 4 = 0 := by rw [ef435]; exact (pk_un (by decide)).trans hF.2.2.2.2.1
        have hf435_5 : f435 5 = 0 := by rw [ef435]; exact (pk_un (by decide)).trans hF.2.2.2.2.2.1
        have hf435_6 : f435 6 = 0 := by rw [ef435]; exact (pk_un (by decide)).trans hF.2.2.2.2.2.2.1
        have hf435_7 : f435 7 = 0 := by rw [ef435]; exact (pk_un (by decide)).trans hF.2.2.2.2.2.2.2
        refine lv_iload_n hx hb dX8_set_79 rfl (lv_at hl 0 rfl) ?_
        exact hret 64 () rfl (Or.inl ⟨Or.inr (Or.inr ⟨rfl, (l_rng (a := 0) (b := 127) (by decide) (by decide)).mp zw48⟩), by decide⟩) (m_P hP (is := []) rfl) (hK.sub [] rfl) (hD.sub [] (by decide) rfl) hS (Nat.le_of_ble_eq_true rfl) (Nat.le_of_ble_eq_true rfl) dX8_set_80
      · refine lv_if_ne (tgt := 57) hx hb dX8_set_51 (by decide) (fun hc => absurd (by decide) hc) (fun zc51 => ?_)
        refine lv_ldc hx hb hown (hts (.constant RX8 131 (-1000000002)) (List.mem_of_getElem? (i := 5) rfl)) dX8_set_54 ?_
        exact hret (-1000000002) () rfl (Or.inr ⟨fun q => zw48 ((l_rng (a := 0) (b := 127) (by decide) (by decide)).mpr (psx_2 q)), rfl⟩) (m_P hP (is := []) rfl) (hK.sub [] rfl) (hD.sub [] (by decide) rfl) hS (Nat.le_of_ble_eq_true rfl) (Nat.le_of_ble_eq_true rfl) dX8_set_56
    | kw + 3, hkw => exact absurd hkw (by omega)
  · refine lv_if_eq (tgt := 54) hx hb dX8_set_9 (by decide) (fun zc9 => ?_) (fun hc => absurd (by decide) hc)
    refine lv_ldc hx hb hown (hts (.constant RX8 131 (-1000000002)) (List.mem_of_getElem? (i := 5) rfl)) dX8_set_54 ?_
    exact hret (-1000000002) () rfl (Or.inr ⟨fun q => zw6 ((l_rng (a := 0) (b := 2) (by decide) (by decide)).mpr (ps_rng q)), rfl⟩) (m_P hP (is := []) rfl) (hK.sub [] rfl) (hD.sub [] (by decide) rfl) hS (Nat.le_of_ble_eq_true rfl) (Nat.le_of_ble_eq_true rfl) dX8_set_56
set_option maxHeartbeats 4000000 in
set_option maxRecDepth 100000 in
theorem c_X8_lotOf (l : Launch) (D : va_G) (sz : Nat) (m a pa ka za : Nat) (u0 : Int32) (z b : Nat) (hz : z < 2147483647) (hb1 : 0 < b ∧ b < 2 ^ 31) : mI l yX8_lotOf wsX8_lotOf (rk 0 0 0) D [.ref m, .int (nI b)] [] sz [(m, .inr (8, [.ref a, .ref pa, .int u0, .ref ka, .ref za, .long (lN z)]))] (S := Unit) (fun r _ => r = nI (nxN z % b)) (fun _ => []) (fun _ => [(m, .inr (8, [.ref a, .ref pa, .int u0, .ref ka, .ref za, .long (lN (nxN z))]))]) := by
  refine mI_of (cc := cX8_lotOf) (maxL := 2) (ty := .int) (plainFor_of_name (by decide)) rfl (Nat.le_of_ble_eq_true rfl) ?_
  intro pp ee ss mm bl mt cd AA QQ hx hb hml hts hown hN hA hK hP hD hS hret ls hl
  have hl : lv_has ls 2 [(0, .ref m), (1, .int (nI b))] := hl
  have inX8 : ∀ w ∈ wsX80, w ∈ wsX8_lotOf := fun _ h => List.mem_cons_of_mem _ (List.mem_append_right _ h)
  refine lv_aload_n hx hb dX8_lotOf_0 rfl (lv_at hl 0 rfl) ?_
  refine lv_aload_n hx hb dX8_lotOf_1 rfl (lv_at hl 0 rfl) ?_
  refine va_get (D := D) (ci := 8) (v := .long (lN z)) (C := RX8) (T := TX8) (N := 6) hx hb hts inX8 hown hK hP 0 rfl rfl 5 (by decide) (hts (.fieldLink RX8 155 "LoanHouseModel" "lot" "J") (List.mem_of_getElem? (i := 1) rfl)) (fun _ h9 => h9) rfl dX8_lotOf_2 ?_
  refine lv_ldc2 hx hb hown (hts (.constantLong RX8 159 (16807)) (List.mem_of_getElem? (i := 2) rfl)) dX8_lotOf_5 ?_
  refine lv_lmul hx hb dX8_lotOf_8 ?_
  refine lv_topl (fun y436 ey436 => ?_)
  have ey436 : y436 = lN (z * 16807) := ey436.trans (lN_mul z 16807)
  subst ey436
  refine lv_ldc2 hx hb hown (hts (.constantLong RX8 161 (2147483647)) (List.mem_of_getElem? (i := 3) rfl)) dX8_lotOf_9 ?_
  refine lv_lrem hx hb dX8_lotOf_12 (by decide) ?_
  refine lv_topl (fun y437 ey437 => ?_)
  have ey437 : y437 = lN (nxN z) := ey437.trans (pk_lRem (b := 2147483647) (by omega) (by decide) (by decide))
  subst ey437
  refine va_put (D := D) (ci := 8) (v := .long (lN (nxN z))) (ty := .long) (C := RX8) (T := TX8) (N := 6) hx hb hts inX8 tyX8 tyX8_ok nmX8 hown hK hP hD hS 0 rfl rfl 5 (by decide) (hts (.fieldLink RX8 155 "LoanHouseModel" "lot" "J") (List.mem_of_getElem? (i := 1) rfl)) (fun _ h9 => h9) rfl (by decide +kernel) rfl rfl (Nat.le_of_ble_eq_true rfl) dX8_lotOf_13 (fun H locs hP hD hS => ?_)
  have hP : va_P D vwCl [(m, .inr (8, [.ref a, .ref pa, .int u0, .ref ka, .ref za, .long (lN (nxN z))]))] H := hP
  have hD : va_D AA [(m, .inr (8, [.ref a, .ref pa, .int u0, .ref ka, .ref za, .long (lN (nxN z))]))] := hD
  refine lv_aload_n hx hb dX8_lotOf_16 rfl (lv_at hl 0 rfl) ?_
  refine va_get (D := D) (ci := 8) (v := .long (lN (nxN z))) (C := RX8) (T := TX8) (N := 6) hx hb hts inX8 hown hK hP 0 rfl rfl 5 (by decide) (hts (.fieldLink RX8 155 "LoanHouseModel" "lot" "J") (List.mem_of_getElem? (i := 1) rfl)) (fun _ h9 => h9) rfl dX8_lotOf_17 ?_
  refine lv_iload_n hx hb dX8_lotOf_20 rfl (lv_at hl 1 rfl) ?_
  refine lv_i2l (v := lN b) hx hb dX8_lotOf_21 (nI_l hb1.2) ?_
  refine lv_lrem hx hb dX8_lotOf_22 (lN_ne0 hb1.1 hb1.2) ?_
  refine lv_topl (fun y438 ey438 => ?_)
  have ey438 : y438 = lN (nxN z % b) := ey438.trans (pk_lRem (by have := nxN_lt z; omega) hb1.1 (by omega))
  subst ey438
  refine lv_l2i (v := nI (nxN z % b)) hx hb dX8_lotOf_23 (lN_i _) ?_
  exact hret (nI (nxN z % b)) () rfl (rfl) (m_P hP (is := [0]) rfl) (hK.sub [] rfl) (hD.sub [0] (by decide) rfl) hS (Nat.le_of_ble_eq_true rfl) (Nat.le_of_ble_eq_true rfl) dX8_lotOf_24
set_option maxHeartbeats 4000000 in
set_option maxRecDepth 100000 in
theorem c_X8_drawHold (l : Launch) (D : va_G) (sz : Nat) (m a pa ka za : Nat) (cA : ClassId) (u0 : Int32) (z : Nat) (f : Nat → Int32) (hc d : Nat) (hF : mF f hc d) (hh : hc ≤ 12) (hz : z < 2147483647) : mV l yX8_drawHold wsX8_drawHold (rk 5 0 0) D [.ref m] [(cA, .int)] sz [(m, .inr (8, [.ref a, .ref pa, .int u0, .ref ka, .ref za, .long (lN z)])), (a, .inl (cA, 172, .inl f))] (S := Nat × (Nat → Int32)) (fun u => u.1 ≤ 12 ∧ mF u.2 u.1 d) (fun _ => []) (fun u => [(m, .inr (8, [.ref a, .ref pa, .int u0, .ref ka, .ref za, .long (lN (nxN (nxN (nxN (nxN z)))))])), (a, .inl (cA, 172, .inl u.2))]) := by
  refine mV_of (cc := cX8_drawHold) (maxL := 5) (plainFor_of_name (by decide)) rfl (Nat.le_of_ble_eq_true rfl) ?_
  intro pp ee ss mm bl mt cd AA QQ hx hb hml hts hown hN hA hK hP hD hS hmn hret ls hl
  have hl : lv_has ls 5 [(0, .ref m)] := hl
  have inX8 : ∀ w ∈ wsX80, w ∈ wsX8_drawHold := fun _ h => List.mem_cons_of_mem _ (List.mem_append_right _ h)
  refine lv_aload_n hx hb dX8_drawHold_0 rfl (lv_at hl 0 rfl) ?_
  refine lv_bipush (v := 10) hx hb dX8_drawHold_1 (by decide) ?_
  refine k_i (wr := [(a, .inl (cA, 172, .inl f))]) (va_runV (As := [.int 10]) (rest := []) ⟨hx, hb, hml, hown, hts⟩ (c_X8_lotOf l D ss.heap.size m a pa ka za u0 z 10 hz (by decide)) (cwV 1 hts gX8_drawHold_X8_lotOf rfl rfl rfl (by decide +kernel) ⟨(Nat.le_of_ble_eq_true rfl), (Nat.le_of_ble_eq_true rfl)⟩) ⟨mP_blind, va_recv hK hP (ci := 8) (q0 := 0) rfl rfl, m_pre _ hN hK hP hD [] rfl [0] rfl (by decide)⟩ rfl rfl hl.1 rfl (lv_room (Nat.le_of_ble_eq_true rfl)) dX8_drawHold_3 ⟨(Nat.le_of_ble_eq_true rfl), (Nat.le_of_ble_eq_true rfl)⟩) hP hD hS hA [0] [1] rfl rfl (by decide) (by decide) (fun r439 u H locs hw hK1 hP hD hS => ?_)
  have hP : va_P D vwCl [(a, .inl (cA, 172, .inl f)), (m, .inr (8, [.ref a, .ref pa, .int u0, .ref ka, .ref za, .long (lN (nxN z))]))] H := hP
  have hD : va_D AA [(a, .inl (cA, 172, .inl f)), (m, .inr (8, [.ref a, .ref pa, .int u0, .ref ka, .ref za, .long (lN (nxN z))]))] := hD
  try dsimp only at hw
  refine W.widen (k := 0) (n := 0) (Nat.le_of_ble_eq_true rfl) (Nat.le_of_ble_eq_true rfl) ?_
  obtain rfl := hw
  refine lv_istore_n (lv' := [(1, .int (nI (nxN z % 10))), (0, .ref m)]) hx hb dX8_drawHold_6 rfl hl (by decide) rfl (fun ls hl => ?_)
  refine lv_aload_n hx hb dX8_drawHold_7 rfl (lv_at hl 1 rfl) ?_
  refine lv_bipush (v := 6) hx hb dX8_drawHold_8 (by decide) ?_
  refine k_i (wr := [(a, .inl (cA, 172, .inl f))]) (va_runV (As := [.int 6]) (rest := []) ⟨hx, hb, hml, hown, hts⟩ (c_X8_lotOf l D H.size m a pa ka za u0 (nxN z) 6 (nxN_lt _) (by decide)) (cwV 1 hts gX8_drawHold_X8_lotOf rfl rfl rfl (by decide +kernel) ⟨(Nat.le_of_ble_eq_true rfl), (Nat.le_of_ble_eq_true rfl)⟩) ⟨mP_blind, va_recv hK hP (ci := 8) (q0 := 1) rfl rfl, m_pre _ hN hK hP hD [] rfl [1] rfl (by decide)⟩ rfl rfl hl.1 rfl (lv_room (Nat.le_of_ble_eq_true rfl)) dX8_drawHold_10 ⟨(Nat.le_of_ble_eq_true rfl), (Nat.le_of_ble_eq_true rfl)⟩) hP hD hS hA [1] [0] rfl rfl (by decide) (by decide) (fun r440 u H locs hw hK1 hP hD hS => ?_)
  have hP : va_P D vwCl [(a, .inl (cA, 172, .inl f)), (m, .inr (8, [.ref a, .ref pa, .int u0, .ref ka, .ref za, .long (lN (nxN (nxN z)))]))] H := hP
  have hD : va_D AA [(a, .inl (cA, 172, .inl f)), (m, .inr (8, [.ref a, .ref pa, .int u0, .ref ka, .ref za, .long (lN (nxN (nxN z)))]))] := hD
  try dsimp only at hw
  refine W.widen (k := 0) (n := 0) (Nat.le_of_ble_eq_true rfl) (Nat.le_of_ble_eq_true rfl) ?_
  obtain rfl := hw
  refine lv_istore_n (lv' := [(2, .int (nI (nxN (nxN z) % 6))), (1, .int (nI (nxN z % 10))), (0, .ref m)]) hx hb dX8_drawHold_13 rfl hl (by decide) rfl (fun ls hl => ?_)
  refine lv_aload_n hx hb dX8_drawHold_14 rfl (lv_at hl 2 rfl) ?_
  refine lv_iconst (v := 4) hx hb dX8_drawHold_15 (by decide) ?_
  refine k_i (wr := [(a, .inl (cA, 172, .inl f))]) (va_runV (As := [.int 4]) (rest := []) ⟨hx, hb, hml, hown, hts⟩ (c_X8_lotOf l D H.size m a pa ka za u0 (nxN (nxN z)) 4 (nxN_lt _) (by decide)) (cwV 1 hts gX8_drawHold_X8_lotOf rfl rfl rfl (by decide +kernel) ⟨(Nat.le_of_ble_eq_true rfl), (Nat.le_of_ble_eq_true rfl)⟩) ⟨mP_blind, va_recv hK hP (ci := 8) (q0 := 1) rfl rfl, m_pre _ hN hK hP hD [] rfl [1] rfl (by decide)⟩ rfl rfl hl.1 rfl (lv_room (Nat.le_of_ble_eq_true rfl)) dX8_drawHold_16 ⟨(Nat.le_of_ble_eq_true rfl), (Nat.le_of_ble_eq_true rfl)⟩) hP hD hS hA [1] [0] rfl rfl (by decide) (by decide) (fun r441 u H locs hw hK1 hP hD hS => ?_)
  have hP : va_P D vwCl [(a, .inl (cA, 172, .inl f)), (m, .inr (8, [.ref a, .ref pa, .int u0, .ref ka, .ref za, .long (lN (nxN (nxN (nxN z))))]))] H := hP
  have hD : va_D AA [(a, .inl (cA, 172, .inl f)), (m, .inr (8, [.ref a, .ref pa, .int u0, .ref ka, .ref za, .long (lN (nxN (nxN (nxN z))))]))] := hD
  try dsimp only at hw
  refine W.widen (k := 0) (n := 0) (Nat.le_of_ble_eq_true rfl) (Nat.le_of_ble_eq_true rfl) ?_
  obtain rfl := hw
  refine lv_istore_n (lv' := [(3, .int (nI (nxN (nxN (nxN z)) % 4))), (2, .int (nI (nxN (nxN z) % 6))), (1, .int (nI (nxN z % 10))), (0, .ref m)]) hx hb dX8_drawHold_19 rfl hl (by decide) rfl (fun ls hl => ?_)
  refine lv_aload_n hx hb dX8_drawHold_20 rfl (lv_at hl 3 rfl) ?_
  refine lv_iconst (v := 4) hx hb dX8_drawHold_21 (by decide) ?_
  refine k_i (wr := [(a, .inl (cA, 172, .inl f))]) (va_runV (As := [.int 4]) (rest := []) ⟨hx, hb, hml, hown, hts⟩ (c_X8_lotOf l D H.size m a pa ka za u0 (nxN (nxN (nxN z))) 4 (nxN_lt _) (by decide)) (cwV 1 hts gX8_drawHold_X8_lotOf rfl rfl rfl (by decide +kernel) ⟨(Nat.le_of_ble_eq_true rfl), (Nat.le_of_ble_eq_true rfl)⟩) ⟨mP_blind, va_recv hK hP (ci := 8) (q0 := 1) rfl rfl, m_pre _ hN hK hP hD [] rfl [1] rfl (by decide)⟩ rfl rfl hl.1 rfl (lv_room (Nat.le_of_ble_eq_true rfl)) dX8_drawHold_22 ⟨(Nat.le_of_ble_eq_true rfl), (Nat.le_of_ble_eq_true rfl)⟩) hP hD hS hA [1] [0] rfl rfl (by decide) (by decide) (fun r442 u H locs hw hK1 hP hD hS => ?_)
  have hP : va_P D vwCl [(a, .inl (cA, 172, .inl f)), (m, .inr (8, [.ref a, .ref pa, .int u0, .ref ka, .ref za, .long (lN (nxN (nxN (nxN (nxN z)))))]))] H := hP
  have hD : va_D AA [(a, .inl (cA, 172, .inl f)), (m, .inr (8, [.ref a, .ref pa, .int u0, .ref ka, .ref za, .long (lN (nxN (nxN (nxN (nxN z)))))]))] := hD
  try dsimp only at hw
  refine W.widen (k := 0) (n := 0) (Nat.le_of_ble_eq_true rfl) (Nat.le_of_ble_eq_true rfl) ?_
  obtain rfl := hw
  refine lv_istore (lv' := [(4, .int (nI (nxN (nxN (nxN (nxN z))) % 4))), (3, .int (nI (nxN (nxN (nxN z)) % 4))), (2, .int (nI (nxN (nxN z) % 6))), (1, .int (nI (nxN z % 10))), (0, .ref m)]) hx hb dX8_drawHold_25 hl (by decide) rfl (fun ls hl => ?_)
  refine lv_aload_n hx hb dX8_drawHold_27 rfl (lv_at hl 4 rfl) ?_
  refine lv_iload_n hx hb dX8_drawHold_28 rfl (lv_at hl 3 rfl) ?_
  refine lv_iload_n hx hb dX8_drawHold_29 rfl (lv_at hl 2 rfl) ?_
  refine k_pi (va_runV (As := [.int (nI (nxN z % 10)), .int (nI (nxN (nxN z) % 6))]) (rest := []) ⟨hx, hb, hml, hown, hts⟩ (c_X8_mayHold l D H.size m a pa ka za cA u0 (lN (nxN (nxN (nxN (nxN z))))) f hc (nI (nxN z % 10)) (nI (nxN (nxN z) % 6)) hF.2.2 hh hF.2.1) (cwV 2 hts gX8_drawHold_X8_mayHold rfl rfl rfl (by decide +kernel) ⟨(Nat.le_of_ble_eq_true rfl), (Nat.le_of_ble_eq_true rfl)⟩) ⟨mP_blind, va_recv hK hP (ci := 8) (q0 := 1) rfl rfl, m_pre _ hN hK hP hD [0] rfl [1, 0] rfl (by decide)⟩ rfl rfl hl.1 rfl (lv_room (Nat.le_of_ble_eq_true rfl)) dX8_drawHold_30 ⟨(Nat.le_of_ble_eq_true rfl), (Nat.le_of_ble_eq_true rfl)⟩) hP hD hS hA [1, 0] rfl (fun r443 u H locs hw hP hS => ?_)
  rcases hw with rfl | ⟨rfl, zw30⟩
  · refine lv_if_eq (tgt := 57) hx hb dX8_drawHold_33 (by decide) (fun hc => absurd hc (by decide)) (fun zc33 => ?_)
    refine lv_aload_n hx hb dX8_drawHold_36 rfl (lv_at hl 4 rfl) ?_
    refine va_get (D := D) (ci := 8) (v := .ref a) (C := RX8) (T := TX8) (N := 6) hx hb hts inX8 hown hK hP 1 rfl rfl 0 (by decide) (hts (.fieldLink RX8 7 "LoanHouseModel" "st" "[I") (List.mem_of_getElem? (i := 1) rfl)) (fun _ h9 => h9) rfl dX8_drawHold_37 ?_
    refine lv_iconst (v := 5) hx hb dX8_drawHold_40 (by decide) ?_
    refine va_iald hx hb hK hP 0 0 rfl rfl (vi_ok (by decide)) dX8_drawHold_41 ?_
    refine lv_topi (fun x444 ex444 => ?_)
    have ex444 : x444 = nI hc := ex444.trans ((congrArg f (by decide : (5 : Int32).toNatClampNeg = 5)).trans hF.2.2)
    subst ex444
    refine lv_bipush (v := 12) hx hb dX8_drawHold_42 (by decide) ?_
    refine lv_icmp_ge (tgt := 57) hx hb dX8_drawHold_44 (by decide) (fun zc44 => ?_) (fun zc44 => ?_)
    · exact hret (hc, f) (⟨hh, hF⟩) (m_P hP (is := [1, 0]) rfl) (hK.sub [] rfl) (hD.sub [1, 0] (by decide) rfl) hS (Nat.le_of_ble_eq_true rfl) (Nat.le_of_ble_eq_true rfl) dX8_drawHold_57
    · refine lv_aload_n hx hb dX8_drawHold_47 rfl (lv_at hl 4 rfl) ?_
      refine lv_iload_n hx hb dX8_drawHold_48 rfl (lv_at hl 3 rfl) ?_
      refine lv_iload_n hx hb dX8_drawHold_49 rfl (lv_at hl 2 rfl) ?_
      refine lv_iload_n hx hb dX8_drawHold_50 rfl (lv_at hl 1 rfl) ?_
      refine lv_iload hx hb dX8_drawHold_51 (lv_at hl 0 rfl) ?_
      refine k_i (wr := []) (va_runV (As := [.int (nI (nxN z % 10)), .int (nI (nxN (nxN z) % 6)), .int (nI (nxN (nxN (nxN z)) % 4)), .int (nI (nxN (nxN (nxN (nxN z))) % 4))]) (rest := []) ⟨hx, hb, hml, hown, hts⟩ (c_X8_doHold l D H.size m a pa ka za cA u0 (lN (nxN (nxN (nxN (nxN z))))) f hc d (nI (nxN z % 10)) (nI (nxN (nxN z) % 6)) (nI (nxN (nxN (nxN z)) % 4)) (nI (nxN (nxN (nxN (nxN z))) % 4)) hF (lt12 (ib_2 zc44))) (cwV 4 hts gX8_drawHold_X8_doHold rfl rfl rfl (by decide +kernel) ⟨(Nat.le_of_ble_eq_true rfl), (Nat.le_of_ble_eq_true rfl)⟩) ⟨mP_blind, va_recv hK hP (ci := 8) (q0 := 1) rfl rfl, m_pre _ hN hK hP hD [0] rfl [1, 0] rfl (by decide)⟩ rfl rfl hl.1 rfl (lv_room (Nat.le_of_ble_eq_true rfl)) dX8_drawHold_53 ⟨(Nat.le_of_ble_eq_true rfl), (Nat.le_of_ble_eq_true rfl)⟩) hP hD hS hA [1, 0] [] rfl rfl (by decide) (by decide) (fun r445 u H locs hw hK1 hP hD hS => ?_)
      obtain ⟨g446, rfl⟩ : ∃ z, z = u := ⟨_, rfl⟩
      have hP : va_P D vwCl [(m, .inr (8, [.ref a, .ref pa, .int u0, .ref ka, .ref za, .long (lN (nxN (nxN (nxN (nxN z)))))])), (a, .inl (cA, 172, .inl g446))] H := hP
      have hD : va_D AA [(m, .inr (8, [.ref a, .ref pa, .int u0, .ref ka, .ref za, .long (lN (nxN (nxN (nxN (nxN z)))))])), (a, .inl (cA, 172, .inl g446))] := hD
      try dsimp only at hw
      refine W.widen (k := 0) (n := 0) (Nat.le_of_ble_eq_true rfl) (Nat.le_of_ble_eq_true rfl) ?_
      have zw53 := hw
      refine lv_pop hx hb dX8_drawHold_56 rfl ?_
      exact hret (hc + 1, g446) (⟨by have := lt12 (ib_2 zc44); show hc + 1 ≤ 12; omega, zw53.2⟩) (m_P hP (is := [0, 1]) rfl) (hK.sub [] rfl) (hD.sub [0, 1] (by decide) rfl) hS (Nat.le_of_ble_eq_true rfl) (Nat.le_of_ble_eq_true rfl) dX8_drawHold_57
  · refine lv_if_eq (tgt := 57) hx hb dX8_drawHold_33 (by decide) (fun zc33 => ?_) (fun hc => absurd (by decide) hc)
    exact hret (hc, f) (⟨hh, hF⟩) (m_P hP (is := [1, 0]) rfl) (hK.sub [] rfl) (hD.sub [1, 0] (by decide) rfl) hS (Nat.le_of_ble_eq_true rfl) (Nat.le_of_ble_eq_true rfl) dX8_drawHold_57
set_option maxHeartbeats 4000000 in
set_option maxRecDepth 100000 in
theorem c_X8_drift (l : Launch) (D : va_G) (sz : Nat) (m a pa ka za : Nat) (cA cP : ClassId) (y : Int64) (f fp : Nat → Int32) (v w : Int32) (hF : st0 f) : mI l yX8_drift wsX8_drift (rk 6 0 0) D [.ref m, .int v, .int w] [(cA, .int), (cP, .int)] sz [(m, .inr (8, [.ref a, .ref pa, .int 0, .ref ka, .ref za, .long y])), (a, .inl (cA, 172, .inl f)), (pa, .inl (cP, 1376, .inl fp))] (S := Unit) (fun r _ => q2 (p_dr v w) (nI (drN v.toNatClampNeg w.toNatClampNeg 0)) (-1000000002) r) (fun _ => []) (fun _ => []) := by
  refine mI_of (cc := cX8_drift) (maxL := 5) (ty := .int) (plainFor_of_name (by decide)) rfl (Nat.le_of_ble_eq_true rfl) ?_
  intro pp ee ss mm bl mt cd AA QQ hx hb hml hts hown hN hA hK hP hD hS hret ls hl
  have hl : lv_has ls 5 [(0, .ref m), (1, .int v), (2, .int w)] := hl
  have inX8 : ∀ w ∈ wsX80, w ∈ wsX8_drift := fun _ h => List.mem_cons_of_mem _ (List.mem_append_right _ h)
  refine lv_iload_n hx hb dX8_drift_0 rfl (lv_at hl 1 rfl) ?_
  refine lv_i2l (v := (v.toInt64)) hx hb dX8_drift_1 (rfl) ?_
  refine lv_lconst (v := 1) hx hb dX8_drift_2 (by decide) ?_
  refine lv_ldc2 hx hb hown (hts (.constantLong RX8 151 (20)) (List.mem_of_getElem? (i := 1) rfl)) dX8_drift_3 ?_
  refine k_pi (va_runS (As := [.long (v.toInt64), .long 1, .long 20]) (rest := []) ⟨hx, hb, hml, hown, hts⟩ (c_X8_in l D ss.heap.size (v.toInt64) 1 20 ) (va_cwS 3 hts gX8_drift_X8_in rfl rfl rfl (by decide +kernel) ⟨(Nat.le_of_ble_eq_true rfl), (Nat.le_of_ble_eq_true rfl)⟩) ⟨mP_blind, m_pre _ hN hK hP hD [] rfl [] rfl (by decide)⟩ rfl rfl hl.1 rfl (lv_room (Nat.le_of_ble_eq_true rfl)) dX8_drift_6 ⟨(Nat.le_of_ble_eq_true rfl), (Nat.le_of_ble_eq_true rfl)⟩) hP hD hS hA [] rfl (fun r447 u H locs hw hP hS => ?_)
  rcases hw with ⟨rfl, zw6⟩ | ⟨rfl, zw6⟩
  · refine lv_if_eq (tgt := 24) hx hb dX8_drift_9 (by decide) (fun hc => absurd hc (by decide)) (fun zc9 => ?_)
    refine lv_iload_n hx hb dX8_drift_12 rfl (lv_at hl 2 rfl) ?_
    refine lv_i2l (v := (w.toInt64)) hx hb dX8_drift_13 (rfl) ?_
    refine lv_lconst (v := 1) hx hb dX8_drift_14 (by decide) ?_
    refine lv_ldc2 hx hb hown (hts (.constantLong RX8 166 (999999)) (List.mem_of_getElem? (i := 2) rfl)) dX8_drift_15 ?_
    refine k_pi (va_runS (As := [.long (w.toInt64), .long 1, .long 999999]) (rest := []) ⟨hx, hb, hml, hown, hts⟩ (c_X8_in l D H.size (w.toInt64) 1 999999 ) (va_cwS 3 hts gX8_drift_X8_in rfl rfl rfl (by decide +kernel) ⟨(Nat.le_of_ble_eq_true rfl), (Nat.le_of_ble_eq_true rfl)⟩) ⟨mP_blind, m_pre _ hN hK hP hD [] rfl [] rfl (by decide)⟩ rfl rfl hl.1 rfl (lv_room (Nat.le_of_ble_eq_true rfl)) dX8_drift_18 ⟨(Nat.le_of_ble_eq_true rfl), (Nat.le_of_ble_eq_true rfl)⟩) hP hD hS hA [] rfl (fun r448 u H locs hw hP hS => ?_)
    rcases hw with ⟨rfl, zw18⟩ | ⟨rfl, zw18⟩
    · refine lv_if_ne (tgt := 27) hx hb dX8_drift_21 (by decide) (fun zc21 => ?_) (fun hc => absurd hc (by decide))
      obtain ⟨k0, hk1, hk2, rfl⟩ := i_between2 (x := 1) (y := 20) (by decide) (by decide) ((l_rng (a := 1) (b := 20) (by decide) (by decide)).mp zw6) (by decide)
      obtain ⟨sd, hs1, hs2, rfl⟩ := i_between2 (x := 1) (y := 999999) (by decide) (by decide) ((l_rng (a := 1) (b := 999999) (by decide) (by decide)).mp zw18) (by decide)
      refine lv_aload_n hx hb dX8_drift_27 rfl (lv_at hl 0 rfl) ?_
      refine k_v (wr := []) (va_runV (As := []) (rest := []) ⟨hx, hb, hml, hown, hts⟩ (c_X8_note l D H.size m a pa ka za cA cP y f fp ) (cwV 0 hts gX8_drift_X8_note rfl rfl rfl (by decide +kernel) ⟨(Nat.le_of_ble_eq_true rfl), (Nat.le_of_ble_eq_true rfl)⟩) ⟨mP_blind, va_recv hK hP (ci := 8) (q0 := 0) rfl rfl, m_pre _ hN hK hP hD [0, 1] rfl [0, 1, 2] rfl (by decide)⟩ rfl rfl hl.1 rfl (lv_room (Nat.le_of_ble_eq_true rfl)) dX8_drift_28 ⟨(Nat.le_of_ble_eq_true rfl), (Nat.le_of_ble_eq_true rfl)⟩) hP hD hS hA [0, 1, 2] [] rfl rfl (by decide) (by decide) (fun u H locs hw hK1 hP hD hS => ?_)
      have hP : va_P D vwCl [(m, .inr (8, [.ref a, .ref pa, .int 1, .ref ka, .ref za, .long y])), (a, .inl (cA, 172, .inl f))] H := hP
      have hD : va_D AA [(m, .inr (8, [.ref a, .ref pa, .int 1, .ref ka, .ref za, .long y])), (a, .inl (cA, 172, .inl f))] := hD
      try dsimp only at hw
      refine W.widen (k := 0) (n := 0) (Nat.le_of_ble_eq_true rfl) (Nat.le_of_ble_eq_true rfl) ?_
      refine lv_aload_n hx hb dX8_drift_31 rfl (lv_at hl 0 rfl) ?_
      refine lv_iload_n hx hb dX8_drift_32 rfl (lv_at hl 2 rfl) ?_
      refine lv_i2l (v := lN sd) hx hb dX8_drift_33 (nI_l (by omega)) ?_
      refine va_put (D := D) (ci := 8) (v := .long (lN sd)) (ty := .long) (C := RX8) (T := TX8) (N := 6) hx hb hts inX8 tyX8 tyX8_ok nmX8 hown hK hP hD hS 0 rfl rfl 5 (by decide) (hts (.fieldLink RX8 155 "LoanHouseModel" "lot" "J") (List.mem_of_getElem? (i := 4) rfl)) (fun _ h9 => h9) rfl (by decide +kernel) rfl rfl (Nat.le_of_ble_eq_true rfl) dX8_drift_34 (fun H locs hP hD hS => ?_)
      have hP : va_P D vwCl [(m, .inr (8, [.ref a, .ref pa, .int 1, .ref ka, .ref za, .long (lN sd)])), (a, .inl (cA, 172, .inl f))] H := hP
      have hD : va_D AA [(m, .inr (8, [.ref a, .ref pa, .int 1, .ref ka, .ref za, .long (lN sd)])), (a, .inl (cA, 172, .inl f))] := hD
      refine lv_iconst (v := 0) hx hb dX8_drift_37 (by decide) ?_
      refine lv_istore_n (lv' := [(3, .int 0), (0, .ref m), (1, .int (nI k0)), (2, .int (nI sd))]) hx hb dX8_drift_38 rfl hl (by decide) rfl (fun ls hl => ?_)
      have lp : ∀ (fu : Nat) (i z d hc : Nat) (g : Nat → Int32), (i ≤ k0) → (z < 2147483647) → (hc ≤ 12) → (mF g hc d) → (d ≤ i) → (drN (k0 - i) z d = drN k0 sd 0) → (k0 < i + fu) → ∀ (H : Heap) (locs : List Loc) (ls : Array Slot), va_P D vwCl [(m, .inr (8, [.ref a, .ref pa, .int 1, .ref ka, .ref za, .long (lN z)])), (a, .inl (cA, 172, .inl g))] H → va_D AA [(m, .inr (8, [.ref a, .ref pa, .int 1, .ref ka, .ref za, .long (lN z)])), (a, .inl (cA, 172, .inl g))] → va_S AA ss.heap H locs → lv_has ls 5 [(3, .int (nI i)), (0, .ref m), (1, .int (nI k0))] → W pp l ee (rk 6 0 0) ss mm ([.ref m, .int (nI k0), .int (nI sd)] : List Value).toArray bl mt cd H locs 0 0 QQ (F0 mm 39 ls []) := by
        intro fu
        induction fu with
        | zero =>
          intro i z d hc g hi hz hh hG hdi hV hf H locs ls hP hD hS hl
          exact absurd hf (by omega)
        | succ fu ih =>
          intro i z d hc g hi hz hh hG hdi hV hf H locs ls hP hD hS hl
          refine lv_iload_n hx hb dX8_drift_39 rfl (lv_at hl 0 rfl) ?_
          refine lv_iload_n hx hb dX8_drift_40 rfl (lv_at hl 2 rfl) ?_
          refine lv_icmp_ge (tgt := 124) hx hb dX8_drift_41 (by decide) (fun zc41 => ?_) (fun zc41 => ?_)
          · refine lv_aload_n hx hb dX8_drift_124 rfl (lv_at hl 1 rfl) ?_
            refine va_get (D := D) (ci := 8) (v := .ref a) (C := RX8) (T := TX8) (N := 6) hx hb hts inX8 hown hK hP 0 rfl rfl 0 (by decide) (hts (.fieldLink RX8 7 "LoanHouseModel" "st" "[I") (List.mem_of_getElem? (i := 5) rfl)) (fun _ h9 => h9) rfl dX8_drift_125 ?_
            refine lv_iconst (v := 0) hx hb dX8_drift_128 (by decide) ?_
            refine va_iald hx hb hK hP 1 0 rfl rfl (vi_ok (by decide)) dX8_drift_129 ?_
            refine lv_topi (fun x450 ex450 => ?_)
            have ex450 : x450 = nI d := ex450.trans ((congrArg g (by decide : (0 : Int32).toNatClampNeg = 0)).trans hG.1)
            subst ex450
            exact hret (nI d) () rfl (Or.inl ⟨dr_ok hk1 hk2 hs1 hs2, by rw [nI_clamp (by omega), nI_clamp (by omega), ← hV, show k0 - i = 0 from by rcases Nat.lt_or_ge i k0 with q | q; exact absurd zc41 (nI_ge q (by omega)); omega]; rfl⟩) (m_P hP (is := []) rfl) (hK.sub [] rfl) (hD.sub [] (by decide) rfl) hS (Nat.le_of_ble_eq_true rfl) (Nat.le_of_ble_eq_true rfl) dX8_drift_130
          · refine lv_aload_n hx hb dX8_drift_44 rfl (lv_at hl 1 rfl) ?_
            refine lv_iconst (v := 4) hx hb dX8_drift_45 (by decide) ?_
            refine k_i (wr := [(a, .inl (cA, 172, .inl g))]) (va_runV (As := [.int 4]) (rest := []) ⟨hx, hb, hml, hown, hts⟩ (c_X8_lotOf l D H.size m a pa ka za 1 z 4 hz (by decide)) (cwV 1 hts gX8_drift_X8_lotOf rfl rfl rfl (by decide +kernel) ⟨(Nat.le_of_ble_eq_true rfl), (Nat.le_of_ble_eq_true rfl)⟩) ⟨mP_blind, va_recv hK hP (ci := 8) (q0 := 0) rfl rfl, m_pre _ hN hK hP hD [] rfl [0] rfl (by decide)⟩ rfl rfl hl.1 rfl (lv_room (Nat.le_of_ble_eq_true rfl)) dX8_drift_46 ⟨(Nat.le_of_ble_eq_true rfl), (Nat.le_of_ble_eq_true rfl)⟩) hP hD hS hA [0] [1] rfl rfl (by decide) (by decide) (fun r451 u H locs hw hK1 hP hD hS => ?_)
            have hP : va_P D vwCl [(a, .inl (cA, 172, .inl g)), (m, .inr (8, [.ref a, .ref pa, .int 1, .ref ka, .ref za, .long (lN (nxN z))]))] H := hP
            have hD : va_D AA [(a, .inl (cA, 172, .inl g)), (m, .inr (8, [.ref a, .ref pa, .int 1, .ref ka, .ref za, .long (lN (nxN z))]))] := hD
            try dsimp only at hw
            refine W.widen (k := 0) (n := 0) (Nat.le_of_ble_eq_true rfl) (Nat.le_of_ble_eq_true rfl) ?_
            obtain rfl := hw
            rcases m4 (nxN z) with hmod | hmod | hmod | hmod
            · rw [hmod]
              refine lv_istore (lv' := [(4, .int (nI 0)), (3, .int (nI i)), (0, .ref m), (1, .int (nI k0))]) hx hb dX8_drift_49 hl (by decide) rfl (fun ls hl => ?_)
              refine lv_iload hx hb dX8_drift_51 (lv_at hl 0 rfl) ?_
              refine lv_if_ne (tgt := 63) hx hb dX8_drift_53 (by decide) (fun hc => absurd (by decide) hc) (fun zc53 => ?_)
              refine lv_aload_n hx hb dX8_drift_56 rfl (lv_at hl 2 rfl) ?_
              refine k_v (wr := []) (va_runV (As := []) (rest := []) ⟨hx, hb, hml, hown, hts⟩ (c_X8_drawHold l D H.size m a pa ka za cA 1 (nxN z) g hc d hG hh (nxN_lt _)) (cwV 0 hts gX8_drift_X8_drawHold rfl rfl rfl (by decide +kernel) ⟨(Nat.le_of_ble_eq_true rfl), (Nat.le_of_ble_eq_true rfl)⟩) ⟨mP_blind, va_recv hK hP (ci := 8) (q0 := 1) rfl rfl, m_pre _ hN hK hP hD [0] rfl [1, 0] rfl (by decide)⟩ rfl rfl hl.1 rfl (lv_room (Nat.le_of_ble_eq_true rfl)) dX8_drift_57 ⟨(Nat.le_of_ble_eq_true rfl), (Nat.le_of_ble_eq_true rfl)⟩) hP hD hS hA [1, 0] [] rfl rfl (by decide) (by decide) (fun u H locs hw hK1 hP hD hS => ?_)
              obtain ⟨hc453, g454⟩ := u
              have hP : va_P D vwCl [(m, .inr (8, [.ref a, .ref pa, .int 1, .ref ka, .ref za, .long (lN (nxN (nxN (nxN (nxN (nxN z))))))])), (a, .inl (cA, 172, .inl g454))] H := hP
              have hD : va_D AA [(m, .inr (8, [.ref a, .ref pa, .int 1, .ref ka, .ref za, .long (lN (nxN (nxN (nxN (nxN (nxN z))))))])), (a, .inl (cA, 172, .inl g454))] := hD
              try dsimp only at hw
              refine W.widen (k := 0) (n := 0) (Nat.le_of_ble_eq_true rfl) (Nat.le_of_ble_eq_true rfl) ?_
              have zw57 := hw
              refine lv_goto (tgt := 118) hx hb dX8_drift_60 (by decide) ?_
              refine lv_iinc (v := nI (i + 1)) (lv' := [(3, .int (nI (i + 1))), (4, .int (nI 0)), (0, .ref m), (1, .int (nI k0))]) hx hb dX8_drift_118 hl (k := 1) rfl (nI_1 i) (by decide) rfl (fun ls hl => ?_)
              refine lv_goto (tgt := 39) hx hb dX8_drift_121 (by decide) ?_
              exact ih (i + 1) (nxN (nxN (nxN (nxN (nxN z))))) d hc453 g454 (by have := lt_of_nle30 zc41 hi (by omega); omega) (nxN_lt _) zw57.1 zw57.2 (by omega) (dr_0 hmod (lt_of_nle30 zc41 hi (by omega)) hV) (by omega) _ _ ls hP hD hS (lv_sub hl [0, 2, 3] rfl)
            · rw [hmod]
              refine lv_istore (lv' := [(4, .int (nI 1)), (3, .int (nI i)), (0, .ref m), (1, .int (nI k0))]) hx hb dX8_drift_49 hl (by decide) rfl (fun ls hl => ?_)
              refine lv_iload hx hb dX8_drift_51 (lv_at hl 0 rfl) ?_
              refine lv_if_ne (tgt := 63) hx hb dX8_drift_53 (by decide) (fun zc53 => ?_) (fun hc => absurd hc (by decide))
              refine lv_iload hx hb dX8_drift_63 (lv_at hl 0 rfl) ?_
              refine lv_iconst (v := 3) hx hb dX8_drift_65 (by decide) ?_
              refine lv_icmp_ge (tgt := 96) hx hb dX8_drift_66 (by decide) (fun hc => absurd hc (by decide)) (fun zc66 => ?_)
              refine lv_aload_n hx hb dX8_drift_69 rfl (lv_at hl 2 rfl) ?_
              refine va_get (D := D) (ci := 8) (v := .ref a) (C := RX8) (T := TX8) (N := 6) hx hb hts inX8 hown hK hP 1 rfl rfl 0 (by decide) (hts (.fieldLink RX8 7 "LoanHouseModel" "st" "[I") (List.mem_of_getElem? (i := 5) rfl)) (fun _ h9 => h9) rfl dX8_drift_70 ?_
              refine lv_iconst (v := 4) hx hb dX8_drift_73 (by decide) ?_
              refine va_iald hx hb hK hP 0 0 rfl rfl (vi_ok (by decide)) dX8_drift_74 ?_
              refine lv_topi (fun x455 ex455 => ?_)
              have ex455 : x455 = 0 := ex455.trans ((congrArg g (by decide : (4 : Int32).toNatClampNeg = 4)).trans hG.2.1)
              subst ex455
              refine lv_if_le (tgt := 96) hx hb dX8_drift_75 (by decide) (fun zc75 => ?_) (fun hc => absurd (by decide) hc)
              refine lv_iload hx hb dX8_drift_96 (lv_at hl 0 rfl) ?_
              refine lv_iconst (v := 3) hx hb dX8_drift_98 (by decide) ?_
              refine lv_icmp_ne (tgt := 118) hx hb dX8_drift_99 (by decide) (fun zc99 => ?_) (fun hc => absurd hc (by decide))
              refine lv_iinc (v := nI (i + 1)) (lv' := [(3, .int (nI (i + 1))), (4, .int (nI 1)), (0, .ref m), (1, .int (nI k0))]) hx hb dX8_drift_118 hl (k := 1) rfl (nI_1 i) (by decide) rfl (fun ls hl => ?_)
              refine lv_goto (tgt := 39) hx hb dX8_drift_121 (by decide) ?_
              exact ih (i + 1) (nxN z) d hc g (by have := lt_of_nle30 zc41 hi (by omega); omega) (nxN_lt _) hh hG (by omega) (dr_1 hmod (lt_of_nle30 zc41 hi (by omega)) hV) (by omega) _ _ ls (m_P hP (is := [1, 0]) rfl) (hD.sub [1, 0] (by decide) rfl) hS (lv_sub hl [0, 2, 3] rfl)
            · rw [hmod]
              refine lv_istore (lv' := [(4, .int (nI 2)), (3, .int (nI i)), (0, .ref m), (1, .int (nI k0))]) hx hb dX8_drift_49 hl (by decide) rfl (fun ls hl => ?_)
              refine lv_iload hx hb dX8_drift_51 (lv_at hl 0 rfl) ?_
              refine lv_if_ne (tgt := 63) hx hb dX8_drift_53 (by decide) (fun zc53 => ?_) (fun hc => absurd hc (by decide))
              refine lv_iload hx hb dX8_drift_63 (lv_at hl 0 rfl) ?_
              refine lv_iconst (v := 3) hx hb dX8_drift_65 (by decide) ?_
              refine lv_icmp_ge (tgt := 96) hx hb dX8_drift_66 (by decide) (fun hc => absurd hc (by decide)) (fun zc66 => ?_)
              refine lv_aload_n hx hb dX8_drift_69 rfl (lv_at hl 2 rfl) ?_
              refine va_get (D := D) (ci := 8) (v := .ref a) (C := RX8) (T := TX8) (N := 6) hx hb hts inX8 hown hK hP 1 rfl rfl 0 (by decide) (hts (.fieldLink RX8 7 "LoanHouseModel" "st" "[I") (List.mem_of_getElem? (i := 5) rfl)) (fun _ h9 => h9) rfl dX8_drift_70 ?_
              refine lv_iconst (v := 4) hx hb dX8_drift_73 (by decide) ?_
              refine va_iald hx hb hK hP 0 0 rfl rfl (vi_ok (by decide)) dX8_drift_74 ?_
              refine lv_topi (fun x456 ex456 => ?_)
              have ex456 : x456 = 0 := ex456.trans ((congrArg g (by decide : (4 : Int32).toNatClampNeg = 4)).trans hG.2.1)
              subst ex456
              refine lv_if_le (tgt := 96) hx hb dX8_drift_75 (by decide) (fun zc75 => ?_) (fun hc => absurd (by decide) hc)
              refine lv_iload hx hb dX8_drift_96 (lv_at hl 0 rfl) ?_
              refine lv_iconst (v := 3) hx hb dX8_drift_98 (by decide) ?_
              refine lv_icmp_ne (tgt := 118) hx hb dX8_drift_99 (by decide) (fun zc99 => ?_) (fun hc => absurd hc (by decide))
              refine lv_iinc (v := nI (i + 1)) (lv' := [(3, .int (nI (i + 1))), (4, .int (nI 2)), (0, .ref m), (1, .int (nI k0))]) hx hb dX8_drift_118 hl (k := 1) rfl (nI_1 i) (by decide) rfl (fun ls hl => ?_)
              refine lv_goto (tgt := 39) hx hb dX8_drift_121 (by decide) ?_
              exact ih (i + 1) (nxN z) d hc g (by have := lt_of_nle30 zc41 hi (by omega); omega) (nxN_lt _) hh hG (by omega) (dr_2 hmod (lt_of_nle30 zc41 hi (by omega)) hV) (by omega) _ _ ls (m_P hP (is := [1, 0]) rfl) (hD.sub [1, 0] (by decide) rfl) hS (lv_sub hl [0, 2, 3] rfl)
            · rw [hmod]
              refine lv_istore (lv' := [(4, .int (nI 3)), (3, .int (nI i)), (0, .ref m), (1, .int (nI k0))]) hx hb dX8_drift_49 hl (by decide) rfl (fun ls hl => ?_)
              refine lv_iload hx hb dX8_drift_51 (lv_at hl 0 rfl) ?_
              refine lv_if_ne (tgt := 63) hx hb dX8_drift_53 (by decide) (fun zc53 => ?_) (fun hc => absurd hc (by decide))
              refine lv_iload hx hb dX8_drift_63 (lv_at hl 0 rfl) ?_
              refine lv_iconst (v := 3) hx hb dX8_drift_65 (by decide) ?_
              refine lv_icmp_ge (tgt := 96) hx hb dX8_drift_66 (by decide) (fun zc66 => ?_) (fun hc => absurd (by decide) hc)
              refine lv_iload hx hb dX8_drift_96 (lv_at hl 0 rfl) ?_
              refine lv_iconst (v := 3) hx hb dX8_drift_98 (by decide) ?_
              refine lv_icmp_ne (tgt := 118) hx hb dX8_drift_99 (by decide) (fun hc => absurd (by decide) hc) (fun zc99 => ?_)
              refine lv_aload_n hx hb dX8_drift_102 rfl (lv_at hl 2 rfl) ?_
              refine va_get (D := D) (ci := 8) (v := .ref a) (C := RX8) (T := TX8) (N := 6) hx hb hts inX8 hown hK hP 1 rfl rfl 0 (by decide) (hts (.fieldLink RX8 7 "LoanHouseModel" "st" "[I") (List.mem_of_getElem? (i := 5) rfl)) (fun _ h9 => h9) rfl dX8_drift_103 ?_
              refine lv_iconst (v := 0) hx hb dX8_drift_106 (by decide) ?_
              refine va_iald hx hb hK hP 0 0 rfl rfl (vi_ok (by decide)) dX8_drift_107 ?_
              refine lv_topi (fun x457 ex457 => ?_)
              have ex457 : x457 = nI d := ex457.trans ((congrArg g (by decide : (0 : Int32).toNatClampNeg = 0)).trans hG.1)
              subst ex457
              refine lv_sipush (v := 9999) hx hb dX8_drift_108 (by decide) ?_
              refine lv_icmp_ge (tgt := 118) hx hb dX8_drift_111 (by decide) (fun hc => absurd hc (nI_ge (b := 9999) (by omega) (by decide))) (fun zc111 => ?_)
              refine lv_aload_n hx hb dX8_drift_114 rfl (lv_at hl 2 rfl) ?_
              refine k_v (wr := []) (va_runV (As := []) (rest := []) ⟨hx, hb, hml, hown, hts⟩ (c_X8_passDay l D H.size m a pa ka za cA 1 (lN (nxN z)) g hc d hG hh) (cwV 0 hts gX8_drift_X8_passDay rfl rfl rfl (by decide +kernel) ⟨(Nat.le_of_ble_eq_true rfl), (Nat.le_of_ble_eq_true rfl)⟩) ⟨mP_blind, va_recv hK hP (ci := 8) (q0 := 1) rfl rfl, m_pre _ hN hK hP hD [0] rfl [1, 0] rfl (by decide)⟩ rfl rfl hl.1 rfl (lv_room (Nat.le_of_ble_eq_true rfl)) dX8_drift_115 ⟨(Nat.le_of_ble_eq_true rfl), (Nat.le_of_ble_eq_true rfl)⟩) hP hD hS hA [1, 0] [] rfl rfl (by decide) (by decide) (fun u H locs hw hK1 hP hD hS => ?_)
              obtain ⟨g459, rfl⟩ : ∃ z, z = u := ⟨_, rfl⟩
              have hP : va_P D vwCl [(m, .inr (8, [.ref a, .ref pa, .int 1, .ref ka, .ref za, .long (lN (nxN z))])), (a, .inl (cA, 172, .inl g459))] H := hP
              have hD : va_D AA [(m, .inr (8, [.ref a, .ref pa, .int 1, .ref ka, .ref za, .long (lN (nxN z))])), (a, .inl (cA, 172, .inl g459))] := hD
              try dsimp only at hw
              refine W.widen (k := 0) (n := 0) (Nat.le_of_ble_eq_true rfl) (Nat.le_of_ble_eq_true rfl) ?_
              have zw115 := hw
              refine lv_iinc (v := nI (i + 1)) (lv' := [(3, .int (nI (i + 1))), (4, .int (nI 3)), (0, .ref m), (1, .int (nI k0))]) hx hb dX8_drift_118 hl (k := 1) rfl (nI_1 i) (by decide) rfl (fun ls hl => ?_)
              refine lv_goto (tgt := 39) hx hb dX8_drift_121 (by decide) ?_
              exact ih (i + 1) (nxN z) (d + 1) hc g459 (by have := lt_of_nle30 zc41 hi (by omega); omega) (nxN_lt _) hh zw115 (by omega) (dr_3 hmod (lt_of_nle30 zc41 hi (by omega)) hV) (by omega) _ _ ls hP hD hS (lv_sub hl [0, 2, 3] rfl)
      exact lp (k0 + 1) 0 sd 0 0 f (Nat.zero_le _) (by omega) (by decide) ⟨hF.1, hF.2.2.2.2.1, hF.2.2.2.2.2.1⟩ (Nat.le_refl _) rfl (by omega) _ _ ls hP hD hS (lv_sub hl [0, 1, 2] rfl)
    · refine lv_if_ne (tgt := 27) hx hb dX8_drift_21 (by decide) (fun hc => absurd (by decide) hc) (fun zc21 => ?_)
      refine lv_ldc hx hb hown (hts (.constant RX8 131 (-1000000002)) (List.mem_of_getElem? (i := 3) rfl)) dX8_drift_24 ?_
      exact hret (-1000000002) () rfl (Or.inr ⟨fun q => zw18 ((l_rng (a := 1) (b := 999999) (by decide) (by decide)).mpr q.2.2), rfl⟩) (m_P hP (is := []) rfl) (hK.sub [] rfl) (hD.sub [] (by decide) rfl) hS (Nat.le_of_ble_eq_true rfl) (Nat.le_of_ble_eq_true rfl) dX8_drift_26
  · refine lv_if_eq (tgt := 24) hx hb dX8_drift_9 (by decide) (fun zc9 => ?_) (fun hc => absurd (by decide) hc)
    refine lv_ldc hx hb hown (hts (.constant RX8 131 (-1000000002)) (List.mem_of_getElem? (i := 3) rfl)) dX8_drift_24 ?_
    exact hret (-1000000002) () rfl (Or.inr ⟨fun q => zw6 ((l_rng (a := 1) (b := 20) (by decide) (by decide)).mpr ⟨q.1, q.2.1⟩), rfl⟩) (m_P hP (is := []) rfl) (hK.sub [] rfl) (hD.sub [] (by decide) rfl) hS (Nat.le_of_ble_eq_true rfl) (Nat.le_of_ble_eq_true rfl) dX8_drift_26
set_option maxHeartbeats 4000000 in
set_option maxRecDepth 100000 in
theorem c_X8_told (l : Launch) (D : va_G) (sz : Nat) (m a pa ka za : Nat) (cA : ClassId) (y : Int64) (f : Nat → Int32) (w : Int32) (hF : st0 f) : mI l yX8_told wsX8_told (rk 2 0 0) D [.ref m, .int w] [(cA, .int)] sz [(m, .inr (8, [.ref a, .ref pa, .int 0, .ref ka, .ref za, .long y])), (a, .inl (cA, 172, .inl f))] (S := Unit) (fun r _ => r = a_told w) (fun _ => []) (fun _ => [(m, .inr (8, [.ref a, .ref pa, .int 0, .ref ka, .ref za, .long y])), (a, .inl (cA, 172, .inl f))]) := by
  refine mI_of (cc := cX8_told) (maxL := 2) (ty := .int) (plainFor_of_name (by decide)) rfl (Nat.le_of_ble_eq_true rfl) ?_
  intro pp ee ss mm bl mt cd AA QQ hx hb hml hts hown hN hA hK hP hD hS hret ls hl
  have hl : lv_has ls 2 [(0, .ref m), (1, .int w)] := hl
  have inX8 : ∀ w ∈ wsX80, w ∈ wsX8_told := fun _ h => List.mem_cons_of_mem _ (List.mem_append_right _ h)
  refine lv_iload_n hx hb dX8_told_0 rfl (lv_at hl 1 rfl) ?_
  refine sw_split w 16 (by decide) (fun kq hkq hsw => ?_) (fun hsw => ?_)
  · subst hsw
    match kq, hkq with
    | 0, _ =>
      refine lv_tableIn (off := 79) (tgt := 80) hx hb dX8_told_1 (by decide) (by decide) (by decide) (by decide) ?_
      refine lv_aload_n hx hb dX8_told_80 rfl (lv_at hl 0 rfl) ?_
      refine va_get (D := D) (ci := 8) (v := .ref a) (C := RX8) (T := TX8) (N := 6) hx hb hts inX8 hown hK hP 0 rfl rfl 0 (by decide) (hts (.fieldLink RX8 7 "LoanHouseModel" "st" "[I") (List.mem_of_getElem? (i := 1) rfl)) (fun _ h9 => h9) rfl dX8_told_81 ?_
      refine lv_iload_n hx hb dX8_told_84 rfl (lv_at hl 1 rfl) ?_
      refine va_iald hx hb hK hP 1 0 rfl rfl (vi_ok (by decide)) dX8_told_85 ?_
      refine lv_topi (fun x460 ex460 => ?_)
      have ex460 : x460 = 0 := ex460.trans ((congrArg f (by decide : ((nI 0) : Int32).toNatClampNeg = 0)).trans hF.1)
      subst ex460
      exact hret 0 () rfl (by decide) hP (hK.sub [] rfl) hD hS (Nat.le_of_ble_eq_true rfl) (Nat.le_of_ble_eq_true rfl) dX8_told_86
    | 1, _ =>
      refine lv_tableIn (off := 79) (tgt := 80) hx hb dX8_told_1 (by decide) (by decide) (by decide) (by decide) ?_
      refine lv_aload_n hx hb dX8_told_80 rfl (lv_at hl 0 rfl) ?_
      refine va_get (D := D) (ci := 8) (v := .ref a) (C := RX8) (T := TX8) (N := 6) hx hb hts inX8 hown hK hP 0 rfl rfl 0 (by decide) (hts (.fieldLink RX8 7 "LoanHouseModel" "st" "[I") (List.mem_of_getElem? (i := 1) rfl)) (fun _ h9 => h9) rfl dX8_told_81 ?_
      refine lv_iload_n hx hb dX8_told_84 rfl (lv_at hl 1 rfl) ?_
      refine va_iald hx hb hK hP 1 0 rfl rfl (vi_ok (by decide)) dX8_told_85 ?_
      refine lv_topi (fun x461 ex461 => ?_)
      have ex461 : x461 = 14 := ex461.trans ((congrArg f (by decide : ((nI 1) : Int32).toNatClampNeg = 1)).trans hF.2.1)
      subst ex461
      exact hret 14 () rfl (by decide) hP (hK.sub [] rfl) hD hS (Nat.le_of_ble_eq_true rfl) (Nat.le_of_ble_eq_true rfl) dX8_told_86
    | 2, _ =>
      refine lv_tableIn (off := 79) (tgt := 80) hx hb dX8_told_1 (by decide) (by decide) (by decide) (by decide) ?_
      refine lv_aload_n hx hb dX8_told_80 rfl (lv_at hl 0 rfl) ?_
      refine va_get (D := D) (ci := 8) (v := .ref a) (C := RX8) (T := TX8) (N := 6) hx hb hts inX8 hown hK hP 0 rfl rfl 0 (by decide) (hts (.fieldLink RX8 7 "LoanHouseModel" "st" "[I") (List.mem_of_getElem? (i := 1) rfl)) (fun _ h9 => h9) rfl dX8_told_81 ?_
      refine lv_iload_n hx hb dX8_told_84 rfl (lv_at hl 1 rfl) ?_
      refine va_iald hx hb hK hP 1 0 rfl rfl (vi_ok (by decide)) dX8_told_85 ?_
      refine lv_topi (fun x462 ex462 => ?_)
      have ex462 : x462 = 3 := ex462.trans ((congrArg f (by decide : ((nI 2) : Int32).toNatClampNeg = 2)).trans hF.2.2.1)
      subst ex462
      exact hret 3 () rfl (by decide) hP (hK.sub [] rfl) hD hS (Nat.le_of_ble_eq_true rfl) (Nat.le_of_ble_eq_true rfl) dX8_told_86
    | 3, _ =>
      refine lv_tableIn (off := 79) (tgt := 80) hx hb dX8_told_1 (by decide) (by decide) (by decide) (by decide) ?_
      refine lv_aload_n hx hb dX8_told_80 rfl (lv_at hl 0 rfl) ?_
      refine va_get (D := D) (ci := 8) (v := .ref a) (C := RX8) (T := TX8) (N := 6) hx hb hts inX8 hown hK hP 0 rfl rfl 0 (by decide) (hts (.fieldLink RX8 7 "LoanHouseModel" "st" "[I") (List.mem_of_getElem? (i := 1) rfl)) (fun _ h9 => h9) rfl dX8_told_81 ?_
      refine lv_iload_n hx hb dX8_told_84 rfl (lv_at hl 1 rfl) ?_
      refine va_iald hx hb hK hP 1 0 rfl rfl (vi_ok (by decide)) dX8_told_85 ?_
      refine lv_topi (fun x463 ex463 => ?_)
      have ex463 : x463 = 64 := ex463.trans ((congrArg f (by decide : ((nI 3) : Int32).toNatClampNeg = 3)).trans hF.2.2.2.1)
      subst ex463
      exact hret 64 () rfl (by decide) hP (hK.sub [] rfl) hD hS (Nat.le_of_ble_eq_true rfl) (Nat.le_of_ble_eq_true rfl) dX8_told_86
    | 4, _ =>
      refine lv_tableIn (off := 79) (tgt := 80) hx hb dX8_told_1 (by decide) (by decide) (by decide) (by decide) ?_
      refine lv_aload_n hx hb dX8_told_80 rfl (lv_at hl 0 rfl) ?_
      refine va_get (D := D) (ci := 8) (v := .ref a) (C := RX8) (T := TX8) (N := 6) hx hb hts inX8 hown hK hP 0 rfl rfl 0 (by decide) (hts (.fieldLink RX8 7 "LoanHouseModel" "st" "[I") (List.mem_of_getElem? (i := 1) rfl)) (fun _ h9 => h9) rfl dX8_told_81 ?_
      refine lv_iload_n hx hb dX8_told_84 rfl (lv_at hl 1 rfl) ?_
      refine va_iald hx hb hK hP 1 0 rfl rfl (vi_ok (by decide)) dX8_told_85 ?_
      refine lv_topi (fun x464 ex464 => ?_)
      have ex464 : x464 = 0 := ex464.trans ((congrArg f (by decide : ((nI 4) : Int32).toNatClampNeg = 4)).trans hF.2.2.2.2.1)
      subst ex464
      exact hret 0 () rfl (by decide) hP (hK.sub [] rfl) hD hS (Nat.le_of_ble_eq_true rfl) (Nat.le_of_ble_eq_true rfl) dX8_told_86
    | 5, _ =>
      refine lv_tableIn (off := 86) (tgt := 87) hx hb dX8_told_1 (by decide) (by decide) (by decide) (by decide) ?_
      refine lv_aload_n hx hb dX8_told_87 rfl (lv_at hl 0 rfl) ?_
      refine lv_iload_n hx hb dX8_told_88 rfl (lv_at hl 1 rfl) ?_
      refine lv_iconst (v := 5) hx hb dX8_told_89 (by decide) ?_
      refine lv_isub hx hb dX8_told_90 ?_
      refine lv_topi (fun x465 ex465 => ?_)
      have ex465 : x465 = 0 := ex465.trans (by decide)
      subst ex465
      refine k_pi (va_runV (As := [.int 0]) (rest := []) ⟨hx, hb, hml, hown, hts⟩ (c_X8_copiesThat l D ss.heap.size m a pa ka za cA 0 y f 0 hF.2.2.2.2.1) (cwV 1 hts gX8_told_X8_copiesThat rfl rfl rfl (by decide +kernel) ⟨(Nat.le_of_ble_eq_true rfl), (Nat.le_of_ble_eq_true rfl)⟩) ⟨mP_blind, va_recv hK hP (ci := 8) (q0 := 0) rfl rfl, m_pre _ hN hK hP hD [0] rfl [0, 1] rfl (by decide)⟩ rfl rfl hl.1 rfl (lv_room (Nat.le_of_ble_eq_true rfl)) dX8_told_91 ⟨(Nat.le_of_ble_eq_true rfl), (Nat.le_of_ble_eq_true rfl)⟩) hP hD hS hA [0, 1] rfl (fun r466 u H locs hw hP hS => ?_)
      obtain rfl := hw
      exact hret 0 () rfl (by decide) hP (hK.sub [] rfl) hD hS (Nat.le_of_ble_eq_true rfl) (Nat.le_of_ble_eq_true rfl) dX8_told_94
    | 6, _ =>
      refine lv_tableIn (off := 86) (tgt := 87) hx hb dX8_told_1 (by decide) (by decide) (by decide) (by decide) ?_
      refine lv_aload_n hx hb dX8_told_87 rfl (lv_at hl 0 rfl) ?_
      refine lv_iload_n hx hb dX8_told_88 rfl (lv_at hl 1 rfl) ?_
      refine lv_iconst (v := 5) hx hb dX8_told_89 (by decide) ?_
      refine lv_isub hx hb dX8_told_90 ?_
      refine lv_topi (fun x467 ex467 => ?_)
      have ex467 : x467 = 1 := ex467.trans (by decide)
      subst ex467
      refine k_pi (va_runV (As := [.int 1]) (rest := []) ⟨hx, hb, hml, hown, hts⟩ (c_X8_copiesThat l D ss.heap.size m a pa ka za cA 0 y f 1 hF.2.2.2.2.1) (cwV 1 hts gX8_told_X8_copiesThat rfl rfl rfl (by decide +kernel) ⟨(Nat.le_of_ble_eq_true rfl), (Nat.le_of_ble_eq_true rfl)⟩) ⟨mP_blind, va_recv hK hP (ci := 8) (q0 := 0) rfl rfl, m_pre _ hN hK hP hD [0] rfl [0, 1] rfl (by decide)⟩ rfl rfl hl.1 rfl (lv_room (Nat.le_of_ble_eq_true rfl)) dX8_told_91 ⟨(Nat.le_of_ble_eq_true rfl), (Nat.le_of_ble_eq_true rfl)⟩) hP hD hS hA [0, 1] rfl (fun r468 u H locs hw hP hS => ?_)
      obtain rfl := hw
      exact hret 0 () rfl (by decide) hP (hK.sub [] rfl) hD hS (Nat.le_of_ble_eq_true rfl) (Nat.le_of_ble_eq_true rfl) dX8_told_94
    | 7, _ =>
      refine lv_tableIn (off := 86) (tgt := 87) hx hb dX8_told_1 (by decide) (by decide) (by decide) (by decide) ?_
      refine lv_aload_n hx hb dX8_told_87 rfl (lv_at hl 0 rfl) ?_
      refine lv_iload_n hx hb dX8_told_88 rfl (lv_at hl 1 rfl) ?_
      refine lv_iconst (v := 5) hx hb dX8_told_89 (by decide) ?_
      refine lv_isub hx hb dX8_told_90 ?_
      refine lv_topi (fun x469 ex469 => ?_)
      have ex469 : x469 = 2 := ex469.trans (by decide)
      subst ex469
      refine k_pi (va_runV (As := [.int 2]) (rest := []) ⟨hx, hb, hml, hown, hts⟩ (c_X8_copiesThat l D ss.heap.size m a pa ka za cA 0 y f 2 hF.2.2.2.2.1) (cwV 1 hts gX8_told_X8_copiesThat rfl rfl rfl (by decide +kernel) ⟨(Nat.le_of_ble_eq_true rfl), (Nat.le_of_ble_eq_true rfl)⟩) ⟨mP_blind, va_recv hK hP (ci := 8) (q0 := 0) rfl rfl, m_pre _ hN hK hP hD [0] rfl [0, 1] rfl (by decide)⟩ rfl rfl hl.1 rfl (lv_room (Nat.le_of_ble_eq_true rfl)) dX8_told_91 ⟨(Nat.le_of_ble_eq_true rfl), (Nat.le_of_ble_eq_true rfl)⟩) hP hD hS hA [0, 1] rfl (fun r470 u H locs hw hP hS => ?_)
      obtain rfl := hw
      exact hret 0 () rfl (by decide) hP (hK.sub [] rfl) hD hS (Nat.le_of_ble_eq_true rfl) (Nat.le_of_ble_eq_true rfl) dX8_told_94
    | 8, _ =>
      refine lv_tableIn (off := 86) (tgt := 87) hx hb dX8_told_1 (by decide) (by decide) (by decide) (by decide) ?_
      refine lv_aload_n hx hb dX8_told_87 rfl (lv_at hl 0 rfl) ?_
      refine lv_iload_n hx hb dX8_told_88 rfl (lv_at hl 1 rfl) ?_
      refine lv_iconst (v := 5) hx hb dX8_told_89 (by decide) ?_
      refine lv_isub hx hb dX8_told_90 ?_
      refine lv_topi (fun x471 ex471 => ?_)
      have ex471 : x471 = 3 := ex471.trans (by decide)
      subst ex471
      refine k_pi (va_runV (As := [.int 3]) (rest := []) ⟨hx, hb, hml, hown, hts⟩ (c_X8_copiesThat l D ss.heap.size m a pa ka za cA 0 y f 3 hF.2.2.2.2.1) (cwV 1 hts gX8_told_X8_copiesThat rfl rfl rfl (by decide +kernel) ⟨(Nat.le_of_ble_eq_true rfl), (Nat.le_of_ble_eq_true rfl)⟩) ⟨mP_blind, va_recv hK hP (ci := 8) (q0 := 0) rfl rfl, m_pre _ hN hK hP hD [0] rfl [0, 1] rfl (by decide)⟩ rfl rfl hl.1 rfl (lv_room (Nat.le_of_ble_eq_true rfl)) dX8_told_91 ⟨(Nat.le_of_ble_eq_true rfl), (Nat.le_of_ble_eq_true rfl)⟩) hP hD hS hA [0, 1] rfl (fun r472 u H locs hw hP hS => ?_)
      obtain rfl := hw
      exact hret 0 () rfl (by decide) hP (hK.sub [] rfl) hD hS (Nat.le_of_ble_eq_true rfl) (Nat.le_of_ble_eq_true rfl) dX8_told_94
    | 9, _ =>
      refine lv_tableIn (off := 86) (tgt := 87) hx hb dX8_told_1 (by decide) (by decide) (by decide) (by decide) ?_
      refine lv_aload_n hx hb dX8_told_87 rfl (lv_at hl 0 rfl) ?_
      refine lv_iload_n hx hb dX8_told_88 rfl (lv_at hl 1 rfl) ?_
      refine lv_iconst (v := 5) hx hb dX8_told_89 (by decide) ?_
      refine lv_isub hx hb dX8_told_90 ?_
      refine lv_topi (fun x473 ex473 => ?_)
      have ex473 : x473 = 4 := ex473.trans (by decide)
      subst ex473
      refine k_pi (va_runV (As := [.int 4]) (rest := []) ⟨hx, hb, hml, hown, hts⟩ (c_X8_copiesThat l D ss.heap.size m a pa ka za cA 0 y f 4 hF.2.2.2.2.1) (cwV 1 hts gX8_told_X8_copiesThat rfl rfl rfl (by decide +kernel) ⟨(Nat.le_of_ble_eq_true rfl), (Nat.le_of_ble_eq_true rfl)⟩) ⟨mP_blind, va_recv hK hP (ci := 8) (q0 := 0) rfl rfl, m_pre _ hN hK hP hD [0] rfl [0, 1] rfl (by decide)⟩ rfl rfl hl.1 rfl (lv_room (Nat.le_of_ble_eq_true rfl)) dX8_told_91 ⟨(Nat.le_of_ble_eq_true rfl), (Nat.le_of_ble_eq_true rfl)⟩) hP hD hS hA [0, 1] rfl (fun r474 u H locs hw hP hS => ?_)
      obtain rfl := hw
      exact hret 0 () rfl (by decide) hP (hK.sub [] rfl) hD hS (Nat.le_of_ble_eq_true rfl) (Nat.le_of_ble_eq_true rfl) dX8_told_94
    | 10, _ =>
      refine lv_tableIn (off := 94) (tgt := 95) hx hb dX8_told_1 (by decide) (by decide) (by decide) (by decide) ?_
      refine lv_aload_n hx hb dX8_told_95 rfl (lv_at hl 0 rfl) ?_
      refine va_get (D := D) (ci := 8) (v := .ref a) (C := RX8) (T := TX8) (N := 6) hx hb hts inX8 hown hK hP 0 rfl rfl 0 (by decide) (hts (.fieldLink RX8 7 "LoanHouseModel" "st" "[I") (List.mem_of_getElem? (i := 1) rfl)) (fun _ h9 => h9) rfl dX8_told_96 ?_
      refine lv_iconst (v := 5) hx hb dX8_told_99 (by decide) ?_
      refine va_iald hx hb hK hP 1 0 rfl rfl (vi_ok (by decide)) dX8_told_100 ?_
      refine lv_topi (fun x475 ex475 => ?_)
      have ex475 : x475 = 0 := ex475.trans ((congrArg f (by decide : (5 : Int32).toNatClampNeg = 5)).trans hF.2.2.2.2.2.1)
      subst ex475
      exact hret 0 () rfl (by decide) hP (hK.sub [] rfl) hD hS (Nat.le_of_ble_eq_true rfl) (Nat.le_of_ble_eq_true rfl) dX8_told_101
    | 11, _ =>
      refine lv_tableIn (off := 101) (tgt := 102) hx hb dX8_told_1 (by decide) (by decide) (by decide) (by decide) ?_
      refine lv_aload_n hx hb dX8_told_102 rfl (lv_at hl 0 rfl) ?_
      refine k_pi (va_runV (As := []) (rest := []) ⟨hx, hb, hml, hown, hts⟩ (c_X8_waiting l D ss.heap.size m a pa ka za cA 0 y f hF.2.2.2.2.2.1) (cwV 0 hts gX8_told_X8_waiting rfl rfl rfl (by decide +kernel) ⟨(Nat.le_of_ble_eq_true rfl), (Nat.le_of_ble_eq_true rfl)⟩) ⟨mP_blind, va_recv hK hP (ci := 8) (q0 := 0) rfl rfl, m_pre _ hN hK hP hD [0] rfl [0, 1] rfl (by decide)⟩ rfl rfl hl.1 rfl (lv_room (Nat.le_of_ble_eq_true rfl)) dX8_told_103 ⟨(Nat.le_of_ble_eq_true rfl), (Nat.le_of_ble_eq_true rfl)⟩) hP hD hS hA [0, 1] rfl (fun r476 u H locs hw hP hS => ?_)
      obtain rfl := hw
      exact hret 0 () rfl (by decide) hP (hK.sub [] rfl) hD hS (Nat.le_of_ble_eq_true rfl) (Nat.le_of_ble_eq_true rfl) dX8_told_106
    | 12, _ =>
      refine lv_tableIn (off := 106) (tgt := 107) hx hb dX8_told_1 (by decide) (by decide) (by decide) (by decide) ?_
      refine lv_aload_n hx hb dX8_told_107 rfl (lv_at hl 0 rfl) ?_
      refine va_get (D := D) (ci := 8) (v := .ref a) (C := RX8) (T := TX8) (N := 6) hx hb hts inX8 hown hK hP 0 rfl rfl 0 (by decide) (hts (.fieldLink RX8 7 "LoanHouseModel" "st" "[I") (List.mem_of_getElem? (i := 1) rfl)) (fun _ h9 => h9) rfl dX8_told_108 ?_
      refine lv_bipush (v := 7) hx hb dX8_told_111 (by decide) ?_
      refine va_iald hx hb hK hP 1 0 rfl rfl (vi_ok (by decide)) dX8_told_113 ?_
      refine lv_topi (fun x477 ex477 => ?_)
      have ex477 : x477 = 0 := ex477.trans ((congrArg f (by decide : (7 : Int32).toNatClampNeg = 7)).trans hF.2.2.2.2.2.2.2)
      subst ex477
      refine k_pi (va_runS (As := [.int 0]) (rest := []) ⟨hx, hb, hml, hown, hts⟩ (c_X8_ones l D ss.heap.size  ) (va_cwS 1 hts gX8_told_X8_ones rfl rfl rfl (by decide +kernel) ⟨(Nat.le_of_ble_eq_true rfl), (Nat.le_of_ble_eq_true rfl)⟩) ⟨mP_blind, m_pre _ hN hK hP hD [] rfl [] rfl (by decide)⟩ rfl rfl hl.1 rfl (lv_room (Nat.le_of_ble_eq_true rfl)) dX8_told_114 ⟨(Nat.le_of_ble_eq_true rfl), (Nat.le_of_ble_eq_true rfl)⟩) hP hD hS hA [] rfl (fun r478 u H locs hw hP hS => ?_)
      obtain rfl := hw
      exact hret 0 () rfl (by decide) hP (hK.sub [] rfl) hD hS (Nat.le_of_ble_eq_true rfl) (Nat.le_of_ble_eq_true rfl) dX8_told_117
    | 13, _ =>
      refine lv_tableIn (off := 117) (tgt := 118) hx hb dX8_told_1 (by decide) (by decide) (by decide) (by decide) ?_
      refine lv_aload_n hx hb dX8_told_118 rfl (lv_at hl 0 rfl) ?_
      refine k_pi (va_runV (As := []) (rest := []) ⟨hx, hb, hml, hown, hts⟩ (c_X8_overdue l D ss.heap.size m a pa ka za cA 0 y f hF.2.2.2.2.1) (cwV 0 hts gX8_told_X8_overdue rfl rfl rfl (by decide +kernel) ⟨(Nat.le_of_ble_eq_true rfl), (Nat.le_of_ble_eq_true rfl)⟩) ⟨mP_blind, va_recv hK hP (ci := 8) (q0 := 0) rfl rfl, m_pre _ hN hK hP hD [0] rfl [0, 1] rfl (by decide)⟩ rfl rfl hl.1 rfl (lv_room (Nat.le_of_ble_eq_true rfl)) dX8_told_119 ⟨(Nat.le_of_ble_eq_true rfl), (Nat.le_of_ble_eq_true rfl)⟩) hP hD hS hA [0, 1] rfl (fun r479 u H locs hw hP hS => ?_)
      obtain rfl := hw
      exact hret 0 () rfl (by decide) hP (hK.sub [] rfl) hD hS (Nat.le_of_ble_eq_true rfl) (Nat.le_of_ble_eq_true rfl) dX8_told_122
    | 14, _ =>
      refine lv_tableIn (off := 122) (tgt := 123) hx hb dX8_told_1 (by decide) (by decide) (by decide) (by decide) ?_
      refine lv_aload_n hx hb dX8_told_123 rfl (lv_at hl 0 rfl) ?_
      refine lv_aload_n hx hb dX8_told_124 rfl (lv_at hl 0 rfl) ?_
      refine va_get (D := D) (ci := 8) (v := .ref a) (C := RX8) (T := TX8) (N := 6) hx hb hts inX8 hown hK hP 0 rfl rfl 0 (by decide) (hts (.fieldLink RX8 7 "LoanHouseModel" "st" "[I") (List.mem_of_getElem? (i := 1) rfl)) (fun _ h9 => h9) rfl dX8_told_125 ?_
      refine lv_iconst (v := 0) hx hb dX8_told_128 (by decide) ?_
      refine va_iald hx hb hK hP 1 0 rfl rfl (vi_ok (by decide)) dX8_told_129 ?_
      refine lv_topi (fun x480 ex480 => ?_)
      have ex480 : x480 = 0 := ex480.trans ((congrArg f (by decide : (0 : Int32).toNatClampNeg = 0)).trans hF.1)
      subst ex480
      refine k_pi (va_runV (As := [.int 0]) (rest := []) ⟨hx, hb, hml, hown, hts⟩ (c_X8_isClosed l D ss.heap.size m a pa ka za cA 0 y f hF.2.2.2.1) (cwV 1 hts gX8_told_X8_isClosed rfl rfl rfl (by decide +kernel) ⟨(Nat.le_of_ble_eq_true rfl), (Nat.le_of_ble_eq_true rfl)⟩) ⟨mP_blind, va_recv hK hP (ci := 8) (q0 := 0) rfl rfl, m_pre _ hN hK hP hD [0] rfl [0, 1] rfl (by decide)⟩ rfl rfl hl.1 rfl (lv_room (Nat.le_of_ble_eq_true rfl)) dX8_told_130 ⟨(Nat.le_of_ble_eq_true rfl), (Nat.le_of_ble_eq_true rfl)⟩) hP hD hS hA [0, 1] rfl (fun r481 u H locs hw hP hS => ?_)
      obtain rfl := hw
      refine lv_if_eq (tgt := 140) hx hb dX8_told_133 (by decide) (fun zc133 => ?_) (fun hc => absurd (by decide) hc)
      refine lv_iconst (v := 0) hx hb dX8_told_140 (by decide) ?_
      exact hret 0 () rfl (by decide) hP (hK.sub [] rfl) hD hS (Nat.le_of_ble_eq_true rfl) (Nat.le_of_ble_eq_true rfl) dX8_told_141
    | 15, _ =>
      refine lv_tableIn (off := 141) (tgt := 142) hx hb dX8_told_1 (by decide) (by decide) (by decide) (by decide) ?_
      refine lv_aload_n hx hb dX8_told_142 rfl (lv_at hl 0 rfl) ?_
      refine va_get (D := D) (ci := 8) (v := .int 0) (C := RX8) (T := TX8) (N := 6) hx hb hts inX8 hown hK hP 0 rfl rfl 2 (by decide) (hts (.fieldLink RX8 82 "LoanHouseModel" "undoMany" "I") (List.mem_of_getElem? (i := 2) rfl)) (fun _ h9 => h9) rfl dX8_told_143 ?_
      exact hret 0 () rfl (by decide) hP (hK.sub [] rfl) hD hS (Nat.le_of_ble_eq_true rfl) (Nat.le_of_ble_eq_true rfl) dX8_told_146
    | kq + 16, hkq => exact absurd hkq (by omega)
  · refine lv_tableOut (tgt := 147) hx hb dX8_told_1 (by omega) (by decide) ?_
    refine lv_ldc hx hb hown (hts (.constant RX8 131 (-1000000002)) (List.mem_of_getElem? (i := 3) rfl)) dX8_told_147 ?_
    exact hret (-1000000002) () rfl (told_out hsw) hP (hK.sub [] rfl) hD hS (Nat.le_of_ble_eq_true rfl) (Nat.le_of_ble_eq_true rfl) dX8_told_149
set_option maxHeartbeats 4000000 in
set_option maxRecDepth 100000 in
theorem c_X8_titleOf (l : Launch) (D : va_G) (sz : Nat) (m a pa ka za : Nat) (cA : ClassId) (y : Int64) (f : Nat → Int32) (t w : Int32) (hF : st0 f) : mI l yX8_titleOf wsX8_titleOf (rk 3 0 0) D [.ref m, .int t, .int w] [(cA, .int)] sz [(m, .inr (8, [.ref a, .ref pa, .int 0, .ref ka, .ref za, .long y])), (a, .inl (cA, 172, .inl f))] (S := Unit) (fun r _ => q2 (ok t 6) (a_title w) (-1000000001) r) (fun _ => []) (fun _ => [(m, .inr (8, [.ref a, .ref pa, .int 0, .ref ka, .ref za, .long y])), (a, .inl (cA, 172, .inl f))]) := by
  refine mI_of (cc := cX8_titleOf) (maxL := 4) (ty := .int) (plainFor_of_name (by decide)) rfl (Nat.le_of_ble_eq_true rfl) ?_
  intro pp ee ss mm bl mt cd AA QQ hx hb hml hts hown hN hA hK hP hD hS hret ls hl
  have hl : lv_has ls 4 [(0, .ref m), (1, .int t), (2, .int w)] := hl
  refine lv_iload_n hx hb dX8_titleOf_0 rfl (lv_at hl 1 rfl) ?_
  refine k_pi (va_runS (As := [.int t]) (rest := []) ⟨hx, hb, hml, hown, hts⟩ (c_X8_isTitle l D ss.heap.size t ) (va_cwS 1 hts gX8_titleOf_X8_isTitle rfl rfl rfl (by decide +kernel) ⟨(Nat.le_of_ble_eq_true rfl), (Nat.le_of_ble_eq_true rfl)⟩) ⟨mP_blind, m_pre _ hN hK hP hD [] rfl [] rfl (by decide)⟩ rfl rfl hl.1 rfl (lv_room (Nat.le_of_ble_eq_true rfl)) dX8_titleOf_1 ⟨(Nat.le_of_ble_eq_true rfl), (Nat.le_of_ble_eq_true rfl)⟩) hP hD hS hA [] rfl (fun r482 u H locs hw hP hS => ?_)
  rcases hw with ⟨rfl, zw1⟩ | ⟨rfl, zw1⟩
  · refine lv_if_ne (tgt := 10) hx hb dX8_titleOf_4 (by decide) (fun zc4 => ?_) (fun hc => absurd hc (by decide))
    refine lv_aload_n hx hb dX8_titleOf_10 rfl (lv_at hl 0 rfl) ?_
    refine lv_iload_n hx hb dX8_titleOf_11 rfl (lv_at hl 1 rfl) ?_
    refine k_pi (va_runV (As := [.int t]) (rest := []) ⟨hx, hb, hml, hown, hts⟩ (c_X8_firstOf l D H.size m a pa ka za cA 0 y f 0 t hF.2.2.2.2.2.1 (by decide)) (cwV 1 hts gX8_titleOf_X8_firstOf rfl rfl rfl (by decide +kernel) ⟨(Nat.le_of_ble_eq_true rfl), (Nat.le_of_ble_eq_true rfl)⟩) ⟨mP_blind, va_recv hK hP (ci := 8) (q0 := 0) rfl rfl, m_pre _ hN hK hP hD [0] rfl [0, 1] rfl (by decide)⟩ rfl rfl hl.1 rfl (lv_room (Nat.le_of_ble_eq_true rfl)) dX8_titleOf_12 ⟨(Nat.le_of_ble_eq_true rfl), (Nat.le_of_ble_eq_true rfl)⟩) hP hD hS hA [0, 1] rfl (fun r483 u H locs hw hP hS => ?_)
    rcases hw with rfl | ⟨j, hj, rfl⟩
    · refine lv_istore_n (lv' := [(3, .int (-1)), (0, .ref m), (1, .int t), (2, .int w)]) hx hb dX8_titleOf_15 rfl hl (by decide) rfl (fun ls hl => ?_)
      refine lv_iload_n hx hb dX8_titleOf_16 rfl (lv_at hl 3 rfl) ?_
      refine sw_split w 5 (by decide) (fun kq hkq hsw => ?_) (fun hsw => ?_)
      · subst hsw
        match kq, hkq with
        | 0, _ =>
          refine lv_tableIn (off := 35) (tgt := 52) hx hb dX8_titleOf_17 (by decide) (by decide) (by decide) (by decide) ?_
          refine lv_aload_n hx hb dX8_titleOf_52 rfl (lv_at hl 1 rfl) ?_
          refine lv_iload_n hx hb dX8_titleOf_53 rfl (lv_at hl 2 rfl) ?_
          refine lv_iload_n hx hb dX8_titleOf_54 rfl (lv_at hl 3 rfl) ?_
          refine lv_iconst (v := 1) hx hb dX8_titleOf_55 (by decide) ?_
          refine lv_icmp_ne (tgt := 63) hx hb dX8_titleOf_56 (by decide) (fun zc56 => ?_) (fun hc => absurd hc (by decide))
          refine lv_iconst (v := 0) hx hb dX8_titleOf_63 (by decide) ?_
          refine k_pi (va_runV (As := [.int t, .int 0]) (rest := []) ⟨hx, hb, hml, hown, hts⟩ (c_X8_copiesOf l D H.size m a pa ka za cA 0 y f t 0 hF.2.2.2.2.1) (cwV 2 hts gX8_titleOf_X8_copiesOf rfl rfl rfl (by decide +kernel) ⟨(Nat.le_of_ble_eq_true rfl), (Nat.le_of_ble_eq_true rfl)⟩) ⟨mP_blind, va_recv hK hP (ci := 8) (q0 := 0) rfl rfl, m_pre _ hN hK hP hD [0] rfl [0, 1] rfl (by decide)⟩ rfl rfl hl.1 rfl (lv_room (Nat.le_of_ble_eq_true rfl)) dX8_titleOf_64 ⟨(Nat.le_of_ble_eq_true rfl), (Nat.le_of_ble_eq_true rfl)⟩) hP hD hS hA [0, 1] rfl (fun r484 u H locs hw hP hS => ?_)
          obtain rfl := hw
          exact hret 0 () rfl (Or.inl ⟨zw1, by decide⟩) hP (hK.sub [] rfl) hD hS (Nat.le_of_ble_eq_true rfl) (Nat.le_of_ble_eq_true rfl) dX8_titleOf_67
        | 1, _ =>
          refine lv_tableIn (off := 35) (tgt := 52) hx hb dX8_titleOf_17 (by decide) (by decide) (by decide) (by decide) ?_
          refine lv_aload_n hx hb dX8_titleOf_52 rfl (lv_at hl 1 rfl) ?_
          refine lv_iload_n hx hb dX8_titleOf_53 rfl (lv_at hl 2 rfl) ?_
          refine lv_iload_n hx hb dX8_titleOf_54 rfl (lv_at hl 3 rfl) ?_
          refine lv_iconst (v := 1) hx hb dX8_titleOf_55 (by decide) ?_
          refine lv_icmp_ne (tgt := 63) hx hb dX8_titleOf_56 (by decide) (fun hc => absurd (by decide) hc) (fun zc56 => ?_)
          refine lv_iconst (v := 1) hx hb dX8_titleOf_59 (by decide) ?_
          refine lv_goto (tgt := 64) hx hb dX8_titleOf_60 (by decide) ?_
          refine k_pi (va_runV (As := [.int t, .int 1]) (rest := []) ⟨hx, hb, hml, hown, hts⟩ (c_X8_copiesOf l D H.size m a pa ka za cA 0 y f t 1 hF.2.2.2.2.1) (cwV 2 hts gX8_titleOf_X8_copiesOf rfl rfl rfl (by decide +kernel) ⟨(Nat.le_of_ble_eq_true rfl), (Nat.le_of_ble_eq_true rfl)⟩) ⟨mP_blind, va_recv hK hP (ci := 8) (q0 := 0) rfl rfl, m_pre _ hN hK hP hD [0] rfl [0, 1] rfl (by decide)⟩ rfl rfl hl.1 rfl (lv_room (Nat.le_of_ble_eq_true rfl)) dX8_titleOf_64 ⟨(Nat.le_of_ble_eq_true rfl), (Nat.le_of_ble_eq_true rfl)⟩) hP hD hS hA [0, 1] rfl (fun r485 u H locs hw hP hS => ?_)
          obtain rfl := hw
          exact hret 0 () rfl (Or.inl ⟨zw1, by decide⟩) hP (hK.sub [] rfl) hD hS (Nat.le_of_ble_eq_true rfl) (Nat.le_of_ble_eq_true rfl) dX8_titleOf_67
        | 2, _ =>
          refine lv_tableIn (off := 51) (tgt := 68) hx hb dX8_titleOf_17 (by decide) (by decide) (by decide) (by decide) ?_
          refine lv_aload_n hx hb dX8_titleOf_68 rfl (lv_at hl 1 rfl) ?_
          refine lv_iload_n hx hb dX8_titleOf_69 rfl (lv_at hl 2 rfl) ?_
          refine k_pi (va_runV (As := [.int t]) (rest := []) ⟨hx, hb, hml, hown, hts⟩ (c_X8_rowOf l D H.size m a pa ka za cA 0 y f t hF.2.2.2.2.2.1) (cwV 1 hts gX8_titleOf_X8_rowOf rfl rfl rfl (by decide +kernel) ⟨(Nat.le_of_ble_eq_true rfl), (Nat.le_of_ble_eq_true rfl)⟩) ⟨mP_blind, va_recv hK hP (ci := 8) (q0 := 0) rfl rfl, m_pre _ hN hK hP hD [0] rfl [0, 1] rfl (by decide)⟩ rfl rfl hl.1 rfl (lv_room (Nat.le_of_ble_eq_true rfl)) dX8_titleOf_70 ⟨(Nat.le_of_ble_eq_true rfl), (Nat.le_of_ble_eq_true rfl)⟩) hP hD hS hA [0, 1] rfl (fun r486 u H locs hw hP hS => ?_)
          obtain rfl := hw
          exact hret 0 () rfl (Or.inl ⟨zw1, by decide⟩) hP (hK.sub [] rfl) hD hS (Nat.le_of_ble_eq_true rfl) (Nat.le_of_ble_eq_true rfl) dX8_titleOf_73
        | 3, _ =>
          refine lv_tableIn (off := 57) (tgt := 74) hx hb dX8_titleOf_17 (by decide) (by decide) (by decide) (by decide) ?_
          refine lv_iload_n hx hb dX8_titleOf_74 rfl (lv_at hl 0 rfl) ?_
          refine lv_if_ge (tgt := 82) hx hb dX8_titleOf_75 (by decide) (fun hc => absurd hc (by decide)) (fun zc75 => ?_)
          refine lv_iconst (v := (-1)) hx hb dX8_titleOf_78 (by decide) ?_
          refine lv_goto (tgt := 88) hx hb dX8_titleOf_79 (by decide) ?_
          exact hret (-1) () rfl (Or.inl ⟨zw1, by decide⟩) hP (hK.sub [] rfl) hD hS (Nat.le_of_ble_eq_true rfl) (Nat.le_of_ble_eq_true rfl) dX8_titleOf_88
        | 4, _ =>
          refine lv_tableIn (off := 72) (tgt := 89) hx hb dX8_titleOf_17 (by decide) (by decide) (by decide) (by decide) ?_
          refine lv_aload_n hx hb dX8_titleOf_89 rfl (lv_at hl 1 rfl) ?_
          refine lv_iload_n hx hb dX8_titleOf_90 rfl (lv_at hl 2 rfl) ?_
          refine k_pi (va_runV (As := [.int t]) (rest := []) ⟨hx, hb, hml, hown, hts⟩ (c_X8_longestOf l D H.size m a pa ka za cA 0 y f t hF.2.2.2.2.2.1) (cwV 1 hts gX8_titleOf_X8_longestOf rfl rfl rfl (by decide +kernel) ⟨(Nat.le_of_ble_eq_true rfl), (Nat.le_of_ble_eq_true rfl)⟩) ⟨mP_blind, va_recv hK hP (ci := 8) (q0 := 0) rfl rfl, m_pre _ hN hK hP hD [0] rfl [0, 1] rfl (by decide)⟩ rfl rfl hl.1 rfl (lv_room (Nat.le_of_ble_eq_true rfl)) dX8_titleOf_91 ⟨(Nat.le_of_ble_eq_true rfl), (Nat.le_of_ble_eq_true rfl)⟩) hP hD hS hA [0, 1] rfl (fun r487 u H locs hw hP hS => ?_)
          obtain rfl := hw
          exact hret 0 () rfl (Or.inl ⟨zw1, by decide⟩) hP (hK.sub [] rfl) hD hS (Nat.le_of_ble_eq_true rfl) (Nat.le_of_ble_eq_true rfl) dX8_titleOf_94
        | kq + 5, hkq => exact absurd hkq (by omega)
      · refine lv_tableOut (tgt := 95) hx hb dX8_titleOf_17 (by omega) (by decide) ?_
        refine lv_ldc hx hb hown (hts (.constant RX8 131 (-1000000002)) (List.mem_of_getElem? (i := 2) rfl)) dX8_titleOf_95 ?_
        exact hret (-1000000002) () rfl (Or.inl ⟨zw1, title_out hsw⟩) hP (hK.sub [] rfl) hD hS (Nat.le_of_ble_eq_true rfl) (Nat.le_of_ble_eq_true rfl) dX8_titleOf_97
    · exact absurd hj (Nat.not_lt_zero _)
  · refine lv_if_ne (tgt := 10) hx hb dX8_titleOf_4 (by decide) (fun hc => absurd (by decide) hc) (fun zc4 => ?_)
    refine lv_ldc hx hb hown (hts (.constant RX8 92 (-1000000001)) (List.mem_of_getElem? (i := 1) rfl)) dX8_titleOf_7 ?_
    exact hret (-1000000001) () rfl (Or.inr ⟨zw1, rfl⟩) hP (hK.sub [] rfl) hD hS (Nat.le_of_ble_eq_true rfl) (Nat.le_of_ble_eq_true rfl) dX8_titleOf_9
set_option maxHeartbeats 4000000 in
set_option maxRecDepth 100000 in
theorem c_X8_readerOf (l : Launch) (D : va_G) (sz : Nat) (m a pa ka za : Nat) (cA : ClassId) (y : Int64) (f : Nat → Int32) (t w : Int32) (hF : st0 f) : mI l yX8_readerOf wsX8_readerOf (rk 2 0 0) D [.ref m, .int t, .int w] [(cA, .int)] sz [(m, .inr (8, [.ref a, .ref pa, .int 0, .ref ka, .ref za, .long y])), (a, .inl (cA, 172, .inl f))] (S := Unit) (fun r _ => q2 (ok t 10) (a_reader t w) (-1000000001) r) (fun _ => []) (fun _ => [(m, .inr (8, [.ref a, .ref pa, .int 0, .ref ka, .ref za, .long y])), (a, .inl (cA, 172, .inl f))]) := by
  refine mI_of (cc := cX8_readerOf) (maxL := 3) (ty := .int) (plainFor_of_name (by decide)) rfl (Nat.le_of_ble_eq_true rfl) ?_
  intro pp ee ss mm bl mt cd AA QQ hx hb hml hts hown hN hA hK hP hD hS hret ls hl
  have hl : lv_has ls 3 [(0, .ref m), (1, .int t), (2, .int w)] := hl
  refine lv_iload_n hx hb dX8_readerOf_0 rfl (lv_at hl 1 rfl) ?_
  refine k_pi (va_runS (As := [.int t]) (rest := []) ⟨hx, hb, hml, hown, hts⟩ (c_X8_isReader l D ss.heap.size t ) (va_cwS 1 hts gX8_readerOf_X8_isReader rfl rfl rfl (by decide +kernel) ⟨(Nat.le_of_ble_eq_true rfl), (Nat.le_of_ble_eq_true rfl)⟩) ⟨mP_blind, m_pre _ hN hK hP hD [] rfl [] rfl (by decide)⟩ rfl rfl hl.1 rfl (lv_room (Nat.le_of_ble_eq_true rfl)) dX8_readerOf_1 ⟨(Nat.le_of_ble_eq_true rfl), (Nat.le_of_ble_eq_true rfl)⟩) hP hD hS hA [] rfl (fun r488 u H locs hw hP hS => ?_)
  rcases hw with ⟨rfl, zw1⟩ | ⟨rfl, zw1⟩
  · refine lv_if_ne (tgt := 10) hx hb dX8_readerOf_4 (by decide) (fun zc4 => ?_) (fun hc => absurd hc (by decide))
    refine lv_iload_n hx hb dX8_readerOf_10 rfl (lv_at hl 2 rfl) ?_
    refine sw_split w 5 (by decide) (fun kq hkq hsw => ?_) (fun hsw => ?_)
    · subst hsw
      match kq, hkq with
      | 0, _ =>
        refine lv_tableIn (off := 33) (tgt := 44) hx hb dX8_readerOf_11 (by decide) (by decide) (by decide) (by decide) ?_
        refine lv_aload_n hx hb dX8_readerOf_44 rfl (lv_at hl 0 rfl) ?_
        refine lv_iload_n hx hb dX8_readerOf_45 rfl (lv_at hl 1 rfl) ?_
        refine k_pi (va_runV (As := [.int t]) (rest := []) ⟨hx, hb, hml, hown, hts⟩ (c_X8_outsOf l D H.size m a pa ka za cA 0 y f t hF.2.2.2.2.1) (cwV 1 hts gX8_readerOf_X8_outsOf rfl rfl rfl (by decide +kernel) ⟨(Nat.le_of_ble_eq_true rfl), (Nat.le_of_ble_eq_true rfl)⟩) ⟨mP_blind, va_recv hK hP (ci := 8) (q0 := 0) rfl rfl, m_pre _ hN hK hP hD [0] rfl [0, 1] rfl (by decide)⟩ rfl rfl hl.1 rfl (lv_room (Nat.le_of_ble_eq_true rfl)) dX8_readerOf_46 ⟨(Nat.le_of_ble_eq_true rfl), (Nat.le_of_ble_eq_true rfl)⟩) hP hD hS hA [0, 1] rfl (fun r489 u H locs hw hP hS => ?_)
        obtain rfl := hw
        exact hret 0 () rfl (Or.inl ⟨zw1, (reader_0 t 0 (by decide) (by decide)).symm⟩) hP (hK.sub [] rfl) hD hS (Nat.le_of_ble_eq_true rfl) (Nat.le_of_ble_eq_true rfl) dX8_readerOf_49
      | 1, _ =>
        refine lv_tableIn (off := 39) (tgt := 50) hx hb dX8_readerOf_11 (by decide) (by decide) (by decide) (by decide) ?_
        refine lv_aload_n hx hb dX8_readerOf_50 rfl (lv_at hl 0 rfl) ?_
        refine lv_iload_n hx hb dX8_readerOf_51 rfl (lv_at hl 1 rfl) ?_
        refine k_pi (va_runV (As := [.int t]) (rest := []) ⟨hx, hb, hml, hown, hts⟩ (c_X8_holdsOf l D H.size m a pa ka za cA 0 y f t hF.2.2.2.2.2.1) (cwV 1 hts gX8_readerOf_X8_holdsOf rfl rfl rfl (by decide +kernel) ⟨(Nat.le_of_ble_eq_true rfl), (Nat.le_of_ble_eq_true rfl)⟩) ⟨mP_blind, va_recv hK hP (ci := 8) (q0 := 0) rfl rfl, m_pre _ hN hK hP hD [0] rfl [0, 1] rfl (by decide)⟩ rfl rfl hl.1 rfl (lv_room (Nat.le_of_ble_eq_true rfl)) dX8_readerOf_52 ⟨(Nat.le_of_ble_eq_true rfl), (Nat.le_of_ble_eq_true rfl)⟩) hP hD hS hA [0, 1] rfl (fun r490 u H locs hw hP hS => ?_)
        obtain rfl := hw
        exact hret 0 () rfl (Or.inl ⟨zw1, (reader_0 t 1 (by decide) (by decide)).symm⟩) hP (hK.sub [] rfl) hD hS (Nat.le_of_ble_eq_true rfl) (Nat.le_of_ble_eq_true rfl) dX8_readerOf_55
      | 2, _ =>
        refine lv_tableIn (off := 45) (tgt := 56) hx hb dX8_readerOf_11 (by decide) (by decide) (by decide) (by decide) ?_
        refine lv_aload_n hx hb dX8_readerOf_56 rfl (lv_at hl 0 rfl) ?_
        refine lv_iload_n hx hb dX8_readerOf_57 rfl (lv_at hl 1 rfl) ?_
        refine k_pi (va_runV (As := [.int t]) (rest := []) ⟨hx, hb, hml, hown, hts⟩ (c_X8_owedBy l D H.size m a pa ka za cA 0 y f t hF.2.2.2.2.1) (cwV 1 hts gX8_readerOf_X8_owedBy rfl rfl rfl (by decide +kernel) ⟨(Nat.le_of_ble_eq_true rfl), (Nat.le_of_ble_eq_true rfl)⟩) ⟨mP_blind, va_recv hK hP (ci := 8) (q0 := 0) rfl rfl, m_pre _ hN hK hP hD [0] rfl [0, 1] rfl (by decide)⟩ rfl rfl hl.1 rfl (lv_room (Nat.le_of_ble_eq_true rfl)) dX8_readerOf_58 ⟨(Nat.le_of_ble_eq_true rfl), (Nat.le_of_ble_eq_true rfl)⟩) hP hD hS hA [0, 1] rfl (fun r491 u H locs hw hP hS => ?_)
        obtain rfl := hw
        exact hret 0 () rfl (Or.inl ⟨zw1, (reader_0 t 2 (by decide) (by decide)).symm⟩) hP (hK.sub [] rfl) hD hS (Nat.le_of_ble_eq_true rfl) (Nat.le_of_ble_eq_true rfl) dX8_readerOf_61
      | 3, _ =>
        refine lv_tableIn (off := 51) (tgt := 62) hx hb dX8_readerOf_11 (by decide) (by decide) (by decide) (by decide) ?_
        refine lv_aload_n hx hb dX8_readerOf_62 rfl (lv_at hl 0 rfl) ?_
        refine lv_iload_n hx hb dX8_readerOf_63 rfl (lv_at hl 1 rfl) ?_
        refine k_pi (va_runV (As := [.int t]) (rest := []) ⟨hx, hb, hml, hown, hts⟩ (c_X8_greatestStep l D H.size m a pa ka za cA 0 y f t hF.2.2.2.2.1) (cwV 1 hts gX8_readerOf_X8_greatestStep rfl rfl rfl (by decide +kernel) ⟨(Nat.le_of_ble_eq_true rfl), (Nat.le_of_ble_eq_true rfl)⟩) ⟨mP_blind, va_recv hK hP (ci := 8) (q0 := 0) rfl rfl, m_pre _ hN hK hP hD [0] rfl [0, 1] rfl (by decide)⟩ rfl rfl hl.1 rfl (lv_room (Nat.le_of_ble_eq_true rfl)) dX8_readerOf_64 ⟨(Nat.le_of_ble_eq_true rfl), (Nat.le_of_ble_eq_true rfl)⟩) hP hD hS hA [0, 1] rfl (fun r492 u H locs hw hP hS => ?_)
        obtain rfl := hw
        exact hret 0 () rfl (Or.inl ⟨zw1, (reader_0 t 3 (by decide) (by decide)).symm⟩) hP (hK.sub [] rfl) hD hS (Nat.le_of_ble_eq_true rfl) (Nat.le_of_ble_eq_true rfl) dX8_readerOf_67
      | 4, _ =>
        refine lv_tableIn (off := 57) (tgt := 68) hx hb dX8_readerOf_11 (by decide) (by decide) (by decide) (by decide) ?_
        refine lv_iload_n hx hb dX8_readerOf_68 rfl (lv_at hl 1 rfl) ?_
        refine lv_iconst (v := 4) hx hb dX8_readerOf_69 (by decide) ?_
        refine lv_irem hx hb dX8_readerOf_70 (by decide) ?_
        refine lv_topi (fun x493 ex493 => ?_)
        exact hret x493 () rfl (Or.inl ⟨zw1, ex493.trans (reader_4 t).symm⟩) hP (hK.sub [] rfl) hD hS (Nat.le_of_ble_eq_true rfl) (Nat.le_of_ble_eq_true rfl) dX8_readerOf_71
      | kq + 5, hkq => exact absurd hkq (by omega)
    · refine lv_tableOut (tgt := 72) hx hb dX8_readerOf_11 (by omega) (by decide) ?_
      refine lv_ldc hx hb hown (hts (.constant RX8 131 (-1000000002)) (List.mem_of_getElem? (i := 2) rfl)) dX8_readerOf_72 ?_
      exact hret (-1000000002) () rfl (Or.inl ⟨zw1, reader_out hsw⟩) hP (hK.sub [] rfl) hD hS (Nat.le_of_ble_eq_true rfl) (Nat.le_of_ble_eq_true rfl) dX8_readerOf_74
  · refine lv_if_ne (tgt := 10) hx hb dX8_readerOf_4 (by decide) (fun hc => absurd (by decide) hc) (fun zc4 => ?_)
    refine lv_ldc hx hb hown (hts (.constant RX8 92 (-1000000001)) (List.mem_of_getElem? (i := 1) rfl)) dX8_readerOf_7 ?_
    exact hret (-1000000001) () rfl (Or.inr ⟨zw1, rfl⟩) hP (hK.sub [] rfl) hD hS (Nat.le_of_ble_eq_true rfl) (Nat.le_of_ble_eq_true rfl) dX8_readerOf_9
set_option maxHeartbeats 4000000 in
set_option maxRecDepth 100000 in
theorem c_X8_keep (l : Launch) (D : va_G) (sz : Nat) (m a pa ka za : Nat) (cA cK cZ : ClassId) (y : Int64) (f fk : Nat → Int32) (i : Int32) (hF : st0 f) : mI l yX8_keep wsX8_keep (rk 1 0 0) D [.ref m, .int i] [(cA, .int), (cK, .int), (cZ, .boolean)] sz [(m, .inr (8, [.ref a, .ref pa, .int 0, .ref ka, .ref za, .long y])), (a, .inl (cA, 172, .inl f)), (ka, .inl (cK, 344, .inl fk)), (za, .inl (cZ, 2, .inl (fun _ => 0)))] (S := Unit) (fun r _ => q2 (ok i 2) 0 (-1000000001) r) (fun _ => []) (fun _ => []) := by
  refine mI_of (cc := cX8_keep) (maxL := 3) (ty := .int) (plainFor_of_name (by decide)) rfl (Nat.le_of_ble_eq_true rfl) ?_
  intro pp ee ss mm bl mt cd AA QQ hx hb hml hts hown hN hA hK hP hD hS hret ls hl
  have hl : lv_has ls 3 [(0, .ref m), (1, .int i)] := hl
  have inX8 : ∀ w ∈ wsX80, w ∈ wsX8_keep := fun _ h => List.mem_cons_of_mem _ (List.mem_append_right _ h)
  refine lv_iload_n hx hb dX8_keep_0 rfl (lv_at hl 1 rfl) ?_
  refine lv_i2l (v := (i.toInt64)) hx hb dX8_keep_1 (rfl) ?_
  refine lv_lconst (v := 0) hx hb dX8_keep_2 (by decide) ?_
  refine lv_lconst (v := 1) hx hb dX8_keep_3 (by decide) ?_
  refine k_pi (va_runS (As := [.long (i.toInt64), .long 0, .long 1]) (rest := []) ⟨hx, hb, hml, hown, hts⟩ (c_X8_in l D ss.heap.size (i.toInt64) 0 1 ) (va_cwS 3 hts gX8_keep_X8_in rfl rfl rfl (by decide +kernel) ⟨(Nat.le_of_ble_eq_true rfl), (Nat.le_of_ble_eq_true rfl)⟩) ⟨mP_blind, m_pre _ hN hK hP hD [] rfl [] rfl (by decide)⟩ rfl rfl hl.1 rfl (lv_room (Nat.le_of_ble_eq_true rfl)) dX8_keep_4 ⟨(Nat.le_of_ble_eq_true rfl), (Nat.le_of_ble_eq_true rfl)⟩) hP hD hS hA [] rfl (fun r494 u H locs hw hP hS => ?_)
  rcases hw with ⟨rfl, zw4⟩ | ⟨rfl, zw4⟩
  · refine lv_if_ne (tgt := 13) hx hb dX8_keep_7 (by decide) (fun zc7 => ?_) (fun hc => absurd hc (by decide))
    obtain ⟨j, hj, rfl⟩ := w2_of ((l_rng (a := 0) (b := 1) (by decide) (by decide)).mp zw4)
    refine lv_iconst (v := 0) hx hb dX8_keep_13 (by decide) ?_
    refine lv_istore_n (lv' := [(2, .int 0), (0, .ref m), (1, .int (nI j))]) hx hb dX8_keep_14 rfl hl (by decide) rfl (fun ls hl => ?_)
    have lp : ∀ (fu : Nat) (e : Nat) (gk : Nat → Int32), (e ≤ 172) → (172 < e + fu) → ∀ (H : Heap) (locs : List Loc) (ls : Array Slot), va_P D vwCl [(m, .inr (8, [.ref a, .ref pa, .int 0, .ref ka, .ref za, .long y])), (a, .inl (cA, 172, .inl f)), (ka, .inl (cK, 344, .inl gk)), (za, .inl (cZ, 2, .inl (fun _ => 0)))] H → va_D AA [(m, .inr (8, [.ref a, .ref pa, .int 0, .ref ka, .ref za, .long y])), (a, .inl (cA, 172, .inl f)), (ka, .inl (cK, 344, .inl gk)), (za, .inl (cZ, 2, .inl (fun _ => 0)))] → va_S AA ss.heap H locs → lv_has ls 3 [(2, .int (nI e)), (0, .ref m), (1, .int (nI j))] → W pp l ee (rk 1 0 0) ss mm ([.ref m, .int (nI j)] : List Value).toArray bl mt cd H locs 0 0 QQ (F0 mm 15 ls []) := by
      intro fu
      induction fu with
      | zero =>
        intro e gk he hf H locs ls hP hD hS hl
        exact absurd hf (by omega)
      | succ fu ih =>
        intro e gk he hf H locs ls hP hD hS hl
        refine lv_iload_n hx hb dX8_keep_15 rfl (lv_at hl 0 rfl) ?_
        refine lv_sipush (v := 172) hx hb dX8_keep_16 (by decide) ?_
        refine lv_icmp_ge (tgt := 46) hx hb dX8_keep_19 (by decide) (fun zc19 => ?_) (fun zc19 => ?_)
        · refine lv_aload_n hx hb dX8_keep_46 rfl (lv_at hl 1 rfl) ?_
          refine va_get (D := D) (ci := 8) (v := .ref za) (C := RX8) (T := TX8) (N := 6) hx hb hts inX8 hown hK hP 0 rfl rfl 4 (by decide) (hts (.fieldLink RX8 19 "LoanHouseModel" "isKept" "[Z") (List.mem_of_getElem? (i := 4) rfl)) (fun _ h9 => h9) rfl dX8_keep_47 ?_
          refine lv_iload_n hx hb dX8_keep_50 rfl (lv_at hl 2 rfl) ?_
          refine lv_iconst (v := 1) hx hb dX8_keep_51 (by decide) ?_
          refine va_zast hx hb hK hP hD hS 3 2 rfl rfl (vp_in_nI hj (by decide)) dX8_keep_52 (fun H locs hP hD hS => ?_)
          have hP : va_P D vwCl [(m, .inr (8, [.ref a, .ref pa, .int 0, .ref ka, .ref za, .long y])), (a, .inl (cA, 172, .inl f)), (ka, .inl (cK, 344, .inl gk)), (za, .inl (cZ, 2, .inl (upd (fun _ => 0) (nI j).toNatClampNeg (vp_nar .boolean 1))))] H := hP
          have hD : va_D AA [(m, .inr (8, [.ref a, .ref pa, .int 0, .ref ka, .ref za, .long y])), (a, .inl (cA, 172, .inl f)), (ka, .inl (cK, 344, .inl gk)), (za, .inl (cZ, 2, .inl (upd (fun _ => 0) (nI j).toNatClampNeg (vp_nar .boolean 1))))] := hD
          obtain ⟨f495, ef495⟩ : ∃ g : Nat → Int32, g = upd (fun _ => 0) (nI j).toNatClampNeg (vp_nar .boolean 1) := ⟨_, rfl⟩
          rw [← ef495] at hP hD
          refine lv_aload_n hx hb dX8_keep_53 rfl (lv_at hl 1 rfl) ?_
          refine lv_iconst (v := 0) hx hb dX8_keep_54 (by decide) ?_
          refine va_put (D := D) (ci := 8) (v := .int 0) (ty := .int) (C := RX8) (T := TX8) (N := 6) hx hb hts inX8 tyX8 tyX8_ok nmX8 hown hK hP hD hS 0 rfl rfl 2 (by decide) (hts (.fieldLink RX8 82 "LoanHouseModel" "undoMany" "I") (List.mem_of_getElem? (i := 5) rfl)) (fun _ h9 => h9) rfl (by decide +kernel) rfl rfl (Nat.le_of_ble_eq_true rfl) dX8_keep_55 (fun H locs hP hD hS => ?_)
          have hP : va_P D vwCl [(m, .inr (8, [.ref a, .ref pa, .int 0, .ref ka, .ref za, .long y])), (a, .inl (cA, 172, .inl f)), (ka, .inl (cK, 344, .inl gk)), (za, .inl (cZ, 2, .inl f495))] H := hP
          have hD : va_D AA [(m, .inr (8, [.ref a, .ref pa, .int 0, .ref ka, .ref za, .long y])), (a, .inl (cA, 172, .inl f)), (ka, .inl (cK, 344, .inl gk)), (za, .inl (cZ, 2, .inl f495))] := hD
          refine lv_aload_n hx hb dX8_keep_58 rfl (lv_at hl 1 rfl) ?_
          refine va_get (D := D) (ci := 8) (v := .ref a) (C := RX8) (T := TX8) (N := 6) hx hb hts inX8 hown hK hP 0 rfl rfl 0 (by decide) (hts (.fieldLink RX8 7 "LoanHouseModel" "st" "[I") (List.mem_of_getElem? (i := 3) rfl)) (fun _ h9 => h9) rfl dX8_keep_59 ?_
          refine lv_iconst (v := 0) hx hb dX8_keep_62 (by decide) ?_
          refine va_iald hx hb hK hP 1 0 rfl rfl (vi_ok (by decide)) dX8_keep_63 ?_
          refine lv_topi (fun x496 ex496 => ?_)
          have ex496 : x496 = 0 := ex496.trans ((congrArg f (by decide : (0 : Int32).toNatClampNeg = 0)).trans hF.1)
          subst ex496
          exact hret 0 () rfl (Or.inl ⟨⟨nI_pos' (by omega), nI_lt (b := 2) hj (by decide)⟩, rfl⟩) (m_P hP (is := []) rfl) (hK.sub [] rfl) (hD.sub [] (by decide) rfl) hS (Nat.le_of_ble_eq_true rfl) (Nat.le_of_ble_eq_true rfl) dX8_keep_64
        · refine lv_aload_n hx hb dX8_keep_22 rfl (lv_at hl 1 rfl) ?_
          refine va_get (D := D) (ci := 8) (v := .ref ka) (C := RX8) (T := TX8) (N := 6) hx hb hts inX8 hown hK hP 0 rfl rfl 3 (by decide) (hts (.fieldLink RX8 16 "LoanHouseModel" "kept" "[I") (List.mem_of_getElem? (i := 2) rfl)) (fun _ h9 => h9) rfl dX8_keep_23 ?_
          refine lv_sipush (v := 172) hx hb dX8_keep_26 (by decide) ?_
          refine lv_iload_n hx hb dX8_keep_29 rfl (lv_at hl 2 rfl) ?_
          refine lv_imul hx hb dX8_keep_30 ?_
          refine lv_topi (fun x497 ex497 => ?_)
          have ex497 : x497 = nI (172 * j) := ex497.trans (pk_mul 172 j)
          subst ex497
          refine lv_iload_n hx hb dX8_keep_31 rfl (lv_at hl 0 rfl) ?_
          refine lv_iadd hx hb dX8_keep_32 ?_
          refine lv_topi (fun x498 ex498 => ?_)
          have ex498 : x498 = nI (172 * j + e) := ex498.trans (nI_add _ _)
          subst ex498
          refine lv_aload_n hx hb dX8_keep_33 rfl (lv_at hl 1 rfl) ?_
          refine va_get (D := D) (ci := 8) (v := .ref a) (C := RX8) (T := TX8) (N := 6) hx hb hts inX8 hown hK hP 0 rfl rfl 0 (by decide) (hts (.fieldLink RX8 7 "LoanHouseModel" "st" "[I") (List.mem_of_getElem? (i := 3) rfl)) (fun _ h9 => h9) rfl dX8_keep_34 ?_
          refine lv_iload_n hx hb dX8_keep_37 rfl (lv_at hl 0 rfl) ?_
          refine va_iald hx hb hK hP 1 0 rfl rfl (vp_in_nI (by have := lt_of_nleN zc19 he; omega) (by decide)) dX8_keep_38 ?_
          refine lv_topi (fun x499 ex499 => ?_)
          refine va_iast hx hb hK hP hD hS 2 1 rfl rfl (vp_in_nI (by have := lt_of_nleN zc19 he; omega) (by decide)) dX8_keep_39 (fun H locs hP hD hS => ?_)
          have hP : va_P D vwCl [(m, .inr (8, [.ref a, .ref pa, .int 0, .ref ka, .ref za, .long y])), (a, .inl (cA, 172, .inl f)), (ka, .inl (cK, 344, .inl (upd gk (nI (172 * j + e)).toNatClampNeg x499))), (za, .inl (cZ, 2, .inl (fun _ => 0)))] H := hP
          have hD : va_D AA [(m, .inr (8, [.ref a, .ref pa, .int 0, .ref ka, .ref za, .long y])), (a, .inl (cA, 172, .inl f)), (ka, .inl (cK, 344, .inl (upd gk (nI (172 * j + e)).toNatClampNeg x499))), (za, .inl (cZ, 2, .inl (fun _ => 0)))] := hD
          obtain ⟨f500, ef500⟩ : ∃ g : Nat → Int32, g = upd gk (nI (172 * j + e)).toNatClampNeg x499 := ⟨_, rfl⟩
          rw [← ef500] at hP hD
          refine lv_iinc (v := nI (e + 1)) (lv' := [(2, .int (nI (e + 1))), (0, .ref m), (1, .int (nI j))]) hx hb dX8_keep_40 hl (k := 0) rfl (nI_1 e) (by decide) rfl (fun ls hl => ?_)
          refine lv_goto (tgt := 15) hx hb dX8_keep_43 (by decide) ?_
          exact ih (e + 1) f500 (by have := lt_of_nleN zc19 he; omega) (by omega) _ _ ls hP hD hS (lv_sub hl [0, 1, 2] rfl)
    exact lp 173 0 fk (by decide) (by decide) _ _ ls hP hD hS (lv_sub hl [0, 1, 2] rfl)
  · refine lv_if_ne (tgt := 13) hx hb dX8_keep_7 (by decide) (fun hc => absurd (by decide) hc) (fun zc7 => ?_)
    refine lv_ldc hx hb hown (hts (.constant RX8 92 (-1000000001)) (List.mem_of_getElem? (i := 1) rfl)) dX8_keep_10 ?_
    exact hret (-1000000001) () rfl (Or.inr ⟨fun q => zw4 ((l_rng (a := 0) (b := 1) (by decide) (by decide)).mpr (ok2 q)), rfl⟩) (m_P hP (is := []) rfl) (hK.sub [] rfl) (hD.sub [] (by decide) rfl) hS (Nat.le_of_ble_eq_true rfl) (Nat.le_of_ble_eq_true rfl) dX8_keep_12
set_option maxHeartbeats 4000000 in
set_option maxRecDepth 100000 in
theorem c_X8_goBack (l : Launch) (D : va_G) (sz : Nat) (m a pa ka za : Nat) (cZ : ClassId) (y : Int64) (i : Int32) : mI l yX8_goBack wsX8_goBack (rk 1 0 0) D [.ref m, .int i] [(cZ, .boolean)] sz [(m, .inr (8, [.ref a, .ref pa, .int 0, .ref ka, .ref za, .long y])), (za, .inl (cZ, 2, .inl (fun _ => 0)))] (S := Unit) (fun r _ => q2 (ok i 2) (-1000000003) (-1000000001) r) (fun _ => []) (fun _ => [(m, .inr (8, [.ref a, .ref pa, .int 0, .ref ka, .ref za, .long y])), (za, .inl (cZ, 2, .inl (fun _ => 0)))]) := by
  refine mI_of (cc := cX8_goBack) (maxL := 3) (ty := .int) (plainFor_of_name (by decide)) rfl (Nat.le_of_ble_eq_true rfl) ?_
  intro pp ee ss mm bl mt cd AA QQ hx hb hml hts hown hN hA hK hP hD hS hret ls hl
  have hl : lv_has ls 3 [(0, .ref m), (1, .int i)] := hl
  have inX8 : ∀ w ∈ wsX80, w ∈ wsX8_goBack := fun _ h => List.mem_cons_of_mem _ (List.mem_append_right _ h)
  refine lv_iload_n hx hb dX8_goBack_0 rfl (lv_at hl 1 rfl) ?_
  refine lv_i2l (v := (i.toInt64)) hx hb dX8_goBack_1 (rfl) ?_
  refine lv_lconst (v := 0) hx hb dX8_goBack_2 (by decide) ?_
  refine lv_lconst (v := 1) hx hb dX8_goBack_3 (by decide) ?_
  refine k_pi (va_runS (As := [.long (i.toInt64), .long 0, .long 1]) (rest := []) ⟨hx, hb, hml, hown, hts⟩ (c_X8_in l D ss.heap.size (i.toInt64) 0 1 ) (va_cwS 3 hts gX8_goBack_X8_in rfl rfl rfl (by decide +kernel) ⟨(Nat.le_of_ble_eq_true rfl), (Nat.le_of_ble_eq_true rfl)⟩) ⟨mP_blind, m_pre _ hN hK hP hD [] rfl [] rfl (by decide)⟩ rfl rfl hl.1 rfl (lv_room (Nat.le_of_ble_eq_true rfl)) dX8_goBack_4 ⟨(Nat.le_of_ble_eq_true rfl), (Nat.le_of_ble_eq_true rfl)⟩) hP hD hS hA [] rfl (fun r501 u H locs hw hP hS => ?_)
  rcases hw with ⟨rfl, zw4⟩ | ⟨rfl, zw4⟩
  · refine lv_if_ne (tgt := 13) hx hb dX8_goBack_7 (by decide) (fun zc7 => ?_) (fun hc => absurd hc (by decide))
    have hok : ok i 2 := ok2r ((l_rng (a := 0) (b := 1) (by decide) (by decide)).mp zw4)
    refine lv_aload_n hx hb dX8_goBack_13 rfl (lv_at hl 0 rfl) ?_
    refine va_get (D := D) (ci := 8) (v := .ref za) (C := RX8) (T := TX8) (N := 6) hx hb hts inX8 hown hK hP 0 rfl rfl 4 (by decide) (hts (.fieldLink RX8 19 "LoanHouseModel" "isKept" "[Z") (List.mem_of_getElem? (i := 2) rfl)) (fun _ h9 => h9) rfl dX8_goBack_14 ?_
    refine lv_iload_n hx hb dX8_goBack_17 rfl (lv_at hl 1 rfl) ?_
    refine va_zald hx hb hK hP 1 0 rfl rfl (in_of hok) dX8_goBack_18 ?_
    refine lv_topi (fun x502 ex502 => ?_)
    have ex502 : x502 = 0 := ex502.trans (rfl)
    subst ex502
    refine lv_if_ne (tgt := 25) hx hb dX8_goBack_19 (by decide) (fun hc => absurd (by decide) hc) (fun zc19 => ?_)
    refine lv_ldc hx hb hown (hts (.constant RX8 115 (-1000000003)) (List.mem_of_getElem? (i := 3) rfl)) dX8_goBack_22 ?_
    exact hret (-1000000003) () rfl (Or.inl ⟨hok, rfl⟩) hP (hK.sub [] rfl) hD hS (Nat.le_of_ble_eq_true rfl) (Nat.le_of_ble_eq_true rfl) dX8_goBack_24
  · refine lv_if_ne (tgt := 13) hx hb dX8_goBack_7 (by decide) (fun hc => absurd (by decide) hc) (fun zc7 => ?_)
    refine lv_ldc hx hb hown (hts (.constant RX8 92 (-1000000001)) (List.mem_of_getElem? (i := 1) rfl)) dX8_goBack_10 ?_
    exact hret (-1000000001) () rfl (Or.inr ⟨fun q => zw4 ((l_rng (a := 0) (b := 1) (by decide) (by decide)).mpr (ok2 q)), rfl⟩) hP (hK.sub [] rfl) hD hS (Nat.le_of_ble_eq_true rfl) (Nat.le_of_ble_eq_true rfl) dX8_goBack_12
