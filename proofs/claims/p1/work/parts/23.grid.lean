set_option maxHeartbeats 4000000 in
set_option maxRecDepth 100000 in
theorem c_isBelow (l : Launch) (D : va_G) (sz : Nat) (x b : Int32) : mI l yX7_isBelow wsX7_isBelow (rk 0 0 0) D [.int x, .int b] [] sz [] (S := Unit) (fun r _ => (r = 1 ∧ 0 ≤ x ∧ x < b) ∨ (r = 0 ∧ ¬ (0 ≤ x ∧ x < b))) (fun _ => []) (fun _ => []) := by
  refine mI_of (cc := cX7_isBelow) (maxL := 2) (ty := .boolean) (plainFor_of_name (by decide)) rfl (Nat.le_of_ble_eq_true rfl) ?_
  intro pp ee ss mm bl mt cd AA QQ hx hb hml hts hown hN hA hK hP hD hS hret ls hl
  have hl : lv_has ls 2 [(0, .int x), (1, .int b)] := hl
  refine lv_iconst (v := 0) hx hb dX7_isBelow_0 (by decide) ?_
  refine lv_iload_n hx hb dX7_isBelow_1 rfl (lv_at hl 0 rfl) ?_
  refine lv_icmp_gt (tgt := 14) hx hb dX7_isBelow_2 (by decide) (fun zc2 => ?_) (fun zc2 => ?_)
  · refine lv_iconst (v := 0) hx hb dX7_isBelow_14 (by decide) ?_
    exact hret 0 () rfl (Or.inr ⟨rfl, ib_3 zc2⟩) hP (hK.sub [] rfl) hD hS (Nat.le_of_ble_eq_true rfl) (Nat.le_of_ble_eq_true rfl) dX7_isBelow_15
  · refine lv_iload_n hx hb dX7_isBelow_5 rfl (lv_at hl 0 rfl) ?_
    refine lv_iload_n hx hb dX7_isBelow_6 rfl (lv_at hl 1 rfl) ?_
    refine lv_icmp_ge (tgt := 14) hx hb dX7_isBelow_7 (by decide) (fun zc7 => ?_) (fun zc7 => ?_)
    · refine lv_iconst (v := 0) hx hb dX7_isBelow_14 (by decide) ?_
      exact hret 0 () rfl (Or.inr ⟨rfl, ib_4 zc7⟩) hP (hK.sub [] rfl) hD hS (Nat.le_of_ble_eq_true rfl) (Nat.le_of_ble_eq_true rfl) dX7_isBelow_15
    · refine lv_iconst (v := 1) hx hb dX7_isBelow_10 (by decide) ?_
      refine lv_goto (tgt := 15) hx hb dX7_isBelow_11 (by decide) ?_
      exact hret 1 () rfl (Or.inl ⟨rfl, ib_1 zc2, ib_2 zc7⟩) hP (hK.sub [] rfl) hD hS (Nat.le_of_ble_eq_true rfl) (Nat.le_of_ble_eq_true rfl) dX7_isBelow_15
set_option maxHeartbeats 4000000 in
set_option maxRecDepth 100000 in
theorem c_floorMod (l : Launch) (D : va_G) (sz : Nat) (x y : Int32) (hy : ¬ y = 0) : mI l yJ9_floorMod_7cf53 wsJ9_floorMod_7cf53 (rk 0 0 0) D [.int x, .int y] [] sz [] (S := Unit) (fun r _ => x = 0 → y = 7 → r = 0) (fun _ => []) (fun _ => []) := by
  refine mI_of (cc := cJ9_floorMod_7cf53) (maxL := 3) (ty := .int) (by decide +kernel) rfl (Nat.le_of_ble_eq_true rfl) ?_
  intro pp ee ss mm bl mt cd AA QQ hx hb hml hts hown hN hA hK hP hD hS hret ls hl
  have hl : lv_has ls 3 [(0, .int x), (1, .int y)] := hl
  refine lv_iload_n hx hb dJ9_floorMod_7cf53_0 rfl (lv_at hl 0 rfl) ?_
  refine lv_iload_n hx hb dJ9_floorMod_7cf53_1 rfl (lv_at hl 1 rfl) ?_
  refine lv_irem hx hb dJ9_floorMod_7cf53_2 hy ?_
  refine lv_topi (fun x1 ex1 => ?_)
  refine lv_istore_n (lv' := [(2, .int x1), (0, .int x), (1, .int y)]) hx hb dJ9_floorMod_7cf53_3 rfl hl (by decide) rfl (fun ls hl => ?_)
  refine lv_iload_n hx hb dJ9_floorMod_7cf53_4 rfl (lv_at hl 1 rfl) ?_
  refine lv_iload_n hx hb dJ9_floorMod_7cf53_5 rfl (lv_at hl 2 rfl) ?_
  refine lv_ixor hx hb dJ9_floorMod_7cf53_6 ?_
  refine lv_topi (fun x2 ex2 => ?_)
  refine lv_if_ge (tgt := 18) hx hb dJ9_floorMod_7cf53_7 (by decide) (fun zc7 => ?_) (fun zc7 => ?_)
  · refine lv_iload_n hx hb dJ9_floorMod_7cf53_18 rfl (lv_at hl 0 rfl) ?_
    exact hret x1 () rfl (fun h1 h2 => by subst h1 h2; rw [ex1]; decide) hP (hK.sub [] rfl) hD hS (Nat.le_of_ble_eq_true rfl) (Nat.le_of_ble_eq_true rfl) dJ9_floorMod_7cf53_19
  · refine lv_iload_n hx hb dJ9_floorMod_7cf53_10 rfl (lv_at hl 0 rfl) ?_
    refine lv_if_eq (tgt := 18) hx hb dJ9_floorMod_7cf53_11 (by decide) (fun zc11 => ?_) (fun zc11 => ?_)
    · refine lv_iload_n hx hb dJ9_floorMod_7cf53_18 rfl (lv_at hl 0 rfl) ?_
      exact hret x1 () rfl (fun h1 h2 => zc11) hP (hK.sub [] rfl) hD hS (Nat.le_of_ble_eq_true rfl) (Nat.le_of_ble_eq_true rfl) dJ9_floorMod_7cf53_19
    · refine lv_iload_n hx hb dJ9_floorMod_7cf53_14 rfl (lv_at hl 0 rfl) ?_
      refine lv_iload_n hx hb dJ9_floorMod_7cf53_15 rfl (lv_at hl 2 rfl) ?_
      refine lv_iadd hx hb dJ9_floorMod_7cf53_16 ?_
      refine lv_topi (fun x3 ex3 => ?_)
      exact hret x3 () rfl (fun h1 h2 => absurd zc7 (by subst h1 h2; rw [ex2]; decide)) hP (hK.sub [] rfl) hD hS (Nat.le_of_ble_eq_true rfl) (Nat.le_of_ble_eq_true rfl) dJ9_floorMod_7cf53_17
set_option maxHeartbeats 4000000 in
set_option maxRecDepth 100000 in
theorem c_X2_init_80 (l : Launch) (D : va_G) (sz : Nat) (g : Nat) : mV l yX2_init wsX2_init (rk 1 1 80) D [.ref g, .int 16, .int 5] [] sz [(g, .inr (2, [.int 0, .int 0, .null]))] (S := Nat × ClassId × (Nat → Int32)) (fun _ => True) (fun u => [(u.2.1, .int)]) (fun u => [(g, .inr (2, [.int 16, .int 5, .ref u.1])), (u.1, .inl (u.2.1, 80, .inl u.2.2))]) := by
  refine mV_of (cc := cX2_init) (maxL := 3) (plainFor_of_name (by decide)) rfl (Nat.le_of_ble_eq_true rfl) ?_
  intro pp ee ss mm bl mt cd AA QQ hx hb hml hts hown hN hA hK hP hD hS hmn hret ls hl
  have hl : lv_has ls 3 [(0, .ref g), (1, .int 16), (2, .int 5)] := hl
  have inX2 : ∀ w ∈ wsX20, w ∈ wsX2_init := fun _ h => List.mem_cons_of_mem _ (List.mem_append_right _ h)
  refine lv_aload_n hx hb dX2_init_0 rfl (lv_at hl 0 rfl) ?_
  refine W.objInit hx hb hown (hts (.methodLink RX2 3 objectInit) (List.mem_of_getElem? (i := 1) rfl)) (hts (.instanceMethod objectInit) (List.mem_of_getElem? (i := 2) rfl)) (hts (.code objectInit ⟨#[0xb1]⟩ 1 none) (List.mem_of_getElem? (i := 3) rfl)) rfl (by rw [hml]; exact hl.1) rfl dX2_init_1 (Nat.le_of_ble_eq_true rfl) (Nat.le_of_ble_eq_true rfl) ?_
  refine W.eq (g2 := F0 mm 4 ls []) rfl ?_
  refine lv_aload_n hx hb dX2_init_4 rfl (lv_at hl 0 rfl) ?_
  refine lv_iload_n hx hb dX2_init_5 rfl (lv_at hl 1 rfl) ?_
  refine lv_iconst (v := 0) hx hb dX2_init_6 (by decide) ?_
  refine va_mmax hx hb (hml.trans hl.1.symm) hown (hts (.methodLink RX2 9 Lib.Math.max.name) (List.mem_of_getElem? (i := 4) rfl)) (hts (.static Lib.Math.max.name) (List.mem_of_getElem? (i := 5) rfl)) (hts (.initialized "java/lang/Math") (List.mem_of_getElem? (i := 6) rfl)) (hts (.code Lib.Math.max.name Lib.Math.max.code 2 (some .int)) (List.mem_of_getElem? (i := 7) rfl)) (Nat.le_of_ble_eq_true rfl) (Nat.le_of_ble_eq_true rfl) (Nat.le_of_ble_eq_true rfl) (Nat.le_of_ble_eq_true rfl) dX2_init_7 ?_
  refine lv_topi (fun x4 ex4 => ?_)
  have ex4 : x4 = 16 := ex4.trans (by decide)
  subst ex4
  refine va_putF (D := D) (ci := 2) (v := .int 16) (ty := .int) (C := RX2) (T := TX2) (N := 3) hx hb hts inX2 tyX2 tyX2_ok nmX2 hown hK hP hD hS 0 rfl rfl 0 (by decide) (hts (.fieldLink RX2 15 "LoanHouse$Grid" "rows" "I") (List.mem_of_getElem? (i := 8) rfl)) (fun _ h9 => h9) rfl hmn rfl (by decide +kernel) rfl rfl (Nat.le_of_ble_eq_true rfl) dX2_init_10 (fun H locs hP hD hS => ?_)
  have hP : va_P D vwCl [(g, .inr (2, [.int 16, .int 0, .null]))] H := hP
  have hD : va_D AA [(g, .inr (2, [.int 16, .int 0, .null]))] := hD
  refine lv_aload_n hx hb dX2_init_13 rfl (lv_at hl 0 rfl) ?_
  refine lv_iload_n hx hb dX2_init_14 rfl (lv_at hl 2 rfl) ?_
  refine lv_iconst (v := 0) hx hb dX2_init_15 (by decide) ?_
  refine va_mmax hx hb (hml.trans hl.1.symm) hown (hts (.methodLink RX2 9 Lib.Math.max.name) (List.mem_of_getElem? (i := 4) rfl)) (hts (.static Lib.Math.max.name) (List.mem_of_getElem? (i := 5) rfl)) (hts (.initialized "java/lang/Math") (List.mem_of_getElem? (i := 6) rfl)) (hts (.code Lib.Math.max.name Lib.Math.max.code 2 (some .int)) (List.mem_of_getElem? (i := 7) rfl)) (Nat.le_of_ble_eq_true rfl) (Nat.le_of_ble_eq_true rfl) (Nat.le_of_ble_eq_true rfl) (Nat.le_of_ble_eq_true rfl) dX2_init_16 ?_
  refine lv_topi (fun x5 ex5 => ?_)
  have ex5 : x5 = 5 := ex5.trans (by decide)
  subst ex5
  refine va_putF (D := D) (ci := 2) (v := .int 5) (ty := .int) (C := RX2) (T := TX2) (N := 3) hx hb hts inX2 tyX2 tyX2_ok nmX2 hown hK hP hD hS 0 rfl rfl 1 (by decide) (hts (.fieldLink RX2 21 "LoanHouse$Grid" "columns" "I") (List.mem_of_getElem? (i := 9) rfl)) (fun _ h9 => h9) rfl hmn rfl (by decide +kernel) rfl rfl (Nat.le_of_ble_eq_true rfl) dX2_init_19 (fun H locs hP hD hS => ?_)
  have hP : va_P D vwCl [(g, .inr (2, [.int 16, .int 5, .null]))] H := hP
  have hD : va_D AA [(g, .inr (2, [.int 16, .int 5, .null]))] := hD
  refine lv_aload_n hx hb dX2_init_22 rfl (lv_at hl 0 rfl) ?_
  refine lv_aload_n hx hb dX2_init_23 rfl (lv_at hl 0 rfl) ?_
  refine va_get (D := D) (ci := 2) (v := .int 16) (C := RX2) (T := TX2) (N := 3) hx hb hts inX2 hown hK hP 0 rfl rfl 0 (by decide) (hts (.fieldLink RX2 15 "LoanHouse$Grid" "rows" "I") (List.mem_of_getElem? (i := 8) rfl)) (fun _ h9 => h9) rfl dX2_init_24 ?_
  refine lv_aload_n hx hb dX2_init_27 rfl (lv_at hl 0 rfl) ?_
  refine va_get (D := D) (ci := 2) (v := .int 5) (C := RX2) (T := TX2) (N := 3) hx hb hts inX2 hown hK hP 0 rfl rfl 1 (by decide) (hts (.fieldLink RX2 21 "LoanHouse$Grid" "columns" "I") (List.mem_of_getElem? (i := 9) rfl)) (fun _ h9 => h9) rfl dX2_init_28 ?_
  refine lv_imul hx hb dX2_init_31 ?_
  refine lv_topi (fun x6 ex6 => ?_)
  have ex6 : x6 = 80 := ex6.trans (by decide)
  subst ex6
  refine lv_iconst (v := 0) hx hb dX2_init_32 (by decide) ?_
  refine va_mmax hx hb (hml.trans hl.1.symm) hown (hts (.methodLink RX2 9 Lib.Math.max.name) (List.mem_of_getElem? (i := 4) rfl)) (hts (.static Lib.Math.max.name) (List.mem_of_getElem? (i := 5) rfl)) (hts (.initialized "java/lang/Math") (List.mem_of_getElem? (i := 6) rfl)) (hts (.code Lib.Math.max.name Lib.Math.max.code 2 (some .int)) (List.mem_of_getElem? (i := 7) rfl)) (Nat.le_of_ble_eq_true rfl) (Nat.le_of_ble_eq_true rfl) (Nat.le_of_ble_eq_true rfl) (Nat.le_of_ble_eq_true rfl) dX2_init_33 ?_
  refine lv_topi (fun x7 ex7 => ?_)
  have ex7 : x7 = 80 := ex7.trans (by decide)
  subst ex7
  refine va_newa (atype := .int) (ty := .int) (N' := 80) (a0 := (80, .inl (fun _ => 0))) hx hb (hts (.arrayClass .int) (List.mem_of_getElem? (i := 10) rfl)) rfl hK hP hD hS hA (fun _ => rfl) (by decide) (by decide) (by decide) (Nat.le_of_ble_eq_true rfl) (Nat.le_of_ble_eq_true rfl) dX2_init_36 (fun q8 cA9 H hK hP hD hS => ?_)
  have hP : va_P D vwCl [(g, .inr (2, [.int 16, .int 5, .null])), (q8, .inl (cA9, 80, .inl (fun _ => 0)))] H := hP
  have hD : va_D AA [(g, .inr (2, [.int 16, .int 5, .null])), (q8, .inl (cA9, 80, .inl (fun _ => 0)))] := hD
  have hK : va_K D vwCl [(cA9, .int)] ss := hK
  refine W.widen (k := 1) (n := 80) (Nat.le_of_ble_eq_true rfl) (Nat.le_of_ble_eq_true rfl) ?_
  refine va_putF (D := D) (ci := 2) (v := .ref q8) (ty := .array .int) (C := RX2) (T := TX2) (N := 3) hx hb hts inX2 tyX2 tyX2_ok nmX2 hown hK hP hD hS 0 rfl rfl 2 (by decide) (hts (.fieldLink RX2 24 "LoanHouse$Grid" "cells" "[I") (List.mem_of_getElem? (i := 11) rfl)) (fun _ h9 => h9) rfl hmn rfl (by decide +kernel) rfl rfl (Nat.le_of_ble_eq_true rfl) dX2_init_38 (fun H locs hP hD hS => ?_)
  have hP : va_P D vwCl [(g, .inr (2, [.int 16, .int 5, .ref q8])), (q8, .inl (cA9, 80, .inl (fun _ => 0)))] H := hP
  have hD : va_D AA [(g, .inr (2, [.int 16, .int 5, .ref q8])), (q8, .inl (cA9, 80, .inl (fun _ => 0)))] := hD
  exact hret (q8, cA9, fun _ => 0) (trivial) (m_P hP (is := [0, 1]) rfl) (hK.sub [0] rfl) (hD.sub [0, 1] (by decide) rfl) hS (Nat.le_of_ble_eq_true rfl) (Nat.le_of_ble_eq_true rfl) dX2_init_41
set_option maxHeartbeats 4000000 in
set_option maxRecDepth 100000 in
theorem c_X2_init_84 (l : Launch) (D : va_G) (sz : Nat) (g : Nat) : mV l yX2_init wsX2_init (rk 1 1 84) D [.ref g, .int 12, .int 7] [] sz [(g, .inr (2, [.int 0, .int 0, .null]))] (S := Nat × ClassId × (Nat → Int32)) (fun _ => True) (fun u => [(u.2.1, .int)]) (fun u => [(g, .inr (2, [.int 12, .int 7, .ref u.1])), (u.1, .inl (u.2.1, 84, .inl u.2.2))]) := by
  refine mV_of (cc := cX2_init) (maxL := 3) (plainFor_of_name (by decide)) rfl (Nat.le_of_ble_eq_true rfl) ?_
  intro pp ee ss mm bl mt cd AA QQ hx hb hml hts hown hN hA hK hP hD hS hmn hret ls hl
  have hl : lv_has ls 3 [(0, .ref g), (1, .int 12), (2, .int 7)] := hl
  have inX2 : ∀ w ∈ wsX20, w ∈ wsX2_init := fun _ h => List.mem_cons_of_mem _ (List.mem_append_right _ h)
  refine lv_aload_n hx hb dX2_init_0 rfl (lv_at hl 0 rfl) ?_
  refine W.objInit hx hb hown (hts (.methodLink RX2 3 objectInit) (List.mem_of_getElem? (i := 1) rfl)) (hts (.instanceMethod objectInit) (List.mem_of_getElem? (i := 2) rfl)) (hts (.code objectInit ⟨#[0xb1]⟩ 1 none) (List.mem_of_getElem? (i := 3) rfl)) rfl (by rw [hml]; exact hl.1) rfl dX2_init_1 (Nat.le_of_ble_eq_true rfl) (Nat.le_of_ble_eq_true rfl) ?_
  refine W.eq (g2 := F0 mm 4 ls []) rfl ?_
  refine lv_aload_n hx hb dX2_init_4 rfl (lv_at hl 0 rfl) ?_
  refine lv_iload_n hx hb dX2_init_5 rfl (lv_at hl 1 rfl) ?_
  refine lv_iconst (v := 0) hx hb dX2_init_6 (by decide) ?_
  refine va_mmax hx hb (hml.trans hl.1.symm) hown (hts (.methodLink RX2 9 Lib.Math.max.name) (List.mem_of_getElem? (i := 4) rfl)) (hts (.static Lib.Math.max.name) (List.mem_of_getElem? (i := 5) rfl)) (hts (.initialized "java/lang/Math") (List.mem_of_getElem? (i := 6) rfl)) (hts (.code Lib.Math.max.name Lib.Math.max.code 2 (some .int)) (List.mem_of_getElem? (i := 7) rfl)) (Nat.le_of_ble_eq_true rfl) (Nat.le_of_ble_eq_true rfl) (Nat.le_of_ble_eq_true rfl) (Nat.le_of_ble_eq_true rfl) dX2_init_7 ?_
  refine lv_topi (fun x10 ex10 => ?_)
  have ex10 : x10 = 12 := ex10.trans (by decide)
  subst ex10
  refine va_putF (D := D) (ci := 2) (v := .int 12) (ty := .int) (C := RX2) (T := TX2) (N := 3) hx hb hts inX2 tyX2 tyX2_ok nmX2 hown hK hP hD hS 0 rfl rfl 0 (by decide) (hts (.fieldLink RX2 15 "LoanHouse$Grid" "rows" "I") (List.mem_of_getElem? (i := 8) rfl)) (fun _ h9 => h9) rfl hmn rfl (by decide +kernel) rfl rfl (Nat.le_of_ble_eq_true rfl) dX2_init_10 (fun H locs hP hD hS => ?_)
  have hP : va_P D vwCl [(g, .inr (2, [.int 12, .int 0, .null]))] H := hP
  have hD : va_D AA [(g, .inr (2, [.int 12, .int 0, .null]))] := hD
  refine lv_aload_n hx hb dX2_init_13 rfl (lv_at hl 0 rfl) ?_
  refine lv_iload_n hx hb dX2_init_14 rfl (lv_at hl 2 rfl) ?_
  refine lv_iconst (v := 0) hx hb dX2_init_15 (by decide) ?_
  refine va_mmax hx hb (hml.trans hl.1.symm) hown (hts (.methodLink RX2 9 Lib.Math.max.name) (List.mem_of_getElem? (i := 4) rfl)) (hts (.static Lib.Math.max.name) (List.mem_of_getElem? (i := 5) rfl)) (hts (.initialized "java/lang/Math") (List.mem_of_getElem? (i := 6) rfl)) (hts (.code Lib.Math.max.name Lib.Math.max.code 2 (some .int)) (List.mem_of_getElem? (i := 7) rfl)) (Nat.le_of_ble_eq_true rfl) (Nat.le_of_ble_eq_true rfl) (Nat.le_of_ble_eq_true rfl) (Nat.le_of_ble_eq_true rfl) dX2_init_16 ?_
  refine lv_topi (fun x11 ex11 => ?_)
  have ex11 : x11 = 7 := ex11.trans (by decide)
  subst ex11
  refine va_putF (D := D) (ci := 2) (v := .int 7) (ty := .int) (C := RX2) (T := TX2) (N := 3) hx hb hts inX2 tyX2 tyX2_ok nmX2 hown hK hP hD hS 0 rfl rfl 1 (by decide) (hts (.fieldLink RX2 21 "LoanHouse$Grid" "columns" "I") (List.mem_of_getElem? (i := 9) rfl)) (fun _ h9 => h9) rfl hmn rfl (by decide +kernel) rfl rfl (Nat.le_of_ble_eq_true rfl) dX2_init_19 (fun H locs hP hD hS => ?_)
  have hP : va_P D vwCl [(g, .inr (2, [.int 12, .int 7, .null]))] H := hP
  have hD : va_D AA [(g, .inr (2, [.int 12, .int 7, .null]))] := hD
  refine lv_aload_n hx hb dX2_init_22 rfl (lv_at hl 0 rfl) ?_
  refine lv_aload_n hx hb dX2_init_23 rfl (lv_at hl 0 rfl) ?_
  refine va_get (D := D) (ci := 2) (v := .int 12) (C := RX2) (T := TX2) (N := 3) hx hb hts inX2 hown hK hP 0 rfl rfl 0 (by decide) (hts (.fieldLink RX2 15 "LoanHouse$Grid" "rows" "I") (List.mem_of_getElem? (i := 8) rfl)) (fun _ h9 => h9) rfl dX2_init_24 ?_
  refine lv_aload_n hx hb dX2_init_27 rfl (lv_at hl 0 rfl) ?_
  refine va_get (D := D) (ci := 2) (v := .int 7) (C := RX2) (T := TX2) (N := 3) hx hb hts inX2 hown hK hP 0 rfl rfl 1 (by decide) (hts (.fieldLink RX2 21 "LoanHouse$Grid" "columns" "I") (List.mem_of_getElem? (i := 9) rfl)) (fun _ h9 => h9) rfl dX2_init_28 ?_
  refine lv_imul hx hb dX2_init_31 ?_
  refine lv_topi (fun x12 ex12 => ?_)
  have ex12 : x12 = 84 := ex12.trans (by decide)
  subst ex12
  refine lv_iconst (v := 0) hx hb dX2_init_32 (by decide) ?_
  refine va_mmax hx hb (hml.trans hl.1.symm) hown (hts (.methodLink RX2 9 Lib.Math.max.name) (List.mem_of_getElem? (i := 4) rfl)) (hts (.static Lib.Math.max.name) (List.mem_of_getElem? (i := 5) rfl)) (hts (.initialized "java/lang/Math") (List.mem_of_getElem? (i := 6) rfl)) (hts (.code Lib.Math.max.name Lib.Math.max.code 2 (some .int)) (List.mem_of_getElem? (i := 7) rfl)) (Nat.le_of_ble_eq_true rfl) (Nat.le_of_ble_eq_true rfl) (Nat.le_of_ble_eq_true rfl) (Nat.le_of_ble_eq_true rfl) dX2_init_33 ?_
  refine lv_topi (fun x13 ex13 => ?_)
  have ex13 : x13 = 84 := ex13.trans (by decide)
  subst ex13
  refine va_newa (atype := .int) (ty := .int) (N' := 84) (a0 := (84, .inl (fun _ => 0))) hx hb (hts (.arrayClass .int) (List.mem_of_getElem? (i := 10) rfl)) rfl hK hP hD hS hA (fun _ => rfl) (by decide) (by decide) (by decide) (Nat.le_of_ble_eq_true rfl) (Nat.le_of_ble_eq_true rfl) dX2_init_36 (fun q14 cA15 H hK hP hD hS => ?_)
  have hP : va_P D vwCl [(g, .inr (2, [.int 12, .int 7, .null])), (q14, .inl (cA15, 84, .inl (fun _ => 0)))] H := hP
  have hD : va_D AA [(g, .inr (2, [.int 12, .int 7, .null])), (q14, .inl (cA15, 84, .inl (fun _ => 0)))] := hD
  have hK : va_K D vwCl [(cA15, .int)] ss := hK
  refine W.widen (k := 1) (n := 84) (Nat.le_of_ble_eq_true rfl) (Nat.le_of_ble_eq_true rfl) ?_
  refine va_putF (D := D) (ci := 2) (v := .ref q14) (ty := .array .int) (C := RX2) (T := TX2) (N := 3) hx hb hts inX2 tyX2 tyX2_ok nmX2 hown hK hP hD hS 0 rfl rfl 2 (by decide) (hts (.fieldLink RX2 24 "LoanHouse$Grid" "cells" "[I") (List.mem_of_getElem? (i := 11) rfl)) (fun _ h9 => h9) rfl hmn rfl (by decide +kernel) rfl rfl (Nat.le_of_ble_eq_true rfl) dX2_init_38 (fun H locs hP hD hS => ?_)
  have hP : va_P D vwCl [(g, .inr (2, [.int 12, .int 7, .ref q14])), (q14, .inl (cA15, 84, .inl (fun _ => 0)))] H := hP
  have hD : va_D AA [(g, .inr (2, [.int 12, .int 7, .ref q14])), (q14, .inl (cA15, 84, .inl (fun _ => 0)))] := hD
  exact hret (q14, cA15, fun _ => 0) (trivial) (m_P hP (is := [0, 1]) rfl) (hK.sub [0] rfl) (hD.sub [0, 1] (by decide) rfl) hS (Nat.le_of_ble_eq_true rfl) (Nat.le_of_ble_eq_true rfl) dX2_init_41
set_option maxHeartbeats 4000000 in
set_option maxRecDepth 100000 in
theorem c_X2_at (l : Launch) (D : va_G) (sz : Nat) (g a : Nat) (cA : ClassId) (R C n : Nat) (f : Nat → Int32) (row col : Int32) (hn : R * C ≤ n ∧ n < 2 ^ 31 ∧ R < 2 ^ 31 ∧ C < 2 ^ 31) : mI l yX2_at wsX2_at (rk 0 0 0) D [.ref g, .int row, .int col] [(cA, .int)] sz [(g, .inr (2, [.int (nI R), .int (nI C), .ref a])), (a, .inl (cA, n, .inl f))] (S := Unit) (fun r _ => row < 0 → r = -1) (fun _ => []) (fun _ => [(g, .inr (2, [.int (nI R), .int (nI C), .ref a])), (a, .inl (cA, n, .inl f))]) := by
  refine mI_of (cc := cX2_at) (maxL := 3) (ty := .int) (plainFor_of_name (by decide)) rfl (Nat.le_of_ble_eq_true rfl) ?_
  intro pp ee ss mm bl mt cd AA QQ hx hb hml hts hown hN hA hK hP hD hS hret ls hl
  have hl : lv_has ls 3 [(0, .ref g), (1, .int row), (2, .int col)] := hl
  have inX2 : ∀ w ∈ wsX20, w ∈ wsX2_at := fun _ h => List.mem_cons_of_mem _ (List.mem_append_right _ h)
  refine lv_iload_n hx hb dX2_at_0 rfl (lv_at hl 1 rfl) ?_
  refine lv_if_lt (tgt := 24) hx hb dX2_at_1 (by decide) (fun zc1 => ?_) (fun zc1 => ?_)
  · refine lv_iconst (v := (-1)) hx hb dX2_at_24 (by decide) ?_
    exact hret (-1) () rfl (fun _ => rfl) hP (hK.sub [] rfl) hD hS (Nat.le_of_ble_eq_true rfl) (Nat.le_of_ble_eq_true rfl) dX2_at_25
  · refine lv_iload_n hx hb dX2_at_4 rfl (lv_at hl 1 rfl) ?_
    refine lv_aload_n hx hb dX2_at_5 rfl (lv_at hl 0 rfl) ?_
    refine va_get (D := D) (ci := 2) (v := .int (nI R)) (C := RX2) (T := TX2) (N := 3) hx hb hts inX2 hown hK hP 0 rfl rfl 0 (by decide) (hts (.fieldLink RX2 15 "LoanHouse$Grid" "rows" "I") (List.mem_of_getElem? (i := 1) rfl)) (fun _ h9 => h9) rfl dX2_at_6 ?_
    refine lv_icmp_ge (tgt := 24) hx hb dX2_at_9 (by decide) (fun zc9 => ?_) (fun zc9 => ?_)
    · refine lv_iconst (v := (-1)) hx hb dX2_at_24 (by decide) ?_
      exact hret (-1) () rfl (fun _ => rfl) hP (hK.sub [] rfl) hD hS (Nat.le_of_ble_eq_true rfl) (Nat.le_of_ble_eq_true rfl) dX2_at_25
    · refine lv_iload_n hx hb dX2_at_12 rfl (lv_at hl 2 rfl) ?_
      refine lv_if_lt (tgt := 24) hx hb dX2_at_13 (by decide) (fun zc13 => ?_) (fun zc13 => ?_)
      · refine lv_iconst (v := (-1)) hx hb dX2_at_24 (by decide) ?_
        exact hret (-1) () rfl (fun _ => rfl) hP (hK.sub [] rfl) hD hS (Nat.le_of_ble_eq_true rfl) (Nat.le_of_ble_eq_true rfl) dX2_at_25
      · refine lv_iload_n hx hb dX2_at_16 rfl (lv_at hl 2 rfl) ?_
        refine lv_aload_n hx hb dX2_at_17 rfl (lv_at hl 0 rfl) ?_
        refine va_get (D := D) (ci := 2) (v := .int (nI C)) (C := RX2) (T := TX2) (N := 3) hx hb hts inX2 hown hK hP 0 rfl rfl 1 (by decide) (hts (.fieldLink RX2 21 "LoanHouse$Grid" "columns" "I") (List.mem_of_getElem? (i := 2) rfl)) (fun _ h9 => h9) rfl dX2_at_18 ?_
        refine lv_icmp_lt (tgt := 26) hx hb dX2_at_21 (by decide) (fun zc21 => ?_) (fun zc21 => ?_)
        · refine lv_aload_n hx hb dX2_at_26 rfl (lv_at hl 0 rfl) ?_
          refine va_get (D := D) (ci := 2) (v := .ref a) (C := RX2) (T := TX2) (N := 3) hx hb hts inX2 hown hK hP 0 rfl rfl 2 (by decide) (hts (.fieldLink RX2 24 "LoanHouse$Grid" "cells" "[I") (List.mem_of_getElem? (i := 3) rfl)) (fun _ h9 => h9) rfl dX2_at_27 ?_
          refine lv_iload_n hx hb dX2_at_30 rfl (lv_at hl 1 rfl) ?_
          refine lv_aload_n hx hb dX2_at_31 rfl (lv_at hl 0 rfl) ?_
          refine va_get (D := D) (ci := 2) (v := .int (nI C)) (C := RX2) (T := TX2) (N := 3) hx hb hts inX2 hown hK hP 0 rfl rfl 1 (by decide) (hts (.fieldLink RX2 21 "LoanHouse$Grid" "columns" "I") (List.mem_of_getElem? (i := 2) rfl)) (fun _ h9 => h9) rfl dX2_at_32 ?_
          refine lv_imul hx hb dX2_at_35 ?_
          refine lv_topi (fun x16 ex16 => ?_)
          refine lv_iload_n hx hb dX2_at_36 rfl (lv_at hl 2 rfl) ?_
          refine lv_iadd hx hb dX2_at_37 ?_
          refine lv_topi (fun x17 ex17 => ?_)
          refine va_iald hx hb hK hP 1 0 rfl rfl (gi_ok hn.1 hn.2.1 hn.2.2.1 hn.2.2.2 zc1 zc9 zc13 zc21 ex16 ex17) dX2_at_38 ?_
          refine lv_topi (fun x18 ex18 => ?_)
          exact hret x18 () rfl (fun h => absurd h zc1) hP (hK.sub [] rfl) hD hS (Nat.le_of_ble_eq_true rfl) (Nat.le_of_ble_eq_true rfl) dX2_at_39
        · refine lv_iconst (v := (-1)) hx hb dX2_at_24 (by decide) ?_
          exact hret (-1) () rfl (fun _ => rfl) hP (hK.sub [] rfl) hD hS (Nat.le_of_ble_eq_true rfl) (Nat.le_of_ble_eq_true rfl) dX2_at_25
set_option maxHeartbeats 4000000 in
set_option maxRecDepth 100000 in
theorem c_X2_put (l : Launch) (D : va_G) (sz : Nat) (g a : Nat) (cA : ClassId) (R C n : Nat) (f : Nat → Int32) (row col v : Int32) (hn : R * C ≤ n ∧ n < 2 ^ 31 ∧ R < 2 ^ 31 ∧ C < 2 ^ 31) : mV l yX2_put wsX2_put (rk 0 0 0) D [.ref g, .int row, .int col, .int v] [(cA, .int)] sz [(g, .inr (2, [.int (nI R), .int (nI C), .ref a])), (a, .inl (cA, n, .inl f))] (S := Nat → Int32) (fun _ => True) (fun _ => []) (fun u => [(g, .inr (2, [.int (nI R), .int (nI C), .ref a])), (a, .inl (cA, n, .inl u))]) := by
  refine mV_of (cc := cX2_put) (maxL := 4) (plainFor_of_name (by decide)) rfl (Nat.le_of_ble_eq_true rfl) ?_
  intro pp ee ss mm bl mt cd AA QQ hx hb hml hts hown hN hA hK hP hD hS hmn hret ls hl
  have hl : lv_has ls 4 [(0, .ref g), (1, .int row), (2, .int col), (3, .int v)] := hl
  have inX2 : ∀ w ∈ wsX20, w ∈ wsX2_put := fun _ h => List.mem_cons_of_mem _ (List.mem_append_right _ h)
  refine lv_iload_n hx hb dX2_put_0 rfl (lv_at hl 1 rfl) ?_
  refine lv_if_lt (tgt := 24) hx hb dX2_put_1 (by decide) (fun zc1 => ?_) (fun zc1 => ?_)
  · exact hret f (trivial) (m_P hP (is := [0, 1]) rfl) (hK.sub [] rfl) (hD.sub [0, 1] (by decide) rfl) hS (Nat.le_of_ble_eq_true rfl) (Nat.le_of_ble_eq_true rfl) dX2_put_24
  · refine lv_iload_n hx hb dX2_put_4 rfl (lv_at hl 1 rfl) ?_
    refine lv_aload_n hx hb dX2_put_5 rfl (lv_at hl 0 rfl) ?_
    refine va_get (D := D) (ci := 2) (v := .int (nI R)) (C := RX2) (T := TX2) (N := 3) hx hb hts inX2 hown hK hP 0 rfl rfl 0 (by decide) (hts (.fieldLink RX2 15 "LoanHouse$Grid" "rows" "I") (List.mem_of_getElem? (i := 1) rfl)) (fun _ h9 => h9) rfl dX2_put_6 ?_
    refine lv_icmp_ge (tgt := 24) hx hb dX2_put_9 (by decide) (fun zc9 => ?_) (fun zc9 => ?_)
    · exact hret f (trivial) (m_P hP (is := [0, 1]) rfl) (hK.sub [] rfl) (hD.sub [0, 1] (by decide) rfl) hS (Nat.le_of_ble_eq_true rfl) (Nat.le_of_ble_eq_true rfl) dX2_put_24
    · refine lv_iload_n hx hb dX2_put_12 rfl (lv_at hl 2 rfl) ?_
      refine lv_if_lt (tgt := 24) hx hb dX2_put_13 (by decide) (fun zc13 => ?_) (fun zc13 => ?_)
      · exact hret f (trivial) (m_P hP (is := [0, 1]) rfl) (hK.sub [] rfl) (hD.sub [0, 1] (by decide) rfl) hS (Nat.le_of_ble_eq_true rfl) (Nat.le_of_ble_eq_true rfl) dX2_put_24
      · refine lv_iload_n hx hb dX2_put_16 rfl (lv_at hl 2 rfl) ?_
        refine lv_aload_n hx hb dX2_put_17 rfl (lv_at hl 0 rfl) ?_
        refine va_get (D := D) (ci := 2) (v := .int (nI C)) (C := RX2) (T := TX2) (N := 3) hx hb hts inX2 hown hK hP 0 rfl rfl 1 (by decide) (hts (.fieldLink RX2 21 "LoanHouse$Grid" "columns" "I") (List.mem_of_getElem? (i := 2) rfl)) (fun _ h9 => h9) rfl dX2_put_18 ?_
        refine lv_icmp_lt (tgt := 25) hx hb dX2_put_21 (by decide) (fun zc21 => ?_) (fun zc21 => ?_)
        · refine lv_aload_n hx hb dX2_put_25 rfl (lv_at hl 0 rfl) ?_
          refine va_get (D := D) (ci := 2) (v := .ref a) (C := RX2) (T := TX2) (N := 3) hx hb hts inX2 hown hK hP 0 rfl rfl 2 (by decide) (hts (.fieldLink RX2 24 "LoanHouse$Grid" "cells" "[I") (List.mem_of_getElem? (i := 3) rfl)) (fun _ h9 => h9) rfl dX2_put_26 ?_
          refine lv_iload_n hx hb dX2_put_29 rfl (lv_at hl 1 rfl) ?_
          refine lv_aload_n hx hb dX2_put_30 rfl (lv_at hl 0 rfl) ?_
          refine va_get (D := D) (ci := 2) (v := .int (nI C)) (C := RX2) (T := TX2) (N := 3) hx hb hts inX2 hown hK hP 0 rfl rfl 1 (by decide) (hts (.fieldLink RX2 21 "LoanHouse$Grid" "columns" "I") (List.mem_of_getElem? (i := 2) rfl)) (fun _ h9 => h9) rfl dX2_put_31 ?_
          refine lv_imul hx hb dX2_put_34 ?_
          refine lv_topi (fun x19 ex19 => ?_)
          refine lv_iload_n hx hb dX2_put_35 rfl (lv_at hl 2 rfl) ?_
          refine lv_iadd hx hb dX2_put_36 ?_
          refine lv_topi (fun x20 ex20 => ?_)
          refine lv_iload_n hx hb dX2_put_37 rfl (lv_at hl 3 rfl) ?_
          refine va_iast hx hb hK hP hD hS 1 0 rfl rfl (gi_ok hn.1 hn.2.1 hn.2.2.1 hn.2.2.2 zc1 zc9 zc13 zc21 ex19 ex20) dX2_put_38 (fun H locs hP hD hS => ?_)
          have hP : va_P D vwCl [(g, .inr (2, [.int (nI R), .int (nI C), .ref a])), (a, .inl (cA, n, .inl (upd f x20.toNatClampNeg v)))] H := hP
          have hD : va_D AA [(g, .inr (2, [.int (nI R), .int (nI C), .ref a])), (a, .inl (cA, n, .inl (upd f x20.toNatClampNeg v)))] := hD
          obtain ⟨f21, ef21⟩ : ∃ g : Nat → Int32, g = upd f x20.toNatClampNeg v := ⟨_, rfl⟩
          rw [← ef21] at hP hD
          exact hret f21 (trivial) (m_P hP (is := [0, 1]) rfl) (hK.sub [] rfl) (hD.sub [0, 1] (by decide) rfl) hS (Nat.le_of_ble_eq_true rfl) (Nat.le_of_ble_eq_true rfl) dX2_put_39
        · exact hret f (trivial) (m_P hP (is := [0, 1]) rfl) (hK.sub [] rfl) (hD.sub [0, 1] (by decide) rfl) hS (Nat.le_of_ble_eq_true rfl) (Nat.le_of_ble_eq_true rfl) dX2_put_24
set_option maxHeartbeats 4000000 in
set_option maxRecDepth 100000 in
theorem c_X2_become (l : Launch) (D : va_G) (sz : Nat) (g a g2 a2 : Nat) (cA cA2 : ClassId) (r0 k0 r2 k2 : Int32) (n : Nat) (f f2 : Nat → Int32) (hn : n < 2 ^ 31) : mV l yX2_become wsX2_become (rk 1 0 0) D [.ref g, .ref g2] [(cA, .int), (cA2, .int)] sz [(g, .inr (2, [.int r0, .int k0, .ref a])), (a, .inl (cA, n, .inl f)), (g2, .inr (2, [.int r2, .int k2, .ref a2])), (a2, .inl (cA2, n, .inl f2))] (S := Unit) (fun _ => True) (fun _ => []) (fun _ => [(g2, .inr (2, [.int r2, .int k2, .ref a2])), (a2, .inl (cA2, n, .inl f2))]) := by
  refine mV_of (cc := cX2_become) (maxL := 2) (plainFor_of_name (by decide)) rfl (Nat.le_of_ble_eq_true rfl) ?_
  intro pp ee ss mm bl mt cd AA QQ hx hb hml hts hown hN hA hK hP hD hS hmn hret ls hl
  have hl : lv_has ls 2 [(0, .ref g), (1, .ref g2)] := hl
  have inX2 : ∀ w ∈ wsX20, w ∈ wsX2_become := fun _ h => List.mem_cons_of_mem _ (List.mem_append_right _ h)
  refine lv_aload_n hx hb dX2_become_0 rfl (lv_at hl 1 rfl) ?_
  refine va_get (D := D) (ci := 2) (v := .ref a2) (C := RX2) (T := TX2) (N := 3) hx hb hts inX2 hown hK hP 2 rfl rfl 2 (by decide) (hts (.fieldLink RX2 24 "LoanHouse$Grid" "cells" "[I") (List.mem_of_getElem? (i := 1) rfl)) (fun _ h9 => h9) rfl dX2_become_1 ?_
  refine lv_iconst (v := 0) hx hb dX2_become_4 (by decide) ?_
  refine lv_aload_n hx hb dX2_become_5 rfl (lv_at hl 0 rfl) ?_
  refine va_get (D := D) (ci := 2) (v := .ref a) (C := RX2) (T := TX2) (N := 3) hx hb hts inX2 hown hK hP 0 rfl rfl 2 (by decide) (hts (.fieldLink RX2 24 "LoanHouse$Grid" "cells" "[I") (List.mem_of_getElem? (i := 1) rfl)) (fun _ h9 => h9) rfl dX2_become_6 ?_
  refine lv_iconst (v := 0) hx hb dX2_become_9 (by decide) ?_
  refine lv_aload_n hx hb dX2_become_10 rfl (lv_at hl 0 rfl) ?_
  refine va_get (D := D) (ci := 2) (v := .ref a) (C := RX2) (T := TX2) (N := 3) hx hb hts inX2 hown hK hP 0 rfl rfl 2 (by decide) (hts (.fieldLink RX2 24 "LoanHouse$Grid" "cells" "[I") (List.mem_of_getElem? (i := 1) rfl)) (fun _ h9 => h9) rfl dX2_become_11 ?_
  refine va_alen hx hb hK hP 1 0 rfl rfl (v := nI n) rfl dX2_become_14 ?_
  refine lv_aload_n hx hb dX2_become_15 rfl (lv_at hl 1 rfl) ?_
  refine va_get (D := D) (ci := 2) (v := .ref a2) (C := RX2) (T := TX2) (N := 3) hx hb hts inX2 hown hK hP 2 rfl rfl 2 (by decide) (hts (.fieldLink RX2 24 "LoanHouse$Grid" "cells" "[I") (List.mem_of_getElem? (i := 1) rfl)) (fun _ h9 => h9) rfl dX2_become_16 ?_
  refine va_alen hx hb hK hP 3 1 rfl rfl (v := nI n) rfl dX2_become_19 ?_
  refine va_mmin hx hb (hml.trans hl.1.symm) hown (hts (.methodLink RX2 34 Lib.Math.min.name) (List.mem_of_getElem? (i := 2) rfl)) (hts (.static Lib.Math.min.name) (List.mem_of_getElem? (i := 3) rfl)) (hts (.initialized "java/lang/Math") (List.mem_of_getElem? (i := 4) rfl)) (hts (.code Lib.Math.min.name Lib.Math.min.code 2 (some .int)) (List.mem_of_getElem? (i := 5) rfl)) (Nat.le_of_ble_eq_true rfl) (Nat.le_of_ble_eq_true rfl) (Nat.le_of_ble_eq_true rfl) (Nat.le_of_ble_eq_true rfl) dX2_become_20 ?_
  refine lv_topi (fun x22 ex22 => ?_)
  have ex22 : x22 = nI n := ex22.trans (by split <;> rfl)
  subst ex22
  refine va_copyi (ty := .int) hx hb (hml.trans hl.1.symm) hown (hts (.methodLink RX2 28 arraycopyName) (List.mem_of_getElem? (i := 6) rfl)) (hts (.native arraycopyName) (List.mem_of_getElem? (i := 7) rfl)) (hts (.static arraycopyName) (List.mem_of_getElem? (i := 8) rfl)) (hts (.initialized "java/lang/System") (List.mem_of_getElem? (i := 9) rfl)) hK hP hD hS 3 1 1 0 rfl rfl rfl rfl rfl (by decide) (by decide) (nI_pos hn) (by rw [sb_cl0, nI_clamp hn]; omega) (by rw [sb_cl0, nI_clamp hn]; omega) (fun _ _ => rfl) (Nat.le_of_ble_eq_true rfl) (Nat.le_of_ble_eq_true rfl) dX2_become_23 (fun H locs hP hD hS => ?_)
  have hP : va_P D vwCl [(g, .inr (2, [.int r0, .int k0, .ref a])), (a, .inl (cA, n, .inl (va_cpy f2 f (0 : Int32).toNatClampNeg (0 : Int32).toNatClampNeg (nI n).toNatClampNeg))), (g2, .inr (2, [.int r2, .int k2, .ref a2])), (a2, .inl (cA2, n, .inl f2))] H := hP
  have hD : va_D AA [(g, .inr (2, [.int r0, .int k0, .ref a])), (a, .inl (cA, n, .inl (va_cpy f2 f (0 : Int32).toNatClampNeg (0 : Int32).toNatClampNeg (nI n).toNatClampNeg))), (g2, .inr (2, [.int r2, .int k2, .ref a2])), (a2, .inl (cA2, n, .inl f2))] := hD
  exact hret () (trivial) (m_P hP (is := [2, 3]) rfl) (hK.sub [] rfl) (hD.sub [2, 3] (by decide) rfl) hS (Nat.le_of_ble_eq_true rfl) (Nat.le_of_ble_eq_true rfl) dX2_become_26
set_option maxHeartbeats 4000000 in
set_option maxRecDepth 100000 in
theorem c_X0_init (l : Launch) (D : va_G) (sz : Nat) (k : Nat) : mV l yX0_init wsX0_init (rk 1 0 0) D [.ref k] [] sz [(k, .inr (0, [.int 0, .int 0, .int 0, .int 0]))] (S := Unit) (fun _ => True) (fun _ => []) (fun _ => [(k, .inr (0, [.int 0, .int 14, .int 3, .int 64]))]) := by
  refine mV_of (cc := cX0_init) (maxL := 1) (plainFor_of_name (by decide)) rfl (Nat.le_of_ble_eq_true rfl) ?_
  intro pp ee ss mm bl mt cd AA QQ hx hb hml hts hown hN hA hK hP hD hS hmn hret ls hl
  have hl : lv_has ls 1 [(0, .ref k)] := hl
  have inX0 : ∀ w ∈ wsX00, w ∈ wsX0_init := fun _ h => List.mem_cons_of_mem _ (List.mem_append_right _ h)
  refine lv_aload_n hx hb dX0_init_0 rfl (lv_at hl 0 rfl) ?_
  refine W.objInit hx hb hown (hts (.methodLink RX0 3 objectInit) (List.mem_of_getElem? (i := 1) rfl)) (hts (.instanceMethod objectInit) (List.mem_of_getElem? (i := 2) rfl)) (hts (.code objectInit ⟨#[0xb1]⟩ 1 none) (List.mem_of_getElem? (i := 3) rfl)) rfl (by rw [hml]; exact hl.1) rfl dX0_init_1 (Nat.le_of_ble_eq_true rfl) (Nat.le_of_ble_eq_true rfl) ?_
  refine W.eq (g2 := F0 mm 4 ls []) rfl ?_
  refine lv_aload_n hx hb dX0_init_4 rfl (lv_at hl 0 rfl) ?_
  refine lv_bipush (v := 14) hx hb dX0_init_5 (by decide) ?_
  refine va_put (D := D) (ci := 0) (v := .int 14) (ty := .int) (C := RX0) (T := TX0) (N := 4) hx hb hts inX0 tyX0 tyX0_ok nmX0 hown hK hP hD hS 0 rfl rfl 1 (by decide) (hts (.fieldLink RX0 9 "LoanHouse$Calendar" "term" "I") (List.mem_of_getElem? (i := 4) rfl)) (fun _ h9 => h9) rfl (by decide +kernel) rfl rfl (Nat.le_of_ble_eq_true rfl) dX0_init_7 (fun H locs hP hD hS => ?_)
  have hP : va_P D vwCl [(k, .inr (0, [.int 0, .int 14, .int 0, .int 0]))] H := hP
  have hD : va_D AA [(k, .inr (0, [.int 0, .int 14, .int 0, .int 0]))] := hD
  refine lv_aload_n hx hb dX0_init_10 rfl (lv_at hl 0 rfl) ?_
  refine lv_iconst (v := 3) hx hb dX0_init_11 (by decide) ?_
  refine va_put (D := D) (ci := 0) (v := .int 3) (ty := .int) (C := RX0) (T := TX0) (N := 4) hx hb hts inX0 tyX0 tyX0_ok nmX0 hown hK hP hD hS 0 rfl rfl 2 (by decide) (hts (.fieldLink RX0 15 "LoanHouse$Calendar" "patience" "I") (List.mem_of_getElem? (i := 5) rfl)) (fun _ h9 => h9) rfl (by decide +kernel) rfl rfl (Nat.le_of_ble_eq_true rfl) dX0_init_12 (fun H locs hP hD hS => ?_)
  have hP : va_P D vwCl [(k, .inr (0, [.int 0, .int 14, .int 3, .int 0]))] H := hP
  have hD : va_D AA [(k, .inr (0, [.int 0, .int 14, .int 3, .int 0]))] := hD
  refine lv_aload_n hx hb dX0_init_15 rfl (lv_at hl 0 rfl) ?_
  refine lv_bipush (v := 64) hx hb dX0_init_16 (by decide) ?_
  refine va_put (D := D) (ci := 0) (v := .int 64) (ty := .int) (C := RX0) (T := TX0) (N := 4) hx hb hts inX0 tyX0 tyX0_ok nmX0 hown hK hP hD hS 0 rfl rfl 3 (by decide) (hts (.fieldLink RX0 18 "LoanHouse$Calendar" "closed" "I") (List.mem_of_getElem? (i := 6) rfl)) (fun _ h9 => h9) rfl (by decide +kernel) rfl rfl (Nat.le_of_ble_eq_true rfl) dX0_init_18 (fun H locs hP hD hS => ?_)
  have hP : va_P D vwCl [(k, .inr (0, [.int 0, .int 14, .int 3, .int 64]))] H := hP
  have hD : va_D AA [(k, .inr (0, [.int 0, .int 14, .int 3, .int 64]))] := hD
  exact hret () (trivial) (m_P hP (is := [0]) rfl) (hK.sub [] rfl) (hD.sub [0] (by decide) rfl) hS (Nat.le_of_ble_eq_true rfl) (Nat.le_of_ble_eq_true rfl) dX0_init_21
set_option maxHeartbeats 4000000 in
set_option maxRecDepth 100000 in
theorem c_X0_become (l : Launch) (D : va_G) (sz : Nat) (k k2 : Nat) (a b c d a2 b2 c2 d2 : Int32) : mV l yX0_become wsX0_become (rk 0 0 0) D [.ref k, .ref k2] [] sz [(k, .inr (0, [.int a, .int b, .int c, .int d])), (k2, .inr (0, [.int a2, .int b2, .int c2, .int d2]))] (S := Unit) (fun _ => True) (fun _ => []) (fun _ => [(k2, .inr (0, [.int a2, .int b2, .int c2, .int d2]))]) := by
  refine mV_of (cc := cX0_become) (maxL := 2) (plainFor_of_name (by decide)) rfl (Nat.le_of_ble_eq_true rfl) ?_
  intro pp ee ss mm bl mt cd AA QQ hx hb hml hts hown hN hA hK hP hD hS hmn hret ls hl
  have hl : lv_has ls 2 [(0, .ref k), (1, .ref k2)] := hl
  have inX0 : ∀ w ∈ wsX00, w ∈ wsX0_become := fun _ h => List.mem_cons_of_mem _ (List.mem_append_right _ h)
  refine lv_aload_n hx hb dX0_become_0 rfl (lv_at hl 0 rfl) ?_
  refine lv_aload_n hx hb dX0_become_1 rfl (lv_at hl 1 rfl) ?_
  refine va_get (D := D) (ci := 0) (v := .int a2) (C := RX0) (T := TX0) (N := 4) hx hb hts inX0 hown hK hP 1 rfl rfl 0 (by decide) (hts (.fieldLink RX0 27 "LoanHouse$Calendar" "now" "I") (List.mem_of_getElem? (i := 1) rfl)) (fun _ h9 => h9) rfl dX0_become_2 ?_
  refine va_put (D := D) (ci := 0) (v := .int a2) (ty := .int) (C := RX0) (T := TX0) (N := 4) hx hb hts inX0 tyX0 tyX0_ok nmX0 hown hK hP hD hS 0 rfl rfl 0 (by decide) (hts (.fieldLink RX0 27 "LoanHouse$Calendar" "now" "I") (List.mem_of_getElem? (i := 1) rfl)) (fun _ h9 => h9) rfl (by decide +kernel) rfl rfl (Nat.le_of_ble_eq_true rfl) dX0_become_5 (fun H locs hP hD hS => ?_)
  have hP : va_P D vwCl [(k, .inr (0, [.int a2, .int b, .int c, .int d])), (k2, .inr (0, [.int a2, .int b2, .int c2, .int d2]))] H := hP
  have hD : va_D AA [(k, .inr (0, [.int a2, .int b, .int c, .int d])), (k2, .inr (0, [.int a2, .int b2, .int c2, .int d2]))] := hD
  refine lv_aload_n hx hb dX0_become_8 rfl (lv_at hl 0 rfl) ?_
  refine lv_aload_n hx hb dX0_become_9 rfl (lv_at hl 1 rfl) ?_
  refine va_get (D := D) (ci := 0) (v := .int b2) (C := RX0) (T := TX0) (N := 4) hx hb hts inX0 hown hK hP 1 rfl rfl 1 (by decide) (hts (.fieldLink RX0 9 "LoanHouse$Calendar" "term" "I") (List.mem_of_getElem? (i := 2) rfl)) (fun _ h9 => h9) rfl dX0_become_10 ?_
  refine va_put (D := D) (ci := 0) (v := .int b2) (ty := .int) (C := RX0) (T := TX0) (N := 4) hx hb hts inX0 tyX0 tyX0_ok nmX0 hown hK hP hD hS 0 rfl rfl 1 (by decide) (hts (.fieldLink RX0 9 "LoanHouse$Calendar" "term" "I") (List.mem_of_getElem? (i := 2) rfl)) (fun _ h9 => h9) rfl (by decide +kernel) rfl rfl (Nat.le_of_ble_eq_true rfl) dX0_become_13 (fun H locs hP hD hS => ?_)
  have hP : va_P D vwCl [(k, .inr (0, [.int a2, .int b2, .int c, .int d])), (k2, .inr (0, [.int a2, .int b2, .int c2, .int d2]))] H := hP
  have hD : va_D AA [(k, .inr (0, [.int a2, .int b2, .int c, .int d])), (k2, .inr (0, [.int a2, .int b2, .int c2, .int d2]))] := hD
  refine lv_aload_n hx hb dX0_become_16 rfl (lv_at hl 0 rfl) ?_
  refine lv_aload_n hx hb dX0_become_17 rfl (lv_at hl 1 rfl) ?_
  refine va_get (D := D) (ci := 0) (v := .int c2) (C := RX0) (T := TX0) (N := 4) hx hb hts inX0 hown hK hP 1 rfl rfl 2 (by decide) (hts (.fieldLink RX0 15 "LoanHouse$Calendar" "patience" "I") (List.mem_of_getElem? (i := 3) rfl)) (fun _ h9 => h9) rfl dX0_become_18 ?_
  refine va_put (D := D) (ci := 0) (v := .int c2) (ty := .int) (C := RX0) (T := TX0) (N := 4) hx hb hts inX0 tyX0 tyX0_ok nmX0 hown hK hP hD hS 0 rfl rfl 2 (by decide) (hts (.fieldLink RX0 15 "LoanHouse$Calendar" "patience" "I") (List.mem_of_getElem? (i := 3) rfl)) (fun _ h9 => h9) rfl (by decide +kernel) rfl rfl (Nat.le_of_ble_eq_true rfl) dX0_become_21 (fun H locs hP hD hS => ?_)
  have hP : va_P D vwCl [(k, .inr (0, [.int a2, .int b2, .int c2, .int d])), (k2, .inr (0, [.int a2, .int b2, .int c2, .int d2]))] H := hP
  have hD : va_D AA [(k, .inr (0, [.int a2, .int b2, .int c2, .int d])), (k2, .inr (0, [.int a2, .int b2, .int c2, .int d2]))] := hD
  refine lv_aload_n hx hb dX0_become_24 rfl (lv_at hl 0 rfl) ?_
  refine lv_aload_n hx hb dX0_become_25 rfl (lv_at hl 1 rfl) ?_
  refine va_get (D := D) (ci := 0) (v := .int d2) (C := RX0) (T := TX0) (N := 4) hx hb hts inX0 hown hK hP 1 rfl rfl 3 (by decide) (hts (.fieldLink RX0 18 "LoanHouse$Calendar" "closed" "I") (List.mem_of_getElem? (i := 4) rfl)) (fun _ h9 => h9) rfl dX0_become_26 ?_
  refine va_put (D := D) (ci := 0) (v := .int d2) (ty := .int) (C := RX0) (T := TX0) (N := 4) hx hb hts inX0 tyX0 tyX0_ok nmX0 hown hK hP hD hS 0 rfl rfl 3 (by decide) (hts (.fieldLink RX0 18 "LoanHouse$Calendar" "closed" "I") (List.mem_of_getElem? (i := 4) rfl)) (fun _ h9 => h9) rfl (by decide +kernel) rfl rfl (Nat.le_of_ble_eq_true rfl) dX0_become_29 (fun H locs hP hD hS => ?_)
  have hP : va_P D vwCl [(k, .inr (0, [.int a2, .int b2, .int c2, .int d2])), (k2, .inr (0, [.int a2, .int b2, .int c2, .int d2]))] H := hP
  have hD : va_D AA [(k, .inr (0, [.int a2, .int b2, .int c2, .int d2])), (k2, .inr (0, [.int a2, .int b2, .int c2, .int d2]))] := hD
  exact hret () (trivial) (m_P hP (is := [1]) rfl) (hK.sub [] rfl) (hD.sub [1] (by decide) rfl) hS (Nat.le_of_ble_eq_true rfl) (Nat.le_of_ble_eq_true rfl) dX0_become_32
set_option maxHeartbeats 4000000 in
set_option maxRecDepth 100000 in
theorem c_X0_isClosed (l : Launch) (D : va_G) (sz : Nat) (k : Nat) (a b c : Int32) : mI l yX0_isClosed wsX0_isClosed (rk 1 0 0) D [.ref k, .int 0] [] sz [(k, .inr (0, [.int a, .int b, .int c, .int 64]))] (S := Unit) (fun r _ => r = 0) (fun _ => []) (fun _ => [(k, .inr (0, [.int a, .int b, .int c, .int 64]))]) := by
  refine mI_of (cc := cX0_isClosed) (maxL := 2) (ty := .boolean) (plainFor_of_name (by decide)) rfl (Nat.le_of_ble_eq_true rfl) ?_
  intro pp ee ss mm bl mt cd AA QQ hx hb hml hts hown hN hA hK hP hD hS hret ls hl
  have hl : lv_has ls 2 [(0, .ref k), (1, .int 0)] := hl
  have inX0 : ∀ w ∈ wsX00, w ∈ wsX0_isClosed := fun _ h => List.mem_cons_of_mem _ (List.mem_append_right _ h)
  refine lv_aload_n hx hb dX0_isClosed_0 rfl (lv_at hl 0 rfl) ?_
  refine va_get (D := D) (ci := 0) (v := .int 64) (C := RX0) (T := TX0) (N := 4) hx hb hts inX0 hown hK hP 0 rfl rfl 3 (by decide) (hts (.fieldLink RX0 18 "LoanHouse$Calendar" "closed" "I") (List.mem_of_getElem? (i := 1) rfl)) (fun _ h9 => h9) rfl dX0_isClosed_1 ?_
  refine lv_iload_n hx hb dX0_isClosed_4 rfl (lv_at hl 1 rfl) ?_
  refine lv_bipush (v := 7) hx hb dX0_isClosed_5 (by decide) ?_
  refine k_pi (va_runS (As := [.int 0, .int 7]) (rest := [.int 64]) ⟨hx, hb, hml, hown, hts⟩ (c_floorMod l D ss.heap.size 0 7 (by decide)) (va_cwS 2 hts gX0_isClosed_J9_floorMod_7cf53 rfl rfl rfl (by decide +kernel) ⟨(Nat.le_of_ble_eq_true rfl), (Nat.le_of_ble_eq_true rfl)⟩) ⟨mP_blind, m_pre _ hN hK hP hD [] rfl [] rfl (by decide)⟩ rfl rfl hl.1 rfl (lv_room (Nat.le_of_ble_eq_true rfl)) dX0_isClosed_7 ⟨(Nat.le_of_ble_eq_true rfl), (Nat.le_of_ble_eq_true rfl)⟩) hP hD hS hA [] rfl (fun r23 u H locs hw hP hS => ?_)
  have zw7 := hw
  have e9 : r23 = 0 := zw7 rfl rfl
  subst e9
  refine lv_ishr hx hb dX0_isClosed_10 ?_
  refine lv_topi (fun x24 ex24 => ?_)
  have ex24 : x24 = 64 := ex24.trans (by decide)
  subst ex24
  refine lv_iconst (v := 1) hx hb dX0_isClosed_11 (by decide) ?_
  refine lv_iand hx hb dX0_isClosed_12 ?_
  refine lv_topi (fun x25 ex25 => ?_)
  have ex25 : x25 = 0 := ex25.trans (by decide)
  subst ex25
  refine lv_iconst (v := 1) hx hb dX0_isClosed_13 (by decide) ?_
  refine lv_icmp_ne (tgt := 21) hx hb dX0_isClosed_14 (by decide) (fun zc14 => ?_) (fun hc => absurd hc (by decide))
  refine lv_iconst (v := 0) hx hb dX0_isClosed_21 (by decide) ?_
  exact hret 0 () rfl (rfl) hP (hK.sub [] rfl) hD hS (Nat.le_of_ble_eq_true rfl) (Nat.le_of_ble_eq_true rfl) dX0_isClosed_22
set_option maxHeartbeats 4000000 in
set_option maxRecDepth 100000 in
theorem c_X0_allows (l : Launch) (D : va_G) (sz : Nat) (w v : Int32) : mI l yX0_allows wsX0_allows (rk 0 0 0) D [.int w, .int v] [] sz [] (S := Unit) (fun r _ => (r = 1 ∧ p_set w v) ∨ (r = 0 ∧ ¬ p_set w v)) (fun _ => []) (fun _ => []) := by
  refine mI_of (cc := cX0_allows) (maxL := 2) (ty := .boolean) (plainFor_of_name (by decide)) rfl (Nat.le_of_ble_eq_true rfl) ?_
  intro pp ee ss mm bl mt cd AA QQ hx hb hml hts hown hN hA hK hP hD hS hret ls hl
  have hl : lv_has ls 2 [(0, .int w), (1, .int v)] := hl
  refine lv_iload_n hx hb dX0_allows_0 rfl (lv_at hl 0 rfl) ?_
  refine sw_split w 3 (by decide) (fun kq hkq hsw => ?_) (fun hsw => ?_)
  · subst hsw
    match kq, hkq with
    | 0, _ =>
      refine lv_tableIn (off := 27) (tgt := 28) hx hb dX0_allows_1 (by decide) (by decide) (by decide) (by decide) ?_
      refine lv_iconst (v := 1) hx hb dX0_allows_28 (by decide) ?_
      refine lv_iload_n hx hb dX0_allows_29 rfl (lv_at hl 1 rfl) ?_
      refine lv_icmp_gt (tgt := 43) hx hb dX0_allows_30 (by decide) (fun zc30 => ?_) (fun zc30 => ?_)
      · refine lv_iconst (v := 0) hx hb dX0_allows_43 (by decide) ?_
        exact hret 0 () rfl (Or.inr ⟨rfl, ps_0a zc30⟩) hP (hK.sub [] rfl) hD hS (Nat.le_of_ble_eq_true rfl) (Nat.le_of_ble_eq_true rfl) dX0_allows_44
      · refine lv_iload_n hx hb dX0_allows_33 rfl (lv_at hl 1 rfl) ?_
        refine lv_bipush (v := 60) hx hb dX0_allows_34 (by decide) ?_
        refine lv_icmp_gt (tgt := 43) hx hb dX0_allows_36 (by decide) (fun zc36 => ?_) (fun zc36 => ?_)
        · refine lv_iconst (v := 0) hx hb dX0_allows_43 (by decide) ?_
          exact hret 0 () rfl (Or.inr ⟨rfl, ps_0b zc36⟩) hP (hK.sub [] rfl) hD hS (Nat.le_of_ble_eq_true rfl) (Nat.le_of_ble_eq_true rfl) dX0_allows_44
        · refine lv_iconst (v := 1) hx hb dX0_allows_39 (by decide) ?_
          refine lv_goto (tgt := 44) hx hb dX0_allows_40 (by decide) ?_
          exact hret 1 () rfl (Or.inl ⟨rfl, ps_0 zc30 zc36⟩) hP (hK.sub [] rfl) hD hS (Nat.le_of_ble_eq_true rfl) (Nat.le_of_ble_eq_true rfl) dX0_allows_44
    | 1, _ =>
      refine lv_tableIn (off := 44) (tgt := 45) hx hb dX0_allows_1 (by decide) (by decide) (by decide) (by decide) ?_
      refine lv_iconst (v := 1) hx hb dX0_allows_45 (by decide) ?_
      refine lv_iload_n hx hb dX0_allows_46 rfl (lv_at hl 1 rfl) ?_
      refine lv_icmp_gt (tgt := 60) hx hb dX0_allows_47 (by decide) (fun zc47 => ?_) (fun zc47 => ?_)
      · refine lv_iconst (v := 0) hx hb dX0_allows_60 (by decide) ?_
        exact hret 0 () rfl (Or.inr ⟨rfl, ps_1a zc47⟩) hP (hK.sub [] rfl) hD hS (Nat.le_of_ble_eq_true rfl) (Nat.le_of_ble_eq_true rfl) dX0_allows_61
      · refine lv_iload_n hx hb dX0_allows_50 rfl (lv_at hl 1 rfl) ?_
        refine lv_bipush (v := 20) hx hb dX0_allows_51 (by decide) ?_
        refine lv_icmp_gt (tgt := 60) hx hb dX0_allows_53 (by decide) (fun zc53 => ?_) (fun zc53 => ?_)
        · refine lv_iconst (v := 0) hx hb dX0_allows_60 (by decide) ?_
          exact hret 0 () rfl (Or.inr ⟨rfl, ps_1b zc53⟩) hP (hK.sub [] rfl) hD hS (Nat.le_of_ble_eq_true rfl) (Nat.le_of_ble_eq_true rfl) dX0_allows_61
        · refine lv_iconst (v := 1) hx hb dX0_allows_56 (by decide) ?_
          refine lv_goto (tgt := 61) hx hb dX0_allows_57 (by decide) ?_
          exact hret 1 () rfl (Or.inl ⟨rfl, ps_1 zc47 zc53⟩) hP (hK.sub [] rfl) hD hS (Nat.le_of_ble_eq_true rfl) (Nat.le_of_ble_eq_true rfl) dX0_allows_61
    | 2, _ =>
      refine lv_tableIn (off := 61) (tgt := 62) hx hb dX0_allows_1 (by decide) (by decide) (by decide) (by decide) ?_
      refine lv_iconst (v := 0) hx hb dX0_allows_62 (by decide) ?_
      refine lv_iload_n hx hb dX0_allows_63 rfl (lv_at hl 1 rfl) ?_
      refine lv_icmp_gt (tgt := 77) hx hb dX0_allows_64 (by decide) (fun zc64 => ?_) (fun zc64 => ?_)
      · refine lv_iconst (v := 0) hx hb dX0_allows_77 (by decide) ?_
        exact hret 0 () rfl (Or.inr ⟨rfl, ps_2a zc64⟩) hP (hK.sub [] rfl) hD hS (Nat.le_of_ble_eq_true rfl) (Nat.le_of_ble_eq_true rfl) dX0_allows_78
      · refine lv_iload_n hx hb dX0_allows_67 rfl (lv_at hl 1 rfl) ?_
        refine lv_bipush (v := 127) hx hb dX0_allows_68 (by decide) ?_
        refine lv_icmp_gt (tgt := 77) hx hb dX0_allows_70 (by decide) (fun zc70 => ?_) (fun zc70 => ?_)
        · refine lv_iconst (v := 0) hx hb dX0_allows_77 (by decide) ?_
          exact hret 0 () rfl (Or.inr ⟨rfl, ps_2b zc70⟩) hP (hK.sub [] rfl) hD hS (Nat.le_of_ble_eq_true rfl) (Nat.le_of_ble_eq_true rfl) dX0_allows_78
        · refine lv_iconst (v := 1) hx hb dX0_allows_73 (by decide) ?_
          refine lv_goto (tgt := 78) hx hb dX0_allows_74 (by decide) ?_
          exact hret 1 () rfl (Or.inl ⟨rfl, ps_2 zc64 zc70⟩) hP (hK.sub [] rfl) hD hS (Nat.le_of_ble_eq_true rfl) (Nat.le_of_ble_eq_true rfl) dX0_allows_78
    | kq + 3, hkq => exact absurd hkq (by omega)
  · refine lv_tableOut (tgt := 79) hx hb dX0_allows_1 (by omega) (by decide) ?_
    refine lv_iconst (v := 0) hx hb dX0_allows_79 (by decide) ?_
    exact hret 0 () rfl (Or.inr ⟨rfl, ps_out hsw⟩) hP (hK.sub [] rfl) hD hS (Nat.le_of_ble_eq_true rfl) (Nat.le_of_ble_eq_true rfl) dX0_allows_80
set_option maxHeartbeats 4000000 in
set_option maxRecDepth 100000 in
theorem c_X0_change (l : Launch) (D : va_G) (sz : Nat) (k : Nat) (a b c d w v : Int32) : mI l yX0_change wsX0_change (rk 0 0 0) D [.ref k, .int w, .int v] [] sz [(k, .inr (0, [.int a, .int b, .int c, .int d]))] (S := Unit) (fun r _ => r = (if w = 0 then b else if w = 1 then c else d)) (fun _ => []) (fun _ => []) := by
  refine mI_of (cc := cX0_change) (maxL := 4) (ty := .int) (plainFor_of_name (by decide)) rfl (Nat.le_of_ble_eq_true rfl) ?_
  intro pp ee ss mm bl mt cd AA QQ hx hb hml hts hown hN hA hK hP hD hS hret ls hl
  have hl : lv_has ls 4 [(0, .ref k), (1, .int w), (2, .int v)] := hl
  have inX0 : ∀ w ∈ wsX00, w ∈ wsX0_change := fun _ h => List.mem_cons_of_mem _ (List.mem_append_right _ h)
  refine lv_iload_n hx hb dX0_change_0 rfl (lv_at hl 1 rfl) ?_
  by_cases h0 : w = 0
  · refine lv_lookup (off := 27) (tgt := 28) hx hb dX0_change_1 (by decide) (by rw [h0]; decide) (by decide) ?_
    refine lv_aload_n hx hb dX0_change_28 rfl (lv_at hl 0 rfl) ?_
    refine va_get (D := D) (ci := 0) (v := .int b) (C := RX0) (T := TX0) (N := 4) hx hb hts inX0 hown hK hP 0 rfl rfl 1 (by decide) (hts (.fieldLink RX0 9 "LoanHouse$Calendar" "term" "I") (List.mem_of_getElem? (i := 1) rfl)) (fun _ h9 => h9) rfl dX0_change_29 ?_
    refine lv_istore_n (lv' := [(3, .int b), (0, .ref k), (1, .int w), (2, .int v)]) hx hb dX0_change_32 rfl hl (by decide) rfl (fun ls hl => ?_)
    refine lv_aload_n hx hb dX0_change_33 rfl (lv_at hl 1 rfl) ?_
    refine lv_iload_n hx hb dX0_change_34 rfl (lv_at hl 3 rfl) ?_
    refine va_put (D := D) (ci := 0) (v := .int v) (ty := .int) (C := RX0) (T := TX0) (N := 4) hx hb hts inX0 tyX0 tyX0_ok nmX0 hown hK hP hD hS 0 rfl rfl 1 (by decide) (hts (.fieldLink RX0 9 "LoanHouse$Calendar" "term" "I") (List.mem_of_getElem? (i := 1) rfl)) (fun _ h9 => h9) rfl (by decide +kernel) rfl rfl (Nat.le_of_ble_eq_true rfl) dX0_change_35 (fun H locs hP hD hS => ?_)
    have hP : va_P D vwCl [(k, .inr (0, [.int a, .int v, .int c, .int d]))] H := hP
    have hD : va_D AA [(k, .inr (0, [.int a, .int v, .int c, .int d]))] := hD
    refine lv_iload_n hx hb dX0_change_38 rfl (lv_at hl 0 rfl) ?_
    exact hret b () rfl (by rw [if_pos h0]) (m_P hP (is := []) rfl) (hK.sub [] rfl) (hD.sub [] (by decide) rfl) hS (Nat.le_of_ble_eq_true rfl) (Nat.le_of_ble_eq_true rfl) dX0_change_39
  · by_cases h1 : w = 1
    · refine lv_lookup (off := 39) (tgt := 40) hx hb dX0_change_1 (by decide) (by rw [h1]; decide) (by decide) ?_
      refine lv_aload_n hx hb dX0_change_40 rfl (lv_at hl 0 rfl) ?_
      refine va_get (D := D) (ci := 0) (v := .int c) (C := RX0) (T := TX0) (N := 4) hx hb hts inX0 hown hK hP 0 rfl rfl 2 (by decide) (hts (.fieldLink RX0 15 "LoanHouse$Calendar" "patience" "I") (List.mem_of_getElem? (i := 2) rfl)) (fun _ h9 => h9) rfl dX0_change_41 ?_
      refine lv_istore_n (lv' := [(3, .int c), (0, .ref k), (1, .int w), (2, .int v)]) hx hb dX0_change_44 rfl hl (by decide) rfl (fun ls hl => ?_)
      refine lv_aload_n hx hb dX0_change_45 rfl (lv_at hl 1 rfl) ?_
      refine lv_iload_n hx hb dX0_change_46 rfl (lv_at hl 3 rfl) ?_
      refine va_put (D := D) (ci := 0) (v := .int v) (ty := .int) (C := RX0) (T := TX0) (N := 4) hx hb hts inX0 tyX0 tyX0_ok nmX0 hown hK hP hD hS 0 rfl rfl 2 (by decide) (hts (.fieldLink RX0 15 "LoanHouse$Calendar" "patience" "I") (List.mem_of_getElem? (i := 2) rfl)) (fun _ h9 => h9) rfl (by decide +kernel) rfl rfl (Nat.le_of_ble_eq_true rfl) dX0_change_47 (fun H locs hP hD hS => ?_)
      have hP : va_P D vwCl [(k, .inr (0, [.int a, .int b, .int v, .int d]))] H := hP
      have hD : va_D AA [(k, .inr (0, [.int a, .int b, .int v, .int d]))] := hD
      refine lv_iload_n hx hb dX0_change_50 rfl (lv_at hl 0 rfl) ?_
      exact hret c () rfl (by rw [if_neg h0, if_pos h1]) (m_P hP (is := []) rfl) (hK.sub [] rfl) (hD.sub [] (by decide) rfl) hS (Nat.le_of_ble_eq_true rfl) (Nat.le_of_ble_eq_true rfl) dX0_change_51
    · refine lv_lookup (off := 51) (tgt := 52) hx hb dX0_change_1 (by decide) ((lv_osw h0 (by decide)).trans (lv_osw h1 (by decide))) (by decide) ?_
      refine lv_aload_n hx hb dX0_change_52 rfl (lv_at hl 0 rfl) ?_
      refine va_get (D := D) (ci := 0) (v := .int d) (C := RX0) (T := TX0) (N := 4) hx hb hts inX0 hown hK hP 0 rfl rfl 3 (by decide) (hts (.fieldLink RX0 18 "LoanHouse$Calendar" "closed" "I") (List.mem_of_getElem? (i := 3) rfl)) (fun _ h9 => h9) rfl dX0_change_53 ?_
      refine lv_istore_n (lv' := [(3, .int d), (0, .ref k), (1, .int w), (2, .int v)]) hx hb dX0_change_56 rfl hl (by decide) rfl (fun ls hl => ?_)
      refine lv_aload_n hx hb dX0_change_57 rfl (lv_at hl 1 rfl) ?_
      refine lv_iload_n hx hb dX0_change_58 rfl (lv_at hl 3 rfl) ?_
      refine va_put (D := D) (ci := 0) (v := .int v) (ty := .int) (C := RX0) (T := TX0) (N := 4) hx hb hts inX0 tyX0 tyX0_ok nmX0 hown hK hP hD hS 0 rfl rfl 3 (by decide) (hts (.fieldLink RX0 18 "LoanHouse$Calendar" "closed" "I") (List.mem_of_getElem? (i := 3) rfl)) (fun _ h9 => h9) rfl (by decide +kernel) rfl rfl (Nat.le_of_ble_eq_true rfl) dX0_change_59 (fun H locs hP hD hS => ?_)
      have hP : va_P D vwCl [(k, .inr (0, [.int a, .int b, .int c, .int v]))] H := hP
      have hD : va_D AA [(k, .inr (0, [.int a, .int b, .int c, .int v]))] := hD
      refine lv_iload_n hx hb dX0_change_62 rfl (lv_at hl 0 rfl) ?_
      exact hret d () rfl (by rw [if_neg h0, if_neg h1]) (m_P hP (is := []) rfl) (hK.sub [] rfl) (hD.sub [] (by decide) rfl) hS (Nat.le_of_ble_eq_true rfl) (Nat.le_of_ble_eq_true rfl) dX0_change_63
