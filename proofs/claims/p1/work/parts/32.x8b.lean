set_option maxHeartbeats 4000000 in
set_option maxRecDepth 100000 in
theorem c_X8_overdue (l : Launch) (D : va_G) (sz : Nat) (m a pa ka za : Nat) (cA : ClassId) (u0 : Int32) (y : Int64) (f : Nat → Int32) (h4 : f 4 = 0) : mI l yX8_overdue wsX8_overdue (rk 0 0 0) D [.ref m] [(cA, .int)] sz [(m, .inr (8, [.ref a, .ref pa, .int u0, .ref ka, .ref za, .long y])), (a, .inl (cA, 172, .inl f))] (S := Unit) (fun r _ => r = 0) (fun _ => []) (fun _ => [(m, .inr (8, [.ref a, .ref pa, .int u0, .ref ka, .ref za, .long y])), (a, .inl (cA, 172, .inl f))]) := by
  refine mI_of (cc := cX8_overdue) (maxL := 3) (ty := .int) (plainFor_of_name (by decide)) rfl (Nat.le_of_ble_eq_true rfl) ?_
  intro pp ee ss mm bl mt cd AA QQ hx hb hml hts hown hN hA hK hP hD hS hret ls hl
  have hl : lv_has ls 3 [(0, .ref m)] := hl
  have inX8 : ∀ w ∈ wsX80, w ∈ wsX8_overdue := fun _ h => List.mem_cons_of_mem _ (List.mem_append_right _ h)
  refine lv_iconst (v := 0) hx hb dX8_overdue_0 (by decide) ?_
  refine lv_istore_n (lv' := [(1, .int 0), (0, .ref m)]) hx hb dX8_overdue_1 rfl hl (by decide) rfl (fun ls hl => ?_)
  refine lv_iconst (v := 0) hx hb dX8_overdue_2 (by decide) ?_
  refine lv_istore_n (lv' := [(2, .int 0), (1, .int 0), (0, .ref m)]) hx hb dX8_overdue_3 rfl hl (by decide) rfl (fun ls hl => ?_)
  refine lv_iload_n hx hb dX8_overdue_4 rfl (lv_at hl 0 rfl) ?_
  refine lv_aload_n hx hb dX8_overdue_5 rfl (lv_at hl 2 rfl) ?_
  refine va_get (D := D) (ci := 8) (v := .ref a) (C := RX8) (T := TX8) (N := 6) hx hb hts inX8 hown hK hP 0 rfl rfl 0 (by decide) (hts (.fieldLink RX8 7 "LoanHouseModel" "st" "[I") (List.mem_of_getElem? (i := 1) rfl)) (fun _ h9 => h9) rfl dX8_overdue_6 ?_
  refine lv_iconst (v := 4) hx hb dX8_overdue_9 (by decide) ?_
  refine va_iald hx hb hK hP 1 0 rfl rfl (vi_ok (by decide)) dX8_overdue_10 ?_
  refine lv_topi (fun x298 ex298 => ?_)
  have ex298 : x298 = 0 := ex298.trans ((congrArg f (by decide : (4 : Int32).toNatClampNeg = 4)).trans h4)
  subst ex298
  refine lv_icmp_ge (tgt := 38) hx hb dX8_overdue_11 (by decide) (fun zc11 => ?_) (fun hc => absurd (by decide) hc)
  refine lv_iload_n hx hb dX8_overdue_38 rfl (lv_at hl 1 rfl) ?_
  exact hret 0 () rfl (rfl) hP (hK.sub [] rfl) hD hS (Nat.le_of_ble_eq_true rfl) (Nat.le_of_ble_eq_true rfl) dX8_overdue_39
set_option maxHeartbeats 4000000 in
set_option maxRecDepth 100000 in
theorem c_X8_copiesOf (l : Launch) (D : va_G) (sz : Nat) (m a pa ka za : Nat) (cA : ClassId) (u0 : Int32) (y : Int64) (f : Nat → Int32) (p q : Int32) (h4 : f 4 = 0) : mI l yX8_copiesOf wsX8_copiesOf (rk 0 0 0) D [.ref m, .int p, .int q] [(cA, .int)] sz [(m, .inr (8, [.ref a, .ref pa, .int u0, .ref ka, .ref za, .long y])), (a, .inl (cA, 172, .inl f))] (S := Unit) (fun r _ => r = 0) (fun _ => []) (fun _ => [(m, .inr (8, [.ref a, .ref pa, .int u0, .ref ka, .ref za, .long y])), (a, .inl (cA, 172, .inl f))]) := by
  refine mI_of (cc := cX8_copiesOf) (maxL := 5) (ty := .int) (plainFor_of_name (by decide)) rfl (Nat.le_of_ble_eq_true rfl) ?_
  intro pp ee ss mm bl mt cd AA QQ hx hb hml hts hown hN hA hK hP hD hS hret ls hl
  have hl : lv_has ls 5 [(0, .ref m), (1, .int p), (2, .int q)] := hl
  have inX8 : ∀ w ∈ wsX80, w ∈ wsX8_copiesOf := fun _ h => List.mem_cons_of_mem _ (List.mem_append_right _ h)
  refine lv_iconst (v := 0) hx hb dX8_copiesOf_0 (by decide) ?_
  refine lv_istore_n (lv' := [(3, .int 0), (0, .ref m), (1, .int p), (2, .int q)]) hx hb dX8_copiesOf_1 rfl hl (by decide) rfl (fun ls hl => ?_)
  refine lv_iconst (v := 0) hx hb dX8_copiesOf_2 (by decide) ?_
  refine lv_istore (lv' := [(4, .int 0), (3, .int 0), (0, .ref m), (1, .int p), (2, .int q)]) hx hb dX8_copiesOf_3 hl (by decide) rfl (fun ls hl => ?_)
  refine lv_iload hx hb dX8_copiesOf_5 (lv_at hl 0 rfl) ?_
  refine lv_aload_n hx hb dX8_copiesOf_7 rfl (lv_at hl 2 rfl) ?_
  refine va_get (D := D) (ci := 8) (v := .ref a) (C := RX8) (T := TX8) (N := 6) hx hb hts inX8 hown hK hP 0 rfl rfl 0 (by decide) (hts (.fieldLink RX8 7 "LoanHouseModel" "st" "[I") (List.mem_of_getElem? (i := 1) rfl)) (fun _ h9 => h9) rfl dX8_copiesOf_8 ?_
  refine lv_iconst (v := 4) hx hb dX8_copiesOf_11 (by decide) ?_
  refine va_iald hx hb hK hP 1 0 rfl rfl (vi_ok (by decide)) dX8_copiesOf_12 ?_
  refine lv_topi (fun x299 ex299 => ?_)
  have ex299 : x299 = 0 := ex299.trans ((congrArg f (by decide : (4 : Int32).toNatClampNeg = 4)).trans h4)
  subst ex299
  refine lv_icmp_ge (tgt := 58) hx hb dX8_copiesOf_13 (by decide) (fun zc13 => ?_) (fun hc => absurd (by decide) hc)
  refine lv_iload_n hx hb dX8_copiesOf_58 rfl (lv_at hl 1 rfl) ?_
  exact hret 0 () rfl (rfl) hP (hK.sub [] rfl) hD hS (Nat.le_of_ble_eq_true rfl) (Nat.le_of_ble_eq_true rfl) dX8_copiesOf_59
set_option maxHeartbeats 4000000 in
set_option maxRecDepth 100000 in
theorem c_X8_owedBy (l : Launch) (D : va_G) (sz : Nat) (m a pa ka za : Nat) (cA : ClassId) (u0 : Int32) (y : Int64) (f : Nat → Int32) (p : Int32) (h4 : f 4 = 0) : mI l yX8_owedBy wsX8_owedBy (rk 0 0 0) D [.ref m, .int p] [(cA, .int)] sz [(m, .inr (8, [.ref a, .ref pa, .int u0, .ref ka, .ref za, .long y])), (a, .inl (cA, 172, .inl f))] (S := Unit) (fun r _ => r = 0) (fun _ => []) (fun _ => [(m, .inr (8, [.ref a, .ref pa, .int u0, .ref ka, .ref za, .long y])), (a, .inl (cA, 172, .inl f))]) := by
  refine mI_of (cc := cX8_owedBy) (maxL := 5) (ty := .int) (plainFor_of_name (by decide)) rfl (Nat.le_of_ble_eq_true rfl) ?_
  intro pp ee ss mm bl mt cd AA QQ hx hb hml hts hown hN hA hK hP hD hS hret ls hl
  have hl : lv_has ls 5 [(0, .ref m), (1, .int p)] := hl
  have inX8 : ∀ w ∈ wsX80, w ∈ wsX8_owedBy := fun _ h => List.mem_cons_of_mem _ (List.mem_append_right _ h)
  refine lv_iconst (v := 0) hx hb dX8_owedBy_0 (by decide) ?_
  refine lv_istore_n (lv' := [(2, .int 0), (0, .ref m), (1, .int p)]) hx hb dX8_owedBy_1 rfl hl (by decide) rfl (fun ls hl => ?_)
  refine lv_iconst (v := 0) hx hb dX8_owedBy_2 (by decide) ?_
  refine lv_istore_n (lv' := [(3, .int 0), (2, .int 0), (0, .ref m), (1, .int p)]) hx hb dX8_owedBy_3 rfl hl (by decide) rfl (fun ls hl => ?_)
  refine lv_iload_n hx hb dX8_owedBy_4 rfl (lv_at hl 0 rfl) ?_
  refine lv_aload_n hx hb dX8_owedBy_5 rfl (lv_at hl 2 rfl) ?_
  refine va_get (D := D) (ci := 8) (v := .ref a) (C := RX8) (T := TX8) (N := 6) hx hb hts inX8 hown hK hP 0 rfl rfl 0 (by decide) (hts (.fieldLink RX8 7 "LoanHouseModel" "st" "[I") (List.mem_of_getElem? (i := 1) rfl)) (fun _ h9 => h9) rfl dX8_owedBy_6 ?_
  refine lv_iconst (v := 4) hx hb dX8_owedBy_9 (by decide) ?_
  refine va_iald hx hb hK hP 1 0 rfl rfl (vi_ok (by decide)) dX8_owedBy_10 ?_
  refine lv_topi (fun x300 ex300 => ?_)
  have ex300 : x300 = 0 := ex300.trans ((congrArg f (by decide : (4 : Int32).toNatClampNeg = 4)).trans h4)
  subst ex300
  refine lv_icmp_ge (tgt := 67) hx hb dX8_owedBy_11 (by decide) (fun zc11 => ?_) (fun hc => absurd (by decide) hc)
  refine lv_iload_n hx hb dX8_owedBy_67 rfl (lv_at hl 1 rfl) ?_
  exact hret 0 () rfl (rfl) hP (hK.sub [] rfl) hD hS (Nat.le_of_ble_eq_true rfl) (Nat.le_of_ble_eq_true rfl) dX8_owedBy_68
set_option maxHeartbeats 4000000 in
set_option maxRecDepth 100000 in
theorem c_X8_greatestStep (l : Launch) (D : va_G) (sz : Nat) (m a pa ka za : Nat) (cA : ClassId) (u0 : Int32) (y : Int64) (f : Nat → Int32) (p : Int32) (h4 : f 4 = 0) : mI l yX8_greatestStep wsX8_greatestStep (rk 0 0 0) D [.ref m, .int p] [(cA, .int)] sz [(m, .inr (8, [.ref a, .ref pa, .int u0, .ref ka, .ref za, .long y])), (a, .inl (cA, 172, .inl f))] (S := Unit) (fun r _ => r = 0) (fun _ => []) (fun _ => [(m, .inr (8, [.ref a, .ref pa, .int u0, .ref ka, .ref za, .long y])), (a, .inl (cA, 172, .inl f))]) := by
  refine mI_of (cc := cX8_greatestStep) (maxL := 5) (ty := .int) (plainFor_of_name (by decide)) rfl (Nat.le_of_ble_eq_true rfl) ?_
  intro pp ee ss mm bl mt cd AA QQ hx hb hml hts hown hN hA hK hP hD hS hret ls hl
  have hl : lv_has ls 5 [(0, .ref m), (1, .int p)] := hl
  have inX8 : ∀ w ∈ wsX80, w ∈ wsX8_greatestStep := fun _ h => List.mem_cons_of_mem _ (List.mem_append_right _ h)
  refine lv_iconst (v := 0) hx hb dX8_greatestStep_0 (by decide) ?_
  refine lv_istore_n (lv' := [(2, .int 0), (0, .ref m), (1, .int p)]) hx hb dX8_greatestStep_1 rfl hl (by decide) rfl (fun ls hl => ?_)
  refine lv_iconst (v := 0) hx hb dX8_greatestStep_2 (by decide) ?_
  refine lv_istore_n (lv' := [(3, .int 0), (2, .int 0), (0, .ref m), (1, .int p)]) hx hb dX8_greatestStep_3 rfl hl (by decide) rfl (fun ls hl => ?_)
  refine lv_iload_n hx hb dX8_greatestStep_4 rfl (lv_at hl 0 rfl) ?_
  refine lv_aload_n hx hb dX8_greatestStep_5 rfl (lv_at hl 2 rfl) ?_
  refine va_get (D := D) (ci := 8) (v := .ref a) (C := RX8) (T := TX8) (N := 6) hx hb hts inX8 hown hK hP 0 rfl rfl 0 (by decide) (hts (.fieldLink RX8 7 "LoanHouseModel" "st" "[I") (List.mem_of_getElem? (i := 1) rfl)) (fun _ h9 => h9) rfl dX8_greatestStep_6 ?_
  refine lv_iconst (v := 4) hx hb dX8_greatestStep_9 (by decide) ?_
  refine va_iald hx hb hK hP 1 0 rfl rfl (vi_ok (by decide)) dX8_greatestStep_10 ?_
  refine lv_topi (fun x301 ex301 => ?_)
  have ex301 : x301 = 0 := ex301.trans ((congrArg f (by decide : (4 : Int32).toNatClampNeg = 4)).trans h4)
  subst ex301
  refine lv_icmp_ge (tgt := 56) hx hb dX8_greatestStep_11 (by decide) (fun zc11 => ?_) (fun hc => absurd (by decide) hc)
  refine lv_iload_n hx hb dX8_greatestStep_56 rfl (lv_at hl 1 rfl) ?_
  exact hret 0 () rfl (rfl) hP (hK.sub [] rfl) hD hS (Nat.le_of_ble_eq_true rfl) (Nat.le_of_ble_eq_true rfl) dX8_greatestStep_57
set_option maxHeartbeats 4000000 in
set_option maxRecDepth 100000 in
theorem c_X8_findHold (l : Launch) (D : va_G) (sz : Nat) (m a pa ka za : Nat) (cA : ClassId) (u0 : Int32) (y : Int64) (f : Nat → Int32) (p : Int32) (h5 : f 5 = 0) : mI l yX8_findHold wsX8_findHold (rk 0 0 0) D [.ref m, .int p] [(cA, .int)] sz [(m, .inr (8, [.ref a, .ref pa, .int u0, .ref ka, .ref za, .long y])), (a, .inl (cA, 172, .inl f))] (S := Unit) (fun r _ => r = (-1)) (fun _ => []) (fun _ => [(m, .inr (8, [.ref a, .ref pa, .int u0, .ref ka, .ref za, .long y])), (a, .inl (cA, 172, .inl f))]) := by
  refine mI_of (cc := cX8_findHold) (maxL := 4) (ty := .int) (plainFor_of_name (by decide)) rfl (Nat.le_of_ble_eq_true rfl) ?_
  intro pp ee ss mm bl mt cd AA QQ hx hb hml hts hown hN hA hK hP hD hS hret ls hl
  have hl : lv_has ls 4 [(0, .ref m), (1, .int p)] := hl
  have inX8 : ∀ w ∈ wsX80, w ∈ wsX8_findHold := fun _ h => List.mem_cons_of_mem _ (List.mem_append_right _ h)
  refine lv_iconst (v := (-1)) hx hb dX8_findHold_0 (by decide) ?_
  refine lv_istore_n (lv' := [(2, .int (-1)), (0, .ref m), (1, .int p)]) hx hb dX8_findHold_1 rfl hl (by decide) rfl (fun ls hl => ?_)
  refine lv_iconst (v := 0) hx hb dX8_findHold_2 (by decide) ?_
  refine lv_istore_n (lv' := [(3, .int 0), (2, .int (-1)), (0, .ref m), (1, .int p)]) hx hb dX8_findHold_3 rfl hl (by decide) rfl (fun ls hl => ?_)
  refine lv_iload_n hx hb dX8_findHold_4 rfl (lv_at hl 0 rfl) ?_
  refine lv_aload_n hx hb dX8_findHold_5 rfl (lv_at hl 2 rfl) ?_
  refine va_get (D := D) (ci := 8) (v := .ref a) (C := RX8) (T := TX8) (N := 6) hx hb hts inX8 hown hK hP 0 rfl rfl 0 (by decide) (hts (.fieldLink RX8 7 "LoanHouseModel" "st" "[I") (List.mem_of_getElem? (i := 1) rfl)) (fun _ h9 => h9) rfl dX8_findHold_6 ?_
  refine lv_iconst (v := 5) hx hb dX8_findHold_9 (by decide) ?_
  refine va_iald hx hb hK hP 1 0 rfl rfl (vi_ok (by decide)) dX8_findHold_10 ?_
  refine lv_topi (fun x302 ex302 => ?_)
  have ex302 : x302 = 0 := ex302.trans ((congrArg f (by decide : (5 : Int32).toNatClampNeg = 5)).trans h5)
  subst ex302
  refine lv_icmp_ge (tgt := 36) hx hb dX8_findHold_11 (by decide) (fun zc11 => ?_) (fun hc => absurd (by decide) hc)
  refine lv_iload_n hx hb dX8_findHold_36 rfl (lv_at hl 1 rfl) ?_
  exact hret (-1) () rfl (rfl) hP (hK.sub [] rfl) hD hS (Nat.le_of_ble_eq_true rfl) (Nat.le_of_ble_eq_true rfl) dX8_findHold_37
set_option maxHeartbeats 4000000 in
set_option maxRecDepth 100000 in
theorem c_X8_rowOf (l : Launch) (D : va_G) (sz : Nat) (m a pa ka za : Nat) (cA : ClassId) (u0 : Int32) (y : Int64) (f : Nat → Int32) (p : Int32) (h5 : f 5 = 0) : mI l yX8_rowOf wsX8_rowOf (rk 0 0 0) D [.ref m, .int p] [(cA, .int)] sz [(m, .inr (8, [.ref a, .ref pa, .int u0, .ref ka, .ref za, .long y])), (a, .inl (cA, 172, .inl f))] (S := Unit) (fun r _ => r = 0) (fun _ => []) (fun _ => [(m, .inr (8, [.ref a, .ref pa, .int u0, .ref ka, .ref za, .long y])), (a, .inl (cA, 172, .inl f))]) := by
  refine mI_of (cc := cX8_rowOf) (maxL := 4) (ty := .int) (plainFor_of_name (by decide)) rfl (Nat.le_of_ble_eq_true rfl) ?_
  intro pp ee ss mm bl mt cd AA QQ hx hb hml hts hown hN hA hK hP hD hS hret ls hl
  have hl : lv_has ls 4 [(0, .ref m), (1, .int p)] := hl
  have inX8 : ∀ w ∈ wsX80, w ∈ wsX8_rowOf := fun _ h => List.mem_cons_of_mem _ (List.mem_append_right _ h)
  refine lv_iconst (v := 0) hx hb dX8_rowOf_0 (by decide) ?_
  refine lv_istore_n (lv' := [(2, .int 0), (0, .ref m), (1, .int p)]) hx hb dX8_rowOf_1 rfl hl (by decide) rfl (fun ls hl => ?_)
  refine lv_iconst (v := 0) hx hb dX8_rowOf_2 (by decide) ?_
  refine lv_istore_n (lv' := [(3, .int 0), (2, .int 0), (0, .ref m), (1, .int p)]) hx hb dX8_rowOf_3 rfl hl (by decide) rfl (fun ls hl => ?_)
  refine lv_iload_n hx hb dX8_rowOf_4 rfl (lv_at hl 0 rfl) ?_
  refine lv_aload_n hx hb dX8_rowOf_5 rfl (lv_at hl 2 rfl) ?_
  refine va_get (D := D) (ci := 8) (v := .ref a) (C := RX8) (T := TX8) (N := 6) hx hb hts inX8 hown hK hP 0 rfl rfl 0 (by decide) (hts (.fieldLink RX8 7 "LoanHouseModel" "st" "[I") (List.mem_of_getElem? (i := 1) rfl)) (fun _ h9 => h9) rfl dX8_rowOf_6 ?_
  refine lv_iconst (v := 5) hx hb dX8_rowOf_9 (by decide) ?_
  refine va_iald hx hb hK hP 1 0 rfl rfl (vi_ok (by decide)) dX8_rowOf_10 ?_
  refine lv_topi (fun x303 ex303 => ?_)
  have ex303 : x303 = 0 := ex303.trans ((congrArg f (by decide : (5 : Int32).toNatClampNeg = 5)).trans h5)
  subst ex303
  refine lv_icmp_ge (tgt := 37) hx hb dX8_rowOf_11 (by decide) (fun zc11 => ?_) (fun hc => absurd (by decide) hc)
  refine lv_iload_n hx hb dX8_rowOf_37 rfl (lv_at hl 1 rfl) ?_
  exact hret 0 () rfl (rfl) hP (hK.sub [] rfl) hD hS (Nat.le_of_ble_eq_true rfl) (Nat.le_of_ble_eq_true rfl) dX8_rowOf_38
set_option maxHeartbeats 4000000 in
set_option maxRecDepth 100000 in
theorem c_X8_waiting (l : Launch) (D : va_G) (sz : Nat) (m a pa ka za : Nat) (cA : ClassId) (u0 : Int32) (y : Int64) (f : Nat → Int32) (h5 : f 5 = 0) : mI l yX8_waiting wsX8_waiting (rk 0 0 0) D [.ref m] [(cA, .int)] sz [(m, .inr (8, [.ref a, .ref pa, .int u0, .ref ka, .ref za, .long y])), (a, .inl (cA, 172, .inl f))] (S := Unit) (fun r _ => r = 0) (fun _ => []) (fun _ => [(m, .inr (8, [.ref a, .ref pa, .int u0, .ref ka, .ref za, .long y])), (a, .inl (cA, 172, .inl f))]) := by
  refine mI_of (cc := cX8_waiting) (maxL := 3) (ty := .int) (plainFor_of_name (by decide)) rfl (Nat.le_of_ble_eq_true rfl) ?_
  intro pp ee ss mm bl mt cd AA QQ hx hb hml hts hown hN hA hK hP hD hS hret ls hl
  have hl : lv_has ls 3 [(0, .ref m)] := hl
  have inX8 : ∀ w ∈ wsX80, w ∈ wsX8_waiting := fun _ h => List.mem_cons_of_mem _ (List.mem_append_right _ h)
  refine lv_iconst (v := 0) hx hb dX8_waiting_0 (by decide) ?_
  refine lv_istore_n (lv' := [(1, .int 0), (0, .ref m)]) hx hb dX8_waiting_1 rfl hl (by decide) rfl (fun ls hl => ?_)
  refine lv_iconst (v := 0) hx hb dX8_waiting_2 (by decide) ?_
  refine lv_istore_n (lv' := [(2, .int 0), (1, .int 0), (0, .ref m)]) hx hb dX8_waiting_3 rfl hl (by decide) rfl (fun ls hl => ?_)
  refine lv_iload_n hx hb dX8_waiting_4 rfl (lv_at hl 0 rfl) ?_
  refine lv_aload_n hx hb dX8_waiting_5 rfl (lv_at hl 2 rfl) ?_
  refine va_get (D := D) (ci := 8) (v := .ref a) (C := RX8) (T := TX8) (N := 6) hx hb hts inX8 hown hK hP 0 rfl rfl 0 (by decide) (hts (.fieldLink RX8 7 "LoanHouseModel" "st" "[I") (List.mem_of_getElem? (i := 1) rfl)) (fun _ h9 => h9) rfl dX8_waiting_6 ?_
  refine lv_iconst (v := 5) hx hb dX8_waiting_9 (by decide) ?_
  refine va_iald hx hb hK hP 1 0 rfl rfl (vi_ok (by decide)) dX8_waiting_10 ?_
  refine lv_topi (fun x304 ex304 => ?_)
  have ex304 : x304 = 0 := ex304.trans ((congrArg f (by decide : (5 : Int32).toNatClampNeg = 5)).trans h5)
  subst ex304
  refine lv_icmp_ge (tgt := 38) hx hb dX8_waiting_11 (by decide) (fun zc11 => ?_) (fun hc => absurd (by decide) hc)
  refine lv_iload_n hx hb dX8_waiting_38 rfl (lv_at hl 1 rfl) ?_
  exact hret 0 () rfl (rfl) hP (hK.sub [] rfl) hD hS (Nat.le_of_ble_eq_true rfl) (Nat.le_of_ble_eq_true rfl) dX8_waiting_39
set_option maxHeartbeats 4000000 in
set_option maxRecDepth 100000 in
theorem c_X8_longestOf (l : Launch) (D : va_G) (sz : Nat) (m a pa ka za : Nat) (cA : ClassId) (u0 : Int32) (y : Int64) (f : Nat → Int32) (p : Int32) (h5 : f 5 = 0) : mI l yX8_longestOf wsX8_longestOf (rk 0 0 0) D [.ref m, .int p] [(cA, .int)] sz [(m, .inr (8, [.ref a, .ref pa, .int u0, .ref ka, .ref za, .long y])), (a, .inl (cA, 172, .inl f))] (S := Unit) (fun r _ => r = 0) (fun _ => []) (fun _ => [(m, .inr (8, [.ref a, .ref pa, .int u0, .ref ka, .ref za, .long y])), (a, .inl (cA, 172, .inl f))]) := by
  refine mI_of (cc := cX8_longestOf) (maxL := 5) (ty := .int) (plainFor_of_name (by decide)) rfl (Nat.le_of_ble_eq_true rfl) ?_
  intro pp ee ss mm bl mt cd AA QQ hx hb hml hts hown hN hA hK hP hD hS hret ls hl
  have hl : lv_has ls 5 [(0, .ref m), (1, .int p)] := hl
  have inX8 : ∀ w ∈ wsX80, w ∈ wsX8_longestOf := fun _ h => List.mem_cons_of_mem _ (List.mem_append_right _ h)
  refine lv_iconst (v := 0) hx hb dX8_longestOf_0 (by decide) ?_
  refine lv_istore_n (lv' := [(2, .int 0), (0, .ref m), (1, .int p)]) hx hb dX8_longestOf_1 rfl hl (by decide) rfl (fun ls hl => ?_)
  refine lv_iconst (v := 0) hx hb dX8_longestOf_2 (by decide) ?_
  refine lv_istore_n (lv' := [(3, .int 0), (2, .int 0), (0, .ref m), (1, .int p)]) hx hb dX8_longestOf_3 rfl hl (by decide) rfl (fun ls hl => ?_)
  refine lv_iload_n hx hb dX8_longestOf_4 rfl (lv_at hl 0 rfl) ?_
  refine lv_aload_n hx hb dX8_longestOf_5 rfl (lv_at hl 2 rfl) ?_
  refine va_get (D := D) (ci := 8) (v := .ref a) (C := RX8) (T := TX8) (N := 6) hx hb hts inX8 hown hK hP 0 rfl rfl 0 (by decide) (hts (.fieldLink RX8 7 "LoanHouseModel" "st" "[I") (List.mem_of_getElem? (i := 1) rfl)) (fun _ h9 => h9) rfl dX8_longestOf_6 ?_
  refine lv_iconst (v := 5) hx hb dX8_longestOf_9 (by decide) ?_
  refine va_iald hx hb hK hP 1 0 rfl rfl (vi_ok (by decide)) dX8_longestOf_10 ?_
  refine lv_topi (fun x305 ex305 => ?_)
  have ex305 : x305 = 0 := ex305.trans ((congrArg f (by decide : (5 : Int32).toNatClampNeg = 5)).trans h5)
  subst ex305
  refine lv_icmp_ge (tgt := 61) hx hb dX8_longestOf_11 (by decide) (fun zc11 => ?_) (fun hc => absurd (by decide) hc)
  refine lv_iload_n hx hb dX8_longestOf_61 rfl (lv_at hl 1 rfl) ?_
  exact hret 0 () rfl (rfl) hP (hK.sub [] rfl) hD hS (Nat.le_of_ble_eq_true rfl) (Nat.le_of_ble_eq_true rfl) dX8_longestOf_62
set_option maxHeartbeats 4000000 in
set_option maxRecDepth 100000 in
theorem c_X8_holdsOf (l : Launch) (D : va_G) (sz : Nat) (m a pa ka za : Nat) (cA : ClassId) (u0 : Int32) (y : Int64) (f : Nat → Int32) (p : Int32) (h5 : f 5 = 0) : mI l yX8_holdsOf wsX8_holdsOf (rk 0 0 0) D [.ref m, .int p] [(cA, .int)] sz [(m, .inr (8, [.ref a, .ref pa, .int u0, .ref ka, .ref za, .long y])), (a, .inl (cA, 172, .inl f))] (S := Unit) (fun r _ => r = 0) (fun _ => []) (fun _ => [(m, .inr (8, [.ref a, .ref pa, .int u0, .ref ka, .ref za, .long y])), (a, .inl (cA, 172, .inl f))]) := by
  refine mI_of (cc := cX8_holdsOf) (maxL := 4) (ty := .int) (plainFor_of_name (by decide)) rfl (Nat.le_of_ble_eq_true rfl) ?_
  intro pp ee ss mm bl mt cd AA QQ hx hb hml hts hown hN hA hK hP hD hS hret ls hl
  have hl : lv_has ls 4 [(0, .ref m), (1, .int p)] := hl
  have inX8 : ∀ w ∈ wsX80, w ∈ wsX8_holdsOf := fun _ h => List.mem_cons_of_mem _ (List.mem_append_right _ h)
  refine lv_iconst (v := 0) hx hb dX8_holdsOf_0 (by decide) ?_
  refine lv_istore_n (lv' := [(2, .int 0), (0, .ref m), (1, .int p)]) hx hb dX8_holdsOf_1 rfl hl (by decide) rfl (fun ls hl => ?_)
  refine lv_iconst (v := 0) hx hb dX8_holdsOf_2 (by decide) ?_
  refine lv_istore_n (lv' := [(3, .int 0), (2, .int 0), (0, .ref m), (1, .int p)]) hx hb dX8_holdsOf_3 rfl hl (by decide) rfl (fun ls hl => ?_)
  refine lv_iload_n hx hb dX8_holdsOf_4 rfl (lv_at hl 0 rfl) ?_
  refine lv_aload_n hx hb dX8_holdsOf_5 rfl (lv_at hl 2 rfl) ?_
  refine va_get (D := D) (ci := 8) (v := .ref a) (C := RX8) (T := TX8) (N := 6) hx hb hts inX8 hown hK hP 0 rfl rfl 0 (by decide) (hts (.fieldLink RX8 7 "LoanHouseModel" "st" "[I") (List.mem_of_getElem? (i := 1) rfl)) (fun _ h9 => h9) rfl dX8_holdsOf_6 ?_
  refine lv_iconst (v := 5) hx hb dX8_holdsOf_9 (by decide) ?_
  refine va_iald hx hb hK hP 1 0 rfl rfl (vi_ok (by decide)) dX8_holdsOf_10 ?_
  refine lv_topi (fun x306 ex306 => ?_)
  have ex306 : x306 = 0 := ex306.trans ((congrArg f (by decide : (5 : Int32).toNatClampNeg = 5)).trans h5)
  subst ex306
  refine lv_icmp_ge (tgt := 38) hx hb dX8_holdsOf_11 (by decide) (fun zc11 => ?_) (fun hc => absurd (by decide) hc)
  refine lv_iload_n hx hb dX8_holdsOf_38 rfl (lv_at hl 1 rfl) ?_
  exact hret 0 () rfl (rfl) hP (hK.sub [] rfl) hD hS (Nat.le_of_ble_eq_true rfl) (Nat.le_of_ble_eq_true rfl) dX8_holdsOf_39
set_option maxHeartbeats 4000000 in
set_option maxRecDepth 100000 in
theorem c_X8_ones (l : Launch) (D : va_G) (sz : Nat)  : mI l yX8_ones wsX8_ones (rk 0 0 0) D [.int 0] [] sz [] (S := Unit) (fun r _ => r = 0) (fun _ => []) (fun _ => []) := by
  refine mI_of (cc := cX8_ones) (maxL := 3) (ty := .int) (plainFor_of_name (by decide)) rfl (Nat.le_of_ble_eq_true rfl) ?_
  intro pp ee ss mm bl mt cd AA QQ hx hb hml hts hown hN hA hK hP hD hS hret ls hl
  have hl : lv_has ls 3 [(0, .int 0)] := hl
  refine lv_iconst (v := 0) hx hb dX8_ones_0 (by decide) ?_
  refine lv_istore_n (lv' := [(1, .int 0), (0, .int 0)]) hx hb dX8_ones_1 rfl hl (by decide) rfl (fun ls hl => ?_)
  refine lv_iload_n hx hb dX8_ones_2 rfl (lv_at hl 1 rfl) ?_
  refine lv_istore_n (lv' := [(2, .int 0), (1, .int 0), (0, .int 0)]) hx hb dX8_ones_3 rfl hl (by decide) rfl (fun ls hl => ?_)
  refine lv_iload_n hx hb dX8_ones_4 rfl (lv_at hl 0 rfl) ?_
  refine lv_if_eq (tgt := 20) hx hb dX8_ones_5 (by decide) (fun zc5 => ?_) (fun hc => absurd (by decide) hc)
  refine lv_iload_n hx hb dX8_ones_20 rfl (lv_at hl 1 rfl) ?_
  exact hret 0 () rfl (rfl) hP (hK.sub [] rfl) hD hS (Nat.le_of_ble_eq_true rfl) (Nat.le_of_ble_eq_true rfl) dX8_ones_21
set_option maxHeartbeats 4000000 in
set_option maxRecDepth 100000 in
theorem c_X8_serve (l : Launch) (D : va_G) (sz : Nat) (m a pa ka za : Nat) (cA : ClassId) (u0 : Int32) (y : Int64) (f : Nat → Int32) (hc : Nat) (h5 : f 5 = nI hc) (hh : hc ≤ 12) (h4 : hc = 0 ∨ f 4 = 0) : mV l yX8_serve wsX8_serve (rk 3 0 0) D [.ref m] [(cA, .int)] sz [(m, .inr (8, [.ref a, .ref pa, .int u0, .ref ka, .ref za, .long y])), (a, .inl (cA, 172, .inl f))] (S := Unit) (fun _ => True) (fun _ => []) (fun _ => [(m, .inr (8, [.ref a, .ref pa, .int u0, .ref ka, .ref za, .long y])), (a, .inl (cA, 172, .inl f))]) := by
  refine mV_of (cc := cX8_serve) (maxL := 5) (plainFor_of_name (by decide)) rfl (Nat.le_of_ble_eq_true rfl) ?_
  intro pp ee ss mm bl mt cd AA QQ hx hb hml hts hown hN hA hK hP hD hS hmn hret ls hl
  have hl : lv_has ls 5 [(0, .ref m)] := hl
  refine lv_iconst (v := 0) hx hb dX8_serve_0 (by decide) ?_
  refine lv_istore_n (lv' := [(1, .int 0), (0, .ref m)]) hx hb dX8_serve_1 rfl hl (by decide) rfl (fun ls hl => ?_)
  have lp : ∀ (fu : Nat) (t : Nat), (t ≤ 6) → (6 < t + fu) → ∀ (H : Heap) (locs : List Loc) (ls : Array Slot), va_P D vwCl [(m, .inr (8, [.ref a, .ref pa, .int u0, .ref ka, .ref za, .long y])), (a, .inl (cA, 172, .inl f))] H → va_S AA ss.heap H locs → lv_has ls 5 [(1, .int (nI t)), (0, .ref m)] → W pp l ee (rk 3 0 0) ss mm ([.ref m] : List Value).toArray bl mt cd H locs 0 0 QQ (F0 mm 2 ls []) := by
    intro fu
    induction fu with
    | zero =>
      intro t ht hf H locs ls hP hS hl
      exact absurd hf (by omega)
    | succ fu ih =>
      intro t ht hf H locs ls hP hS hl
      refine lv_iload_n hx hb dX8_serve_2 rfl (lv_at hl 0 rfl) ?_
      refine lv_bipush (v := 6) hx hb dX8_serve_3 (by decide) ?_
      refine lv_icmp_ge (tgt := 72) hx hb dX8_serve_5 (by decide) (fun zc5 => ?_) (fun zc5 => ?_)
      · exact hret () (trivial) hP (hK.sub [] rfl) hD hS (Nat.le_of_ble_eq_true rfl) (Nat.le_of_ble_eq_true rfl) dX8_serve_72
      · refine lv_iconst (v := 1) hx hb dX8_serve_8 (by decide) ?_
        refine lv_istore_n (lv' := [(2, .int 1), (1, .int (nI t)), (0, .ref m)]) hx hb dX8_serve_9 rfl hl (by decide) rfl (fun ls hl => ?_)
        refine lv_iload_n hx hb dX8_serve_10 rfl (lv_at hl 0 rfl) ?_
        refine lv_if_eq (tgt := 66) hx hb dX8_serve_11 (by decide) (fun hc => absurd hc (by decide)) (fun zc11 => ?_)
        refine lv_aload_n hx hb dX8_serve_14 rfl (lv_at hl 2 rfl) ?_
        refine lv_iload_n hx hb dX8_serve_15 rfl (lv_at hl 1 rfl) ?_
        refine k_pi (va_runV (As := [.int (nI t)]) (rest := []) ⟨hx, hb, hml, hown, hts⟩ (c_X8_firstOf l D H.size m a pa ka za cA u0 y f hc (nI t) h5 hh) (cwV 1 hts gX8_serve_X8_firstOf rfl rfl rfl (by decide +kernel) ⟨(Nat.le_of_ble_eq_true rfl), (Nat.le_of_ble_eq_true rfl)⟩) ⟨mP_blind, va_recv hK hP (ci := 8) (q0 := 0) rfl rfl, m_pre _ hN hK hP hD [0] rfl [0, 1] rfl (by decide)⟩ rfl rfl hl.1 rfl (lv_room (Nat.le_of_ble_eq_true rfl)) dX8_serve_16 ⟨(Nat.le_of_ble_eq_true rfl), (Nat.le_of_ble_eq_true rfl)⟩) hP hD hS hA [0, 1] rfl (fun r307 u H locs hw hP hS => ?_)
        rcases hw with rfl | ⟨j, hj, rfl⟩
        · refine lv_istore_n (lv' := [(3, .int (-1)), (2, .int 1), (1, .int (nI t)), (0, .ref m)]) hx hb dX8_serve_19 rfl hl (by decide) rfl (fun ls hl => ?_)
          refine lv_iload_n hx hb dX8_serve_20 rfl (lv_at hl 0 rfl) ?_
          refine lv_if_ge (tgt := 28) hx hb dX8_serve_21 (by decide) (fun hc => absurd hc (by decide)) (fun zc21 => ?_)
          refine lv_iconst (v := (-1)) hx hb dX8_serve_24 (by decide) ?_
          refine lv_goto (tgt := 39) hx hb dX8_serve_25 (by decide) ?_
          refine lv_istore (lv' := [(4, .int (-1)), (3, .int (-1)), (2, .int 1), (1, .int (nI t)), (0, .ref m)]) hx hb dX8_serve_39 hl (by decide) rfl (fun ls hl => ?_)
          refine lv_iload hx hb dX8_serve_41 (lv_at hl 0 rfl) ?_
          refine lv_if_lt (tgt := 50) hx hb dX8_serve_43 (by decide) (fun zc43 => ?_) (fun hc => absurd (by decide) hc)
          refine lv_iconst (v := 0) hx hb dX8_serve_50 (by decide) ?_
          refine lv_istore_n (lv' := [(2, .int 0), (4, .int (-1)), (3, .int (-1)), (1, .int (nI t)), (0, .ref m)]) hx hb dX8_serve_51 rfl hl (by decide) rfl (fun ls hl => ?_)
          refine lv_iload_n hx hb dX8_serve_52 rfl (lv_at hl 0 rfl) ?_
          refine lv_if_eq (tgt := 63) hx hb dX8_serve_53 (by decide) (fun zc53 => ?_) (fun hc => absurd (by decide) hc)
          refine lv_goto (tgt := 10) hx hb dX8_serve_63 (by decide) ?_
          refine lv_iload_n hx hb dX8_serve_10 rfl (lv_at hl 0 rfl) ?_
          refine lv_if_eq (tgt := 66) hx hb dX8_serve_11 (by decide) (fun zc11 => ?_) (fun hc => absurd (by decide) hc)
          refine lv_iinc (v := nI (t + 1)) (lv' := [(1, .int (nI (t + 1))), (2, .int 0), (4, .int (-1)), (3, .int (-1)), (0, .ref m)]) hx hb dX8_serve_66 hl (k := 3) rfl (nI_1 t) (by decide) rfl (fun ls hl => ?_)
          refine lv_goto (tgt := 2) hx hb dX8_serve_69 (by decide) ?_
          exact ih (t + 1) (by have := lt_of_nle (c := 6) zc5 ht (by decide); omega) (by omega) _ _ ls hP hS (lv_sub hl [0, 4] rfl)
        · refine lv_istore_n (lv' := [(3, .int (nI j)), (2, .int 1), (1, .int (nI t)), (0, .ref m)]) hx hb dX8_serve_19 rfl hl (by decide) rfl (fun ls hl => ?_)
          refine lv_iload_n hx hb dX8_serve_20 rfl (lv_at hl 0 rfl) ?_
          refine lv_if_ge (tgt := 28) hx hb dX8_serve_21 (by decide) (fun zc21 => ?_) (fun hc => absurd (nI_pos' (by omega)) hc)
          refine lv_aload_n hx hb dX8_serve_28 rfl (lv_at hl 3 rfl) ?_
          refine lv_iload_n hx hb dX8_serve_29 rfl (lv_at hl 2 rfl) ?_
          refine lv_aload_n hx hb dX8_serve_30 rfl (lv_at hl 3 rfl) ?_
          refine lv_iload_n hx hb dX8_serve_31 rfl (lv_at hl 0 rfl) ?_
          refine lv_iconst (v := 3) hx hb dX8_serve_32 (by decide) ?_
          refine k_pi (va_runV (As := [.int (nI j), .int 3]) (rest := [.int (nI t), .ref m]) ⟨hx, hb, hml, hown, hts⟩ (c_X8_holdAt l D H.size m a pa ka za cA u0 y f j 3 ⟨by omega, by decide⟩) (cwV 2 hts gX8_serve_X8_holdAt rfl rfl rfl (by decide +kernel) ⟨(Nat.le_of_ble_eq_true rfl), (Nat.le_of_ble_eq_true rfl)⟩) ⟨mP_blind, va_recv hK hP (ci := 8) (q0 := 0) rfl rfl, m_pre _ hN hK hP hD [0] rfl [0, 1] rfl (by decide)⟩ rfl rfl hl.1 rfl (lv_room (Nat.le_of_ble_eq_true rfl)) dX8_serve_33 ⟨(Nat.le_of_ble_eq_true rfl), (Nat.le_of_ble_eq_true rfl)⟩) hP hD hS hA [0, 1] rfl (fun r308 u H locs hw hP hS => ?_)
          refine k_pi (va_runV (As := [.int (nI t), .int r308]) (rest := []) ⟨hx, hb, hml, hown, hts⟩ (c_X8_nearest l D H.size m a pa ka za cA u0 y f (nI t) r308 (h4.resolve_left (by omega))) (cwV 2 hts gX8_serve_X8_nearest rfl rfl rfl (by decide +kernel) ⟨(Nat.le_of_ble_eq_true rfl), (Nat.le_of_ble_eq_true rfl)⟩) ⟨mP_blind, va_recv hK hP (ci := 8) (q0 := 0) rfl rfl, m_pre _ hN hK hP hD [0] rfl [0, 1] rfl (by decide)⟩ rfl rfl hl.1 rfl (lv_room (Nat.le_of_ble_eq_true rfl)) dX8_serve_36 ⟨(Nat.le_of_ble_eq_true rfl), (Nat.le_of_ble_eq_true rfl)⟩) hP hD hS hA [0, 1] rfl (fun r309 u H locs hw hP hS => ?_)
          obtain rfl := hw
          refine lv_istore (lv' := [(4, .int (-1)), (3, .int (nI j)), (2, .int 1), (1, .int (nI t)), (0, .ref m)]) hx hb dX8_serve_39 hl (by decide) rfl (fun ls hl => ?_)
          refine lv_iload hx hb dX8_serve_41 (lv_at hl 0 rfl) ?_
          refine lv_if_lt (tgt := 50) hx hb dX8_serve_43 (by decide) (fun zc43 => ?_) (fun hc => absurd (by decide) hc)
          refine lv_iconst (v := 0) hx hb dX8_serve_50 (by decide) ?_
          refine lv_istore_n (lv' := [(2, .int 0), (4, .int (-1)), (3, .int (nI j)), (1, .int (nI t)), (0, .ref m)]) hx hb dX8_serve_51 rfl hl (by decide) rfl (fun ls hl => ?_)
          refine lv_iload_n hx hb dX8_serve_52 rfl (lv_at hl 0 rfl) ?_
          refine lv_if_eq (tgt := 63) hx hb dX8_serve_53 (by decide) (fun zc53 => ?_) (fun hc => absurd (by decide) hc)
          refine lv_goto (tgt := 10) hx hb dX8_serve_63 (by decide) ?_
          refine lv_iload_n hx hb dX8_serve_10 rfl (lv_at hl 0 rfl) ?_
          refine lv_if_eq (tgt := 66) hx hb dX8_serve_11 (by decide) (fun zc11 => ?_) (fun hc => absurd (by decide) hc)
          refine lv_iinc (v := nI (t + 1)) (lv' := [(1, .int (nI (t + 1))), (2, .int 0), (4, .int (-1)), (3, .int (nI j)), (0, .ref m)]) hx hb dX8_serve_66 hl (k := 3) rfl (nI_1 t) (by decide) rfl (fun ls hl => ?_)
          refine lv_goto (tgt := 2) hx hb dX8_serve_69 (by decide) ?_
          exact ih (t + 1) (by have := lt_of_nle (c := 6) zc5 ht (by decide); omega) (by omega) _ _ ls hP hS (lv_sub hl [0, 4] rfl)
  exact lp 7 0 (by decide) (by decide) _ _ ls hP hS (lv_sub hl [0, 1] rfl)
set_option maxHeartbeats 4000000 in
set_option maxRecDepth 100000 in
theorem c_X8_passDay (l : Launch) (D : va_G) (sz : Nat) (m a pa ka za : Nat) (cA : ClassId) (u0 : Int32) (y : Int64) (f : Nat → Int32) (hc d : Nat) (hF : mF f hc d) (hh : hc ≤ 12) : mV l yX8_passDay wsX8_passDay (rk 4 0 0) D [.ref m] [(cA, .int)] sz [(m, .inr (8, [.ref a, .ref pa, .int u0, .ref ka, .ref za, .long y])), (a, .inl (cA, 172, .inl f))] (S := Nat → Int32) (fun g => mF g hc (d + 1)) (fun _ => []) (fun g => [(m, .inr (8, [.ref a, .ref pa, .int u0, .ref ka, .ref za, .long y])), (a, .inl (cA, 172, .inl g))]) := by
  refine mV_of (cc := cX8_passDay) (maxL := 2) (plainFor_of_name (by decide)) rfl (Nat.le_of_ble_eq_true rfl) ?_
  intro pp ee ss mm bl mt cd AA QQ hx hb hml hts hown hN hA hK hP hD hS hmn hret ls hl
  have hl : lv_has ls 2 [(0, .ref m)] := hl
  have inX8 : ∀ w ∈ wsX80, w ∈ wsX8_passDay := fun _ h => List.mem_cons_of_mem _ (List.mem_append_right _ h)
  refine lv_aload_n hx hb dX8_passDay_0 rfl (lv_at hl 0 rfl) ?_
  refine va_get (D := D) (ci := 8) (v := .ref a) (C := RX8) (T := TX8) (N := 6) hx hb hts inX8 hown hK hP 0 rfl rfl 0 (by decide) (hts (.fieldLink RX8 7 "LoanHouseModel" "st" "[I") (List.mem_of_getElem? (i := 1) rfl)) (fun _ h9 => h9) rfl dX8_passDay_1 ?_
  refine lv_iconst (v := 0) hx hb dX8_passDay_4 (by decide) ?_
  refine lv_dup2_11 hx hb dX8_passDay_5 rfl rfl ?_
  refine va_iald hx hb hK hP 1 0 rfl rfl (vi_ok (by decide)) dX8_passDay_6 ?_
  refine lv_topi (fun x310 ex310 => ?_)
  have ex310 : x310 = nI d := ex310.trans ((congrArg f (by decide : (0 : Int32).toNatClampNeg = 0)).trans hF.1)
  subst ex310
  refine lv_iconst (v := 1) hx hb dX8_passDay_7 (by decide) ?_
  refine lv_iadd hx hb dX8_passDay_8 ?_
  refine lv_topi (fun x311 ex311 => ?_)
  have ex311 : x311 = nI (d + 1) := ex311.trans (nI_1 d)
  subst ex311
  refine va_iast hx hb hK hP hD hS 1 0 rfl rfl (vi_ok (by decide)) dX8_passDay_9 (fun H locs hP hD hS => ?_)
  have hP : va_P D vwCl [(m, .inr (8, [.ref a, .ref pa, .int u0, .ref ka, .ref za, .long y])), (a, .inl (cA, 172, .inl (upd f (0 : Int32).toNatClampNeg (nI (d + 1)))))] H := hP
  have hD : va_D AA [(m, .inr (8, [.ref a, .ref pa, .int u0, .ref ka, .ref za, .long y])), (a, .inl (cA, 172, .inl (upd f (0 : Int32).toNatClampNeg (nI (d + 1)))))] := hD
  obtain ⟨f312, ef312⟩ : ∃ g : Nat → Int32, g = upd f (0 : Int32).toNatClampNeg (nI (d + 1)) := ⟨_, rfl⟩
  rw [← ef312] at hP hD
  have hf312_0 : f312 0 = nI (d + 1) := by rw [ef312, show (0 : Int32).toNatClampNeg = 0 from by decide]; exact pk_us
  have hf312_4 : f312 4 = 0 := by rw [ef312]; exact (pk_un (by decide)).trans hF.2.1
  have hf312_5 : f312 5 = nI hc := by rw [ef312]; exact (pk_un (by decide)).trans hF.2.2
  refine lv_aload_n hx hb dX8_passDay_10 rfl (lv_at hl 0 rfl) ?_
  refine va_get (D := D) (ci := 8) (v := .ref a) (C := RX8) (T := TX8) (N := 6) hx hb hts inX8 hown hK hP 0 rfl rfl 0 (by decide) (hts (.fieldLink RX8 7 "LoanHouseModel" "st" "[I") (List.mem_of_getElem? (i := 1) rfl)) (fun _ h9 => h9) rfl dX8_passDay_11 ?_
  refine lv_bipush (v := 7) hx hb dX8_passDay_14 (by decide) ?_
  refine lv_iconst (v := 0) hx hb dX8_passDay_16 (by decide) ?_
  refine va_iast hx hb hK hP hD hS 1 0 rfl rfl (vi_ok (by decide)) dX8_passDay_17 (fun H locs hP hD hS => ?_)
  have hP : va_P D vwCl [(m, .inr (8, [.ref a, .ref pa, .int u0, .ref ka, .ref za, .long y])), (a, .inl (cA, 172, .inl (upd f312 (7 : Int32).toNatClampNeg 0)))] H := hP
  have hD : va_D AA [(m, .inr (8, [.ref a, .ref pa, .int u0, .ref ka, .ref za, .long y])), (a, .inl (cA, 172, .inl (upd f312 (7 : Int32).toNatClampNeg 0)))] := hD
  obtain ⟨f313, ef313⟩ : ∃ g : Nat → Int32, g = upd f312 (7 : Int32).toNatClampNeg 0 := ⟨_, rfl⟩
  rw [← ef313] at hP hD
  have hf313_0 : f313 0 = nI (d + 1) := by rw [ef313]; exact (pk_un (by decide)).trans hf312_0
  have hf313_4 : f313 4 = 0 := by rw [ef313]; exact (pk_un (by decide)).trans hf312_4
  have hf313_5 : f313 5 = nI hc := by rw [ef313]; exact (pk_un (by decide)).trans hf312_5
  refine lv_iconst (v := 0) hx hb dX8_passDay_18 (by decide) ?_
  refine lv_istore_n (lv' := [(1, .int 0), (0, .ref m)]) hx hb dX8_passDay_19 rfl hl (by decide) rfl (fun ls hl => ?_)
  refine lv_iload_n hx hb dX8_passDay_20 rfl (lv_at hl 0 rfl) ?_
  refine lv_aload_n hx hb dX8_passDay_21 rfl (lv_at hl 1 rfl) ?_
  refine va_get (D := D) (ci := 8) (v := .ref a) (C := RX8) (T := TX8) (N := 6) hx hb hts inX8 hown hK hP 0 rfl rfl 0 (by decide) (hts (.fieldLink RX8 7 "LoanHouseModel" "st" "[I") (List.mem_of_getElem? (i := 1) rfl)) (fun _ h9 => h9) rfl dX8_passDay_22 ?_
  refine lv_iconst (v := 4) hx hb dX8_passDay_25 (by decide) ?_
  refine va_iald hx hb hK hP 1 0 rfl rfl (vi_ok (by decide)) dX8_passDay_26 ?_
  refine lv_topi (fun x314 ex314 => ?_)
  have ex314 : x314 = 0 := ex314.trans ((congrArg f313 (by decide : (4 : Int32).toNatClampNeg = 4)).trans hf313_4)
  subst ex314
  refine lv_icmp_ge (tgt := 161) hx hb dX8_passDay_27 (by decide) (fun zc27 => ?_) (fun hc => absurd (by decide) hc)
  refine lv_aload_n hx hb dX8_passDay_161 rfl (lv_at hl 1 rfl) ?_
  refine k_pv (va_runV (As := []) (rest := []) ⟨hx, hb, hml, hown, hts⟩ (c_X8_serve l D H.size m a pa ka za cA u0 y f313 hc hf313_5 hh (Or.inr hf313_4)) (cwV 0 hts gX8_passDay_X8_serve rfl rfl rfl (by decide +kernel) ⟨(Nat.le_of_ble_eq_true rfl), (Nat.le_of_ble_eq_true rfl)⟩) ⟨mP_blind, va_recv hK hP (ci := 8) (q0 := 0) rfl rfl, m_pre _ hN hK hP hD [0] rfl [0, 1] rfl (by decide)⟩ rfl rfl hl.1 rfl (lv_room (Nat.le_of_ble_eq_true rfl)) dX8_passDay_162 ⟨(Nat.le_of_ble_eq_true rfl), (Nat.le_of_ble_eq_true rfl)⟩) hP hD hS hA [0, 1] rfl (fun u H locs hw hP hS => ?_)
  exact hret f313 (⟨hf313_0, hf313_4, hf313_5⟩) (m_P hP (is := [0, 1]) rfl) (hK.sub [] rfl) (hD.sub [0, 1] (by decide) rfl) hS (Nat.le_of_ble_eq_true rfl) (Nat.le_of_ble_eq_true rfl) dX8_passDay_165
set_option maxHeartbeats 4000000 in
set_option maxRecDepth 100000 in
theorem c_X8_note (l : Launch) (D : va_G) (sz : Nat) (m a pa ka za : Nat) (cA cP : ClassId) (y : Int64) (f fp : Nat → Int32) : mV l yX8_note wsX8_note (rk 0 0 0) D [.ref m] [(cA, .int), (cP, .int)] sz [(m, .inr (8, [.ref a, .ref pa, .int 0, .ref ka, .ref za, .long y])), (a, .inl (cA, 172, .inl f)), (pa, .inl (cP, 1376, .inl fp))] (S := Unit) (fun _ => True) (fun _ => []) (fun _ => [(m, .inr (8, [.ref a, .ref pa, .int 1, .ref ka, .ref za, .long y])), (a, .inl (cA, 172, .inl f))]) := by
  refine mV_of (cc := cX8_note) (maxL := 2) (plainFor_of_name (by decide)) rfl (Nat.le_of_ble_eq_true rfl) ?_
  intro pp ee ss mm bl mt cd AA QQ hx hb hml hts hown hN hA hK hP hD hS hmn hret ls hl
  have hl : lv_has ls 2 [(0, .ref m)] := hl
  have inX8 : ∀ w ∈ wsX80, w ∈ wsX8_note := fun _ h => List.mem_cons_of_mem _ (List.mem_append_right _ h)
  refine lv_aload_n hx hb dX8_note_0 rfl (lv_at hl 0 rfl) ?_
  refine va_get (D := D) (ci := 8) (v := .int 0) (C := RX8) (T := TX8) (N := 6) hx hb hts inX8 hown hK hP 0 rfl rfl 2 (by decide) (hts (.fieldLink RX8 82 "LoanHouseModel" "undoMany" "I") (List.mem_of_getElem? (i := 1) rfl)) (fun _ h9 => h9) rfl dX8_note_1 ?_
  refine lv_bipush (v := 8) hx hb dX8_note_4 (by decide) ?_
  refine lv_icmp_ne (tgt := 50) hx hb dX8_note_6 (by decide) (fun zc6 => ?_) (fun hc => absurd hc (by decide))
  refine lv_iconst (v := 0) hx hb dX8_note_50 (by decide) ?_
  refine lv_istore_n (lv' := [(1, .int 0), (0, .ref m)]) hx hb dX8_note_51 rfl hl (by decide) rfl (fun ls hl => ?_)
  have lp : ∀ (fu : Nat) (i : Nat) (gp : Nat → Int32), (i ≤ 172) → (172 < i + fu) → ∀ (H : Heap) (locs : List Loc) (ls : Array Slot), va_P D vwCl [(m, .inr (8, [.ref a, .ref pa, .int 0, .ref ka, .ref za, .long y])), (a, .inl (cA, 172, .inl f)), (pa, .inl (cP, 1376, .inl gp))] H → va_D AA [(m, .inr (8, [.ref a, .ref pa, .int 0, .ref ka, .ref za, .long y])), (a, .inl (cA, 172, .inl f)), (pa, .inl (cP, 1376, .inl gp))] → va_S AA ss.heap H locs → lv_has ls 2 [(1, .int (nI i)), (0, .ref m)] → W pp l ee (rk 0 0 0) ss mm ([.ref m] : List Value).toArray bl mt cd H locs 0 0 QQ (F0 mm 52 ls []) := by
    intro fu
    induction fu with
    | zero =>
      intro i gp hi hf H locs ls hP hD hS hl
      exact absurd hf (by omega)
    | succ fu ih =>
      intro i gp hi hf H locs ls hP hD hS hl
      refine lv_iload_n hx hb dX8_note_52 rfl (lv_at hl 0 rfl) ?_
      refine lv_sipush (v := 172) hx hb dX8_note_53 (by decide) ?_
      refine lv_icmp_ge (tgt := 86) hx hb dX8_note_56 (by decide) (fun zc56 => ?_) (fun zc56 => ?_)
      · refine lv_aload_n hx hb dX8_note_86 rfl (lv_at hl 1 rfl) ?_
        refine lv_dup hx hb dX8_note_87 rfl ?_
        refine va_get (D := D) (ci := 8) (v := .int 0) (C := RX8) (T := TX8) (N := 6) hx hb hts inX8 hown hK hP 0 rfl rfl 2 (by decide) (hts (.fieldLink RX8 82 "LoanHouseModel" "undoMany" "I") (List.mem_of_getElem? (i := 1) rfl)) (fun _ h9 => h9) rfl dX8_note_88 ?_
        refine lv_iconst (v := 1) hx hb dX8_note_91 (by decide) ?_
        refine lv_iadd hx hb dX8_note_92 ?_
        refine lv_topi (fun x316 ex316 => ?_)
        have ex316 : x316 = 1 := ex316.trans (by decide)
        subst ex316
        refine va_put (D := D) (ci := 8) (v := .int 1) (ty := .int) (C := RX8) (T := TX8) (N := 6) hx hb hts inX8 tyX8 tyX8_ok nmX8 hown hK hP hD hS 0 rfl rfl 2 (by decide) (hts (.fieldLink RX8 82 "LoanHouseModel" "undoMany" "I") (List.mem_of_getElem? (i := 1) rfl)) (fun _ h9 => h9) rfl (by decide +kernel) rfl rfl (Nat.le_of_ble_eq_true rfl) dX8_note_93 (fun H locs hP hD hS => ?_)
        have hP : va_P D vwCl [(m, .inr (8, [.ref a, .ref pa, .int 1, .ref ka, .ref za, .long y])), (a, .inl (cA, 172, .inl f)), (pa, .inl (cP, 1376, .inl gp))] H := hP
        have hD : va_D AA [(m, .inr (8, [.ref a, .ref pa, .int 1, .ref ka, .ref za, .long y])), (a, .inl (cA, 172, .inl f)), (pa, .inl (cP, 1376, .inl gp))] := hD
        exact hret () (trivial) (m_P hP (is := [0, 1]) rfl) (hK.sub [] rfl) (hD.sub [0, 1] (by decide) rfl) hS (Nat.le_of_ble_eq_true rfl) (Nat.le_of_ble_eq_true rfl) dX8_note_96
      · refine lv_aload_n hx hb dX8_note_59 rfl (lv_at hl 1 rfl) ?_
        refine va_get (D := D) (ci := 8) (v := .ref pa) (C := RX8) (T := TX8) (N := 6) hx hb hts inX8 hown hK hP 0 rfl rfl 1 (by decide) (hts (.fieldLink RX8 13 "LoanHouseModel" "past" "[I") (List.mem_of_getElem? (i := 2) rfl)) (fun _ h9 => h9) rfl dX8_note_60 ?_
        refine lv_sipush (v := 172) hx hb dX8_note_63 (by decide) ?_
        refine lv_aload_n hx hb dX8_note_66 rfl (lv_at hl 1 rfl) ?_
        refine va_get (D := D) (ci := 8) (v := .int 0) (C := RX8) (T := TX8) (N := 6) hx hb hts inX8 hown hK hP 0 rfl rfl 2 (by decide) (hts (.fieldLink RX8 82 "LoanHouseModel" "undoMany" "I") (List.mem_of_getElem? (i := 1) rfl)) (fun _ h9 => h9) rfl dX8_note_67 ?_
        refine lv_imul hx hb dX8_note_70 ?_
        refine lv_topi (fun x317 ex317 => ?_)
        have ex317 : x317 = 0 := ex317.trans (by decide)
        subst ex317
        refine lv_iload_n hx hb dX8_note_71 rfl (lv_at hl 0 rfl) ?_
        refine lv_iadd hx hb dX8_note_72 ?_
        refine lv_topi (fun x318 ex318 => ?_)
        have ex318 : x318 = nI i := ex318.trans (Int32.zero_add _)
        subst ex318
        refine lv_aload_n hx hb dX8_note_73 rfl (lv_at hl 1 rfl) ?_
        refine va_get (D := D) (ci := 8) (v := .ref a) (C := RX8) (T := TX8) (N := 6) hx hb hts inX8 hown hK hP 0 rfl rfl 0 (by decide) (hts (.fieldLink RX8 7 "LoanHouseModel" "st" "[I") (List.mem_of_getElem? (i := 3) rfl)) (fun _ h9 => h9) rfl dX8_note_74 ?_
        refine lv_iload_n hx hb dX8_note_77 rfl (lv_at hl 0 rfl) ?_
        refine va_iald hx hb hK hP 1 0 rfl rfl (vp_in_nI (by have := lt_of_nleN zc56 hi; omega) (by decide)) dX8_note_78 ?_
        refine lv_topi (fun x319 ex319 => ?_)
        refine va_iast hx hb hK hP hD hS 2 1 rfl rfl (vp_in_nI (by have := lt_of_nleN zc56 hi; omega) (by decide)) dX8_note_79 (fun H locs hP hD hS => ?_)
        have hP : va_P D vwCl [(m, .inr (8, [.ref a, .ref pa, .int 0, .ref ka, .ref za, .long y])), (a, .inl (cA, 172, .inl f)), (pa, .inl (cP, 1376, .inl (upd gp (nI i).toNatClampNeg x319)))] H := hP
        have hD : va_D AA [(m, .inr (8, [.ref a, .ref pa, .int 0, .ref ka, .ref za, .long y])), (a, .inl (cA, 172, .inl f)), (pa, .inl (cP, 1376, .inl (upd gp (nI i).toNatClampNeg x319)))] := hD
        obtain ⟨f320, ef320⟩ : ∃ g : Nat → Int32, g = upd gp (nI i).toNatClampNeg x319 := ⟨_, rfl⟩
        rw [← ef320] at hP hD
        refine lv_iinc (v := nI (i + 1)) (lv' := [(1, .int (nI (i + 1))), (0, .ref m)]) hx hb dX8_note_80 hl (k := 0) rfl (nI_1 i) (by decide) rfl (fun ls hl => ?_)
        refine lv_goto (tgt := 52) hx hb dX8_note_83 (by decide) ?_
        exact ih (i + 1) f320 (by have := lt_of_nleN zc56 hi; omega) (by omega) _ _ ls hP hD hS (lv_sub hl [0, 1] rfl)
  exact lp 173 0 fp (by decide) (by decide) _ _ ls hP hD hS (lv_sub hl [0, 1] rfl)
set_option maxHeartbeats 4000000 in
set_option maxRecDepth 100000 in
theorem c_X8_init (l : Launch) (D : va_G) (sz : Nat) (m : Nat) : mV l yX8_init wsX8_init (rk 1 4 1894) D [.ref m] [] sz [(m, .inr (8, [.null, .null, .int 0, .null, .null, .long 0]))] (S := Nat × ClassId × (Nat → Int32) × Nat × ClassId × (Nat → Int32) × Nat × ClassId × (Nat → Int32) × Nat × ClassId) (fun u => st0 u.2.2.1) (fun u => [(u.2.1, .int), (u.2.2.2.2.1, .int), (u.2.2.2.2.2.2.2.1, .int), (u.2.2.2.2.2.2.2.2.2.2, .boolean)]) (fun u => [(m, .inr (8, [.ref u.1, .ref u.2.2.2.1, .int 0, .ref u.2.2.2.2.2.2.1, .ref u.2.2.2.2.2.2.2.2.2.1, .long 0])), (u.1, .inl (u.2.1, 172, .inl u.2.2.1)), (u.2.2.2.1, .inl (u.2.2.2.2.1, 1376, .inl u.2.2.2.2.2.1)), (u.2.2.2.2.2.2.1, .inl (u.2.2.2.2.2.2.2.1, 344, .inl u.2.2.2.2.2.2.2.2.1)), (u.2.2.2.2.2.2.2.2.2.1, .inl (u.2.2.2.2.2.2.2.2.2.2, 2, .inl (fun _ => 0)))]) := by
  refine mV_of (cc := cX8_init) (maxL := 1) (plainFor_of_name (by decide)) rfl (Nat.le_of_ble_eq_true rfl) ?_
  intro pp ee ss mm bl mt cd AA QQ hx hb hml hts hown hN hA hK hP hD hS hmn hret ls hl
  have hl : lv_has ls 1 [(0, .ref m)] := hl
  have inX8 : ∀ w ∈ wsX80, w ∈ wsX8_init := fun _ h => List.mem_cons_of_mem _ (List.mem_append_right _ h)
  refine lv_aload_n hx hb dX8_init_0 rfl (lv_at hl 0 rfl) ?_
  refine W.objInit hx hb hown (hts (.methodLink RX8 1 objectInit) (List.mem_of_getElem? (i := 1) rfl)) (hts (.instanceMethod objectInit) (List.mem_of_getElem? (i := 2) rfl)) (hts (.code objectInit ⟨#[0xb1]⟩ 1 none) (List.mem_of_getElem? (i := 3) rfl)) rfl (by rw [hml]; exact hl.1) rfl dX8_init_1 (Nat.le_of_ble_eq_true rfl) (Nat.le_of_ble_eq_true rfl) ?_
  refine W.eq (g2 := F0 mm 4 ls []) rfl ?_
  refine lv_aload_n hx hb dX8_init_4 rfl (lv_at hl 0 rfl) ?_
  refine lv_sipush (v := 172) hx hb dX8_init_5 (by decide) ?_
  refine va_newa (atype := .int) (ty := .int) (N' := 172) (a0 := (172, .inl (fun _ => 0))) hx hb (hts (.arrayClass .int) (List.mem_of_getElem? (i := 4) rfl)) rfl hK hP hD hS hA (fun _ => rfl) (by decide) (by decide) (by decide) (Nat.le_of_ble_eq_true rfl) (Nat.le_of_ble_eq_true rfl) dX8_init_8 (fun q321 cA322 H hK hP hD hS => ?_)
  have hP : va_P D vwCl [(m, .inr (8, [.null, .null, .int 0, .null, .null, .long 0])), (q321, .inl (cA322, 172, .inl (fun _ => 0)))] H := hP
  have hD : va_D AA [(m, .inr (8, [.null, .null, .int 0, .null, .null, .long 0])), (q321, .inl (cA322, 172, .inl (fun _ => 0)))] := hD
  have hK : va_K D vwCl [(cA322, .int)] ss := hK
  refine W.widen (k := 1) (n := 172) (Nat.le_of_ble_eq_true rfl) (Nat.le_of_ble_eq_true rfl) ?_
  refine va_putF (D := D) (ci := 8) (v := .ref q321) (ty := .array .int) (C := RX8) (T := TX8) (N := 6) hx hb hts inX8 tyX8 tyX8_ok nmX8 hown hK hP hD hS 0 rfl rfl 0 (by decide) (hts (.fieldLink RX8 7 "LoanHouseModel" "st" "[I") (List.mem_of_getElem? (i := 5) rfl)) (fun _ h9 => h9) rfl hmn rfl (by decide +kernel) rfl rfl (Nat.le_of_ble_eq_true rfl) dX8_init_10 (fun H locs hP hD hS => ?_)
  have hP : va_P D vwCl [(m, .inr (8, [.ref q321, .null, .int 0, .null, .null, .long 0])), (q321, .inl (cA322, 172, .inl (fun _ => 0)))] H := hP
  have hD : va_D AA [(m, .inr (8, [.ref q321, .null, .int 0, .null, .null, .long 0])), (q321, .inl (cA322, 172, .inl (fun _ => 0)))] := hD
  refine lv_aload_n hx hb dX8_init_13 rfl (lv_at hl 0 rfl) ?_
  refine lv_sipush (v := 1376) hx hb dX8_init_14 (by decide) ?_
  refine va_newa (atype := .int) (ty := .int) (N' := 1376) (a0 := (1376, .inl (fun _ => 0))) hx hb (hts (.arrayClass .int) (List.mem_of_getElem? (i := 4) rfl)) rfl hK hP hD hS hA (fun _ => rfl) (by decide) (by decide) (by decide) (Nat.le_of_ble_eq_true rfl) (Nat.le_of_ble_eq_true rfl) dX8_init_17 (fun q323 cA324 H hK hP hD hS => ?_)
  have hP : va_P D vwCl [(m, .inr (8, [.ref q321, .null, .int 0, .null, .null, .long 0])), (q321, .inl (cA322, 172, .inl (fun _ => 0))), (q323, .inl (cA324, 1376, .inl (fun _ => 0)))] H := hP
  have hD : va_D AA [(m, .inr (8, [.ref q321, .null, .int 0, .null, .null, .long 0])), (q321, .inl (cA322, 172, .inl (fun _ => 0))), (q323, .inl (cA324, 1376, .inl (fun _ => 0)))] := hD
  have hK : va_K D vwCl [(cA322, .int), (cA324, .int)] ss := hK
  refine W.widen (k := 2) (n := 1548) (Nat.le_of_ble_eq_true rfl) (Nat.le_of_ble_eq_true rfl) ?_
  refine va_putF (D := D) (ci := 8) (v := .ref q323) (ty := .array .int) (C := RX8) (T := TX8) (N := 6) hx hb hts inX8 tyX8 tyX8_ok nmX8 hown hK hP hD hS 0 rfl rfl 1 (by decide) (hts (.fieldLink RX8 13 "LoanHouseModel" "past" "[I") (List.mem_of_getElem? (i := 6) rfl)) (fun _ h9 => h9) rfl hmn rfl (by decide +kernel) rfl rfl (Nat.le_of_ble_eq_true rfl) dX8_init_19 (fun H locs hP hD hS => ?_)
  have hP : va_P D vwCl [(m, .inr (8, [.ref q321, .ref q323, .int 0, .null, .null, .long 0])), (q321, .inl (cA322, 172, .inl (fun _ => 0))), (q323, .inl (cA324, 1376, .inl (fun _ => 0)))] H := hP
  have hD : va_D AA [(m, .inr (8, [.ref q321, .ref q323, .int 0, .null, .null, .long 0])), (q321, .inl (cA322, 172, .inl (fun _ => 0))), (q323, .inl (cA324, 1376, .inl (fun _ => 0)))] := hD
  refine lv_aload_n hx hb dX8_init_22 rfl (lv_at hl 0 rfl) ?_
  refine lv_sipush (v := 344) hx hb dX8_init_23 (by decide) ?_
  refine va_newa (atype := .int) (ty := .int) (N' := 344) (a0 := (344, .inl (fun _ => 0))) hx hb (hts (.arrayClass .int) (List.mem_of_getElem? (i := 4) rfl)) rfl hK hP hD hS hA (fun _ => rfl) (by decide) (by decide) (by decide) (Nat.le_of_ble_eq_true rfl) (Nat.le_of_ble_eq_true rfl) dX8_init_26 (fun q325 cA326 H hK hP hD hS => ?_)
  have hP : va_P D vwCl [(m, .inr (8, [.ref q321, .ref q323, .int 0, .null, .null, .long 0])), (q321, .inl (cA322, 172, .inl (fun _ => 0))), (q323, .inl (cA324, 1376, .inl (fun _ => 0))), (q325, .inl (cA326, 344, .inl (fun _ => 0)))] H := hP
  have hD : va_D AA [(m, .inr (8, [.ref q321, .ref q323, .int 0, .null, .null, .long 0])), (q321, .inl (cA322, 172, .inl (fun _ => 0))), (q323, .inl (cA324, 1376, .inl (fun _ => 0))), (q325, .inl (cA326, 344, .inl (fun _ => 0)))] := hD
  have hK : va_K D vwCl [(cA322, .int), (cA324, .int), (cA326, .int)] ss := hK
  refine W.widen (k := 3) (n := 1892) (Nat.le_of_ble_eq_true rfl) (Nat.le_of_ble_eq_true rfl) ?_
  refine va_putF (D := D) (ci := 8) (v := .ref q325) (ty := .array .int) (C := RX8) (T := TX8) (N := 6) hx hb hts inX8 tyX8 tyX8_ok nmX8 hown hK hP hD hS 0 rfl rfl 3 (by decide) (hts (.fieldLink RX8 16 "LoanHouseModel" "kept" "[I") (List.mem_of_getElem? (i := 7) rfl)) (fun _ h9 => h9) rfl hmn rfl (by decide +kernel) rfl rfl (Nat.le_of_ble_eq_true rfl) dX8_init_28 (fun H locs hP hD hS => ?_)
  have hP : va_P D vwCl [(m, .inr (8, [.ref q321, .ref q323, .int 0, .ref q325, .null, .long 0])), (q321, .inl (cA322, 172, .inl (fun _ => 0))), (q323, .inl (cA324, 1376, .inl (fun _ => 0))), (q325, .inl (cA326, 344, .inl (fun _ => 0)))] H := hP
  have hD : va_D AA [(m, .inr (8, [.ref q321, .ref q323, .int 0, .ref q325, .null, .long 0])), (q321, .inl (cA322, 172, .inl (fun _ => 0))), (q323, .inl (cA324, 1376, .inl (fun _ => 0))), (q325, .inl (cA326, 344, .inl (fun _ => 0)))] := hD
  refine lv_aload_n hx hb dX8_init_31 rfl (lv_at hl 0 rfl) ?_
  refine lv_iconst (v := 2) hx hb dX8_init_32 (by decide) ?_
  refine va_newa (atype := .boolean) (ty := .boolean) (N' := 2) (a0 := (2, .inl (fun _ => 0))) hx hb (hts (.arrayClass .boolean) (List.mem_of_getElem? (i := 8) rfl)) rfl hK hP hD hS hA (fun _ => rfl) (by decide) (by decide) (by decide) (Nat.le_of_ble_eq_true rfl) (Nat.le_of_ble_eq_true rfl) dX8_init_33 (fun q327 cA328 H hK hP hD hS => ?_)
  have hP : va_P D vwCl [(m, .inr (8, [.ref q321, .ref q323, .int 0, .ref q325, .null, .long 0])), (q321, .inl (cA322, 172, .inl (fun _ => 0))), (q323, .inl (cA324, 1376, .inl (fun _ => 0))), (q325, .inl (cA326, 344, .inl (fun _ => 0))), (q327, .inl (cA328, 2, .inl (fun _ => 0)))] H := hP
  have hD : va_D AA [(m, .inr (8, [.ref q321, .ref q323, .int 0, .ref q325, .null, .long 0])), (q321, .inl (cA322, 172, .inl (fun _ => 0))), (q323, .inl (cA324, 1376, .inl (fun _ => 0))), (q325, .inl (cA326, 344, .inl (fun _ => 0))), (q327, .inl (cA328, 2, .inl (fun _ => 0)))] := hD
  have hK : va_K D vwCl [(cA322, .int), (cA324, .int), (cA326, .int), (cA328, .boolean)] ss := hK
  refine W.widen (k := 4) (n := 1894) (Nat.le_of_ble_eq_true rfl) (Nat.le_of_ble_eq_true rfl) ?_
  refine va_putF (D := D) (ci := 8) (v := .ref q327) (ty := .array .boolean) (C := RX8) (T := TX8) (N := 6) hx hb hts inX8 tyX8 tyX8_ok nmX8 hown hK hP hD hS 0 rfl rfl 4 (by decide) (hts (.fieldLink RX8 19 "LoanHouseModel" "isKept" "[Z") (List.mem_of_getElem? (i := 9) rfl)) (fun _ h9 => h9) rfl hmn rfl (by decide +kernel) rfl rfl (Nat.le_of_ble_eq_true rfl) dX8_init_35 (fun H locs hP hD hS => ?_)
  have hP : va_P D vwCl [(m, .inr (8, [.ref q321, .ref q323, .int 0, .ref q325, .ref q327, .long 0])), (q321, .inl (cA322, 172, .inl (fun _ => 0))), (q323, .inl (cA324, 1376, .inl (fun _ => 0))), (q325, .inl (cA326, 344, .inl (fun _ => 0))), (q327, .inl (cA328, 2, .inl (fun _ => 0)))] H := hP
  have hD : va_D AA [(m, .inr (8, [.ref q321, .ref q323, .int 0, .ref q325, .ref q327, .long 0])), (q321, .inl (cA322, 172, .inl (fun _ => 0))), (q323, .inl (cA324, 1376, .inl (fun _ => 0))), (q325, .inl (cA326, 344, .inl (fun _ => 0))), (q327, .inl (cA328, 2, .inl (fun _ => 0)))] := hD
  refine lv_aload_n hx hb dX8_init_38 rfl (lv_at hl 0 rfl) ?_
  refine va_get (D := D) (ci := 8) (v := .ref q321) (C := RX8) (T := TX8) (N := 6) hx hb hts inX8 hown hK hP 0 rfl rfl 0 (by decide) (hts (.fieldLink RX8 7 "LoanHouseModel" "st" "[I") (List.mem_of_getElem? (i := 5) rfl)) (fun _ h9 => h9) rfl dX8_init_39 ?_
  refine lv_iconst (v := 1) hx hb dX8_init_42 (by decide) ?_
  refine lv_bipush (v := 14) hx hb dX8_init_43 (by decide) ?_
  refine va_iast hx hb hK hP hD hS 1 0 rfl rfl (vi_ok (by decide)) dX8_init_45 (fun H locs hP hD hS => ?_)
  have hP : va_P D vwCl [(m, .inr (8, [.ref q321, .ref q323, .int 0, .ref q325, .ref q327, .long 0])), (q321, .inl (cA322, 172, .inl (upd (fun _ => 0) (1 : Int32).toNatClampNeg 14))), (q323, .inl (cA324, 1376, .inl (fun _ => 0))), (q325, .inl (cA326, 344, .inl (fun _ => 0))), (q327, .inl (cA328, 2, .inl (fun _ => 0)))] H := hP
  have hD : va_D AA [(m, .inr (8, [.ref q321, .ref q323, .int 0, .ref q325, .ref q327, .long 0])), (q321, .inl (cA322, 172, .inl (upd (fun _ => 0) (1 : Int32).toNatClampNeg 14))), (q323, .inl (cA324, 1376, .inl (fun _ => 0))), (q325, .inl (cA326, 344, .inl (fun _ => 0))), (q327, .inl (cA328, 2, .inl (fun _ => 0)))] := hD
  obtain ⟨f329, ef329⟩ : ∃ g : Nat → Int32, g = upd (fun _ => 0) (1 : Int32).toNatClampNeg 14 := ⟨_, rfl⟩
  rw [← ef329] at hP hD
  have hf329_0 : f329 0 = 0 := by rw [ef329]; exact (pk_un (by decide)).trans rfl
  have hf329_1 : f329 1 = 14 := by rw [ef329, show (1 : Int32).toNatClampNeg = 1 from by decide]; exact pk_us
  have hf329_2 : f329 2 = 0 := by rw [ef329]; exact (pk_un (by decide)).trans rfl
  have hf329_3 : f329 3 = 0 := by rw [ef329]; exact (pk_un (by decide)).trans rfl
  have hf329_4 : f329 4 = 0 := by rw [ef329]; exact (pk_un (by decide)).trans rfl
  have hf329_5 : f329 5 = 0 := by rw [ef329]; exact (pk_un (by decide)).trans rfl
  have hf329_6 : f329 6 = 0 := by rw [ef329]; exact (pk_un (by decide)).trans rfl
  have hf329_7 : f329 7 = 0 := by rw [ef329]; exact (pk_un (by decide)).trans rfl
  refine lv_aload_n hx hb dX8_init_46 rfl (lv_at hl 0 rfl) ?_
  refine va_get (D := D) (ci := 8) (v := .ref q321) (C := RX8) (T := TX8) (N := 6) hx hb hts inX8 hown hK hP 0 rfl rfl 0 (by decide) (hts (.fieldLink RX8 7 "LoanHouseModel" "st" "[I") (List.mem_of_getElem? (i := 5) rfl)) (fun _ h9 => h9) rfl dX8_init_47 ?_
  refine lv_iconst (v := 2) hx hb dX8_init_50 (by decide) ?_
  refine lv_iconst (v := 3) hx hb dX8_init_51 (by decide) ?_
  refine va_iast hx hb hK hP hD hS 1 0 rfl rfl (vi_ok (by decide)) dX8_init_52 (fun H locs hP hD hS => ?_)
  have hP : va_P D vwCl [(m, .inr (8, [.ref q321, .ref q323, .int 0, .ref q325, .ref q327, .long 0])), (q321, .inl (cA322, 172, .inl (upd f329 (2 : Int32).toNatClampNeg 3))), (q323, .inl (cA324, 1376, .inl (fun _ => 0))), (q325, .inl (cA326, 344, .inl (fun _ => 0))), (q327, .inl (cA328, 2, .inl (fun _ => 0)))] H := hP
  have hD : va_D AA [(m, .inr (8, [.ref q321, .ref q323, .int 0, .ref q325, .ref q327, .long 0])), (q321, .inl (cA322, 172, .inl (upd f329 (2 : Int32).toNatClampNeg 3))), (q323, .inl (cA324, 1376, .inl (fun _ => 0))), (q325, .inl (cA326, 344, .inl (fun _ => 0))), (q327, .inl (cA328, 2, .inl (fun _ => 0)))] := hD
  obtain ⟨f330, ef330⟩ : ∃ g : Nat → Int32, g = upd f329 (2 : Int32).toNatClampNeg 3 := ⟨_, rfl⟩
  rw [← ef330] at hP hD
  have hf330_0 : f330 0 = 0 := by rw [ef330]; exact (pk_un (by decide)).trans hf329_0
  have hf330_1 : f330 1 = 14 := by rw [ef330]; exact (pk_un (by decide)).trans hf329_1
  have hf330_2 : f330 2 = 3 := by rw [ef330, show (2 : Int32).toNatClampNeg = 2 from by decide]; exact pk_us
  have hf330_3 : f330 3 = 0 := by rw [ef330]; exact (pk_un (by decide)).trans hf329_3
  have hf330_4 : f330 4 = 0 := by rw [ef330]; exact (pk_un (by decide)).trans hf329_4
  have hf330_5 : f330 5 = 0 := by rw [ef330]; exact (pk_un (by decide)).trans hf329_5
  have hf330_6 : f330 6 = 0 := by rw [ef330]; exact (pk_un (by decide)).trans hf329_6
  have hf330_7 : f330 7 = 0 := by rw [ef330]; exact (pk_un (by decide)).trans hf329_7
  refine lv_aload_n hx hb dX8_init_53 rfl (lv_at hl 0 rfl) ?_
  refine va_get (D := D) (ci := 8) (v := .ref q321) (C := RX8) (T := TX8) (N := 6) hx hb hts inX8 hown hK hP 0 rfl rfl 0 (by decide) (hts (.fieldLink RX8 7 "LoanHouseModel" "st" "[I") (List.mem_of_getElem? (i := 5) rfl)) (fun _ h9 => h9) rfl dX8_init_54 ?_
  refine lv_iconst (v := 3) hx hb dX8_init_57 (by decide) ?_
  refine lv_bipush (v := 64) hx hb dX8_init_58 (by decide) ?_
  refine va_iast hx hb hK hP hD hS 1 0 rfl rfl (vi_ok (by decide)) dX8_init_60 (fun H locs hP hD hS => ?_)
  have hP : va_P D vwCl [(m, .inr (8, [.ref q321, .ref q323, .int 0, .ref q325, .ref q327, .long 0])), (q321, .inl (cA322, 172, .inl (upd f330 (3 : Int32).toNatClampNeg 64))), (q323, .inl (cA324, 1376, .inl (fun _ => 0))), (q325, .inl (cA326, 344, .inl (fun _ => 0))), (q327, .inl (cA328, 2, .inl (fun _ => 0)))] H := hP
  have hD : va_D AA [(m, .inr (8, [.ref q321, .ref q323, .int 0, .ref q325, .ref q327, .long 0])), (q321, .inl (cA322, 172, .inl (upd f330 (3 : Int32).toNatClampNeg 64))), (q323, .inl (cA324, 1376, .inl (fun _ => 0))), (q325, .inl (cA326, 344, .inl (fun _ => 0))), (q327, .inl (cA328, 2, .inl (fun _ => 0)))] := hD
  obtain ⟨f331, ef331⟩ : ∃ g : Nat → Int32, g = upd f330 (3 : Int32).toNatClampNeg 64 := ⟨_, rfl⟩
  rw [← ef331] at hP hD
  have hf331_0 : f331 0 = 0 := by rw [ef331]; exact (pk_un (by decide)).trans hf330_0
  have hf331_1 : f331 1 = 14 := by rw [ef331]; exact (pk_un (by decide)).trans hf330_1
  have hf331_2 : f331 2 = 3 := by rw [ef331]; exact (pk_un (by decide)).trans hf330_2
  have hf331_3 : f331 3 = 64 := by rw [ef331, show (3 : Int32).toNatClampNeg = 3 from by decide]; exact pk_us
  have hf331_4 : f331 4 = 0 := by rw [ef331]; exact (pk_un (by decide)).trans hf330_4
  have hf331_5 : f331 5 = 0 := by rw [ef331]; exact (pk_un (by decide)).trans hf330_5
  have hf331_6 : f331 6 = 0 := by rw [ef331]; exact (pk_un (by decide)).trans hf330_6
  have hf331_7 : f331 7 = 0 := by rw [ef331]; exact (pk_un (by decide)).trans hf330_7
  exact hret (q321, cA322, f331, q323, cA324, fun _ => 0, q325, cA326, fun _ => 0, q327, cA328) (⟨hf331_0, hf331_1, hf331_2, hf331_3, hf331_4, hf331_5, hf331_6, hf331_7⟩) (m_P hP (is := [0, 1, 2, 3, 4]) rfl) (hK.sub [0, 1, 2, 3] rfl) (hD.sub [0, 1, 2, 3, 4] (by decide) rfl) hS (Nat.le_of_ble_eq_true rfl) (Nat.le_of_ble_eq_true rfl) dX8_init_61
set_option maxHeartbeats 4000000 in
set_option maxRecDepth 100000 in
theorem c_X8_lend (l : Launch) (D : va_G) (sz : Nat) (m a pa ka za : Nat) (cA : ClassId) (u0 : Int32) (y : Int64) (f : Nat → Int32) (p q : Int32) (h4 : f 4 = 0) : mI l yX8_lend wsX8_lend (rk 2 0 0) D [.ref m, .int p, .int q] [(cA, .int)] sz [(m, .inr (8, [.ref a, .ref pa, .int u0, .ref ka, .ref za, .long y])), (a, .inl (cA, 172, .inl f))] (S := Unit) (fun r _ => r = (-1000000001)) (fun _ => []) (fun _ => [(m, .inr (8, [.ref a, .ref pa, .int u0, .ref ka, .ref za, .long y])), (a, .inl (cA, 172, .inl f))]) := by
  refine mI_of (cc := cX8_lend) (maxL := 3) (ty := .int) (plainFor_of_name (by decide)) rfl (Nat.le_of_ble_eq_true rfl) ?_
  intro pp ee ss mm bl mt cd AA QQ hx hb hml hts hown hN hA hK hP hD hS hret ls hl
  have hl : lv_has ls 3 [(0, .ref m), (1, .int p), (2, .int q)] := hl
  refine lv_aload_n hx hb dX8_lend_0 rfl (lv_at hl 0 rfl) ?_
  refine lv_iload_n hx hb dX8_lend_1 rfl (lv_at hl 1 rfl) ?_
  refine k_pi (va_runV (As := [.int p]) (rest := []) ⟨hx, hb, hml, hown, hts⟩ (c_X8_isCopy l D ss.heap.size m a pa ka za cA u0 y f p h4) (cwV 1 hts gX8_lend_X8_isCopy rfl rfl rfl (by decide +kernel) ⟨(Nat.le_of_ble_eq_true rfl), (Nat.le_of_ble_eq_true rfl)⟩) ⟨mP_blind, va_recv hK hP (ci := 8) (q0 := 0) rfl rfl, m_pre _ hN hK hP hD [0] rfl [0, 1] rfl (by decide)⟩ rfl rfl hl.1 rfl (lv_room (Nat.le_of_ble_eq_true rfl)) dX8_lend_2 ⟨(Nat.le_of_ble_eq_true rfl), (Nat.le_of_ble_eq_true rfl)⟩) hP hD hS hA [0, 1] rfl (fun r332 u H locs hw hP hS => ?_)
  obtain rfl := hw
  refine lv_if_eq (tgt := 15) hx hb dX8_lend_5 (by decide) (fun zc5 => ?_) (fun hc => absurd (by decide) hc)
  refine lv_ldc hx hb hown (hts (.constant RX8 92 (-1000000001)) (List.mem_of_getElem? (i := 1) rfl)) dX8_lend_15 ?_
  exact hret (-1000000001) () rfl (rfl) hP (hK.sub [] rfl) hD hS (Nat.le_of_ble_eq_true rfl) (Nat.le_of_ble_eq_true rfl) dX8_lend_17
set_option maxHeartbeats 4000000 in
set_option maxRecDepth 100000 in
theorem c_X8_giveBack (l : Launch) (D : va_G) (sz : Nat) (m a pa ka za : Nat) (cA : ClassId) (u0 : Int32) (y : Int64) (f : Nat → Int32) (p q : Int32) (h4 : f 4 = 0) : mI l yX8_giveBack wsX8_giveBack (rk 2 0 0) D [.ref m, .int p, .int q] [(cA, .int)] sz [(m, .inr (8, [.ref a, .ref pa, .int u0, .ref ka, .ref za, .long y])), (a, .inl (cA, 172, .inl f))] (S := Unit) (fun r _ => r = (-1000000001)) (fun _ => []) (fun _ => [(m, .inr (8, [.ref a, .ref pa, .int u0, .ref ka, .ref za, .long y])), (a, .inl (cA, 172, .inl f))]) := by
  refine mI_of (cc := cX8_giveBack) (maxL := 4) (ty := .int) (plainFor_of_name (by decide)) rfl (Nat.le_of_ble_eq_true rfl) ?_
  intro pp ee ss mm bl mt cd AA QQ hx hb hml hts hown hN hA hK hP hD hS hret ls hl
  have hl : lv_has ls 4 [(0, .ref m), (1, .int p), (2, .int q)] := hl
  refine lv_aload_n hx hb dX8_giveBack_0 rfl (lv_at hl 0 rfl) ?_
  refine lv_iload_n hx hb dX8_giveBack_1 rfl (lv_at hl 1 rfl) ?_
  refine k_pi (va_runV (As := [.int p]) (rest := []) ⟨hx, hb, hml, hown, hts⟩ (c_X8_isCopy l D ss.heap.size m a pa ka za cA u0 y f p h4) (cwV 1 hts gX8_giveBack_X8_isCopy rfl rfl rfl (by decide +kernel) ⟨(Nat.le_of_ble_eq_true rfl), (Nat.le_of_ble_eq_true rfl)⟩) ⟨mP_blind, va_recv hK hP (ci := 8) (q0 := 0) rfl rfl, m_pre _ hN hK hP hD [0] rfl [0, 1] rfl (by decide)⟩ rfl rfl hl.1 rfl (lv_room (Nat.le_of_ble_eq_true rfl)) dX8_giveBack_2 ⟨(Nat.le_of_ble_eq_true rfl), (Nat.le_of_ble_eq_true rfl)⟩) hP hD hS hA [0, 1] rfl (fun r333 u H locs hw hP hS => ?_)
  obtain rfl := hw
  refine lv_if_eq (tgt := 15) hx hb dX8_giveBack_5 (by decide) (fun zc5 => ?_) (fun hc => absurd (by decide) hc)
  refine lv_ldc hx hb hown (hts (.constant RX8 92 (-1000000001)) (List.mem_of_getElem? (i := 1) rfl)) dX8_giveBack_15 ?_
  exact hret (-1000000001) () rfl (rfl) hP (hK.sub [] rfl) hD hS (Nat.le_of_ble_eq_true rfl) (Nat.le_of_ble_eq_true rfl) dX8_giveBack_17
