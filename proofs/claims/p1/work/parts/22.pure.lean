/-! ===== plain facts ===== -/
theorem vi_ok {i : Int32} {n : Nat} (h : (decide (0 ≤ i) && decide (i.toNatClampNeg < n)) = true) : vp_in i n := by
  have h1 := (Bool.and_eq_true_iff.mp h)
  have h2 : (0 : Int32) ≤ i := of_decide_eq_true h1.1
  have h3 : i.toNatClampNeg < n := of_decide_eq_true h1.2
  intro hh
  rcases hh with hh | hh
  · have a := Int32.lt_iff_toInt_lt.mp hh
    have b := Int32.le_iff_toInt_le.mp h2
    omega
  · omega
/-- a number that is neither below 0 nor n or above -/
theorem ix_of {x : Int32} {n : Nat} (hn : n < 2 ^ 31) (h0 : ¬ x < 0) (h1 : ¬ nI n ≤ x) : ∃ j : Nat, j < n ∧ x = nI j := by
  rcases pk_ix x hn with h | h | h
  · exact absurd h h0
  · exact absurd h h1
  · exact h
theorem i_not_le {x y : Int32} (h : x < y) : ¬ y ≤ x := by
  intro h2
  have a := Int32.lt_iff_toInt_lt.mp h
  have b := Int32.le_iff_toInt_le.mp h2
  omega
theorem gi_ok {row col x y : Int32} {R C n : Nat} (hn : R * C ≤ n) (hb : n < 2 ^ 31) (hR : R < 2 ^ 31) (hC : C < 2 ^ 31) (h0 : ¬ row < 0) (h1 : ¬ nI R ≤ row) (h2 : ¬ col < 0) (h3 : col < nI C) (ex : x = row * nI C) (ey : y = x + col) : vp_in y n := by
  obtain ⟨i, hi, rfl⟩ := ix_of hR h0 h1
  obtain ⟨j, hj, rfl⟩ := ix_of hC h2 (i_not_le h3)
  have e : y = nI (i * C + j) := by rw [ey, ex, pk_mul, nI_add]
  rw [e]
  refine vp_in_nI ?_ hb
  have h4 : (i + 1) * C ≤ R * C := Nat.mul_le_mul_right C hi
  have h5 : (i + 1) * C = i * C + C := Nat.succ_mul i C
  omega
