/-! ===== plain facts ===== -/
theorem vi_ok {i : Int32} {n : Nat} (h : (decide (0 ≤ i) && decide (i.toNatClampNeg < n)) = true) : vp_in i n := by
  have h1 := (Bool.and_eq_true_iff.mp h)
  have h2 : (0 : Int32) ≤ i := of_decide_eq_true h1.1
  have h3 : i.toNatClampNeg < n := of_decide_eq_true h1.2
  intro hh
  rcases hh with hh | hh
  · have a := Int32.lt_iff_toInt_lt.mp hh
    have b := Int32.le_iff_toInt_le.mp h2
    omega
  · omega
/-- a number that is neither below 0 nor n or above -/
theorem ix_of {x : Int32} {n : Nat} (hn : n < 2 ^ 31) (h0 : ¬ x < 0) (h1 : ¬ nI n ≤ x) : ∃ j : Nat, j < n ∧ x = nI j := by
  rcases pk_ix x hn with h | h | h
  · exact absurd h h0
  · exact absurd h h1
  · exact h
theorem i_not_le {x y : Int32} (h : x < y) : ¬ y ≤ x := by
  intro h2
  have a := Int32.lt_iff_toInt_lt.mp h
  have b := Int32.le_iff_toInt_le.mp h2
  omega
theorem gi_ok {row col x y : Int32} {R C n : Nat} (hn : R * C ≤ n) (hb : n < 2 ^ 31) (hR : R < 2 ^ 31) (hC : C < 2 ^ 31) (h0 : ¬ row < 0) (h1 : ¬ nI R ≤ row) (h2 : ¬ col < 0) (h3 : col < nI C) (ex : x = row * nI C) (ey : y = x + col) : vp_in y n := by
  obtain ⟨i, hi, rfl⟩ := ix_of hR h0 h1
  obtain ⟨j, hj, rfl⟩ := ix_of hC h2 (i_not_le h3)
  have e : y = nI (i * C + j) := by rw [ey, ex, pk_mul, nI_add]
  rw [e]
  refine vp_in_nI ?_ hb
  have h4 : (i + 1) * C ≤ R * C := Nat.mul_le_mul_right C hi
  have h5 : (i + 1) * C = i * C + C := Nat.succ_mul i C
  omega
theorem ib_1 {x : Int32} (h : ¬ x < 0) : 0 ≤ x := by
  rw [Int32.le_iff_toInt_le]; rw [Int32.lt_iff_toInt_lt] at h; omega
theorem ib_2 {x b : Int32} (h : ¬ b ≤ x) : x < b := by
  rw [Int32.lt_iff_toInt_lt]; rw [Int32.le_iff_toInt_le] at h; omega
theorem ib_3 {x b : Int32} (h : x < 0) : ¬ (0 ≤ x ∧ x < b) := by
  rw [Int32.lt_iff_toInt_lt] at h; rw [Int32.le_iff_toInt_le]; omega
theorem ib_4 {x b : Int32} (h : b ≤ x) : ¬ (0 ≤ x ∧ x < b) := by
  rw [Int32.le_iff_toInt_le] at h; rw [Int32.lt_iff_toInt_lt, Int32.le_iff_toInt_le]; omega
theorem lt_of_nle {i c : Nat} (h : ¬ nI c ≤ nI i) (hi : i ≤ c) (hc : c ≤ 12) : i < c := by
  rcases Nat.lt_or_ge i c with q | q
  · exact q
  · exact absurd (nI_le q (by omega)) h
def p_set (w v : Int32) : Prop := (w = 0 ∧ 1 ≤ v ∧ v ≤ 60) ∨ (w = 1 ∧ 1 ≤ v ∧ v ≤ 20) ∨ (w = 2 ∧ 0 ≤ v ∧ v ≤ 127)
theorem n_le {a b : Int32} (h : ¬ b < a) : a ≤ b := by
  rw [Int32.le_iff_toInt_le]; rw [Int32.lt_iff_toInt_lt] at h; omega
theorem ps_0 {v : Int32} (h1 : ¬ v < 1) (h2 : ¬ 60 < v) : p_set (nI 0) v := Or.inl ⟨rfl, n_le h1, n_le h2⟩
theorem ps_1 {v : Int32} (h1 : ¬ v < 1) (h2 : ¬ 20 < v) : p_set (nI 1) v := Or.inr (Or.inl ⟨rfl, n_le h1, n_le h2⟩)
theorem ps_2 {v : Int32} (h1 : ¬ v < 0) (h2 : ¬ 127 < v) : p_set (nI 2) v := Or.inr (Or.inr ⟨rfl, n_le h1, n_le h2⟩)
theorem n_lt {a b : Int32} (h : a < b) : ¬ b ≤ a := by
  rw [Int32.le_iff_toInt_le]; rw [Int32.lt_iff_toInt_lt] at h; omega
theorem ps_0a {v : Int32} (h : v < 1) : ¬ p_set (nI 0) v := fun q => by
  rcases q with ⟨_, q, _⟩ | ⟨e, _⟩ | ⟨e, _⟩
  · exact n_lt h q
  · exact absurd e (by decide)
  · exact absurd e (by decide)
theorem ps_0b {v : Int32} (h : 60 < v) : ¬ p_set (nI 0) v := fun q => by
  rcases q with ⟨_, _, q⟩ | ⟨e, _⟩ | ⟨e, _⟩
  · exact n_lt h q
  · exact absurd e (by decide)
  · exact absurd e (by decide)
theorem ps_1a {v : Int32} (h : v < 1) : ¬ p_set (nI 1) v := fun q => by
  rcases q with ⟨e, _⟩ | ⟨_, q, _⟩ | ⟨e, _⟩
  · exact absurd e (by decide)
  · exact n_lt h q
  · exact absurd e (by decide)
theorem ps_1b {v : Int32} (h : 20 < v) : ¬ p_set (nI 1) v := fun q => by
  rcases q with ⟨e, _⟩ | ⟨_, _, q⟩ | ⟨e, _⟩
  · exact absurd e (by decide)
  · exact n_lt h q
  · exact absurd e (by decide)
theorem ps_2a {v : Int32} (h : v < 0) : ¬ p_set (nI 2) v := fun q => by
  rcases q with ⟨e, _⟩ | ⟨e, _⟩ | ⟨_, q, _⟩
  · exact absurd e (by decide)
  · exact absurd e (by decide)
  · exact n_lt h q
theorem ps_2b {v : Int32} (h : 127 < v) : ¬ p_set (nI 2) v := fun q => by
  rcases q with ⟨e, _⟩ | ⟨e, _⟩ | ⟨_, _, q⟩
  · exact absurd e (by decide)
  · exact absurd e (by decide)
  · exact n_lt h q
theorem ps_out {w v : Int32} (h : w.toInt < 0 ∨ ((3 : Nat) : Int) ≤ w.toInt) : ¬ p_set w v := fun q => by
  rcases q with ⟨e, _⟩ | ⟨e, _⟩ | ⟨e, _⟩ <;> (subst e; revert h; decide)
def nxN (y : Nat) : Nat := y * 16807 % 2147483647
theorem nxN_lt (y : Nat) : nxN y < 2147483647 := Nat.mod_lt _ (by decide)
theorem lN_ne0 {b : Nat} (h0 : 0 < b) (h : b < 2 ^ 31) : ¬ lN b = 0 := fun e => by
  have := (lN_eq (a := b) (b := 0) h (by decide)).mp e
  omega
theorem in_of {i n : Int32} {N : Nat} (h : 0 ≤ i ∧ i < n) (hn : n = nI N := by rfl) (hN : N < 2 ^ 31 := by decide) : vp_in i N := by
  subst hn
  obtain ⟨j, hj, rfl⟩ := ix_of hN (fun q => n_lt q h.1) (n_lt h.2)
  exact vp_in_nI hj hN
