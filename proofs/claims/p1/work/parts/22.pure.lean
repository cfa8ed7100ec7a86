/-! ===== plain facts ===== -/
theorem vi_ok {i : Int32} {n : Nat} (h : (decide (0 ≤ i) && decide (i.toNatClampNeg < n)) = true) : vp_in i n := by
  have h1 := (Bool.and_eq_true_iff.mp h)
  have h2 : (0 : Int32) ≤ i := of_decide_eq_true h1.1
  have h3 : i.toNatClampNeg < n := of_decide_eq_true h1.2
  intro hh
  rcases hh with hh | hh
  · have a := Int32.lt_iff_toInt_lt.mp hh
    have b := Int32.le_iff_toInt_le.mp h2
    omega
  · omega
/-- a number that is neither below 0 nor n or above -/
theorem ix_of {x : Int32} {n : Nat} (hn : n < 2 ^ 31) (h0 : ¬ x < 0) (h1 : ¬ nI n ≤ x) : ∃ j : Nat, j < n ∧ x = nI j := by
  rcases pk_ix x hn with h | h | h
  · exact absurd h h0
  · exact absurd h h1
  · exact h
theorem i_not_le {x y : Int32} (h : x < y) : ¬ y ≤ x := by
  intro h2
  have a := Int32.lt_iff_toInt_lt.mp h
  have b := Int32.le_iff_toInt_le.mp h2
  omega
theorem gi_ok {row col x y : Int32} {R C n : Nat} (hn : R * C ≤ n) (hb : n < 2 ^ 31) (hR : R < 2 ^ 31) (hC : C < 2 ^ 31) (h0 : ¬ row < 0) (h1 : ¬ nI R ≤ row) (h2 : ¬ col < 0) (h3 : col < nI C) (ex : x = row * nI C) (ey : y = x + col) : vp_in y n := by
  obtain ⟨i, hi, rfl⟩ := ix_of hR h0 h1
  obtain ⟨j, hj, rfl⟩ := ix_of hC h2 (i_not_le h3)
  have e : y = nI (i * C + j) := by rw [ey, ex, pk_mul, nI_add]
  rw [e]
  refine vp_in_nI ?_ hb
  have h4 : (i + 1) * C ≤ R * C := Nat.mul_le_mul_right C hi
  have h5 : (i + 1) * C = i * C + C := Nat.succ_mul i C
  omega
theorem ib_1 {x : Int32} (h : ¬ x < 0) : 0 ≤ x := by
  rw [Int32.le_iff_toInt_le]; rw [Int32.lt_iff_toInt_lt] at h; omega
theorem ib_2 {x b : Int32} (h : ¬ b ≤ x) : x < b := by
  rw [Int32.lt_iff_toInt_lt]; rw [Int32.le_iff_toInt_le] at h; omega
theorem ib_3 {x b : Int32} (h : x < 0) : ¬ (0 ≤ x ∧ x < b) := by
  rw [Int32.lt_iff_toInt_lt] at h; rw [Int32.le_iff_toInt_le]; omega
theorem ib_4 {x b : Int32} (h : b ≤ x) : ¬ (0 ≤ x ∧ x < b) := by
  rw [Int32.le_iff_toInt_le] at h; rw [Int32.lt_iff_toInt_lt, Int32.le_iff_toInt_le]; omega
theorem lt_of_nle {i c : Nat} (h : ¬ nI c ≤ nI i) (hi : i ≤ c) (hc : c ≤ 12) : i < c := by
  rcases Nat.lt_or_ge i c with q | q
  · exact q
  · exact absurd (nI_le q (by omega)) h
def p_set (w v : Int32) : Prop := (w = 0 ∧ 1 ≤ v ∧ v ≤ 60) ∨ (w = 1 ∧ 1 ≤ v ∧ v ≤ 20) ∨ (w = 2 ∧ 0 ≤ v ∧ v ≤ 127)
theorem n_le {a b : Int32} (h : ¬ b < a) : a ≤ b := by
  rw [Int32.le_iff_toInt_le]; rw [Int32.lt_iff_toInt_lt] at h; omega
theorem ps_0 {v : Int32} (h1 : ¬ v < 1) (h2 : ¬ 60 < v) : p_set (nI 0) v := Or.inl ⟨rfl, n_le h1, n_le h2⟩
theorem ps_1 {v : Int32} (h1 : ¬ v < 1) (h2 : ¬ 20 < v) : p_set (nI 1) v := Or.inr (Or.inl ⟨rfl, n_le h1, n_le h2⟩)
theorem ps_2 {v : Int32} (h1 : ¬ v < 0) (h2 : ¬ 127 < v) : p_set (nI 2) v := Or.inr (Or.inr ⟨rfl, n_le h1, n_le h2⟩)
theorem n_lt {a b : Int32} (h : a < b) : ¬ b ≤ a := by
  rw [Int32.le_iff_toInt_le]; rw [Int32.lt_iff_toInt_lt] at h; omega
theorem ps_0a {v : Int32} (h : v < 1) : ¬ p_set (nI 0) v := fun q => by
  rcases q with ⟨_, q, _⟩ | ⟨e, _⟩ | ⟨e, _⟩
  · exact n_lt h q
  · exact absurd e (by decide)
  · exact absurd e (by decide)
theorem ps_0b {v : Int32} (h : 60 < v) : ¬ p_set (nI 0) v := fun q => by
  rcases q with ⟨_, _, q⟩ | ⟨e, _⟩ | ⟨e, _⟩
  · exact n_lt h q
  · exact absurd e (by decide)
  · exact absurd e (by decide)
theorem ps_1a {v : Int32} (h : v < 1) : ¬ p_set (nI 1) v := fun q => by
  rcases q with ⟨e, _⟩ | ⟨_, q, _⟩ | ⟨e, _⟩
  · exact absurd e (by decide)
  · exact n_lt h q
  · exact absurd e (by decide)
theorem ps_1b {v : Int32} (h : 20 < v) : ¬ p_set (nI 1) v := fun q => by
  rcases q with ⟨e, _⟩ | ⟨_, _, q⟩ | ⟨e, _⟩
  · exact absurd e (by decide)
  · exact n_lt h q
  · exact absurd e (by decide)
theorem ps_2a {v : Int32} (h : v < 0) : ¬ p_set (nI 2) v := fun q => by
  rcases q with ⟨e, _⟩ | ⟨e, _⟩ | ⟨_, q, _⟩
  · exact absurd e (by decide)
  · exact absurd e (by decide)
  · exact n_lt h q
theorem ps_2b {v : Int32} (h : 127 < v) : ¬ p_set (nI 2) v := fun q => by
  rcases q with ⟨e, _⟩ | ⟨e, _⟩ | ⟨_, _, q⟩
  · exact absurd e (by decide)
  · exact absurd e (by decide)
  · exact n_lt h q
theorem ps_out {w v : Int32} (h : w.toInt < 0 ∨ ((3 : Nat) : Int) ≤ w.toInt) : ¬ p_set w v := fun q => by
  rcases q with ⟨e, _⟩ | ⟨e, _⟩ | ⟨e, _⟩ <;> (subst e; revert h; decide)
def nxN (y : Nat) : Nat := y * 16807 % 2147483647
theorem nxN_lt (y : Nat) : nxN y < 2147483647 := Nat.mod_lt _ (by decide)
theorem lN_ne0 {b : Nat} (h0 : 0 < b) (h : b < 2 ^ 31) : ¬ lN b = 0 := fun e => by
  have := (lN_eq (a := b) (b := 0) h (by decide)).mp e
  omega
theorem in_of {i n : Int32} {N : Nat} (h : 0 ≤ i ∧ i < n) (hn : n = nI N := by rfl) (hN : N < 2 ^ 31 := by decide) : vp_in i N := by
  subst hn
  obtain ⟨j, hj, rfl⟩ := ix_of hN (fun q => n_lt q h.1) (n_lt h.2)
  exact vp_in_nI hj hN
abbrev ok (x b : Int32) : Prop := 0 ≤ x ∧ x < b
def q2 (C : Prop) (v w r : Int32) : Prop := (C ∧ r = v) ∨ (¬ C ∧ r = w)
theorem q2_eq {C : Prop} {v w r r' : Int32} (h : q2 C v w r) (h' : q2 C v w r') : r = r' := by
  rcases h with ⟨a, e⟩ | ⟨a, e⟩ <;> rcases h' with ⟨b, e'⟩ | ⟨b, e'⟩
  · rw [e, e']
  · exact absurd a b
  · exact absurd b a
  · rw [e, e']
def a_told (w : Int32) : Int32 := if w = 1 then 14 else if w = 2 then 3 else if w = 3 then 64 else if 0 ≤ w ∧ w < 16 then 0 else -1000000002
def a_title (w : Int32) : Int32 := if w = 3 then -1 else if 0 ≤ w ∧ w < 5 then 0 else -1000000002
def a_reader (t w : Int32) : Int32 := if w = 4 then t - t / 4 * 4 else if 0 ≤ w ∧ w < 5 then 0 else -1000000002
theorem out_rng {w n : Int32} {N : Nat} (hn : n.toInt = N) (h : w.toInt < 0 ∨ (N : Int) ≤ w.toInt) : ¬ (0 ≤ w ∧ w < n) := fun q => by
  have a := Int32.le_iff_toInt_le.mp q.1
  have b := Int32.lt_iff_toInt_lt.mp q.2
  have z : (0 : Int32).toInt = 0 := by decide
  omega
theorem told_out {w : Int32} (h : w.toInt < 0 ∨ ((16 : Nat) : Int) ≤ w.toInt) : -1000000002 = a_told w := by
  have h0 := out_rng (n := 16) (N := 16) (by decide) h
  have h1 : ¬ w = 1 := fun e => by subst e; revert h; decide
  have h2 : ¬ w = 2 := fun e => by subst e; revert h; decide
  have h3 : ¬ w = 3 := fun e => by subst e; revert h; decide
  rw [a_told, if_neg h1, if_neg h2, if_neg h3, if_neg h0]
theorem title_out {w : Int32} (h : w.toInt < 0 ∨ ((5 : Nat) : Int) ≤ w.toInt) : -1000000002 = a_title w := by
  have h0 := out_rng (n := 5) (N := 5) (by decide) h
  have h3 : ¬ w = 3 := fun e => by subst e; revert h; decide
  rw [a_title, if_neg h3, if_neg h0]
theorem reader_out {t w : Int32} (h : w.toInt < 0 ∨ ((5 : Nat) : Int) ≤ w.toInt) : -1000000002 = a_reader t w := by
  have h0 := out_rng (n := 5) (N := 5) (by decide) h
  have h3 : ¬ w = 4 := fun e => by subst e; revert h; decide
  rw [a_reader, if_neg h3, if_neg h0]
theorem reader_4 (t : Int32) : a_reader t (nI 4) = t - t / 4 * 4 := if_pos (by decide)
theorem reader_0 (t : Int32) (k : Nat) (h1 : ¬ nI k = 4) (h2 : 0 ≤ nI k ∧ nI k < 5) : a_reader t (nI k) = 0 := by rw [a_reader, if_neg h1, if_pos h2]
theorem lt12 {hc : Nat} (h : nI hc < 12) (hh : hc ≤ 12 := by assumption) : hc < 12 := by
  rcases Nat.lt_or_ge hc 12 with q | q
  · exact q
  · exact absurd h (nI_nlt (b := 12) q (by omega))
theorem ge12 {hc : Nat} (h : ¬ nI hc < 12) : 12 ≤ hc := by
  rcases Nat.lt_or_ge hc 12 with q | q
  · exact absurd (nI_lt (b := 12) q (by decide)) h
  · exact q
theorem i_between {v a b : Int32} {x y : Nat} (ha : a.toInt = x) (hb : b.toInt = y) (h1 : ¬ v < a) (h2 : v ≤ b) (hy : y < 2 ^ 31) : ∃ k : Nat, x ≤ k ∧ k ≤ y ∧ v = nI k := by
  have z : (0 : Int32).toInt = 0 := by decide
  obtain ⟨j, hj, e⟩ := nI_of2 (x := v) (M := b) (n := y) hb (fun q => h1 (by rw [Int32.lt_iff_toInt_lt] at q ⊢; omega)) h2
  refine ⟨j, ?_, hj, e⟩
  rw [Int32.lt_iff_toInt_lt, e, nI_toInt (by omega)] at h1
  omega
theorem nn_of {v : Int32} (h1 : ¬ v < 1) (h2 : v ≤ 30) : ∃ k : Nat, 1 ≤ k ∧ k ≤ 30 ∧ v = nI k := i_between (x := 1) (y := 30) (by decide) (by decide) h1 h2 (by decide)
theorem dn_of {v : Int32} (h1 : ¬ v < 1) (h2 : ¬ 20 < v) : ∃ k : Nat, 1 ≤ k ∧ k ≤ 20 ∧ v = nI k := i_between (x := 1) (y := 20) (by decide) (by decide) h1 (n_le h2) (by decide)
theorem ds_of {v : Int32} (h1 : ¬ v < 1) (h2 : v ≤ 999999) : ∃ k : Nat, 1 ≤ k ∧ k ≤ 999999 ∧ v = nI k := i_between (x := 1) (y := 999999) (by decide) (by decide) h1 h2 (by decide)
theorem lt_of_nle30 {i c : Nat} (h : ¬ nI c ≤ nI i) (hi : i ≤ c) (hc : c ≤ 30) : i < c := by
  rcases Nat.lt_or_ge i c with q | q
  · exact q
  · exact absurd (nI_le q (by omega)) h
def p_dr (v w : Int32) : Prop := 1 ≤ v ∧ v ≤ 20 ∧ 1 ≤ w ∧ w ≤ 999999
theorem dr_ok {a b : Nat} (h1 : 1 ≤ a) (h2 : a ≤ 20) (h3 : 1 ≤ b) (h4 : b ≤ 999999) : p_dr (nI a) (nI b) := ⟨nI_le (a := 1) h1 (by omega), nI_le (b := 20) h2 (by decide), nI_le (a := 1) h3 (by omega), nI_le (b := 999999) h4 (by decide)⟩
theorem m4 (n : Nat) : n % 4 = 0 ∨ n % 4 = 1 ∨ n % 4 = 2 ∨ n % 4 = 3 := by omega
def drN : Nat → Nat → Nat → Nat
  | 0, _, d => d
  | k + 1, y, d => if nxN y % 4 = 0 then drN k (nxN (nxN (nxN (nxN (nxN y))))) d else if nxN y % 4 = 3 then drN k (nxN y) (d + 1) else drN k (nxN y) d
theorem dr_s {k i : Nat} (h : i < k) : k - i = (k - (i + 1)) + 1 := by omega
theorem dr_0 {k i y d V : Nat} (hm : nxN y % 4 = 0) (h : i < k) (hV : drN (k - i) y d = V) : drN (k - (i + 1)) (nxN (nxN (nxN (nxN (nxN y))))) d = V := by rw [dr_s h, drN, if_pos hm] at hV; exact hV
theorem dr_1 {k i y d V : Nat} (hm : nxN y % 4 = 1) (h : i < k) (hV : drN (k - i) y d = V) : drN (k - (i + 1)) (nxN y) d = V := by rw [dr_s h, drN, if_neg (by omega), if_neg (by omega)] at hV; exact hV
theorem dr_2 {k i y d V : Nat} (hm : nxN y % 4 = 2) (h : i < k) (hV : drN (k - i) y d = V) : drN (k - (i + 1)) (nxN y) d = V := by rw [dr_s h, drN, if_neg (by omega), if_neg (by omega)] at hV; exact hV
theorem dr_3 {k i y d V : Nat} (hm : nxN y % 4 = 3) (h : i < k) (hV : drN (k - i) y d = V) : drN (k - (i + 1)) (nxN y) (d + 1) = V := by rw [dr_s h, drN, if_neg (by omega), if_pos hm] at hV; exact hV
theorem in_1 {v lo : Int64} (h : ¬ lg_cmp v lo < 0) : lo ≤ v := by
  rw [lg_cmp_lt, Int64.lt_iff_toInt_lt] at h; rw [Int64.le_iff_toInt_le]; omega
theorem in_2 {v hi : Int64} (h : ¬ 0 < lg_cmp v hi) : v ≤ hi := by
  rw [lg_cmp_gt, Int64.lt_iff_toInt_lt] at h; rw [Int64.le_iff_toInt_le]; omega
theorem in_3 {v lo hi : Int64} (h : lg_cmp v lo < 0) : ¬ (lo ≤ v ∧ v ≤ hi) := by
  rw [lg_cmp_lt, Int64.lt_iff_toInt_lt] at h; rw [Int64.le_iff_toInt_le]; omega
theorem in_4 {v lo hi : Int64} (h : 0 < lg_cmp v hi) : ¬ (lo ≤ v ∧ v ≤ hi) := by
  rw [lg_cmp_gt, Int64.lt_iff_toInt_lt] at h; rw [Int64.le_iff_toInt_le, Int64.le_iff_toInt_le]; omega
theorem l_rng {v a b : Int32} {A B : Int64} (ha : A.toInt = a.toInt) (hb : B.toInt = b.toInt) : (A ≤ v.toInt64 ∧ v.toInt64 ≤ B) ↔ (a ≤ v ∧ v ≤ b) := by
  rw [Int64.le_iff_toInt_le, Int64.le_iff_toInt_le, Int32.le_iff_toInt_le, Int32.le_iff_toInt_le, Int32.toInt_toInt64]; omega
theorem l_ok {t b : Int32} {n : Int64} (hn : n.toInt + 1 = b.toInt) : (0 ≤ t.toInt64 ∧ t.toInt64 ≤ n) ↔ ok t b := by
  have z : (0 : Int32).toInt = 0 := by decide
  have z' : (0 : Int64).toInt = 0 := by decide
  rw [Int64.le_iff_toInt_le, Int64.le_iff_toInt_le, ok, Int32.le_iff_toInt_le, Int32.lt_iff_toInt_lt, Int32.toInt_toInt64]; omega
theorem not_in_m1 {x : Int64} : ¬ (0 ≤ x ∧ x ≤ -1) := by
  have z' : (0 : Int64).toInt = 0 := by decide
  have z1 : (-1 : Int64).toInt = -1 := by decide
  rw [Int64.le_iff_toInt_le, Int64.le_iff_toInt_le]; omega
def mF (f : Nat → Int32) (hc d : Nat) : Prop := f 0 = nI d ∧ f 4 = 0 ∧ f 5 = nI hc
def st0 (f : Nat → Int32) : Prop := f 0 = 0 ∧ f 1 = 14 ∧ f 2 = 3 ∧ f 3 = 64 ∧ f 4 = 0 ∧ f 5 = 0 ∧ f 6 = 0 ∧ f 7 = 0
theorem lt_of_nleN {i : Nat} (h : ¬ 172 ≤ nI i) (hi : i ≤ 172) : i < 172 := by
  rcases Nat.lt_or_ge i 172 with q | q
  · exact q
  · exact absurd (nI_le (a := 172) q (by omega)) h
theorem i_between2 {v a b : Int32} {x y : Nat} (ha : a.toInt = x) (hb : b.toInt = y) (h : a ≤ v ∧ v ≤ b) (hy : y < 2 ^ 31) : ∃ k : Nat, x ≤ k ∧ k ≤ y ∧ v = nI k := i_between ha hb (fun q => n_lt q h.1) h.2 hy
theorem nn_of2 {v : Int32} (h : 1 ≤ v ∧ v ≤ 30) : ∃ k : Nat, 1 ≤ k ∧ k ≤ 30 ∧ v = nI k := i_between2 (x := 1) (y := 30) (by decide) (by decide) h (by decide)
theorem w3_of {v : Int32} (h : 0 ≤ v ∧ v ≤ 2) : ∃ k : Nat, k < 3 ∧ v = nI k := by
  obtain ⟨k, -, h2, e⟩ := i_between2 (x := 0) (y := 2) (by decide) (by decide) h (by decide)
  exact ⟨k, by omega, e⟩
theorem w2_of {v : Int32} (h : 0 ≤ v ∧ v ≤ 1) : ∃ k : Nat, k < 2 ∧ v = nI k := by
  obtain ⟨k, -, h2, e⟩ := i_between2 (x := 0) (y := 1) (by decide) (by decide) h (by decide)
  exact ⟨k, by omega, e⟩
theorem ok2 {i : Int32} (h : ok i 2) : 0 ≤ i ∧ i ≤ 1 := by
  have z : (1 : Int32).toInt = 1 := by decide
  have z2 : (2 : Int32).toInt = 2 := by decide
  have a := Int32.lt_iff_toInt_lt.mp h.2
  exact ⟨h.1, by rw [Int32.le_iff_toInt_le]; omega⟩
theorem ok2r {i : Int32} (h : 0 ≤ i ∧ i ≤ 1) : ok i 2 := by
  have z : (1 : Int32).toInt = 1 := by decide
  have z2 : (2 : Int32).toInt = 2 := by decide
  have a := Int32.le_iff_toInt_le.mp h.2
  exact ⟨h.1, by rw [Int32.lt_iff_toInt_lt]; omega⟩
theorem ps_rng {w v : Int32} (h : p_set w v) : 0 ≤ w ∧ w ≤ 2 := by
  rcases h with ⟨e, _⟩ | ⟨e, _⟩ | ⟨e, _⟩ <;> (subst e; decide)
theorem psx_0 {v : Int32} (h : p_set (nI 0) v) : 1 ≤ v ∧ v ≤ 60 := by
  rcases h with ⟨_, q⟩ | ⟨e, _⟩ | ⟨e, _⟩
  · exact q
  · exact absurd e (by decide)
  · exact absurd e (by decide)
theorem psx_1 {v : Int32} (h : p_set (nI 1) v) : 1 ≤ v ∧ v ≤ 20 := by
  rcases h with ⟨e, _⟩ | ⟨_, q⟩ | ⟨e, _⟩
  · exact absurd e (by decide)
  · exact q
  · exact absurd e (by decide)
theorem psx_2 {v : Int32} (h : p_set (nI 2) v) : 0 ≤ v ∧ v ≤ 127 := by
  rcases h with ⟨e, _⟩ | ⟨e, _⟩ | ⟨_, q⟩
  · exact absurd e (by decide)
  · exact absurd e (by decide)
  · exact q
