/-! Counting down; cells in another order. -/
theorem dn_dec (x : Int32) : x + Int32.ofInt (-1) = x - 1 := by
  rw [Int32.sub_eq_add_neg]
  rfl
theorem dn_eq {k : Nat} (h : 1 ≤ k) : nI k - 1 = nI (k - 1) := pk_sub h
theorem dn_ge {k : Nat} (_hk : k < 2 ^ 31) (h : ¬ nI k - 1 < 0) : 1 ≤ k := by
  rcases Nat.eq_zero_or_pos k with rfl | h1
  · exact absurd (by decide) h
  · exact h1
