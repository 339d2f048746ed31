theorem mx_out1 {n : Int32} {k : Nat} (h : n < 0) : ¬ (0 ≤ n.toInt ∧ n.toInt ≤ k) := by
  rw [Int32.lt_iff_toInt_lt, mx_i0] at h
  omega
theorem mx_out9 {n : Int32} {k : Nat} (hk : k < 2 ^ 31) (h : ¬ n ≤ nI k) : ¬ (0 ≤ n.toInt ∧ n.toInt ≤ k) := by
  rw [Int32.le_iff_toInt_le, nI_toInt hk] at h
  omega
theorem mx_in9 {n k : Nat} (h : n ≤ k) (hk : k < 2 ^ 31) : 0 ≤ (nI n).toInt ∧ (nI n).toInt ≤ k := by
  rw [nI_toInt (by omega)]
  omega

