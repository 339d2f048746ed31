theorem mx_store_N {k : Nat} (hk : k ≤ 4088) (r : Int32) (h : (k % 8 = 0 ∧ r = 1) ∨ (¬ k % 8 = 0 ∧ r = 0)) : r = mx_store (nI k) := by
  unfold mx_store
  rw [nI_toInt (by omega)]
  rcases h with ⟨h, rfl⟩ | ⟨h, rfl⟩
  · rw [if_pos]
    omega
  · rw [if_neg]
    omega
theorem mx_under {x : Int32} {n : Nat} (hn : n < 2 ^ 31) (h1 : ¬ x < 0) (h2 : x < nI n) : ∃ k : Nat, k < n ∧ x = nI k := by
  obtain ⟨k, hk, rfl⟩ := nI_of h1
  rw [nI_ltI hk hn] at h2
  exact ⟨k, h2, rfl⟩
theorem mx_spI {k : Int32} (h : 0 ≤ k.toInt64.toInt ∧ k.toInt64.toInt < 28) : ∃ j : Nat, j < 28 ∧ k = nI j := by
  obtain ⟨h1, h2⟩ := mx_sp1 (r := 1) (Or.inl ⟨rfl, h⟩) (by decide)
  have h0 : ¬ k < 0 := by
    rw [Int32.lt_iff_toInt_lt, mx_i0]
    omega
  obtain ⟨j, hj, rfl⟩ := nI_of h0
  rw [nI_toInt hj] at h2
  exact ⟨j, by omega, rfl⟩

