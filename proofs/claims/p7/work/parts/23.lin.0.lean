def mx_op (a : Int32) : Prop := a = -1 ∨ ∃ k : Nat, k ≤ 261 ∧ a = nI k
theorem mx_shl2 {k : Nat} (h1 : 258 ≤ k) (h2 : k ≤ 261) : ∃ z : Nat, 1 ≤ z ∧ z ≤ 8 ∧ (1 : Int32) <<< (nI (k - 258) &&& 31) = nI z := by
  rcases (show k = 258 ∨ k = 259 ∨ k = 260 ∨ k = 261 by omega) with rfl | rfl | rfl | rfl
  · exact ⟨1, by omega, by omega, by decide⟩
  · exact ⟨2, by omega, by omega, by decide⟩
  · exact ⟨4, by omega, by omega, by decide⟩
  · exact ⟨8, by omega, by omega, by decide⟩

