theorem mx_shl1 {j : Nat} (h : j < 4) : ∃ z : Nat, 1 ≤ z ∧ z ≤ 8 ∧ (1 : Int32) <<< (nI j &&& 31) = nI z := by
  rcases (show j = 0 ∨ j = 1 ∨ j = 2 ∨ j = 3 by omega) with rfl | rfl | rfl | rfl
  · exact ⟨1, by omega, by omega, by decide⟩
  · exact ⟨2, by omega, by omega, by decide⟩
  · exact ⟨4, by omega, by omega, by decide⟩
  · exact ⟨8, by omega, by omega, by decide⟩

