def mx_lab (fs fz : Nat → Int32) (c : Nat) : Prop := ∀ k, k < c → ∃ a z : Nat, fs k = nI a ∧ fz k = nI z ∧ a + z ≤ 1600
theorem mx_lab_0 {fs fz : Nat → Int32} : mx_lab fs fz 0 := fun k h => absurd h (Nat.not_lt_zero _)
theorem mx_in2 {x : Int32} {c N : Nat} (h0 : ¬ x < 0) (h : ¬ nI c ≤ x) (hc : c ≤ N) (hN : N < 2 ^ 31) : vp_in x N := by
  obtain ⟨j, hj, rfl⟩ := nI_of h0
  rw [nI_leI (by omega) hj] at h
  exact vp_in_nI (by omega) hN
theorem mx_lab_add {fs fz fs2 fz2 : Nat → Int32} {c a z : Nat} (h : mx_lab fs fz c) (haz : a + z ≤ 1600) (hc : c < 2 ^ 31) (e1 : upd fs (nI c).toNatClampNeg (nI a) = fs2) (e2 : upd fz (nI c).toNatClampNeg (nI z) = fz2) : mx_lab fs2 fz2 (c + 1) := by
  rw [nI_clamp hc] at e1 e2
  subst e1
  subst e2
  intro k hk
  by_cases q : k = c
  · subst q
    exact ⟨a, z, pk_us, pk_us, haz⟩
  · obtain ⟨a1, z1, g1, g2, g3⟩ := h k (by omega)
    exact ⟨a1, z1, by rw [pk_un q]; exact g1, by rw [pk_un q]; exact g2, g3⟩

