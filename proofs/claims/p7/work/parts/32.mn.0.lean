theorem mx_l64 {w : Int64} (h1 : ¬ lg_cmp w 0 < 0) (h2 : lg_cmp w 63 ≤ 0) : ∃ k : Nat, k ≤ 63 ∧ w.toInt32 = nI k := by
  rw [lg_cmp_lt] at h1
  rw [lg_cmp_le] at h2
  obtain ⟨k, hk, rfl⟩ := pk_lOf h1
  have h3 : lN k ≤ lN 63 := h2
  rw [pk_lLE hk (by decide)] at h3
  exact ⟨k, h3, lN_i k⟩
/-- a memory of bytes -/
def mx_by (f : Nat → Int32) : Prop := ∀ j, j < 4096 → ∃ b : Nat, b ≤ 255 ∧ f j = nI b
theorem mx_by_0 : mx_by (fun _ => 0) := fun j _ => ⟨0, by omega, rfl⟩
theorem mx_by_upd {f f2 : Nat → Int32} {i b : Nat} (h : mx_by f) (hb : b ≤ 255) (e : upd f (nI i).toNatClampNeg (nI b) = f2) : mx_by f2 := by
  subst e
  intro j hj
  by_cases q : j = (nI i).toNatClampNeg
  · exact ⟨b, hb, by rw [q]; exact pk_us⟩
  · obtain ⟨b1, g1, g2⟩ := h j hj
    exact ⟨b1, g1, by rw [pk_un q]; exact g2⟩
theorem mx_chW {f f2 : Nat → Int64} {d i : Nat} {v : Int64} (h : mx_ch f d) (hi : d ≤ i) (hi2 : i < 2 ^ 31) (e : vp_updL f (nI i).toNatClampNeg v = f2) : mx_ch f2 d := by
  rw [nI_clamp hi2] at e
  subst e
  exact mx_ch_at h (fun j hj => pk_uLn (by omega))
theorem mx_even : ∀ o : Nat, o < 256 → nI o &&& (-2) = nI (o - o % 2) := by decide +kernel

