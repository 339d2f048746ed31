theorem mx_shl4 {j : Nat} (h : j ≤ 4) : ∃ z : Nat, 1 ≤ z ∧ z ≤ 16 ∧ (1 : Int32) <<< (nI j &&& 31) = nI z := by
  rcases (show j = 0 ∨ j = 1 ∨ j = 2 ∨ j = 3 ∨ j = 4 by omega) with rfl | rfl | rfl | rfl | rfl
  · exact ⟨1, by omega, by omega, by decide⟩
  · exact ⟨2, by omega, by omega, by decide⟩
  · exact ⟨4, by omega, by omega, by decide⟩
  · exact ⟨8, by omega, by omega, by decide⟩
  · exact ⟨16, by omega, by omega, by decide⟩
theorem mx_left {a b : Nat} (ha : a < 2 ^ 29) (hb : b < 2 ^ 29) : (nI a - nI b - 1).toInt = (a : Int) - b - 1 := by
  have e2 : nI a - nI b - 1 = nI a - nI (b + 1) := by
    have : nI (b + 1) = nI b + 1 := nI_succ b
    rw [this]
    exact Int32.sub_sub ..
  rw [e2, pk_sub_toInt (by omega) (by omega)]
  omega
theorem mx_leftIn {x : Int32} {lo y k : Nat} (hx : x.toInt = (lo : Int) - y - 1) (hk : k < 2 ^ 31) (h : ¬ x ≤ nI k) : k + y + 1 < lo := by
  rw [Int32.le_iff_toInt_le, nI_toInt hk, hx] at h
  omega
theorem mx_leftPos {x : Int32} {lo y : Nat} (hx : x.toInt = (lo : Int) - y - 1) (h : ¬ x ≤ 0) : ∃ k : Nat, k + y + 1 = lo ∧ k < 2 ^ 31 ∧ x = nI k := by
  have h0 : ¬ x < 0 := by
    rw [Int32.lt_iff_toInt_lt, mx_i0]
    rw [Int32.le_iff_toInt_le, mx_i0] at h
    omega
  obtain ⟨k, hk, rfl⟩ := nI_of h0
  rw [nI_toInt hk] at hx
  exact ⟨k, by omega, hk, rfl⟩
theorem mx_ltS {a b : Nat} (ha : a < 2 ^ 29) (hb : b < 2 ^ 29) (h : ¬ (nI b - 1 ≤ nI a)) : a + 1 < b := by
  have t : (nI b - 1).toInt = (b : Int) - 1 := by
    have := pk_sub_toInt (a := b) (b := 1) (by omega) (by omega)
    exact this
  rw [Int32.le_iff_toInt_le, nI_toInt (by omega), t] at h
  omega
theorem mx_rngN {w : Int64} {b : Nat} (hb : b < 2 ^ 63) (h1 : ¬ lg_cmp w 0 < 0) (h2 : lg_cmp w (lN b) ≤ 0) : ∃ v : Nat, v ≤ b ∧ w = lN v := by
  rw [lg_cmp_lt] at h1
  rw [lg_cmp_le] at h2
  obtain ⟨v, hv, rfl⟩ := pk_lOf h1
  rw [pk_lLE hv hb] at h2
  exact ⟨v, h2, rfl⟩
theorem mx_chPu {f f2 : Nat → Int64} {d h : Nat} (hc : mx_ch f d) (hh : h ≤ 255) (hd : d + h < 2 ^ 31) (e : vp_updL f (nI (d + h)).toNatClampNeg (nI h).toInt64 = f2) : mx_ch f2 (d + (h + 1)) := by
  rw [nI_clamp hd, nI_l (by omega)] at e
  subst e
  refine mx_ch_push hc hh (fun j hj => ?_) ?_
  · rw [pk_uLn (by omega)]
  · rw [pk_uLs]
theorem mx_spN {v : Nat} (hv : v < 2 ^ 31) (h : 0 ≤ (lN v).toInt ∧ (lN v).toInt < 28) : v < 28 := by
  rw [pk_lT (by omega)] at h
  omega

