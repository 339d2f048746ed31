theorem mx_rng {w : Int64} {a b : Nat} (ha : a < 2 ^ 63) (hb : b < 2 ^ 63) (h1 : ¬ lg_cmp w (lN a) < 0) (h2 : ¬ 0 < lg_cmp w (lN b)) : ∃ v : Nat, a ≤ v ∧ v ≤ b ∧ w = lN v := by
  rw [lg_cmp_lt] at h1
  rw [lg_cmp_gt] at h2
  have h0 : ¬ w < 0 := by
    intro q
    apply h1
    rw [Int64.lt_iff_toInt_lt] at q ⊢
    rw [pk_lT ha]
    rw [mx_t0] at q
    omega
  obtain ⟨v, hv, rfl⟩ := pk_lOf h0
  rw [pk_lLT hv ha] at h1
  rw [pk_lLT hb hv] at h2
  exact ⟨v, by omega, by omega, rfl⟩
theorem mx_rngL {w : Int64} {b : Nat} (hb : b < 2 ^ 63) (h1 : ¬ lg_cmp w 0 < 0) (h2 : ¬ 0 ≤ lg_cmp w (lN b)) : ∃ v : Nat, v < b ∧ w = lN v := by
  rw [lg_cmp_lt] at h1
  rw [lg_cmp_ge] at h2
  obtain ⟨v, hv, rfl⟩ := pk_lOf h1
  rw [pk_lLE hb hv] at h2
  exact ⟨v, by omega, rfl⟩
theorem mx_max0 {a b : Nat} (ha : a < 2 ^ 29) (hb : b < 2 ^ 29) : mx_max 0 (nI a - nI b - 1) = nI (a - b - 1) := by
  unfold mx_max
  by_cases h : b + 1 ≤ a
  · have e : nI a - nI b - 1 = nI (a - b - 1) := by
      rw [pk_sub (a := a) (b := b) (by omega)]
      exact pk_sub (a := a - b) (b := 1) (by omega)
    rw [e]
    by_cases h2 : a - b - 1 = 0
    · rw [h2]; rfl
    · exact if_pos (nI_lt (a := 0) (b := a - b - 1) (by omega) (by omega))
  · have e : a - b - 1 = 0 := by omega
    have t : (nI a - nI b - 1).toInt = (a : Int) - (b + 1) := by
      have e2 : nI a - nI b - 1 = nI a - nI (b + 1) := by
        have : nI (b + 1) = nI b + 1 := nI_succ b
        rw [this]
        exact Int32.sub_sub ..
      rw [e2, pk_sub_toInt (by omega) (by omega)]
      omega
    rw [e, if_neg]
    · rfl
    · rw [Int32.lt_iff_toInt_lt, t, mx_i0]
      omega
theorem mx_chP {fk fg f1 f2 : Nat → Int64} {d h x : Nat} (hc : mx_ch fk d) (hh : h ≤ 255) (hd : d + h < 2 ^ 31) (hx : x = d + h) (e1 : va_cpy fg fk (nI 0).toNatClampNeg (nI d).toNatClampNeg (nI h).toNatClampNeg = f1) (e2 : vp_updL f1 (nI x).toNatClampNeg (nI h).toInt64 = f2) : mx_ch f2 (d + (h + 1)) := by
  subst hx
  rw [nI_clamp hd, nI_l (by omega)] at e2
  rw [nI_clamp (n := d) (by omega), nI_clamp (n := h) (by omega)] at e1
  subst e1
  subst e2
  refine mx_ch_push hc hh (fun j hj => ?_) ?_
  · rw [pk_uLn (by omega), pk_cpy_out (Or.inl hj)]
  · rw [pk_uLs]

