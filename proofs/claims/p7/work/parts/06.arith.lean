/-! numbers that the calls on a fresh object answer -/
def mx_holds (a : Int64) (b : Int32) : Int32 := if ¬ a < 0 ∧ ¬ (4096 - b).toInt64 < a then 1 else 0
theorem mx_i0 : (0 : Int32).toInt = 0 := by decide
theorem mx_in {x : Int32} {N : Nat} (h0 : ¬ x < 0) (h : ¬ nI N ≤ x) (hN : N < 2 ^ 31) : vp_in x N := by
  obtain ⟨j, hj, rfl⟩ := nI_of h0
  rw [nI_leI hN hj] at h
  exact vp_in_nI (by omega) hN
theorem mx_lt {x : Int32} {a : Nat} (h : ¬ nI a < x) (ha : a + 1 < 2 ^ 31 := by decide) : ¬ nI (a + 1) ≤ x := by
  intro q
  rw [Int32.le_iff_toInt_le, nI_toInt ha] at q
  rw [Int32.lt_iff_toInt_lt, nI_toInt (by omega)] at h
  omega
theorem mx_lN0 : (0 : Int64) = lN 0 := rfl
theorem mx_h4096 {n : Nat} (hn : n ≤ 8) : ((4096 : Int32) - nI n).toInt64 = lN (4096 - n) := by
  have e : (4096 : Int32) - nI n = nI (4096 - n) := pk_sub (a := 4096) (b := n) (by omega)
  rw [e, nI_l (by omega)]
theorem mx_holds_in {n k : Nat} (hn : n ≤ 8) (hk : k + n ≤ 4096) : mx_holds (lN k) (nI n) = 1 := by
  unfold mx_holds
  rw [mx_h4096 hn, if_pos]
  refine ⟨?_, ?_⟩
  · rw [mx_lN0, lN_lt (by omega) (by omega)]; omega
  · rw [lN_lt (by omega) (by omega)]; omega
theorem mx_holds_of {x : Int32} {n : Nat} (hn : n ≤ 8) (h : ¬ mx_holds x.toInt64 (nI n) = 0) : ∃ k : Nat, k + n ≤ 4096 ∧ x = nI k := by
  unfold mx_holds at h
  by_cases hc : ¬ x.toInt64 < 0 ∧ ¬ ((4096 : Int32) - nI n).toInt64 < x.toInt64
  · obtain ⟨h1, h2⟩ := hc
    rw [mx_h4096 hn] at h2
    have h0 : ¬ x < 0 := by
      intro q
      apply h1
      rw [Int64.lt_iff_toInt_lt, Int32.toInt_toInt64]
      rw [Int32.lt_iff_toInt_lt] at q
      exact q
    obtain ⟨k, hk, rfl⟩ := nI_of h0
    rw [nI_l hk, lN_lt (by omega) hk] at h2
    exact ⟨k, by omega, rfl⟩
  · rw [if_neg hc] at h
    exact absurd rfl h
theorem pf_lI {a : Nat} (h : a < 2 ^ 63) : (lN a).toInt = (a : Int) := lg_ofNat_toInt h
theorem pf_shr {a d : Nat} {D : Int64} (hD : (D.toBitVec.smod 64).toNat = d) (h : a < 2 ^ 62) : lN a >>> D = lN (a / 2 ^ d) := by
  have hd : a / 2 ^ d ≤ a := Nat.div_le_self _ _
  apply Int64.toInt_inj.mp
  have e : (lN a >>> D).toInt = (lN a).toInt >>> d := by
    rw [← hD]
    exact BitVec.toInt_sshiftRight ..
  rw [e, Int.shiftRight_eq_div_pow, pf_lI (by omega), pf_lI (by omega)]
  rfl
theorem mx_sh3 {k : Nat} (hk : k < 2 ^ 31) : lN k >>> ((3 : Int32).toInt64 &&& 63) = lN (k / 8) := pf_shr (d := 3) (by decide) (by omega)
theorem mx_ushr0 (x : UInt64) : ((0 : Int64).toUInt64 >>> x).toInt64 = 0 := by
  have e : (0 : Int64).toUInt64 = 0 := rfl
  rw [e]
  have e2 : (0 : UInt64) >>> x = 0 := by
    apply UInt64.toNat_inj.mp
    simp
  rw [e2]
  rfl
theorem mx_land0 (x : Int64) : 0 &&& x = 0 := by simp
def mx_spec (k : Int32) : Int64 := if k = 19 then 255 else 0
theorem mx_spec_19 {k : Int32} (h : k = 19) : (255 : Int64) = mx_spec k := (if_pos h).symm
theorem mx_spec_no {k : Int32} (h : ¬ k = 19) : (0 : Int64) = mx_spec k := (if_neg h).symm
def mx_asm (n : Int32) : Int32 := if n = 0 then 0 else -1
theorem mx_asm_lt {n : Int32} (h : n < 0) : (-1 : Int32) = mx_asm n := (if_neg (fun q => absurd h (by rw [q]; decide))).symm
theorem mx_asm_gt {n : Int32} (h : ¬ n ≤ 0) : (-1 : Int32) = mx_asm n := (if_neg (fun q => h (by rw [q]; decide))).symm
theorem mx_asm_0 : (0 : Int32) = mx_asm 0 := rfl
theorem mx_n0 {n : Int32} (h1 : ¬ n < 0) (h2 : n ≤ 0) : n = 0 := by
  rw [Int32.lt_iff_toInt_lt, mx_i0] at h1
  rw [Int32.le_iff_toInt_le, mx_i0] at h2
  exact Int32.toInt_inj.mp (by rw [mx_i0]; omega)
def mx_byte (x : Int32) : Int32 := if 0 ≤ x.toInt ∧ x.toInt < 4096 then 0 else -1
theorem mx_byte_in {k : Nat} (h : k < 4096) : (0 : Int32) = mx_byte (nI k) := by
  unfold mx_byte
  rw [if_pos]
  rw [nI_toInt (by omega)]
  omega
theorem mx_i4096 : (4096 : Int32).toInt = 4096 := by decide
theorem mx_i4088 : (4088 : Int32).toInt = 4088 := by decide
theorem mx_byte_in2 {x : Int32} (h1 : ¬ x < 0) (h2 : x < 4096) : (0 : Int32) = mx_byte x := by
  rw [Int32.lt_iff_toInt_lt, mx_i0] at h1
  rw [Int32.lt_iff_toInt_lt, mx_i4096] at h2
  unfold mx_byte
  rw [if_pos ⟨by omega, by omega⟩]
theorem mx_byte_o1 {x : Int32} (h1 : x < 0) : (-1 : Int32) = mx_byte x := by
  rw [Int32.lt_iff_toInt_lt, mx_i0] at h1
  unfold mx_byte
  rw [if_neg (fun q => by omega)]
theorem mx_byte_o2 {x : Int32} (h2 : ¬ x < 4096) : (-1 : Int32) = mx_byte x := by
  rw [Int32.lt_iff_toInt_lt, mx_i4096] at h2
  unfold mx_byte
  rw [if_neg (fun q => by omega)]
theorem mx_byte_out {x : Int32} (h : mx_holds x.toInt64 1 = 0) : (-1 : Int32) = mx_byte x := by
  unfold mx_byte
  rw [if_neg]
  intro q
  obtain ⟨k, hk, rfl⟩ := nI_of (x := x) (by rw [Int32.lt_iff_toInt_lt, mx_i0]; omega)
  rw [nI_toInt hk] at q
  rw [nI_l hk, show mx_holds (lN k) 1 = 1 from mx_holds_in (n := 1) (by omega) (by omega)] at h
  exact absurd h (by decide)
def mx_store (x : Int32) : Int32 := if 0 ≤ x.toInt ∧ x.toInt ≤ 4088 ∧ x.toInt % 8 = 0 then 1 else 0
theorem mx_store_out {x : Int32} (h : mx_holds x.toInt64 8 = 0) : (0 : Int32) = mx_store x := by
  unfold mx_store
  rw [if_neg]
  intro q
  obtain ⟨k, hk, rfl⟩ := nI_of (x := x) (by rw [Int32.lt_iff_toInt_lt, mx_i0]; omega)
  rw [nI_toInt hk] at q
  rw [nI_l hk, show mx_holds (lN k) 8 = 1 from mx_holds_in (n := 8) (by omega) (by omega)] at h
  exact absurd h (by decide)
theorem mx_and7 {k : Nat} (hk : k < 4096) : nI k &&& 7 = nI (k % 8) := pk_andN (by omega) 3 (by decide)
theorem mx_store_odd {k : Nat} (hk : k + 8 ≤ 4096) (h : ¬ nI k &&& 7 = 0) : (0 : Int32) = mx_store (nI k) := by
  rw [mx_and7 (by omega)] at h
  have h2 : ¬ k % 8 = 0 := fun q => h (by rw [q]; rfl)
  unfold mx_store
  rw [if_neg]
  intro q
  rw [nI_toInt (by omega)] at q
  omega
theorem mx_store_in {k : Nat} (hk : k + 8 ≤ 4096) (h : nI k &&& 7 = 0) : (1 : Int32) = mx_store (nI k) := by
  rw [mx_and7 (by omega), show (0 : Int32) = nI 0 from rfl, nI_eq (by omega) (by omega)] at h
  unfold mx_store
  rw [if_pos]
  rw [nI_toInt (by omega)]
  omega
theorem mx_store_o1 {x : Int32} (h : x < 0) : (0 : Int32) = mx_store x := by
  rw [Int32.lt_iff_toInt_lt, mx_i0] at h
  unfold mx_store
  rw [if_neg (fun q => by omega)]
theorem mx_store_o2 {x : Int32} (h : 4088 < x) : (0 : Int32) = mx_store x := by
  rw [Int32.lt_iff_toInt_lt, mx_i4088] at h
  unfold mx_store
  rw [if_neg (fun q => by omega)]
theorem mx_rem8 {k : Nat} (hk : k ≤ 4088) : nI k - nI k / 8 * 8 = nI (k % 8) := pk_rem (a := k) (d := 8) (by omega) (by omega) (by omega)
theorem mx_store_o3 {k : Nat} (hk : k ≤ 4088) (h : ¬ nI k - nI k / 8 * 8 = 0) : (0 : Int32) = mx_store (nI k) := by
  rw [mx_rem8 hk] at h
  have h2 : ¬ k % 8 = 0 := fun q => h (by rw [q]; rfl)
  unfold mx_store
  rw [if_neg]
  intro q
  rw [nI_toInt (by omega)] at q
  omega
theorem mx_store_in2 {k : Nat} (hk : k ≤ 4088) (h : nI k - nI k / 8 * 8 = 0) : (1 : Int32) = mx_store (nI k) := by
  rw [mx_rem8 hk, show (0 : Int32) = nI 0 from rfl, nI_eq (by omega) (by omega)] at h
  unfold mx_store
  rw [if_pos]
  rw [nI_toInt (by omega)]
  omega
theorem mx_upto {x : Int32} {n : Nat} (hn : n < 2 ^ 31) (h1 : ¬ x < 0) (h2 : ¬ nI n < x) : ∃ k : Nat, k ≤ n ∧ x = nI k := by
  obtain ⟨k, hk, rfl⟩ := nI_of h1
  rw [nI_ltI hn hk] at h2
  exact ⟨k, by omega, rfl⟩
def mx_take (w : Int32) : Int32 := if w = 0 ∨ w = 1 ∨ w = 2 then 0 else -1
theorem mx_take3 (w : Int32) : w = 0 ∨ w = 1 ∨ w = 2 ∨ ((-1 : Int32) = mx_take w ∧ (w.toInt < 0 ∨ 2 < w.toInt)) := by
  by_cases h0 : w = 0
  · exact Or.inl h0
  by_cases h1 : w = 1
  · exact Or.inr (Or.inl h1)
  by_cases h2 : w = 2
  · exact Or.inr (Or.inr (Or.inl h2))
  refine Or.inr (Or.inr (Or.inr ⟨?_, ?_⟩))
  · unfold mx_take
    rw [if_neg (fun q => q.elim h0 (fun q => q.elim h1 h2))]
  · have e0 : ¬ w.toInt = 0 := fun q => h0 (Int32.toInt_inj.mp (by rw [q]; decide))
    have e1 : ¬ w.toInt = 1 := fun q => h1 (Int32.toInt_inj.mp (by rw [q]; decide))
    have e2 : ¬ w.toInt = 2 := fun q => h2 (Int32.toInt_inj.mp (by rw [q]; decide))
    omega
theorem mx_t0 : (0 : Int64).toInt = 0 := by decide
theorem mx_t1 : (1 : Int64).toInt = 1 := by decide
theorem mx_t2 : (2 : Int64).toInt = 2 := by decide
theorem mx_t7 : (7 : Int64).toInt = 7 := by decide
theorem mx_t18 : (18 : Int64).toInt = 18 := by decide
theorem mx_t22 : (22 : Int64).toInt = 22 := by decide
theorem mx_t23 : (23 : Int64).toInt = 23 := by decide
theorem mx_t28 : (28 : Int64).toInt = 28 := by decide
theorem mx_inT {x : Int32} {N : Nat} (h0 : 0 ≤ x.toInt) (h : x.toInt < N) : vp_in x N := vp_in_iff.mpr ⟨h0, h⟩
theorem mx_L6 : ∀ L : Nat, L < 6 → (nI L - 6) < 0 := by decide
theorem mx_sp1 {r k : Int32} (h : (r = 1 ∧ 0 ≤ k.toInt64.toInt ∧ k.toInt64.toInt < 28) ∨ (r = 0 ∧ ¬ k.toInt64.toInt = 19)) (h0 : ¬ r = 0) : 0 ≤ k.toInt ∧ k.toInt < 28 := by
  rw [Int32.toInt_toInt64] at h
  rcases h with h | h
  · exact h.2
  · exact absurd h.1 h0
theorem mx_sp0 {r k : Int32} (h : (r = 1 ∧ 0 ≤ k.toInt64.toInt ∧ k.toInt64.toInt < 28) ∨ (r = 0 ∧ ¬ k.toInt64.toInt = 19)) (h0 : r = 0) : ¬ k = 19 := by
  rw [Int32.toInt_toInt64] at h
  rcases h with h | h
  · rw [h0] at h
    exact absurd h.1 (by decide)
  · intro q
    apply h.2
    rw [q]
    decide
theorem mx_fLt {a b : Nat} (ha : a < 2 ^ 31) (hb : b < 2 ^ 31) (h : nI a < nI b) : a < b := (nI_ltI ha hb).mp h
theorem mx_fNlt {a b : Nat} (ha : a < 2 ^ 31) (hb : b < 2 ^ 31) (h : ¬ nI a < nI b) : b ≤ a := Nat.not_lt.mp (fun q => h ((nI_ltI ha hb).mpr q))
theorem mx_fLe {a b : Nat} (ha : a < 2 ^ 31) (hb : b < 2 ^ 31) (h : nI a ≤ nI b) : a ≤ b := (nI_leI ha hb).mp h
theorem mx_fNle {a b : Nat} (ha : a < 2 ^ 31) (hb : b < 2 ^ 31) (h : ¬ nI a ≤ nI b) : b < a := Nat.not_le.mp (fun q => h ((nI_leI ha hb).mpr q))
theorem mx_fEq {a b : Nat} (ha : a < 2 ^ 31) (hb : b < 2 ^ 31) (h : nI a = nI b) : a = b := (nI_eq ha hb).mp h
theorem mx_fNe {a b : Nat} (ha : a < 2 ^ 31) (hb : b < 2 ^ 31) (h : ¬ nI a = nI b) : ¬ a = b := fun q => h ((nI_eq ha hb).mpr q)
theorem mx_bool {r : Int32} (h : r = 0 ∨ r = 1) : ∃ b : Nat, b ≤ 1 ∧ r = nI b := by
  rcases h with rfl | rfl
  · exact ⟨0, by omega, rfl⟩
  · exact ⟨1, by omega, rfl⟩
theorem mx_b01 {b : Nat} (h : b ≤ 1) : nI b = 0 ∨ nI b = 1 := by
  rcases (show b = 0 ∨ b = 1 by omega) with rfl | rfl
  · exact Or.inl rfl
  · exact Or.inr rfl
theorem mx_nz {b : Nat} (h : b ≤ 1) : narrow .boolean (.int (nI b)) = .int (nI b) := by
  rcases (show b = 0 ∨ b = 1 by omega) with rfl | rfl <;> decide
theorem mx_fz {b : Nat} (h : b ≤ 1) : fits .boolean (.int (nI b)) = true := by
  rcases (show b = 0 ∨ b = 1 by omega) with rfl | rfl <;> decide
theorem mx_incn (k b : Nat) (hb : Int32.ofInt (b : Int) = nI b) : nI k + Int32.ofInt (b : Int) = nI (k + b) := by
  rw [hb]
  exact nI_add k b
theorem mx_decmu {x : Int32} {n : Nat} (h : (x.toInt + 1).toNat < n + 1) (h0 : ¬ x < 0) : ((x + Int32.ofInt (-1)).toInt + 1).toNat < n := by
  obtain ⟨j, hj, rfl⟩ := nI_of h0
  cases j with
  | zero =>
    have e : (nI 0 + Int32.ofInt (-1)).toInt = -1 := by decide
    rw [e]
    rw [nI_toInt hj] at h
    omega
  | succ j =>
    have e : nI (j + 1) + Int32.ofInt (-1) = nI j := by
      rw [show Int32.ofInt (-1) = -1 from by decide]
      exact pk_m1 j
    rw [e, nI_toInt (by omega)]
    rw [nI_toInt hj] at h
    omega
def mx_max (a b : Int32) : Int32 := if a < b then b else a
def mx_min (a b : Int32) : Int32 := if b < a then b else a
theorem mx_minN {a b : Nat} (ha : a < 2 ^ 31) (hb : b < 2 ^ 31) : mx_min (nI a) (nI b) = nI (min a b) := by
  unfold mx_min
  by_cases h : b < a
  · rw [if_pos ((nI_ltI hb ha).mpr h), Nat.min_eq_right (by omega)]
  · rw [if_neg (fun q => h ((nI_ltI hb ha).mp q)), Nat.min_eq_left (by omega)]
theorem mx_minS (x : Int32) : mx_min x x = x := by
  unfold mx_min
  split <;> rfl
theorem mx_cp {a n N : Nat} (ha : a < 2 ^ 31) (hn : n < 2 ^ 31) (h : a + n ≤ N) : (nI a).toNatClampNeg + (nI n).toNatClampNeg ≤ N := by
  rw [nI_clamp ha, nI_clamp hn]
  exact h
theorem mx_holds_ofL {x : Int64} {n : Nat} (hn : n ≤ 8) (h : ¬ mx_holds x (nI n) = 0) : ∃ k : Nat, k + n ≤ 4096 ∧ x = lN k := by
  unfold mx_holds at h
  by_cases hc : ¬ x < 0 ∧ ¬ ((4096 : Int32) - nI n).toInt64 < x
  · obtain ⟨h1, h2⟩ := hc
    rw [mx_h4096 hn] at h2
    obtain ⟨k, hk, rfl⟩ := pk_lOf h1
    rw [pk_lLT (by omega) hk] at h2
    exact ⟨k, by omega, rfl⟩
  · rw [if_neg hc] at h
    exact absurd rfl h
/-- the stack's numbers: from its end down, each tells how many stand below it -/
def mx_ch (f : Nat → Int64) (d : Nat) : Prop := ∃ P : Nat → Prop, P d ∧ ∀ x, P x → x ≤ d ∧ (x = 0 ∨ ∃ h : Nat, h ≤ 255 ∧ h + 1 ≤ x ∧ f (x - 1) = lN h ∧ P (x - h - 1))
theorem mx_ch_0 {f : Nat → Int64} : mx_ch f 0 := ⟨fun x => x = 0, rfl, fun x h => ⟨by omega, Or.inl h⟩⟩
theorem mx_ch_pop {f : Nat → Int64} {d : Nat} (h : mx_ch f d) (hd : ¬ d = 0) : ∃ k : Nat, k ≤ 255 ∧ k + 1 ≤ d ∧ f (d - 1) = lN k ∧ mx_ch f (d - k - 1) := by
  obtain ⟨P, h0, hs⟩ := h
  rcases (hs d h0).2 with q | ⟨k, h1, h2, h3, h4⟩
  · exact absurd q hd
  · refine ⟨k, h1, h2, h3, fun x => P x ∧ x ≤ d - k - 1, ⟨h4, Nat.le_refl _⟩, fun x hx => ⟨hx.2, ?_⟩⟩
    rcases (hs x hx.1).2 with q | ⟨k2, g1, g2, g3, g4⟩
    · exact Or.inl q
    · exact Or.inr ⟨k2, g1, g2, g3, g4, by omega⟩
theorem mx_ch_push {f f2 : Nat → Int64} {d h : Nat} (hc : mx_ch f d) (hh : h ≤ 255) (h1 : ∀ j, j < d → f2 j = f j) (h2 : f2 (d + h) = lN h) : mx_ch f2 (d + h + 1) := by
  obtain ⟨P, h0, hs⟩ := hc
  refine ⟨fun x => x = d + h + 1 ∨ P x, Or.inl rfl, fun x hx => ?_⟩
  rcases hx with rfl | hx
  · refine ⟨Nat.le_refl _, Or.inr ⟨h, hh, by omega, ?_, Or.inr ?_⟩⟩
    · rw [show d + h + 1 - 1 = d + h by omega]; exact h2
    · rw [show d + h + 1 - h - 1 = d by omega]; exact h0
  · obtain ⟨hle, hr⟩ := hs x hx
    refine ⟨by omega, ?_⟩
    rcases hr with q | ⟨k, g1, g2, g3, g4⟩
    · exact Or.inl q
    · exact Or.inr ⟨k, g1, g2, by rw [h1 (x - 1) (by omega)]; exact g3, Or.inr g4⟩
theorem mx_ch_at {f f2 : Nat → Int64} {d : Nat} (hc : mx_ch f d) (h1 : ∀ j, j < d → f2 j = f j) : mx_ch f2 d := by
  obtain ⟨P, h0, hs⟩ := hc
  refine ⟨P, h0, fun x hx => ?_⟩
  obtain ⟨hle, hr⟩ := hs x hx
  refine ⟨hle, ?_⟩
  rcases hr with q | ⟨k, g1, g2, g3, g4⟩
  · exact Or.inl q
  · exact Or.inr ⟨k, g1, g2, by rw [h1 (x - 1) (by omega)]; exact g3, g4⟩

