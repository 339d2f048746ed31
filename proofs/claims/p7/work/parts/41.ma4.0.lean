/-- which word of a list -/
theorem mq_am0 {T : Nat → Int32} {a b : Nat} {r : Int32} (h : mq_amP T 16 a b r) : (r = -1 ∧ mq_am T 16 a b = -1) ∨ (r = 0 ∧ mq_am T 16 a b = nI 0) ∨ (r = 1 ∧ mq_am T 16 a b = nI 1) ∨ (r = 2 ∧ mq_am T 16 a b = nI 2) ∨ (r = 3 ∧ mq_am T 16 a b = nI 3) ∨ (r = 4 ∧ mq_am T 16 a b = nI 4) ∨ (r = 5 ∧ mq_am T 16 a b = nI 5) := by
  rcases h with h | ⟨q, h1, rfl, h2, k, h3, h4, h5⟩
  · exact Or.inl h
  · have key : ∀ k, k < 28 → mq_s 16 k = 32 → (mq_bn (mq_s 16) k).2 ≤ 5 := by decide +kernel
    have hq : q ≤ 5 := by
      rw [h5]
      exact key k h3 h4
    clear h5 h1
    rcases (show q = 0 ∨ q = 1 ∨ q = 2 ∨ q = 3 ∨ q = 4 ∨ q = 5 by omega) with rfl | rfl | rfl | rfl | rfl | rfl
    · exact Or.inr (Or.inl ⟨rfl, h2⟩)
    · exact Or.inr (Or.inr (Or.inl ⟨rfl, h2⟩))
    · exact Or.inr (Or.inr (Or.inr (Or.inl ⟨rfl, h2⟩)))
    · exact Or.inr (Or.inr (Or.inr (Or.inr (Or.inl ⟨rfl, h2⟩))))
    · exact Or.inr (Or.inr (Or.inr (Or.inr (Or.inr (Or.inl ⟨rfl, h2⟩)))))
    · exact Or.inr (Or.inr (Or.inr (Or.inr (Or.inr (Or.inr ⟨rfl, h2⟩)))))
def mq_fo : Nat → Nat
  | 0 => 10
  | 1 => 11
  | _ => 12
def mq_ea : Nat → Nat
  | 0 => 0
  | 1 => 0
  | 2 => 1
  | 3 => 2
  | 4 => 4
  | _ => 8
theorem mq_ea_b {a : Nat} (h : 2 ≤ a) : 1 ≤ mq_ea a ∧ mq_ea a ≤ 8 := by
  unfold mq_ea
  split <;> omega
def mq_up (p e : Nat) : Nat := if e < 2 then p else (p + e - 1) / e * e
theorem mq_up_b {p e : Nat} (he : e ≤ 8) : p ≤ mq_up p e ∧ mq_up p e ≤ p + 7 := by
  unfold mq_up
  split
  · omega
  · rename_i h
    have h1 := Nat.div_add_mod (p + e - 1) e
    have h2 := Nat.mod_lt (p + e - 1) (show e > 0 by omega)
    rw [Nat.mul_comm] at h1
    omega
theorem mx_n0n {d : Nat} (h : 0 < d) (h2 : d < 2 ^ 31) : ¬ nI d = 0 := by
  intro q
  have : d = 0 := (nI_eq h2 (by decide)).mp q
  omega
/-- a line: its label's end, its operation, its operands -/
noncomputable def mq_lt (T : Nat → Int32) (z k : Nat) : Nat := if mq_let (mq_at T z k) then mq_w T z k else k
noncomputable def mq_o (T : Nat → Int32) (z k : Nat) : Nat := mq_bl T z (mq_lt T z k)
noncomputable def mq_e (T : Nat → Int32) (z k : Nat) : Nat := mq_nb T z (mq_o T z k)
noncomputable def mq_op (T : Nat → Int32) (z k : Nat) : Nat := mq_bl T z (mq_e T z k)
noncomputable def mq_a0 (T : Nat → Int32) (z k : Nat) : Int32 := mq_am T 16 (mq_o T z k) (mq_e T z k)
/-- 0: nothing stands there, 1: it cannot be read, 2: an operation stands there -/
noncomputable def mq_st (T : Nat → Int32) (z k : Nat) : Nat :=
  if mq_at T z k = -1 ∨ (¬ mq_at T z k = 32 ∧ ¬ mq_let (mq_at T z k)) then 0
  else if k + 12 < mq_lt T z k ∨ (k < mq_lt T z k ∧ ¬ mq_at T z (mq_lt T z k) = 32) then 1
  else if mq_at T z (mq_o T z k) = -1 then (if k < mq_lt T z k then 1 else 0) else 2
def mq_opQ (x : Int32) (xf xe : Nat) : Prop := (x = -1 ∧ xf ≤ 9 ∧ xe = 4) ∨ ∃ a : Nat, a ≤ 5 ∧ x = nI a ∧ xf = mq_fo a ∧ xe = mq_ea a
/-- what operation answers -/
def mq_opP (x r : Int32) (xf xe : Nat) : Prop := (r = 0 ∧ x = -1 ∧ xf ≤ 9 ∧ xe = 4) ∨ (r = 1 ∧ mq_opQ x xf xe)
/-- what line answers -/
def mq_li (T : Nat → Int32) (z k : Nat) (r : Int32) (xf xe xo : Nat) : Prop := (r = 0 ∧ mq_st T z k = 0) ∨ (r = -1 ∧ (mq_st T z k = 1 ∨ (mq_st T z k = 2 ∧ mq_a0 T z k = -1 ∧ xf ≤ 9 ∧ xe = 4))) ∨
  (r = 1 ∧ mq_st T z k = 2 ∧ ((mq_a0 T z k = -1 ∧ xf ≤ 9 ∧ xe = 4) ∨ ∃ a : Nat, a ≤ 5 ∧ mq_a0 T z k = nI a ∧ xf = mq_fo a ∧ xe = mq_ea a ∧ xo = mq_op T z k))
theorem mq_liC {T : Nat → Int32} {z k : Nat} {r : Int32} {xf xe xo : Nat} (h : mq_li T z k r xf xe xo) :
    (r = 0 ∧ mq_st T z k = 0) ∨ (r = -1 ∧ mq_st T z k = 1) ∨ (r = -1 ∧ mq_st T z k = 2 ∧ mq_a0 T z k = -1 ∧ xf ≤ 9 ∧ xe = 4) ∨ (r = 1 ∧ mq_st T z k = 2 ∧ mq_a0 T z k = -1 ∧ xf ≤ 9 ∧ xe = 4) ∨
    (r = 1 ∧ mq_st T z k = 2 ∧ mq_a0 T z k = nI 0 ∧ xf = 10 ∧ xe = 0 ∧ xo = mq_op T z k) ∨ (r = 1 ∧ mq_st T z k = 2 ∧ mq_a0 T z k = nI 1 ∧ xf = 11 ∧ xe = 0 ∧ xo = mq_op T z k) ∨
    (r = 1 ∧ mq_st T z k = 2 ∧ ∃ a : Nat, (2 ≤ a ∧ a ≤ 5) ∧ mq_a0 T z k = nI a ∧ xf = 12 ∧ xe = mq_ea a ∧ (1 ≤ xe ∧ xe ≤ 8) ∧ xo = mq_op T z k) := by
  rcases h with h | ⟨rfl, h | h⟩ | ⟨rfl, h1, h | ⟨a, g1, g2, g3, g4, g5⟩⟩
  · exact Or.inl h
  · exact Or.inr (Or.inl ⟨rfl, h⟩)
  · exact Or.inr (Or.inr (Or.inl ⟨rfl, h⟩))
  · exact Or.inr (Or.inr (Or.inr (Or.inl ⟨rfl, h1, h⟩)))
  · rcases (show a = 0 ∨ a = 1 ∨ 2 ≤ a by omega) with rfl | rfl | h2
    · exact Or.inr (Or.inr (Or.inr (Or.inr (Or.inl ⟨rfl, h1, g2, g3, g4, g5⟩))))
    · exact Or.inr (Or.inr (Or.inr (Or.inr (Or.inr (Or.inl ⟨rfl, h1, g2, g3, g4, g5⟩)))))
    · refine Or.inr (Or.inr (Or.inr (Or.inr (Or.inr (Or.inr ⟨rfl, h1, a, ⟨h2, g1⟩, g2, ?_, g4, ?_, g5⟩)))))
      · rw [g3]
        unfold mq_fo
        split <;> omega
      · rw [g4]
        exact mq_ea_b h2
theorem mq_liY {T : Nat → Int32} {z k : Nat} {x : Int32} {xf xe xo : Nat} (hs : mq_st T z k = 2) (ha : mq_a0 T z k = x) (h : mq_opQ x xf xe) (ho : xo = mq_op T z k) : mq_li T z k 1 xf xe xo := by
  rcases h with ⟨h1, h2⟩ | ⟨a, h1, h2, h3, h4⟩
  · exact Or.inr (Or.inr ⟨rfl, hs, Or.inl ⟨ha.trans h1, h2⟩⟩)
  · exact Or.inr (Or.inr ⟨rfl, hs, Or.inr ⟨a, h1, ha.trans h2, h3, h4, ho⟩⟩)
theorem mq_cnt_xe {T : Nat → Int32} {z k : Nat} (h : mq_cnt T z k = nI 1) : ¬ mq_xe T z k = -1 := by
  intro q
  unfold mq_cnt at h
  by_cases g : mq_at T z k = -1
  · rw [if_pos g] at h
    exact absurd h (by decide)
  · rw [if_neg g] at h
    have e : mq_c T z 4000 k 0 = -1 := mq_cN (f := 3999) q
    rw [e] at h
    exact absurd h (by decide)
/-- a line's place: from p to q -/
def mq_R (T : Nat → Int32) (z n : Nat) (la ll : Nat → Int32) (li : Nat → Int64) (lr : Nat → Int32) (k p q : Nat) : Prop :=
  (mq_st T z k = 0 ∧ q = p) ∨ (mq_st T z k = 2 ∧ mq_a0 T z k = -1 ∧ q = mq_up p 4 + 4 ∧ q ≤ 4096) ∨ (mq_st T z k = 2 ∧ mq_a0 T z k = nI 0 ∧ q = p) ∨
  (mq_st T z k = 2 ∧ mq_a0 T z k = nI 1 ∧ ¬ mq_xe T z (mq_op T z k) = -1 ∧ ¬ (mq_ex T z n la ll li lr (nI p).toInt64 (mq_op T z k)).2.2.1 = 0 ∧ (mq_ex T z n la ll li lr (nI p).toInt64 (mq_op T z k)).2.1 = lN q ∧ q ≤ 4096) ∨
  (mq_st T z k = 2 ∧ ∃ a m : Nat, 2 ≤ a ∧ a ≤ 5 ∧ m ≤ 1700 ∧ mq_a0 T z k = nI a ∧ mq_cnt T z (mq_op T z k) = nI m ∧ q = mq_up p (mq_ea a) + m * mq_ea a ∧ q ≤ 4096)
/-- what the first pass has come to -/
def mq_pre (T : Nat → Int32) (z n : Nat) (la ll : Nat → Int32) (li : Nat → Int64) (lr : Nat → Int32) (k p : Nat) : Prop :=
  ∀ X : Nat → Nat → Prop, X 0 256 → (∀ k p q, X k p → k < z → mq_R T z n la ll li lr k p q → X (mq_af T z k) q) → X k p
/-- what the second pass still has before it -/
def mq_fin (T : Nat → Int32) (z n : Nat) (la ll : Nat → Int32) (li : Nat → Int64) (lr : Nat → Int32) : Nat → Nat → Nat → Prop
  | 0 => fun k _ => ¬ k < z
  | f + 1 => fun k p => k < z → ∃ q, mq_R T z n la ll li lr k p q ∧ mq_fin T z n la ll li lr f (mq_af T z k) q
theorem mq_pre0 {T : Nat → Int32} {z n : Nat} {la ll : Nat → Int32} {li : Nat → Int64} {lr : Nat → Int32} : mq_pre T z n la ll li lr 0 256 := fun X h _ => h
theorem mq_preS {T : Nat → Int32} {z n : Nat} {la ll : Nat → Int32} {li : Nat → Int64} {lr : Nat → Int32} {k p q : Nat} (h : mq_pre T z n la ll li lr k p) (hk : k < z) (hR : mq_R T z n la ll li lr k p q) : mq_pre T z n la ll li lr (mq_af T z k) q := fun X h0 hs => hs k p q (h X h0 hs) hk hR
theorem mq_pre_fin {T : Nat → Int32} {z n : Nat} {la ll : Nat → Int32} {li : Nat → Int64} {lr : Nat → Int32} {k p : Nat} (h : mq_pre T z n la ll li lr k p) (hk : ¬ k < z) : ∃ f, mq_fin T z n la ll li lr f 0 256 := by
  refine h (fun k p => (∃ f, mq_fin T z n la ll li lr f k p) → ∃ f, mq_fin T z n la ll li lr f 0 256) (fun x => x) (fun k p q hX hk hR hf => ?_) ⟨0, hk⟩
  obtain ⟨f, hf⟩ := hf
  exact hX ⟨f + 1, fun _ => ⟨q, hR, hf⟩⟩
theorem mq_finS {T : Nat → Int32} {z n : Nat} {la ll : Nat → Int32} {li : Nat → Int64} {lr : Nat → Int32} {k p : Nat} (h : ∃ f, mq_fin T z n la ll li lr f k p) (hk : k < z) : ∃ q, mq_R T z n la ll li lr k p q ∧ ∃ f, mq_fin T z n la ll li lr f (mq_af T z k) q := by
  obtain ⟨f, h⟩ := h
  cases f with
  | zero => exact absurd hk h
  | succ f =>
    obtain ⟨q, h1, h2⟩ := h hk
    exact ⟨q, h1, f, h2⟩
theorem mq_nn {a b : Nat} (ha : a < 2 ^ 31) (hb : b < 2 ^ 31) (h : nI a = nI b) : a = b := (nI_eq ha hb).mp h
theorem mq_ne1 {x : Int32} {a : Nat} (h1 : x = -1) (h2 : x = nI a) (h : a < 2 ^ 31) : False := mx_nm1 h (h2.symm.trans h1)
theorem mq_R0 {T : Nat → Int32} {z n : Nat} {la ll : Nat → Int32} {li : Nat → Int64} {lr : Nat → Int32} {k p q : Nat} (h : mq_R T z n la ll li lr k p q) (hs : mq_st T z k = 0) : q = p := by
  rcases h with h | h | h | h | h
  · exact h.2
  · omega
  · omega
  · omega
  · omega
theorem mq_R1 {T : Nat → Int32} {z n : Nat} {la ll : Nat → Int32} {li : Nat → Int64} {lr : Nat → Int32} {k p q : Nat} (h : mq_R T z n la ll li lr k p q) (hs : mq_st T z k = 1) : False := by
  rcases h with h | h | h | h | h
  · omega
  · omega
  · omega
  · omega
  · omega
theorem mq_RA {T : Nat → Int32} {z n : Nat} {la ll : Nat → Int32} {li : Nat → Int64} {lr : Nat → Int32} {k p q : Nat} (h : mq_R T z n la ll li lr k p q) (hs : mq_st T z k = 2) (ha : mq_a0 T z k = -1) : q = mq_up p 4 + 4 ∧ q ≤ 4096 := by
  rcases h with h | h | h | h | h
  · omega
  · exact h.2.2
  · exact (mq_ne1 ha h.2.1 (by decide)).elim
  · exact (mq_ne1 ha h.2.1 (by decide)).elim
  · obtain ⟨_, a, m, h1, h2, h3, h4, h5⟩ := h
    exact (mq_ne1 ha h4 (by omega)).elim
theorem mq_RI {T : Nat → Int32} {z n : Nat} {la ll : Nat → Int32} {li : Nat → Int64} {lr : Nat → Int32} {k p q : Nat} (h : mq_R T z n la ll li lr k p q) (hs : mq_st T z k = 2) (ha : mq_a0 T z k = nI 0) : q = p := by
  rcases h with h | h | h | h | h
  · exact h.2
  · exact (mq_ne1 h.2.1 ha (by decide)).elim
  · exact h.2.2
  · exact absurd (ha.symm.trans h.2.1) (by decide)
  · obtain ⟨_, a, m, h1, h2, h3, h4, h5⟩ := h
    have := mq_nn (by omega) (by omega) (ha.symm.trans h4)
    omega
theorem mq_RL {T : Nat → Int32} {z n : Nat} {la ll : Nat → Int32} {li : Nat → Int64} {lr : Nat → Int32} {k p q : Nat} (h : mq_R T z n la ll li lr k p q) (hs : mq_st T z k = 2) (ha : mq_a0 T z k = nI 1) : ¬ mq_xe T z (mq_op T z k) = -1 ∧ (mq_ex T z n la ll li lr (nI p).toInt64 (mq_op T z k)).2.1 = lN q ∧ q ≤ 4096 := by
  rcases h with h | h | h | h | h
  · omega
  · exact (mq_ne1 h.2.1 ha (by decide)).elim
  · exact absurd (ha.symm.trans h.2.1) (by decide)
  · exact ⟨h.2.2.1, h.2.2.2.2⟩
  · obtain ⟨_, a, m, h1, h2, h3, h4, h5⟩ := h
    have := mq_nn (by omega) (by omega) (ha.symm.trans h4)
    omega
theorem mq_RD {T : Nat → Int32} {z n : Nat} {la ll : Nat → Int32} {li : Nat → Int64} {lr : Nat → Int32} {k p q b : Nat} (h : mq_R T z n la ll li lr k p q) (hs : mq_st T z k = 2) (hb : 2 ≤ b ∧ b ≤ 5) (ha : mq_a0 T z k = nI b) : ∃ m : Nat, m ≤ 1700 ∧ mq_cnt T z (mq_op T z k) = nI m ∧ q = mq_up p (mq_ea b) + m * mq_ea b ∧ q ≤ 4096 := by
  rcases h with h | h | h | h | h
  · omega
  · exact (mq_ne1 h.2.1 ha (by omega)).elim
  · have := mq_nn (by omega) (by omega) (ha.symm.trans h.2.1)
    omega
  · have := mq_nn (by omega) (by omega) (ha.symm.trans h.2.1)
    omega
  · obtain ⟨_, a, m, h1, h2, h3, h4, h5, h6⟩ := h
    have := mq_nn (by omega) (by omega) (ha.symm.trans h4)
    subst this
    exact ⟨m, h3, h5, h6⟩
theorem mq_mulb {p m e i B : Nat} (hi : i < m) (h : p + m * e ≤ B) : p + e * i + e ≤ B := by
  have h1 : (i + 1) * e ≤ m * e := Nat.mul_le_mul_right e hi
  rw [Nat.succ_mul, Nat.mul_comm i e] at h1
  omega
/-- a longer table of labels -/
def mq_E (n : Nat) (la ll : Nat → Int32) (li : Nat → Int64) (lr : Nat → Int32) (n2 : Nat) (la2 ll2 : Nat → Int32) (li2 : Nat → Int64) (lr2 : Nat → Int32) : Prop := n ≤ n2 ∧ ∀ l, l < n → la2 l = la l ∧ ll2 l = ll l ∧ li2 l = li l ∧ lr2 l = lr l
theorem mq_is_E {T : Nat → Int32} {n n2 : Nat} {la ll la2 ll2 : Nat → Int32} {li li2 : Nat → Int64} {lr lr2 : Nat → Int32} {l a len : Nat} (h : mq_E n la ll li lr n2 la2 ll2 li2 lr2) (hl : l < n) : mq_is T la2 ll2 l a len ↔ mq_is T la ll l a len := by
  unfold mq_is
  rw [(h.2 l hl).1, (h.2 l hl).2.1]
theorem mq_ln_E {T : Nat → Int32} {n n2 : Nat} {la ll la2 ll2 : Nat → Int32} {li li2 : Nat → Int64} {lr lr2 : Nat → Int32} {a len : Nat} (h : mq_E n la ll li lr n2 la2 ll2 li2 lr2) (hn : ¬ mq_ln T n la ll a len = -1) : ∃ l, l < n ∧ mq_ln T n la ll a len = nI l ∧ mq_ln T n2 la2 ll2 a len = nI l := by
  obtain ⟨r, hr⟩ := mq_LN_ex T n la ll a len
  have e := mq_ln_eq hr
  rcases hr with ⟨rfl, _⟩ | ⟨l, h1, h2, h3, rfl⟩
  · exact absurd e hn
  · have := h.1
    refine ⟨l, h1, e, mq_ln_eq (Or.inr ⟨l, by omega, (mq_is_E h h1).mpr h2, fun j hj q => h3 j hj ((mq_is_E h (by omega)).mp q), rfl⟩)⟩
theorem mq_tt_E {T : Nat → Int32} {z n n2 : Nat} {la ll la2 ll2 : Nat → Int32} {li li2 : Nat → Int64} {lr lr2 : Nat → Int32} {here : Int64} {k : Nat} (h : mq_E n la ll li lr n2 la2 ll2 li2 lr2) (hn : n < 2 ^ 31) (hr : ¬ (mq_tt T z n la ll li lr here k).2.2 = 0) : mq_tt T z n2 la2 ll2 li2 lr2 here k = mq_tt T z n la ll li lr here k := by
  unfold mq_tt at hr ⊢
  by_cases h1 : mq_dig (mq_at T z k)
  · rw [if_pos h1, if_pos h1]
  rw [if_neg h1] at hr ⊢
  rw [if_neg h1]
  by_cases h2 : mq_at T z k = 35
  · rw [if_pos h2, if_pos h2]
  rw [if_neg h2] at hr ⊢
  rw [if_neg h2]
  by_cases h3 : mq_at T z k = 39
  · rw [if_pos h3, if_pos h3]
  rw [if_neg h3] at hr ⊢
  rw [if_neg h3]
  by_cases h4 : mq_at T z k = 64
  · rw [if_pos h4, if_pos h4]
  rw [if_neg h4] at hr ⊢
  rw [if_neg h4]
  by_cases h5 : mq_at T z k = 36
  · rw [if_pos h5] at hr ⊢
    rw [if_pos h5]
    by_cases h6 : mq_dig (mq_at T z (k + 1))
    · rw [if_pos h6, if_pos h6]
    rw [if_neg h6] at hr ⊢
    rw [if_neg h6]
    by_cases h7 : mq_ln T n la ll (k + 1) (mq_w T z (k + 1) - (k + 1)) = -1
    · rw [h7, mq_tl_n] at hr
      exact absurd rfl hr
    · obtain ⟨l, g1, g2, g3⟩ := mq_ln_E h h7
      rw [g2, g3, mq_tl_s (by omega), mq_tl_s (by omega), (h.2 l g1).2.2.1, (h.2 l g1).2.2.2]
  · rw [if_neg h5] at hr ⊢
    rw [if_neg h5]
    by_cases h6 : mq_sn T k (mq_w T z k) = -1
    · rw [h6] at hr ⊢
      by_cases h7 : mq_ln T n la ll k (mq_w T z k - k) = -1
      · rw [h7, mq_tw_n] at hr
        exact absurd rfl hr
      · obtain ⟨l, g1, g2, g3⟩ := mq_ln_E h h7
        rw [g2, g3, mq_tw_l (by omega), mq_tw_l (by omega), (h.2 l g1).2.2.1, (h.2 l g1).2.2.2]
    · unfold mq_tw
      rw [if_pos h6, if_pos h6]
theorem mq_and_0 (b : Nat) : mq_and 0 b = 0 := (mq_and0 rfl).symm
theorem mq_x_0 (T : Nat → Int32) (z n : Nat) (la ll : Nat → Int32) (li : Nat → Int64) (lr : Nat → Int32) (here : Int64) (f : Nat) : ∀ (e mi fi : Nat) (v : Int64) (rg : Nat), (mq_x T z n la ll li lr here f e mi fi v 0 rg).2.2.1 = 0 := by
  induction f with
  | zero => exact fun _ _ _ _ _ => rfl
  | succ f ih =>
    intro e mi fi v rg
    show (mq_b T z n la ll li lr here (mq_x T z n la ll li lr here f) e mi fi v 0 rg).2.2.1 = 0
    unfold mq_b
    by_cases h : mq_te T z e = -1
    · rw [if_pos h]
    · rw [if_neg h, mq_and_0, mq_and_0, show (if fi = 0 ∨ ¬ mi = 0 then 0 else 0) = 0 from by split <;> rfl]
      unfold mq_z
      split
      · exact ih ..
      · split
        · exact ih ..
        · rfl
theorem mq_x_E {T : Nat → Int32} {z n n2 : Nat} {la ll la2 ll2 : Nat → Int32} {li li2 : Nat → Int64} {lr lr2 : Nat → Int32} {here : Int64} (h : mq_E n la ll li lr n2 la2 ll2 li2 lr2) (hn : n < 2 ^ 31) (f : Nat) : ∀ (e mi fi : Nat) (v : Int64) (rt rg : Nat), ¬ (mq_x T z n la ll li lr here f e mi fi v rt rg).2.2.1 = 0 → mq_x T z n2 la2 ll2 li2 lr2 here f e mi fi v rt rg = mq_x T z n la ll li lr here f e mi fi v rt rg := by
  induction f with
  | zero => exact fun _ _ _ _ _ _ _ => rfl
  | succ f ih =>
    intro e mi fi v rt rg hr
    have hr : ¬ (mq_b T z n la ll li lr here (mq_x T z n la ll li lr here f) e mi fi v rt rg).2.2.1 = 0 := hr
    show mq_b T z n2 la2 ll2 li2 lr2 here (mq_x T z n2 la2 ll2 li2 lr2 here f) e mi fi v rt rg = mq_b T z n la ll li lr here (mq_x T z n la ll li lr here f) e mi fi v rt rg
    unfold mq_b at hr ⊢
    by_cases h1 : mq_te T z e = -1
    · rw [if_pos h1, if_pos h1]
    · rw [if_neg h1] at hr ⊢
      rw [if_neg h1]
      have ht : ¬ (mq_tt T z n la ll li lr here e).2.2 = 0 := by
        intro q
        apply hr
        rw [q, show mq_and rt 0 = 0 from (mq_and00 rfl).symm, mq_and_0, show (if fi = 0 ∨ ¬ mi = 0 then 0 else 0) = 0 from by split <;> rfl]
        unfold mq_z
        split
        · exact mq_x_0 ..
        · split
          · exact mq_x_0 ..
          · rfl
      rw [mq_tt_E h hn ht]
      unfold mq_z at hr ⊢
      by_cases h2 : mq_at T z (mq_te T z e).toNatClampNeg = 43
      · rw [if_pos h2] at hr ⊢
        rw [if_pos h2]
        exact ih _ _ _ _ _ _ hr
      · rw [if_neg h2] at hr ⊢
        rw [if_neg h2]
        by_cases h3 : mq_at T z (mq_te T z e).toNatClampNeg = 45
        · rw [if_pos h3] at hr ⊢
          rw [if_pos h3]
          exact ih _ _ _ _ _ _ hr
        · rw [if_neg h3, if_neg h3]
theorem mq_ex_E {T : Nat → Int32} {z n n2 : Nat} {la ll la2 ll2 : Nat → Int32} {li li2 : Nat → Int64} {lr lr2 : Nat → Int32} {here : Int64} {k : Nat} (h : mq_E n la ll li lr n2 la2 ll2 li2 lr2) (hn : n < 2 ^ 31) (hr : ¬ (mq_ex T z n la ll li lr here k).2.2.1 = 0) : mq_ex T z n2 la2 ll2 li2 lr2 here k = mq_ex T z n la ll li lr here k := by
  unfold mq_ex at hr ⊢
  by_cases h1 : mq_at T z k = 45
  · rw [if_pos h1] at hr ⊢
    rw [if_pos h1]
    exact mq_x_E h hn _ _ _ _ _ _ _ hr
  · rw [if_neg h1] at hr ⊢
    rw [if_neg h1]
    exact mq_x_E h hn _ _ _ _ _ _ _ hr
theorem mq_R_E {T : Nat → Int32} {z n n2 : Nat} {la ll la2 ll2 : Nat → Int32} {li li2 : Nat → Int64} {lr lr2 : Nat → Int32} {k p q : Nat} (h : mq_E n la ll li lr n2 la2 ll2 li2 lr2) (hn : n < 2 ^ 31) (hR : mq_R T z n la ll li lr k p q) : mq_R T z n2 la2 ll2 li2 lr2 k p q := by
  rcases hR with g | g | g | g | g
  · exact Or.inl g
  · exact Or.inr (Or.inl g)
  · exact Or.inr (Or.inr (Or.inl g))
  · obtain ⟨g1, g2, g3, g4, g5, g6⟩ := g
    have e := mq_ex_E (T := T) (z := z) h hn g4
    exact Or.inr (Or.inr (Or.inr (Or.inl ⟨g1, g2, g3, by rw [e]; exact g4, by rw [e]; exact g5, g6⟩)))
  · exact Or.inr (Or.inr (Or.inr (Or.inr g)))
theorem mq_pre_E {T : Nat → Int32} {z n n2 : Nat} {la ll la2 ll2 : Nat → Int32} {li li2 : Nat → Int64} {lr lr2 : Nat → Int32} {k p : Nat} (h : mq_E n la ll li lr n2 la2 ll2 li2 lr2) (hn : n < 2 ^ 31) (hp : mq_pre T z n la ll li lr k p) : mq_pre T z n2 la2 ll2 li2 lr2 k p := fun X h0 hs => hp X h0 (fun k p q hX hk hR => hs k p q hX hk (mq_R_E h hn hR))
theorem mq_preA {T : Nat → Int32} {z n : Nat} {la ll la2 ll2 : Nat → Int32} {li li2 : Nat → Int64} {lr lr2 : Nat → Int32} {k p : Nat} {x1 x2 x4 : Int32} {x3 : Int64} (hp : mq_pre T z n la ll li lr k p) (hn : n < 2 ^ 31) (e1 : upd la (nI n).toNatClampNeg x1 = la2) (e2 : upd ll (nI n).toNatClampNeg x2 = ll2) (e3 : vp_updL li (nI n).toNatClampNeg x3 = li2) (e4 : upd lr (nI n).toNatClampNeg x4 = lr2) : mq_pre T z (n + 1) la2 ll2 li2 lr2 k p := by
  rw [nI_clamp hn] at e1 e2 e3 e4
  subst e1
  subst e2
  subst e3
  subst e4
  exact mq_pre_E ⟨by omega, fun l hl => ⟨pk_un (by omega), pk_un (by omega), pk_uLn (by omega), pk_un (by omega)⟩⟩ hn hp

