/-! the reference's reading of a text: T the text, z its length -/
def mq_at (T : Nat → Int32) (z k : Nat) : Int32 := if k < z ∧ ¬ T k = 10 then T k else -1
theorem mq_at1 {T : Nat → Int32} {z k : Nat} (h : ¬ k < z) : (-1 : Int32) = mq_at T z k := by
  unfold mq_at
  rw [if_neg (fun q => h q.1)]
theorem mq_at2 {T : Nat → Int32} {z k : Nat} (h : T k = 10) : (-1 : Int32) = mq_at T z k := by
  unfold mq_at
  rw [if_neg (fun q => q.2 h)]
theorem mq_at3 {T : Nat → Int32} {z k : Nat} (h1 : k < z) (h2 : ¬ T k = 10) : T k = mq_at T z k := by
  unfold mq_at
  rw [if_pos ⟨h1, h2⟩]
theorem mq_at_lt {T : Nat → Int32} {z k : Nat} (h : ¬ mq_at T z k = -1) : k < z := by
  by_cases q : k < z
  · exact q
  · exact absurd (mq_at1 q).symm h
theorem mq_at_eq {T : Nat → Int32} {z k : Nat} {x : Int32} (h : mq_at T z k = x) (hx : ¬ x = -1) : k < z := mq_at_lt (by rw [h]; exact hx)
abbrev mq_dig (x : Int32) : Prop := ¬ x < 48 ∧ ¬ 57 < x
abbrev mq_let (x : Int32) : Prop := (¬ x < 97 ∧ x ≤ 122) ∨ (¬ x < 65 ∧ ¬ 90 < x)
theorem mq_dig_lt {T : Nat → Int32} {z k : Nat} (h : mq_dig (mq_at T z k)) : k < z := by
  refine mq_at_lt (T := T) (fun q => ?_)
  rw [q] at h
  exact h.1 (by decide)
theorem mq_let_lt {T : Nat → Int32} {z k : Nat} (h : mq_let (mq_at T z k)) : k < z := by
  refine mq_at_lt (T := T) (fun q => ?_)
  rw [q] at h
  rcases h with h | h
  · exact h.1 (by decide)
  · exact h.1 (by decide)

def mq_hex (x : Int32) : Int32 := if mq_dig x then x - 48 else if ¬ x < 97 ∧ ¬ 102 < x then x - 97 + 10 else if ¬ x < 65 ∧ ¬ 70 < x then x - 65 + 10 else -1
theorem mq_hex_lt {T : Nat → Int32} {z k : Nat} (h : ¬ mq_hex (mq_at T z k) = -1) : k < z := by
  refine mq_at_lt (T := T) (fun q => h ?_)
  rw [q]
  unfold mq_hex
  rw [if_neg (fun q => q.1 (by decide)), if_neg (fun q => q.1 (by decide)), if_neg (fun q => q.1 (by decide))]
/-- the first place from k on that has not P -/
noncomputable def mq_end (P : Nat → Prop) (k : Nat) : Nat := Classical.epsilon (fun e => k ≤ e ∧ (∀ j, k ≤ j → j < e → P j) ∧ ¬ P e)
theorem mq_end_eq {P : Nat → Prop} {k e : Nat} (h1 : k ≤ e) (h2 : ∀ j, k ≤ j → j < e → P j) (h3 : ¬ P e) : mq_end P k = e := by
  obtain ⟨g1, g2, g3⟩ := Classical.epsilon_spec (p := fun e => k ≤ e ∧ (∀ j, k ≤ j → j < e → P j) ∧ ¬ P e) ⟨e, h1, h2, h3⟩
  show Classical.epsilon _ = e
  rcases Nat.lt_trichotomy (Classical.epsilon (fun e => k ≤ e ∧ (∀ j, k ≤ j → j < e → P j) ∧ ¬ P e)) e with q | q | q
  · exact absurd (h2 _ g1 q) g3
  · exact q
  · exact absurd (g2 _ h1 q) h3
theorem mq_end_sp {P : Nat → Prop} {z k : Nat} (hP : ∀ e, P e → e < z) : k ≤ mq_end P k ∧ (∀ j, k ≤ j → j < mq_end P k → P j) ∧ ¬ P (mq_end P k) := by
  have ex : ∀ n k, z ≤ n + k → ∃ e, k ≤ e ∧ (∀ j, k ≤ j → j < e → P j) ∧ ¬ P e := by
    intro n
    induction n with
    | zero => exact fun k hk => ⟨k, Nat.le_refl _, fun j h1 h2 => absurd h2 (by omega), fun q => absurd (hP _ q) (by omega)⟩
    | succ n ih =>
      intro k hk
      by_cases q : P k
      · obtain ⟨e, g1, g2, g3⟩ := ih (k + 1) (by omega)
        refine ⟨e, by omega, fun j h1 h2 => ?_, g3⟩
        by_cases r : j = k
        · rw [r]; exact q
        · exact g2 j (by omega) h2
      · exact ⟨k, Nat.le_refl _, fun j h1 h2 => absurd h2 (by omega), q⟩
  exact Classical.epsilon_spec (p := fun e => k ≤ e ∧ (∀ j, k ≤ j → j < e → P j) ∧ ¬ P e) (ex z k (by omega))
theorem mq_end_b {P : Nat → Prop} {z k : Nat} (hP : ∀ e, P e → e < z) : k ≤ mq_end P k ∧ (mq_end P k ≤ z ∨ mq_end P k = k) := by
  obtain ⟨g1, g2, g3⟩ := mq_end_sp (k := k) hP
  refine ⟨g1, ?_⟩
  by_cases q : mq_end P k = k
  · exact Or.inr q
  · have := hP _ (g2 (mq_end P k - 1) (by omega) (by omega))
    exact Or.inl (by omega)
theorem mq_all {P : Nat → Prop} {k n : Nat} (h : ∀ j, k ≤ j → j < n → P j) (hn : P n) : ∀ j, k ≤ j → j < n + 1 → P j := by
  intro j h1 h2
  by_cases q : j = n
  · rw [q]; exact hn
  · exact h j h1 (by omega)
theorem mq_all0 {P : Nat → Prop} {k : Nat} : ∀ j, k ≤ j → j < k → P j := fun j h1 h2 => absurd h2 (by omega)
def mq_pw (T : Nat → Int32) (z j : Nat) : Prop := mq_dig (mq_at T z j) ∨ mq_let (mq_at T z j)
def mq_pb (T : Nat → Int32) (z j : Nat) : Prop := mq_at T z j = 32
def mq_pn (T : Nat → Int32) (z j : Nat) : Prop := ¬ mq_at T z j = -1 ∧ ¬ mq_at T z j = 32
def mq_pa (T : Nat → Int32) (z j : Nat) : Prop := j < z ∧ ¬ T j = 10
def mq_pd (T : Nat → Int32) (z j : Nat) : Prop := mq_dig (mq_at T z j)
def mq_px (T : Nat → Int32) (z j : Nat) : Prop := ¬ mq_hex (mq_at T z j) = -1
theorem mq_pw_lt {T : Nat → Int32} {z : Nat} : ∀ e, mq_pw T z e → e < z := fun e h => by
  rcases h with h | h
  · exact mq_dig_lt h
  · exact mq_let_lt h
theorem mq_pb_lt {T : Nat → Int32} {z : Nat} : ∀ e, mq_pb T z e → e < z := fun e h => mq_at_eq h (by decide)
theorem mq_pn_lt {T : Nat → Int32} {z : Nat} : ∀ e, mq_pn T z e → e < z := fun e h => mq_at_lt h.1
theorem mq_pa_lt {T : Nat → Int32} {z : Nat} : ∀ e, mq_pa T z e → e < z := fun e h => h.1
theorem mq_pd_lt {T : Nat → Int32} {z : Nat} : ∀ e, mq_pd T z e → e < z := fun e h => mq_dig_lt h
theorem mq_px_lt {T : Nat → Int32} {z : Nat} : ∀ e, mq_px T z e → e < z := fun e h => mq_hex_lt h
noncomputable def mq_w (T : Nat → Int32) (z k : Nat) : Nat := mq_end (mq_pw T z) k
noncomputable def mq_bl (T : Nat → Int32) (z k : Nat) : Nat := mq_end (mq_pb T z) k
noncomputable def mq_nb (T : Nat → Int32) (z k : Nat) : Nat := mq_end (mq_pn T z) k
noncomputable def mq_af (T : Nat → Int32) (z k : Nat) : Nat := mq_end (mq_pa T z) k + 1
noncomputable def mq_dg (T : Nat → Int32) (z k : Nat) : Nat := mq_end (mq_pd T z) k
noncomputable def mq_hx (T : Nat → Int32) (z k : Nat) : Nat := mq_end (mq_px T z) k
/-- the literals' letters -/
def mq_s (sn k : Nat) : Int32 := (((mx_byt.getD sn []).getD k 0 &&& 255).toUInt32 % 65536).toInt32
/-- where the word begins that ends at k, and its number -/
def mq_bn (s : Nat → Int32) : Nat → Nat × Nat
  | 0 => (0, 0)
  | k + 1 => if s k = 32 then (k + 1, (mq_bn s k).2 + 1) else mq_bn s k
theorem mq_bn_le (s : Nat → Int32) (k : Nat) : (mq_bn s k).1 ≤ k ∧ (mq_bn s k).2 ≤ k := by
  induction k with
  | zero => exact ⟨Nat.le_refl _, Nat.le_refl _⟩
  | succ k ih =>
    unfold mq_bn
    split
    · exact ⟨Nat.le_refl _, by have := ih.2; show _ + 1 ≤ _; omega⟩
    · exact ⟨by omega, by omega⟩
theorem mq_bn_1 {s : Nat → Int32} {k : Nat} (h : s k = 32) : mq_bn s (k + 1) = (k + 1, (mq_bn s k).2 + 1) := by
  show (if s k = 32 then (k + 1, (mq_bn s k).2 + 1) else mq_bn s k) = _
  rw [if_pos h]
theorem mq_bn_0 {s : Nat → Int32} {k : Nat} (h : ¬ s k = 32) : mq_bn s (k + 1) = mq_bn s k := by
  show (if s k = 32 then (k + 1, (mq_bn s k).2 + 1) else mq_bn s k) = _
  rw [if_neg h]
def mq_m (T s : Nat → Int32) (a b k : Nat) : Prop := a < b ∧ b - a = k - (mq_bn s k).1 ∧ ∀ i, (mq_bn s k).1 ≤ i → i < k → T (a + i - (mq_bn s k).1) = s i
def mq_AM (T s : Nat → Int32) (len a b : Nat) (r : Int32) : Prop := (r = -1 ∧ ∀ k, k < len → s k = 32 → ¬ mq_m T s a b k) ∨ ∃ k, k < len ∧ s k = 32 ∧ mq_m T s a b k ∧ (∀ j, j < k → s j = 32 → ¬ mq_m T s a b j) ∧ r = nI (mq_bn s k).2
noncomputable def mq_am (T : Nat → Int32) (sn a b : Nat) : Int32 := Classical.epsilon (mq_AM T (mq_s sn) (mx_len.getD sn 0) a b)
theorem mq_AM_u {T s : Nat → Int32} {len a b : Nat} {r q : Int32} (h : mq_AM T s len a b r) (g : mq_AM T s len a b q) : r = q := by
  rcases h with ⟨rfl, h⟩ | ⟨k, h1, h2, h3, h4, rfl⟩
  · rcases g with ⟨rfl, g⟩ | ⟨k, g1, g2, g3, g4, rfl⟩
    · rfl
    · exact absurd g3 (h k g1 g2)
  · rcases g with ⟨rfl, g⟩ | ⟨j, g1, g2, g3, g4, rfl⟩
    · exact absurd h3 (g k h1 h2)
    · rcases Nat.lt_trichotomy k j with x | x | x
      · exact absurd h3 (g4 k x h2)
      · rw [x]
      · exact absurd g3 (h4 j x g2)
theorem mq_am_eq {T : Nat → Int32} {sn a b : Nat} {r : Int32} (h : mq_AM T (mq_s sn) (mx_len.getD sn 0) a b r) : mq_am T sn a b = r := mq_AM_u (Classical.epsilon_spec ⟨r, h⟩) h
/-- what among answers -/
def mq_amP (T : Nat → Int32) (sn a b : Nat) (r : Int32) : Prop := (r = -1 ∧ mq_am T sn a b = -1) ∨ ∃ q : Nat, q < mx_len.getD sn 0 ∧ r = nI q ∧ mq_am T sn a b = nI q ∧ ∃ k, k < mx_len.getD sn 0 ∧ mq_s sn k = 32 ∧ q = (mq_bn (mq_s sn) k).2
theorem mq_amN {T : Nat → Int32} {sn a b k : Nat} (hk : ¬ k < mx_len.getD sn 0) (h : ∀ j, j < k → mq_s sn j = 32 → ¬ mq_m T (mq_s sn) a b j) : mq_amP T sn a b (-1) := Or.inl ⟨rfl, mq_am_eq (Or.inl ⟨rfl, fun j hj => h j (by omega)⟩)⟩
theorem mq_amY {T : Nat → Int32} {sn a b k n : Nat} (hk : k < mx_len.getD sn 0) (hs : mq_s sn k = 32) (h : ∀ j, j < k → mq_s sn j = 32 → ¬ mq_m T (mq_s sn) a b j) (hm : mq_m T (mq_s sn) a b k) (hn : n = (mq_bn (mq_s sn) k).2) : mq_amP T sn a b (nI n) := by
  subst hn
  have := (mq_bn_le (mq_s sn) k).2
  exact Or.inr ⟨_, by omega, rfl, mq_am_eq (Or.inr ⟨k, hk, hs, hm, h, rfl⟩), k, hk, hs, rfl⟩
theorem mq_noS {T s : Nat → Int32} {a b n : Nat} (h : ∀ j, j < n → s j = 32 → ¬ mq_m T s a b j) (hn : s n = 32 → ¬ mq_m T s a b n) : ∀ j, j < n + 1 → s j = 32 → ¬ mq_m T s a b j := by
  intro j h1 h2
  by_cases q : j = n
  · rw [q]; rw [q] at h2; exact hn h2
  · exact h j (by omega) h2
/-- the flag of among's inner loop -/
def mq_fl (T s : Nat → Int32) (a b k g i f : Nat) : Prop := (f = 1 ∧ a < b ∧ b - a = k - g ∧ ∀ x, g ≤ x → x < i → T (a + x - g) = s x) ∨ (f = 0 ∧ ¬ mq_m T s a b k)
theorem mq_fl1 {T s : Nat → Int32} {a b k g : Nat} (h1 : a < b) (h2 : b - a = k - g) : mq_fl T s a b k g g 1 := Or.inl ⟨rfl, h1, h2, fun x h3 h4 => absurd h4 (by omega)⟩
theorem mq_fl0 {T s : Nat → Int32} {a b k g i : Nat} (hg : g = (mq_bn s k).1) (h : ¬ a < b ∨ ¬ b - a = k - g) : mq_fl T s a b k g i 0 := by
  subst hg
  refine Or.inr ⟨rfl, fun q => ?_⟩
  rcases h with h | h
  · exact h q.1
  · exact h q.2.1
theorem mq_flS {T s : Nat → Int32} {a b k g i f : Nat} (h : mq_fl T s a b k g i f) (hf : ¬ f = 0) (e : T (a + i - g) = s i) : mq_fl T s a b k g (i + 1) 1 := by
  rcases h with ⟨_, h1, h2, h3⟩ | ⟨h, _⟩
  · refine Or.inl ⟨rfl, h1, h2, fun x h4 h5 => ?_⟩
    by_cases q : x = i
    · rw [q]; exact e
    · exact h3 x h4 (by omega)
  · exact absurd h hf
theorem mq_flE {T s : Nat → Int32} {a b k g i f j : Nat} (hg : g = (mq_bn s k).1) (hi : g ≤ i) (hk : i < k) (e : ¬ T (a + i - g) = s i) : mq_fl T s a b k g j 0 := by
  subst hg
  exact Or.inr ⟨rfl, fun q => e (q.2.2 i hi hk)⟩
theorem mq_flM {T s : Nat → Int32} {a b k g i f : Nat} (h : mq_fl T s a b k g i f) (hf : ¬ f = 0) (hg : g = (mq_bn s k).1) (hi : k ≤ i) : mq_m T s a b k := by
  subst hg
  rcases h with ⟨_, h1, h2, h3⟩ | ⟨h, _⟩
  · exact ⟨h1, h2, fun x h4 h5 => h3 x h4 (by omega)⟩
  · exact absurd h hf
theorem mq_flN {T s : Nat → Int32} {a b k g i f : Nat} (h : mq_fl T s a b k g i f) (hf : f = 0) : ¬ mq_m T s a b k := by
  rcases h with ⟨h, _⟩ | ⟨_, h⟩
  · omega
  · exact h
theorem mq_flB {T s : Nat → Int32} {a b k g i f : Nat} (h : mq_fl T s a b k g i f) (hf : ¬ f = 0) : a < b ∧ b - a = k - g := by
  rcases h with ⟨_, h1, h2, _⟩ | ⟨h, _⟩
  · exact ⟨h1, h2⟩
  · exact absurd h hf
def mq_sof (x : Int32) : Int32 := if ¬ 2 ≤ x then x else if ¬ 6 ≤ x then x + 1 else if ¬ 9 ≤ x then x + 13 else x + 15
/-- what specialNamed answers -/
noncomputable def mq_sn (T : Nat → Int32) (a b : Nat) : Int32 := if mq_am T 15 a b = -1 then -1 else mq_sof (mq_am T 15 a b)
/-- labels: la where, ll how long -/
def mq_is (T la ll : Nat → Int32) (l a n : Nat) : Prop := ll l = nI n ∧ ∀ j, j < n → T ((la l).toNatClampNeg + j) = T (a + j)
def mq_LN (T : Nat → Int32) (n : Nat) (la ll : Nat → Int32) (a len : Nat) (r : Int32) : Prop := (r = -1 ∧ ∀ l, l < n → ¬ mq_is T la ll l a len) ∨ ∃ l, l < n ∧ mq_is T la ll l a len ∧ (∀ j, j < l → ¬ mq_is T la ll j a len) ∧ r = nI l
noncomputable def mq_ln (T : Nat → Int32) (n : Nat) (la ll : Nat → Int32) (a len : Nat) : Int32 := Classical.epsilon (mq_LN T n la ll a len)
theorem mq_LN_u {T : Nat → Int32} {n : Nat} {la ll : Nat → Int32} {a len : Nat} {r q : Int32} (h : mq_LN T n la ll a len r) (g : mq_LN T n la ll a len q) : r = q := by
  rcases h with ⟨rfl, h⟩ | ⟨k, h1, h3, h4, rfl⟩
  · rcases g with ⟨rfl, g⟩ | ⟨k, g1, g3, g4, rfl⟩
    · rfl
    · exact absurd g3 (h k g1)
  · rcases g with ⟨rfl, g⟩ | ⟨j, g1, g3, g4, rfl⟩
    · exact absurd h3 (g k h1)
    · rcases Nat.lt_trichotomy k j with x | x | x
      · exact absurd h3 (g4 k x)
      · rw [x]
      · exact absurd g3 (h4 j x)
theorem mq_ln_eq {T : Nat → Int32} {n : Nat} {la ll : Nat → Int32} {a len : Nat} {r : Int32} (h : mq_LN T n la ll a len r) : mq_ln T n la ll a len = r := mq_LN_u (Classical.epsilon_spec ⟨r, h⟩) h
theorem mq_LN_ex (T : Nat → Int32) (n : Nat) (la ll : Nat → Int32) (a len : Nat) : ∃ r, mq_LN T n la ll a len r := by
  induction n with
  | zero => exact ⟨-1, Or.inl ⟨rfl, fun l h => absurd h (Nat.not_lt_zero _)⟩⟩
  | succ n ih =>
    obtain ⟨r, h⟩ := ih
    rcases h with ⟨rfl, h⟩ | ⟨k, h1, h3, h4, rfl⟩
    · by_cases q : mq_is T la ll n a len
      · exact ⟨nI n, Or.inr ⟨n, by omega, q, h, rfl⟩⟩
      · refine ⟨-1, Or.inl ⟨rfl, fun l hl => ?_⟩⟩
        by_cases x : l = n
        · rw [x]; exact q
        · exact h l (by omega)
    · exact ⟨nI k, Or.inr ⟨k, by omega, h3, h4, rfl⟩⟩
/-- what labelNamed answers -/
def mq_lnP (T : Nat → Int32) (n : Nat) (la ll : Nat → Int32) (a len : Nat) (r : Int32) : Prop := (r = -1 ∧ mq_ln T n la ll a len = -1) ∨ ∃ q : Nat, q < n ∧ r = nI q ∧ mq_ln T n la ll a len = nI q
theorem mq_lnN {T : Nat → Int32} {n : Nat} {la ll : Nat → Int32} {a len k : Nat} (hk : ¬ k < n) (h : ∀ j, j < k → ¬ mq_is T la ll j a len) : mq_lnP T n la ll a len (-1) := Or.inl ⟨rfl, mq_ln_eq (Or.inl ⟨rfl, fun j hj => h j (by omega)⟩)⟩
theorem mq_lnY {T : Nat → Int32} {n : Nat} {la ll : Nat → Int32} {a len k : Nat} (hk : k < n) (h : ∀ j, j < k → ¬ mq_is T la ll j a len) (hm : mq_is T la ll k a len) : mq_lnP T n la ll a len (nI k) := Or.inr ⟨k, hk, rfl, mq_ln_eq (Or.inr ⟨k, hk, hm, h, rfl⟩)⟩
theorem mq_allN {P : Nat → Prop} {n : Nat} (h : ∀ j, j < n → ¬ P j) (hn : ¬ P n) : ∀ j, j < n + 1 → ¬ P j := by
  intro j h1
  by_cases q : j = n
  · rw [q]; exact hn
  · exact h j (by omega)
/-- the flag of labelNamed's inner loop -/
def mq_gl (T la ll : Nat → Int32) (l a n i f : Nat) : Prop := (f = 1 ∧ ll l = nI n ∧ ∀ x, x < i → T ((la l).toNatClampNeg + x) = T (a + x)) ∨ (f = 0 ∧ ¬ mq_is T la ll l a n)
theorem mq_gl1 {T la ll : Nat → Int32} {l a n : Nat} (h : ll l = nI n) : mq_gl T la ll l a n 0 1 := Or.inl ⟨rfl, h, fun x hx => absurd hx (Nat.not_lt_zero _)⟩
theorem mq_gl0 {T la ll : Nat → Int32} {l a n i : Nat} (h : ¬ ll l = nI n) : mq_gl T la ll l a n i 0 := Or.inr ⟨rfl, fun q => h q.1⟩
theorem mq_glS {T la ll : Nat → Int32} {l a n i f : Nat} (h : mq_gl T la ll l a n i f) (hf : ¬ f = 0) (e : T ((la l).toNatClampNeg + i) = T (a + i)) : mq_gl T la ll l a n (i + 1) 1 := by
  rcases h with ⟨_, h2, h3⟩ | ⟨h, _⟩
  · refine Or.inl ⟨rfl, h2, fun x h5 => ?_⟩
    by_cases q : x = i
    · rw [q]; exact e
    · exact h3 x (by omega)
  · exact absurd h hf
theorem mq_glE {T la ll : Nat → Int32} {l a n i j : Nat} (hi : i < n) (e : ¬ T ((la l).toNatClampNeg + i) = T (a + i)) : mq_gl T la ll l a n j 0 := Or.inr ⟨rfl, fun q => e (q.2 i hi)⟩
theorem mq_glM {T la ll : Nat → Int32} {l a n i f : Nat} (h : mq_gl T la ll l a n i f) (hf : ¬ f = 0) (hi : n ≤ i) : mq_is T la ll l a n := by
  rcases h with ⟨_, h2, h3⟩ | ⟨h, _⟩
  · exact ⟨h2, fun x h5 => h3 x (by omega)⟩
  · exact absurd h hf
theorem mq_glN {T la ll : Nat → Int32} {l a n i f : Nat} (h : mq_gl T la ll l a n i f) (hf : f = 0) : ¬ mq_is T la ll l a n := by
  rcases h with ⟨h, _⟩ | ⟨_, h⟩
  · omega
  · exact h
theorem mq_glB {T la ll : Nat → Int32} {l a n i f z c : Nat} (h : mq_gl T la ll l a n i f) (hf : ¬ f = 0) (hlab : mx_lab la ll c) (hl : l < c) (hn : n < 2 ^ 31) : ∃ q : Nat, la l = nI q ∧ q + n ≤ 1600 := by
  rcases h with ⟨_, h2, _⟩ | ⟨h, _⟩
  · obtain ⟨q, w, g1, g2, g3⟩ := hlab l hl
    rw [g2, nI_eq (by omega) hn] at h2
    exact ⟨q, g1, by omega⟩
  · exact absurd h hf
theorem mx_nm1 {k : Nat} (h : k < 2 ^ 31) : ¬ nI k = -1 := by
  intro q
  have : (nI k).toInt = (-1 : Int32).toInt := by rw [q]
  rw [nI_toInt h] at this
  have e : (-1 : Int32).toInt = -1 := by decide
  omega
theorem mq_af_b (T : Nat → Int32) (z k : Nat) : k < mq_af T z k ∧ (mq_af T z k ≤ z + 1 ∨ mq_af T z k = k + 1) := by
  have h := mq_end_b (P := mq_pa T z) (k := k) mq_pa_lt
  unfold mq_af
  omega

