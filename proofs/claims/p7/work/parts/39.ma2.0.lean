/-- numbers in the text -/
def mq_dv (T : Nat → Int32) (z b : Nat) : Nat → Int64
  | 0 => 0
  | n + 1 => if n < 18 then 10 * mq_dv T z b n + (mq_at T z (b + n)).toInt64 - 48 else mq_dv T z b n
def mq_hv (T : Nat → Int32) (z b : Nat) : Nat → Int64
  | 0 => 0
  | n + 1 => mq_hv T z b n <<< ((4 : Int32).toInt64 &&& 63) ||| (mq_hex (mq_at T z (b + n))).toInt64
theorem mq_dvS1 {T : Nat → Int32} {z b n : Nat} {v : Int64} (h : v = mq_dv T z b (n - b)) (hb : b ≤ n) (hn : n - b < 18) : 10 * v + (mq_at T z n).toInt64 - 48 = mq_dv T z b (n + 1 - b) := by
  obtain ⟨d, rfl⟩ : ∃ d, n = b + d := ⟨n - b, by omega⟩
  rw [show b + d - b = d by omega] at h hn
  rw [show b + d + 1 - b = d + 1 by omega]
  subst h
  show _ = (if d < 18 then _ else _)
  rw [if_pos hn]
theorem mq_dvS2 {T : Nat → Int32} {z b n : Nat} {v : Int64} (h : v = mq_dv T z b (n - b)) (hb : b ≤ n) (hn : 18 ≤ n - b) : v = mq_dv T z b (n + 1 - b) := by
  obtain ⟨d, rfl⟩ : ∃ d, n = b + d := ⟨n - b, by omega⟩
  rw [show b + d - b = d by omega] at h hn
  rw [show b + d + 1 - b = d + 1 by omega]
  subst h
  show _ = (if d < 18 then _ else _)
  rw [if_neg (by omega)]
theorem mq_hvS {T : Nat → Int32} {z b n : Nat} {v : Int64} (h : v = mq_hv T z b (n - b)) (hb : b ≤ n) : v <<< ((4 : Int32).toInt64 &&& 63) ||| (mq_hex (mq_at T z n)).toInt64 = mq_hv T z b (n + 1 - b) := by
  obtain ⟨d, rfl⟩ : ∃ d, n = b + d := ⟨n - b, by omega⟩
  rw [show b + d - b = d by omega] at h
  rw [show b + d + 1 - b = d + 1 by omega]
  subst h
  rfl
noncomputable def mq_de (T : Nat → Int32) (z k : Nat) : Int32 := if mq_dg T z k = k ∨ 18 < mq_dg T z k - k then -1 else nI (mq_dg T z k)
noncomputable def mq_dw (T : Nat → Int32) (z k : Nat) : Int64 := mq_dv T z k (mq_dg T z k - k)
noncomputable def mq_rd (T : Nat → Int32) (z k : Nat) : Int32 := if mq_de T z k = -1 then -1 else if lg_cmp (mq_dw T z k) 255 ≤ 0 then mq_de T z k else -1
/-- where a term ends -/
noncomputable def mq_te (T : Nat → Int32) (z k : Nat) : Int32 :=
  if mq_dig (mq_at T z k) then mq_de T z k
  else if mq_at T z k = 35 then (if mq_hx T z (k + 1) = k + 1 ∨ k + 17 < mq_hx T z (k + 1) then -1 else nI (mq_hx T z (k + 1)))
  else if mq_at T z k = 39 then (if mq_at T z (k + 1) = -1 ∨ ¬ mq_at T z (k + 2) = 39 then -1 else nI (k + 3))
  else if mq_at T z k = 64 then nI (k + 1)
  else if mq_at T z k = 36 then (if mq_dig (mq_at T z (k + 1)) then mq_rd T z (k + 1) else if mq_let (mq_at T z (k + 1)) then (if k + 13 < mq_w T z (k + 1) then -1 else nI (mq_w T z (k + 1))) else -1)
  else if mq_let (mq_at T z k) then (if k + 12 < mq_w T z k then -1 else nI (mq_w T z k)) else -1
def mq_tl (li : Nat → Int64) (lr : Nat → Int32) (l : Int32) : Int64 × Nat × Nat := if l = -1 then (0, 1, 0) else (li l.toNatClampNeg, 1, if lr l.toNatClampNeg = 0 ∧ ¬ lg_cmp (li l.toNatClampNeg) 0 < 0 ∧ ¬ 0 < lg_cmp (li l.toNatClampNeg) 255 then 1 else 0)
def mq_tw (li : Nat → Int64) (lr : Nat → Int32) (s l : Int32) : Int64 × Nat × Nat := if ¬ s = -1 then (s.toInt64, 0, 1) else if l = -1 then (0, 0, 0) else (li l.toNatClampNeg, if lr l.toNatClampNeg = 0 then 0 else 1, 1)
theorem mq_tl_s {li : Nat → Int64} {lr : Nat → Int32} {q : Nat} (h : q < 2 ^ 31) : mq_tl li lr (nI q) = (li q, 1, if lr q = 0 ∧ ¬ lg_cmp (li q) 0 < 0 ∧ ¬ 0 < lg_cmp (li q) 255 then 1 else 0) := by
  unfold mq_tl
  rw [if_neg (mx_nm1 h), nI_clamp h]
theorem mq_tl_n {li : Nat → Int64} {lr : Nat → Int32} : mq_tl li lr (-1) = (0, 1, 0) := by
  unfold mq_tl
  rw [if_pos rfl]
theorem mq_tw_s {li : Nat → Int64} {lr : Nat → Int32} {q : Nat} {l : Int32} (h : q < 2 ^ 31) : mq_tw li lr (nI q) l = ((nI q).toInt64, 0, 1) := by
  unfold mq_tw
  rw [if_pos (mx_nm1 h)]
theorem mq_tw_l {li : Nat → Int64} {lr : Nat → Int32} {q : Nat} (h : q < 2 ^ 31) : mq_tw li lr (-1) (nI q) = (li q, if lr q = 0 then 0 else 1, 1) := by
  unfold mq_tw
  rw [if_neg (fun g => g rfl), if_neg (mx_nm1 h), nI_clamp h]
theorem mq_tw_n {li : Nat → Int64} {lr : Nat → Int32} : mq_tw li lr (-1) (-1) = (0, 0, 0) := by
  unfold mq_tw
  rw [if_neg (fun g => g rfl), if_pos rfl]
/-- a term's value, whether it is a register, whether it is right -/
noncomputable def mq_tt (T : Nat → Int32) (z n : Nat) (la ll : Nat → Int32) (li : Nat → Int64) (lr : Nat → Int32) (here : Int64) (k : Nat) : Int64 × Nat × Nat :=
  if mq_dig (mq_at T z k) then (mq_dw T z k, 0, 1)
  else if mq_at T z k = 35 then (mq_hv T z (k + 1) (mq_hx T z (k + 1) - (k + 1)), 0, 1)
  else if mq_at T z k = 39 then ((mq_at T z (k + 1)).toInt64, 0, 1)
  else if mq_at T z k = 64 then (here, 0, 1)
  else if mq_at T z k = 36 then (if mq_dig (mq_at T z (k + 1)) then (mq_dw T z (k + 1), 1, 1) else mq_tl li lr (mq_ln T n la ll (k + 1) (mq_w T z (k + 1) - (k + 1))))
  else mq_tw li lr (mq_sn T k (mq_w T z k)) (mq_ln T n la ll k (mq_w T z k - k))
def mq_and (a b : Nat) : Nat := if a = 0 ∨ b = 0 then 0 else 1
theorem mq_and1 {a : Nat} (h : a ≤ 1) : a = mq_and a 1 := by
  unfold mq_and
  by_cases q : a = 0
  · rw [if_pos (Or.inl q), q]
  · rw [if_neg (by omega)]
    omega
theorem mq_and0 {a b : Nat} (h : a = 0) : 0 = mq_and a b := by
  unfold mq_and
  rw [if_pos (Or.inl h)]
theorem mq_and00 {a b : Nat} (h : b = 0) : 0 = mq_and a b := by
  unfold mq_and
  rw [if_pos (Or.inr h)]
theorem mq_and11 {a b : Nat} (h : ¬ a = 0) (g : ¬ b = 0) : 1 = mq_and a b := by
  unfold mq_and
  rw [if_neg (by omega)]
/-- what a reader of a place answers: nothing, or a place behind it -/
def mq_pl (z k : Nat) (x r : Int32) : Prop := (r = -1 ∧ x = -1) ∨ ∃ q : Nat, (k < q ∧ q ≤ z) ∧ r = nI q ∧ x = nI q
theorem mq_plN {z k : Nat} {x : Int32} (h : x = -1) : mq_pl z k x (-1) := Or.inl ⟨rfl, h⟩
theorem mq_plY {z k q : Nat} {x : Int32} (h1 : k < q) (h2 : q ≤ z) (h : x = nI q) : mq_pl z k x (nI q) := Or.inr ⟨q, ⟨h1, h2⟩, rfl, h⟩
abbrev mq_O : Type := Int32 × Int64 × Nat × Nat
def mq_fr (rt rg : Nat) (v : Int64) : Nat := if rt = 0 then 0 else if rg = 0 then 1 else if lg_cmp v 0 < 0 then 0 else if 0 < lg_cmp v 255 then 0 else 1
/-- an expression: behind a term; a term; all -/
def mq_z (T : Nat → Int32) (z : Nat) (X : Nat → Nat → Nat → Int64 → Nat → Nat → mq_O) (e : Nat) (v : Int64) (rt rg : Nat) : mq_O :=
  if mq_at T z e = 43 then X (e + 1) 0 0 v rt rg else if mq_at T z e = 45 then X (e + 1) 1 0 v rt rg else (nI e, v, mq_fr rt rg v, rg)
noncomputable def mq_b (T : Nat → Int32) (z n : Nat) (la ll : Nat → Int32) (li : Nat → Int64) (lr : Nat → Int32) (here : Int64) (X : Nat → Nat → Nat → Int64 → Nat → Nat → mq_O) (e mi fi : Nat) (v : Int64) (rt rg : Nat) : mq_O :=
  if mq_te T z e = -1 then (-1, 0, 0, 0)
  else mq_z T z X (mq_te T z e).toNatClampNeg (if mi = 0 then v + (mq_tt T z n la ll li lr here e).1 else v - (mq_tt T z n la ll li lr here e).1)
    (if fi = 0 ∨ ¬ mi = 0 then mq_and (mq_and rt (mq_tt T z n la ll li lr here e).2.2) (1 - (mq_tt T z n la ll li lr here e).2.1) else mq_and rt (mq_tt T z n la ll li lr here e).2.2)
    (if fi = 0 ∨ ¬ mi = 0 then rg else (mq_tt T z n la ll li lr here e).2.1)
noncomputable def mq_x (T : Nat → Int32) (z n : Nat) (la ll : Nat → Int32) (li : Nat → Int64) (lr : Nat → Int32) (here : Int64) : Nat → Nat → Nat → Nat → Int64 → Nat → Nat → mq_O
  | 0 => fun _ _ _ _ _ _ => (-1, 0, 0, 0)
  | f + 1 => mq_b T z n la ll li lr here (mq_x T z n la ll li lr here f)
noncomputable def mq_ex (T : Nat → Int32) (z n : Nat) (la ll : Nat → Int32) (li : Nat → Int64) (lr : Nat → Int32) (here : Int64) (k : Nat) : mq_O :=
  if mq_at T z k = 45 then mq_x T z n la ll li lr here 4000 (k + 1) 1 1 0 1 0 else mq_x T z n la ll li lr here 4000 k 0 1 0 1 0
theorem mq_bS {T : Nat → Int32} {z n : Nat} {la ll : Nat → Int32} {li : Nat → Int64} {lr : Nat → Int32} {here : Int64} {X : Nat → Nat → Nat → Int64 → Nat → Nat → mq_O} {e mi fi : Nat} {v : Int64} {rt rg q : Nat} {xt : Int64} {xg xr gr gg : Nat}
    (hte : mq_te T z e = nI q) (hq : q < 2 ^ 31) (hh : xt = (mq_tt T z n la ll li lr here e).1 ∧ xg = (mq_tt T z n la ll li lr here e).2.1 ∧ xr = mq_and rt (mq_tt T z n la ll li lr here e).2.2)
    (hr : gr = if fi = 0 ∨ ¬ mi = 0 then mq_and xr (1 - xg) else xr) (hg : gg = if fi = 0 ∨ ¬ mi = 0 then rg else xg) :
    mq_b T z n la ll li lr here X e mi fi v rt rg = mq_z T z X q (if mi = 0 then v + xt else v - xt) gr gg := by
  obtain ⟨rfl, rfl, rfl⟩ := hh
  subst hr
  subst hg
  unfold mq_b
  rw [if_neg (by rw [hte]; exact mx_nm1 hq), hte, nI_clamp hq]
theorem mq_bN {T : Nat → Int32} {z n : Nat} {la ll : Nat → Int32} {li : Nat → Int64} {lr : Nat → Int32} {here : Int64} {X : Nat → Nat → Nat → Int64 → Nat → Nat → mq_O} {e mi fi : Nat} {v : Int64} {rt rg : Nat} (hte : mq_te T z e = -1) : mq_b T z n la ll li lr here X e mi fi v rt rg = (-1, 0, 0, 0) := by
  unfold mq_b
  rw [if_pos hte]
/-- where an expression ends: of the text alone -/
noncomputable def mq_xe (T : Nat → Int32) (z k : Nat) : Int32 := (mq_ex T z 0 (fun _ => 0) (fun _ => 0) (fun _ => 0) (fun _ => 0) 0 k).1
theorem mq_x_1 (T : Nat → Int32) (z n n2 : Nat) (la ll la2 ll2 : Nat → Int32) (li li2 : Nat → Int64) (lr lr2 : Nat → Int32) (here here2 : Int64) (f : Nat) : ∀ (e mi fi : Nat) (v : Int64) (rt rg mi2 fi2 : Nat) (v2 : Int64) (rt2 rg2 : Nat), (mq_x T z n la ll li lr here f e mi fi v rt rg).1 = (mq_x T z n2 la2 ll2 li2 lr2 here2 f e mi2 fi2 v2 rt2 rg2).1 := by
  induction f with
  | zero => exact fun e mi fi v rt rg mi2 fi2 v2 rt2 rg2 => rfl
  | succ f ih =>
    intro e mi fi v rt rg mi2 fi2 v2 rt2 rg2
    show (mq_b T z n la ll li lr here (mq_x T z n la ll li lr here f) e mi fi v rt rg).1 = (mq_b T z n2 la2 ll2 li2 lr2 here2 (mq_x T z n2 la2 ll2 li2 lr2 here2 f) e mi2 fi2 v2 rt2 rg2).1
    unfold mq_b
    by_cases h : mq_te T z e = -1
    · rw [if_pos h, if_pos h]
    · rw [if_neg h, if_neg h]
      unfold mq_z
      by_cases h1 : mq_at T z (mq_te T z e).toNatClampNeg = 43
      · rw [if_pos h1, if_pos h1]
        exact ih ..
      · rw [if_neg h1, if_neg h1]
        by_cases h2 : mq_at T z (mq_te T z e).toNatClampNeg = 45
        · rw [if_pos h2, if_pos h2]
          exact ih ..
        · rw [if_neg h2, if_neg h2]
theorem mq_ex_1 {T : Nat → Int32} {z n : Nat} {la ll : Nat → Int32} {li : Nat → Int64} {lr : Nat → Int32} {here : Int64} {k : Nat} : mq_xe T z k = (mq_ex T z n la ll li lr here k).1 := by
  unfold mq_xe mq_ex
  by_cases h : mq_at T z k = 45
  · rw [if_pos h, if_pos h]
    exact mq_x_1 ..
  · rw [if_neg h, if_neg h]
    exact mq_x_1 ..
/-- how many operands -/
noncomputable def mq_c (T : Nat → Int32) (z : Nat) : Nat → Nat → Nat → Int32
  | 0 => fun _ _ => -1
  | f + 1 => fun k n => if mq_xe T z k = -1 then -1 else if mq_at T z (mq_xe T z k).toNatClampNeg = -1 ∨ mq_at T z (mq_xe T z k).toNatClampNeg = 32 then nI (n + 1) else if mq_at T z (mq_xe T z k).toNatClampNeg = 44 then mq_c T z f ((mq_xe T z k).toNatClampNeg + 1) (n + 1) else -1
noncomputable def mq_cnt (T : Nat → Int32) (z k : Nat) : Int32 := if mq_at T z k = -1 then 0 else mq_c T z 4000 k 0
theorem mq_cN {T : Nat → Int32} {z f k n : Nat} (h : mq_xe T z k = -1) : mq_c T z (f + 1) k n = -1 := by
  show (if mq_xe T z k = -1 then _ else _) = _
  rw [if_pos h]
theorem mq_cE {T : Nat → Int32} {z f k n q : Nat} (h : mq_xe T z k = nI q) (hq : q < 2 ^ 31) (g : mq_at T z q = -1 ∨ mq_at T z q = 32) : mq_c T z (f + 1) k n = nI (n + 1) := by
  show (if mq_xe T z k = -1 then _ else _) = _
  rw [h, if_neg (mx_nm1 hq), nI_clamp hq, if_pos g]
theorem mq_cB {T : Nat → Int32} {z f k n q : Nat} (h : mq_xe T z k = nI q) (hq : q < 2 ^ 31) (g1 : ¬ mq_at T z q = -1) (g2 : ¬ mq_at T z q = 32) (g3 : ¬ mq_at T z q = 44) : mq_c T z (f + 1) k n = -1 := by
  show (if mq_xe T z k = -1 then _ else _) = _
  rw [h, if_neg (mx_nm1 hq), nI_clamp hq, if_neg (fun x => x.elim g1 g2), if_neg g3]
theorem mq_cS {T : Nat → Int32} {z f k n q : Nat} (h : mq_xe T z k = nI q) (hq : q < 2 ^ 31) (g1 : ¬ mq_at T z q = -1) (g2 : ¬ mq_at T z q = 32) (g3 : mq_at T z q = 44) : mq_c T z (f + 1) k n = mq_c T z f (q + 1) (n + 1) := by
  show (if mq_xe T z k = -1 then _ else _) = _
  rw [h, if_neg (mx_nm1 hq), nI_clamp hq, if_neg (fun x => x.elim g1 g2), if_pos g3]
theorem mq_w_lt {T : Nat → Int32} {z k : Nat} (hk : k < z) (h : mq_pw T z k) : k < mq_w T z k := by
  have g := mq_end_sp (P := mq_pw T z) (k := k) mq_pw_lt
  have e : ¬ mq_w T z k = k := fun q => g.2.2 (by
    have q : mq_end (mq_pw T z) k = k := q
    rw [q]
    exact h)
  have g1 : k ≤ mq_w T z k := g.1
  omega

