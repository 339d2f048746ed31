/-- every class's number and slots -/
theorem mx_D {s : State} (h : ∀ (c : Nat) (q : vw_C), mx_cl[c]? = some q → ∃ (cC : ClassId) (iS : Nat → Nat), u_Kn s q.1 q.2.1 q.2.2 cC iS) : ∃ D : va_G, ∀ (c : Nat) (q : vw_C), mx_cl[c]? = some q → u_Kn s q.1 q.2.1 q.2.2 (D.1 c) (D.2 c) := by
  have h1 : ∀ c : Nat, ∃ r : ClassId × (Nat → Nat), ∀ q : vw_C, mx_cl[c]? = some q → u_Kn s q.1 q.2.1 q.2.2 r.1 r.2 := by
    intro c
    cases e : mx_cl[c]? with
    | none => exact ⟨(0, fun _ => 0), fun q hq => by cases hq⟩
    | some q =>
      obtain ⟨cC, iS, hq⟩ := h c q e
      exact ⟨(cC, iS), fun q' hq' => by cases hq'; exact hq⟩
  obtain ⟨f, hf⟩ := Classical.axiomOfChoice h1
  exact ⟨(fun c => (f c).1, fun c => (f c).2), fun c q hq => hf c q hq⟩
theorem mx_arr {s : State} {args : Array Value} {ty : FieldType} (hob : ∀ C : String, ¬ ty = .object C) (h : (Cond.arrayClass ty).before args s = true) : ∃ cA : ClassId, ArrOfT s cA ty ∧ va_RA s cA ty := by
  obtain ⟨c, k, comp, h1, h2, h3⟩ := Cond.arrayClass_spec h
  refine ⟨c, fun n z => ⟨fun k h => (by cases h), k, h2, comp, h3⟩, ?_⟩
  cases ty <;> first | (exact absurd rfl (hob _)) | exact h1
theorem mx_str1 {args : Array Value} {s : State} {A : Nat → Prop} (t : Term) (n : Nat) (bs : List Int32) (hn : n < 2 ^ 31) (hex : (Cond.exactly t "java/lang/String").before args s = true) (hco : (Cond.eq (.field t "java/lang/String" "coder" "B") (.int 0)).before args s = true) (har : (Cond.arrayOf (.field t "java/lang/String" "value" "[B") .byte).before args s = true)
    (hle : (Cond.eq (.length (.field t "java/lang/String" "value" "[B")) (.int (Int32.ofNat n))).before args s = true) (hel : ∀ j : Nat, j < n → (Cond.eq (.elem (.field t "java/lang/String" "value" "[B") (.int (Int32.ofNat j))) (.int (bs.getD j 0))).before args s = true) (hA : ∀ a : Nat, a < s.heap.size → ¬ A a) :
    ∃ q : Nat × Nat, (va_O "java/lang/String" q.1 A s s.heap ∧ va_OF "java/lang/String" "coder" "B" (.int 0) q.1 A s s.heap ∧ va_OF "java/lang/String" "value" "[B" (.ref q.2) q.1 A s s.heap ∧ va_T .byte q.2 n (fun j => .int (bs.getD j 0)) A s s.heap) ∧ t.eval args s none [] s = some (.ref q.1) := by
  have z : ∀ i : Nat, i < 1 → i = 0 := fun i hi => by omega
  have h1 : ∀ i : Nat, i < 1 → [n].getD i 0 < 2 ^ 31 := fun i hi => by rw [z i hi]; exact hn
  have h2 : ∀ i : Nat, i < 1 → (Cond.eq (.length (.field t "java/lang/String" "value" "[B")) (.int (Int32.ofNat ([n].getD i 0)))).before args s = true := fun i hi => by rw [z i hi]; exact hle
  have h3 : ∀ i : Nat, i < 1 → ∀ j : Nat, j < [n].getD i 0 → (Cond.eq (.elem (.field t "java/lang/String" "value" "[B") (.int (Int32.ofNat j))) (.int (([bs].getD i []).getD j 0))).before args s = true := fun i hi j hj => by
    rw [z i hi] at hj ⊢
    exact hel j hj
  obtain ⟨adK, adV, h, he⟩ := vk_Sof (N := 1) (tm := fun _ => t) (len := [n]) (byt := [bs]) (A := A) (args := args) (s := s) h1 (fun i hi => hex) (fun i hi => hco) (fun i hi => har) h2 h3 (fun i j hi hj hij => absurd ((z i hi).trans (z j hj).symm) hij) hA
  exact ⟨(adK 0, adV 0), h.1 0 (by omega), he 0 (by omega)⟩
set_option maxRecDepth 100000 in
theorem mx_str_0 {args : Array Value} {s : State} {A : Nat → Prop} (hs : ∀ c ∈ flatC (Jvm.Cond.and given_1 narrow_1), c.before args s = true) (hA : ∀ a : Nat, a < s.heap.size → ¬ A a) : ∃ q : Nat × Nat, (va_O "java/lang/String" q.1 A s s.heap ∧ va_OF "java/lang/String" "coder" "B" (.int 0) q.1 A s s.heap ∧ va_OF "java/lang/String" "value" "[B" (.ref q.2) q.1 A s s.heap ∧ va_T .byte q.2 (mx_len.getD 0 0) (fun j => .int ((mx_byt.getD 0 []).getD j 0)) A s s.heap) ∧ (Term.string (mx_own.getD 0 "") (mx_idx.getD 0 0)).eval args s none [] s = some (.ref q.1) :=
  mx_str1 (Jvm.Term.string "LittleMix$Operations" (15 : Nat)) 4 (mx_byt.getD 0 []) (by decide) (hs _ (List.mem_of_getElem? (i := 25) (by decide +kernel))) (hs _ (List.mem_of_getElem? (i := 26) (by decide +kernel))) (hs _ (List.mem_of_getElem? (i := 27) (by decide +kernel))) (hs _ (List.mem_of_getElem? (i := 28) (by decide +kernel))) (fun j hj => hs _ (va_run (p := 29) (N := 4) (f := fun j => Jvm.Cond.eq (Jvm.Term.elem (Jvm.Term.field (Jvm.Term.string "LittleMix$Operations" (15 : Nat)) "java/lang/String" "value" "[B") (Jvm.Term.int (Int32.ofNat j))) (Jvm.Term.int ((mx_byt.getD 0 []).getD j 0))) (by decide +kernel) j hj)) hA
set_option maxRecDepth 100000 in
theorem mx_str_1 {args : Array Value} {s : State} {A : Nat → Prop} (hs : ∀ c ∈ flatC (Jvm.Cond.and given_1 narrow_1), c.before args s = true) (hA : ∀ a : Nat, a < s.heap.size → ¬ A a) : ∃ q : Nat × Nat, (va_O "java/lang/String" q.1 A s s.heap ∧ va_OF "java/lang/String" "coder" "B" (.int 0) q.1 A s s.heap ∧ va_OF "java/lang/String" "value" "[B" (.ref q.2) q.1 A s s.heap ∧ va_T .byte q.2 (mx_len.getD 1 0) (fun j => .int ((mx_byt.getD 1 []).getD j 0)) A s s.heap) ∧ (Term.string (mx_own.getD 1 "") (mx_idx.getD 1 0)).eval args s none [] s = some (.ref q.1) :=
  mx_str1 (Jvm.Term.string "LittleMix$Operations" (21 : Nat)) 92 (mx_byt.getD 1 []) (by decide) (hs _ (List.mem_of_getElem? (i := 33) (by decide +kernel))) (hs _ (List.mem_of_getElem? (i := 34) (by decide +kernel))) (hs _ (List.mem_of_getElem? (i := 35) (by decide +kernel))) (hs _ (List.mem_of_getElem? (i := 36) (by decide +kernel))) (fun j hj => hs _ (va_run (p := 37) (N := 92) (f := fun j => Jvm.Cond.eq (Jvm.Term.elem (Jvm.Term.field (Jvm.Term.string "LittleMix$Operations" (21 : Nat)) "java/lang/String" "value" "[B") (Jvm.Term.int (Int32.ofNat j))) (Jvm.Term.int ((mx_byt.getD 1 []).getD j 0))) (by decide +kernel) j hj)) hA
set_option maxRecDepth 100000 in
theorem mx_str_2 {args : Array Value} {s : State} {A : Nat → Prop} (hs : ∀ c ∈ flatC (Jvm.Cond.and given_1 narrow_1), c.before args s = true) (hA : ∀ a : Nat, a < s.heap.size → ¬ A a) : ∃ q : Nat × Nat, (va_O "java/lang/String" q.1 A s s.heap ∧ va_OF "java/lang/String" "coder" "B" (.int 0) q.1 A s s.heap ∧ va_OF "java/lang/String" "value" "[B" (.ref q.2) q.1 A s s.heap ∧ va_T .byte q.2 (mx_len.getD 2 0) (fun j => .int ((mx_byt.getD 2 []).getD j 0)) A s s.heap) ∧ (Term.string (mx_own.getD 2 "") (mx_idx.getD 2 0)).eval args s none [] s = some (.ref q.1) :=
  mx_str1 (Jvm.Term.string "LittleMix$Operations" (23 : Nat)) 65 (mx_byt.getD 2 []) (by decide) (hs _ (List.mem_of_getElem? (i := 129) (by decide +kernel))) (hs _ (List.mem_of_getElem? (i := 130) (by decide +kernel))) (hs _ (List.mem_of_getElem? (i := 131) (by decide +kernel))) (hs _ (List.mem_of_getElem? (i := 132) (by decide +kernel))) (fun j hj => hs _ (va_run (p := 133) (N := 65) (f := fun j => Jvm.Cond.eq (Jvm.Term.elem (Jvm.Term.field (Jvm.Term.string "LittleMix$Operations" (23 : Nat)) "java/lang/String" "value" "[B") (Jvm.Term.int (Int32.ofNat j))) (Jvm.Term.int ((mx_byt.getD 2 []).getD j 0))) (by decide +kernel) j hj)) hA
set_option maxRecDepth 100000 in
theorem mx_str_3 {args : Array Value} {s : State} {A : Nat → Prop} (hs : ∀ c ∈ flatC (Jvm.Cond.and given_1 narrow_1), c.before args s = true) (hA : ∀ a : Nat, a < s.heap.size → ¬ A a) : ∃ q : Nat × Nat, (va_O "java/lang/String" q.1 A s s.heap ∧ va_OF "java/lang/String" "coder" "B" (.int 0) q.1 A s s.heap ∧ va_OF "java/lang/String" "value" "[B" (.ref q.2) q.1 A s s.heap ∧ va_T .byte q.2 (mx_len.getD 3 0) (fun j => .int ((mx_byt.getD 3 []).getD j 0)) A s s.heap) ∧ (Term.string (mx_own.getD 3 "") (mx_idx.getD 3 0)).eval args s none [] s = some (.ref q.1) :=
  mx_str1 (Jvm.Term.string "LittleMix$Operations" (25 : Nat)) 73 (mx_byt.getD 3 []) (by decide) (hs _ (List.mem_of_getElem? (i := 198) (by decide +kernel))) (hs _ (List.mem_of_getElem? (i := 199) (by decide +kernel))) (hs _ (List.mem_of_getElem? (i := 200) (by decide +kernel))) (hs _ (List.mem_of_getElem? (i := 201) (by decide +kernel))) (fun j hj => hs _ (va_run (p := 202) (N := 73) (f := fun j => Jvm.Cond.eq (Jvm.Term.elem (Jvm.Term.field (Jvm.Term.string "LittleMix$Operations" (25 : Nat)) "java/lang/String" "value" "[B") (Jvm.Term.int (Int32.ofNat j))) (Jvm.Term.int ((mx_byt.getD 3 []).getD j 0))) (by decide +kernel) j hj)) hA
set_option maxRecDepth 100000 in
theorem mx_str_4 {args : Array Value} {s : State} {A : Nat → Prop} (hs : ∀ c ∈ flatC (Jvm.Cond.and given_1 narrow_1), c.before args s = true) (hA : ∀ a : Nat, a < s.heap.size → ¬ A a) : ∃ q : Nat × Nat, (va_O "java/lang/String" q.1 A s s.heap ∧ va_OF "java/lang/String" "coder" "B" (.int 0) q.1 A s s.heap ∧ va_OF "java/lang/String" "value" "[B" (.ref q.2) q.1 A s s.heap ∧ va_T .byte q.2 (mx_len.getD 4 0) (fun j => .int ((mx_byt.getD 4 []).getD j 0)) A s s.heap) ∧ (Term.string (mx_own.getD 4 "") (mx_idx.getD 4 0)).eval args s none [] s = some (.ref q.1) :=
  mx_str1 (Jvm.Term.string "LittleMix$Operations" (27 : Nat)) 30 (mx_byt.getD 4 []) (by decide) (hs _ (List.mem_of_getElem? (i := 275) (by decide +kernel))) (hs _ (List.mem_of_getElem? (i := 276) (by decide +kernel))) (hs _ (List.mem_of_getElem? (i := 277) (by decide +kernel))) (hs _ (List.mem_of_getElem? (i := 278) (by decide +kernel))) (fun j hj => hs _ (va_run (p := 279) (N := 30) (f := fun j => Jvm.Cond.eq (Jvm.Term.elem (Jvm.Term.field (Jvm.Term.string "LittleMix$Operations" (27 : Nat)) "java/lang/String" "value" "[B") (Jvm.Term.int (Int32.ofNat j))) (Jvm.Term.int ((mx_byt.getD 4 []).getD j 0))) (by decide +kernel) j hj)) hA
set_option maxRecDepth 100000 in
theorem mx_str_5 {args : Array Value} {s : State} {A : Nat → Prop} (hs : ∀ c ∈ flatC (Jvm.Cond.and given_1 narrow_1), c.before args s = true) (hA : ∀ a : Nat, a < s.heap.size → ¬ A a) : ∃ q : Nat × Nat, (va_O "java/lang/String" q.1 A s s.heap ∧ va_OF "java/lang/String" "coder" "B" (.int 0) q.1 A s s.heap ∧ va_OF "java/lang/String" "value" "[B" (.ref q.2) q.1 A s s.heap ∧ va_T .byte q.2 (mx_len.getD 5 0) (fun j => .int ((mx_byt.getD 5 []).getD j 0)) A s s.heap) ∧ (Term.string (mx_own.getD 5 "") (mx_idx.getD 5 0)).eval args s none [] s = some (.ref q.1) :=
  mx_str1 (Jvm.Term.string "LittleMix$Operations" (29 : Nat)) 30 (mx_byt.getD 5 []) (by decide) (hs _ (List.mem_of_getElem? (i := 309) (by decide +kernel))) (hs _ (List.mem_of_getElem? (i := 310) (by decide +kernel))) (hs _ (List.mem_of_getElem? (i := 311) (by decide +kernel))) (hs _ (List.mem_of_getElem? (i := 312) (by decide +kernel))) (fun j hj => hs _ (va_run (p := 313) (N := 30) (f := fun j => Jvm.Cond.eq (Jvm.Term.elem (Jvm.Term.field (Jvm.Term.string "LittleMix$Operations" (29 : Nat)) "java/lang/String" "value" "[B") (Jvm.Term.int (Int32.ofNat j))) (Jvm.Term.int ((mx_byt.getD 5 []).getD j 0))) (by decide +kernel) j hj)) hA
set_option maxRecDepth 100000 in
theorem mx_str_6 {args : Array Value} {s : State} {A : Nat → Prop} (hs : ∀ c ∈ flatC (Jvm.Cond.and given_1 narrow_1), c.before args s = true) (hA : ∀ a : Nat, a < s.heap.size → ¬ A a) : ∃ q : Nat × Nat, (va_O "java/lang/String" q.1 A s s.heap ∧ va_OF "java/lang/String" "coder" "B" (.int 0) q.1 A s s.heap ∧ va_OF "java/lang/String" "value" "[B" (.ref q.2) q.1 A s s.heap ∧ va_T .byte q.2 (mx_len.getD 6 0) (fun j => .int ((mx_byt.getD 6 []).getD j 0)) A s s.heap) ∧ (Term.string (mx_own.getD 6 "") (mx_idx.getD 6 0)).eval args s none [] s = some (.ref q.1) :=
  mx_str1 (Jvm.Term.string "LittleMix$Operations" (31 : Nat)) 4 (mx_byt.getD 6 []) (by decide) (hs _ (List.mem_of_getElem? (i := 343) (by decide +kernel))) (hs _ (List.mem_of_getElem? (i := 344) (by decide +kernel))) (hs _ (List.mem_of_getElem? (i := 345) (by decide +kernel))) (hs _ (List.mem_of_getElem? (i := 346) (by decide +kernel))) (fun j hj => hs _ (va_run (p := 347) (N := 4) (f := fun j => Jvm.Cond.eq (Jvm.Term.elem (Jvm.Term.field (Jvm.Term.string "LittleMix$Operations" (31 : Nat)) "java/lang/String" "value" "[B") (Jvm.Term.int (Int32.ofNat j))) (Jvm.Term.int ((mx_byt.getD 6 []).getD j 0))) (by decide +kernel) j hj)) hA
set_option maxRecDepth 100000 in
theorem mx_str_7 {args : Array Value} {s : State} {A : Nat → Prop} (hs : ∀ c ∈ flatC (Jvm.Cond.and given_1 narrow_1), c.before args s = true) (hA : ∀ a : Nat, a < s.heap.size → ¬ A a) : ∃ q : Nat × Nat, (va_O "java/lang/String" q.1 A s s.heap ∧ va_OF "java/lang/String" "coder" "B" (.int 0) q.1 A s s.heap ∧ va_OF "java/lang/String" "value" "[B" (.ref q.2) q.1 A s s.heap ∧ va_T .byte q.2 (mx_len.getD 7 0) (fun j => .int ((mx_byt.getD 7 []).getD j 0)) A s s.heap) ∧ (Term.string (mx_own.getD 7 "") (mx_idx.getD 7 0)).eval args s none [] s = some (.ref q.1) :=
  mx_str1 (Jvm.Term.string "LittleMix$Operations" (33 : Nat)) 71 (mx_byt.getD 7 []) (by decide) (hs _ (List.mem_of_getElem? (i := 351) (by decide +kernel))) (hs _ (List.mem_of_getElem? (i := 352) (by decide +kernel))) (hs _ (List.mem_of_getElem? (i := 353) (by decide +kernel))) (hs _ (List.mem_of_getElem? (i := 354) (by decide +kernel))) (fun j hj => hs _ (va_run (p := 355) (N := 71) (f := fun j => Jvm.Cond.eq (Jvm.Term.elem (Jvm.Term.field (Jvm.Term.string "LittleMix$Operations" (33 : Nat)) "java/lang/String" "value" "[B") (Jvm.Term.int (Int32.ofNat j))) (Jvm.Term.int ((mx_byt.getD 7 []).getD j 0))) (by decide +kernel) j hj)) hA
set_option maxRecDepth 100000 in
theorem mx_str_8 {args : Array Value} {s : State} {A : Nat → Prop} (hs : ∀ c ∈ flatC (Jvm.Cond.and given_1 narrow_1), c.before args s = true) (hA : ∀ a : Nat, a < s.heap.size → ¬ A a) : ∃ q : Nat × Nat, (va_O "java/lang/String" q.1 A s s.heap ∧ va_OF "java/lang/String" "coder" "B" (.int 0) q.1 A s s.heap ∧ va_OF "java/lang/String" "value" "[B" (.ref q.2) q.1 A s s.heap ∧ va_T .byte q.2 (mx_len.getD 8 0) (fun j => .int ((mx_byt.getD 8 []).getD j 0)) A s s.heap) ∧ (Term.string (mx_own.getD 8 "") (mx_idx.getD 8 0)).eval args s none [] s = some (.ref q.1) :=
  mx_str1 (Jvm.Term.string "LittleMix$Operations" (35 : Nat)) 43 (mx_byt.getD 8 []) (by decide) (hs _ (List.mem_of_getElem? (i := 426) (by decide +kernel))) (hs _ (List.mem_of_getElem? (i := 427) (by decide +kernel))) (hs _ (List.mem_of_getElem? (i := 428) (by decide +kernel))) (hs _ (List.mem_of_getElem? (i := 429) (by decide +kernel))) (fun j hj => hs _ (va_run (p := 430) (N := 43) (f := fun j => Jvm.Cond.eq (Jvm.Term.elem (Jvm.Term.field (Jvm.Term.string "LittleMix$Operations" (35 : Nat)) "java/lang/String" "value" "[B") (Jvm.Term.int (Int32.ofNat j))) (Jvm.Term.int ((mx_byt.getD 8 []).getD j 0))) (by decide +kernel) j hj)) hA
set_option maxRecDepth 100000 in
theorem mx_str_9 {args : Array Value} {s : State} {A : Nat → Prop} (hs : ∀ c ∈ flatC (Jvm.Cond.and given_1 narrow_1), c.before args s = true) (hA : ∀ a : Nat, a < s.heap.size → ¬ A a) : ∃ q : Nat × Nat, (va_O "java/lang/String" q.1 A s s.heap ∧ va_OF "java/lang/String" "coder" "B" (.int 0) q.1 A s s.heap ∧ va_OF "java/lang/String" "value" "[B" (.ref q.2) q.1 A s s.heap ∧ va_T .byte q.2 (mx_len.getD 9 0) (fun j => .int ((mx_byt.getD 9 []).getD j 0)) A s s.heap) ∧ (Term.string (mx_own.getD 9 "") (mx_idx.getD 9 0)).eval args s none [] s = some (.ref q.1) :=
  mx_str1 (Jvm.Term.string "LittleMix$Operations" (37 : Nat)) 43 (mx_byt.getD 9 []) (by decide) (hs _ (List.mem_of_getElem? (i := 473) (by decide +kernel))) (hs _ (List.mem_of_getElem? (i := 474) (by decide +kernel))) (hs _ (List.mem_of_getElem? (i := 475) (by decide +kernel))) (hs _ (List.mem_of_getElem? (i := 476) (by decide +kernel))) (fun j hj => hs _ (va_run (p := 477) (N := 43) (f := fun j => Jvm.Cond.eq (Jvm.Term.elem (Jvm.Term.field (Jvm.Term.string "LittleMix$Operations" (37 : Nat)) "java/lang/String" "value" "[B") (Jvm.Term.int (Int32.ofNat j))) (Jvm.Term.int ((mx_byt.getD 9 []).getD j 0))) (by decide +kernel) j hj)) hA
set_option maxRecDepth 100000 in
theorem mx_str_10 {args : Array Value} {s : State} {A : Nat → Prop} (hs : ∀ c ∈ flatC (Jvm.Cond.and given_1 narrow_1), c.before args s = true) (hA : ∀ a : Nat, a < s.heap.size → ¬ A a) : ∃ q : Nat × Nat, (va_O "java/lang/String" q.1 A s s.heap ∧ va_OF "java/lang/String" "coder" "B" (.int 0) q.1 A s s.heap ∧ va_OF "java/lang/String" "value" "[B" (.ref q.2) q.1 A s s.heap ∧ va_T .byte q.2 (mx_len.getD 10 0) (fun j => .int ((mx_byt.getD 10 []).getD j 0)) A s s.heap) ∧ (Term.string (mx_own.getD 10 "") (mx_idx.getD 10 0)).eval args s none [] s = some (.ref q.1) :=
  mx_str1 (Jvm.Term.string "LittleMix$Operations" (39 : Nat)) 22 (mx_byt.getD 10 []) (by decide) (hs _ (List.mem_of_getElem? (i := 520) (by decide +kernel))) (hs _ (List.mem_of_getElem? (i := 521) (by decide +kernel))) (hs _ (List.mem_of_getElem? (i := 522) (by decide +kernel))) (hs _ (List.mem_of_getElem? (i := 523) (by decide +kernel))) (fun j hj => hs _ (va_run (p := 524) (N := 22) (f := fun j => Jvm.Cond.eq (Jvm.Term.elem (Jvm.Term.field (Jvm.Term.string "LittleMix$Operations" (39 : Nat)) "java/lang/String" "value" "[B") (Jvm.Term.int (Int32.ofNat j))) (Jvm.Term.int ((mx_byt.getD 10 []).getD j 0))) (by decide +kernel) j hj)) hA
set_option maxRecDepth 100000 in
theorem mx_str_11 {args : Array Value} {s : State} {A : Nat → Prop} (hs : ∀ c ∈ flatC (Jvm.Cond.and given_1 narrow_1), c.before args s = true) (hA : ∀ a : Nat, a < s.heap.size → ¬ A a) : ∃ q : Nat × Nat, (va_O "java/lang/String" q.1 A s s.heap ∧ va_OF "java/lang/String" "coder" "B" (.int 0) q.1 A s s.heap ∧ va_OF "java/lang/String" "value" "[B" (.ref q.2) q.1 A s s.heap ∧ va_T .byte q.2 (mx_len.getD 11 0) (fun j => .int ((mx_byt.getD 11 []).getD j 0)) A s s.heap) ∧ (Term.string (mx_own.getD 11 "") (mx_idx.getD 11 0)).eval args s none [] s = some (.ref q.1) :=
  mx_str1 (Jvm.Term.string "LittleMix$Operations" (41 : Nat)) 6 (mx_byt.getD 11 []) (by decide) (hs _ (List.mem_of_getElem? (i := 546) (by decide +kernel))) (hs _ (List.mem_of_getElem? (i := 547) (by decide +kernel))) (hs _ (List.mem_of_getElem? (i := 548) (by decide +kernel))) (hs _ (List.mem_of_getElem? (i := 549) (by decide +kernel))) (fun j hj => hs _ (va_run (p := 550) (N := 6) (f := fun j => Jvm.Cond.eq (Jvm.Term.elem (Jvm.Term.field (Jvm.Term.string "LittleMix$Operations" (41 : Nat)) "java/lang/String" "value" "[B") (Jvm.Term.int (Int32.ofNat j))) (Jvm.Term.int ((mx_byt.getD 11 []).getD j 0))) (by decide +kernel) j hj)) hA
set_option maxRecDepth 100000 in
theorem mx_str_12 {args : Array Value} {s : State} {A : Nat → Prop} (hs : ∀ c ∈ flatC (Jvm.Cond.and given_1 narrow_1), c.before args s = true) (hA : ∀ a : Nat, a < s.heap.size → ¬ A a) : ∃ q : Nat × Nat, (va_O "java/lang/String" q.1 A s s.heap ∧ va_OF "java/lang/String" "coder" "B" (.int 0) q.1 A s s.heap ∧ va_OF "java/lang/String" "value" "[B" (.ref q.2) q.1 A s s.heap ∧ va_T .byte q.2 (mx_len.getD 12 0) (fun j => .int ((mx_byt.getD 12 []).getD j 0)) A s s.heap) ∧ (Term.string (mx_own.getD 12 "") (mx_idx.getD 12 0)).eval args s none [] s = some (.ref q.1) :=
  mx_str1 (Jvm.Term.string "LittleMix$Operations" (43 : Nat)) 13 (mx_byt.getD 12 []) (by decide) (hs _ (List.mem_of_getElem? (i := 556) (by decide +kernel))) (hs _ (List.mem_of_getElem? (i := 557) (by decide +kernel))) (hs _ (List.mem_of_getElem? (i := 558) (by decide +kernel))) (hs _ (List.mem_of_getElem? (i := 559) (by decide +kernel))) (fun j hj => hs _ (va_run (p := 560) (N := 13) (f := fun j => Jvm.Cond.eq (Jvm.Term.elem (Jvm.Term.field (Jvm.Term.string "LittleMix$Operations" (43 : Nat)) "java/lang/String" "value" "[B") (Jvm.Term.int (Int32.ofNat j))) (Jvm.Term.int ((mx_byt.getD 12 []).getD j 0))) (by decide +kernel) j hj)) hA
set_option maxRecDepth 100000 in
theorem mx_str_13 {args : Array Value} {s : State} {A : Nat → Prop} (hs : ∀ c ∈ flatC (Jvm.Cond.and given_1 narrow_1), c.before args s = true) (hA : ∀ a : Nat, a < s.heap.size → ¬ A a) : ∃ q : Nat × Nat, (va_O "java/lang/String" q.1 A s s.heap ∧ va_OF "java/lang/String" "coder" "B" (.int 0) q.1 A s s.heap ∧ va_OF "java/lang/String" "value" "[B" (.ref q.2) q.1 A s s.heap ∧ va_T .byte q.2 (mx_len.getD 13 0) (fun j => .int ((mx_byt.getD 13 []).getD j 0)) A s s.heap) ∧ (Term.string (mx_own.getD 13 "") (mx_idx.getD 13 0)).eval args s none [] s = some (.ref q.1) :=
  mx_str1 (Jvm.Term.string "LittleMix$Operations" (45 : Nat)) 27 (mx_byt.getD 13 []) (by decide) (hs _ (List.mem_of_getElem? (i := 573) (by decide +kernel))) (hs _ (List.mem_of_getElem? (i := 574) (by decide +kernel))) (hs _ (List.mem_of_getElem? (i := 575) (by decide +kernel))) (hs _ (List.mem_of_getElem? (i := 576) (by decide +kernel))) (fun j hj => hs _ (va_run (p := 577) (N := 27) (f := fun j => Jvm.Cond.eq (Jvm.Term.elem (Jvm.Term.field (Jvm.Term.string "LittleMix$Operations" (45 : Nat)) "java/lang/String" "value" "[B") (Jvm.Term.int (Int32.ofNat j))) (Jvm.Term.int ((mx_byt.getD 13 []).getD j 0))) (by decide +kernel) j hj)) hA
set_option maxRecDepth 100000 in
theorem mx_str_14 {args : Array Value} {s : State} {A : Nat → Prop} (hs : ∀ c ∈ flatC (Jvm.Cond.and given_1 narrow_1), c.before args s = true) (hA : ∀ a : Nat, a < s.heap.size → ¬ A a) : ∃ q : Nat × Nat, (va_O "java/lang/String" q.1 A s s.heap ∧ va_OF "java/lang/String" "coder" "B" (.int 0) q.1 A s s.heap ∧ va_OF "java/lang/String" "value" "[B" (.ref q.2) q.1 A s s.heap ∧ va_T .byte q.2 (mx_len.getD 14 0) (fun j => .int ((mx_byt.getD 14 []).getD j 0)) A s s.heap) ∧ (Term.string (mx_own.getD 14 "") (mx_idx.getD 14 0)).eval args s none [] s = some (.ref q.1) :=
  mx_str1 (Jvm.Term.string "LittleMix$Specials" (15 : Nat)) 13 (mx_byt.getD 14 []) (by decide) (hs _ (List.mem_of_getElem? (i := 604) (by decide +kernel))) (hs _ (List.mem_of_getElem? (i := 605) (by decide +kernel))) (hs _ (List.mem_of_getElem? (i := 606) (by decide +kernel))) (hs _ (List.mem_of_getElem? (i := 607) (by decide +kernel))) (fun j hj => hs _ (va_run (p := 608) (N := 13) (f := fun j => Jvm.Cond.eq (Jvm.Term.elem (Jvm.Term.field (Jvm.Term.string "LittleMix$Specials" (15 : Nat)) "java/lang/String" "value" "[B") (Jvm.Term.int (Int32.ofNat j))) (Jvm.Term.int ((mx_byt.getD 14 []).getD j 0))) (by decide +kernel) j hj)) hA
set_option maxRecDepth 100000 in
theorem mx_str_15 {args : Array Value} {s : State} {A : Nat → Prop} (hs : ∀ c ∈ flatC (Jvm.Cond.and given_1 narrow_1), c.before args s = true) (hA : ∀ a : Nat, a < s.heap.size → ¬ A a) : ∃ q : Nat × Nat, (va_O "java/lang/String" q.1 A s s.heap ∧ va_OF "java/lang/String" "coder" "B" (.int 0) q.1 A s s.heap ∧ va_OF "java/lang/String" "value" "[B" (.ref q.2) q.1 A s s.heap ∧ va_T .byte q.2 (mx_len.getD 15 0) (fun j => .int ((mx_byt.getD 15 []).getD j 0)) A s s.heap) ∧ (Term.string (mx_own.getD 15 "") (mx_idx.getD 15 0)).eval args s none [] s = some (.ref q.1) :=
  mx_str1 (Jvm.Term.string "LittleMixModel" (124 : Nat)) 39 (mx_byt.getD 15 []) (by decide) (hs _ (List.mem_of_getElem? (i := 1095) (by decide +kernel))) (hs _ (List.mem_of_getElem? (i := 1096) (by decide +kernel))) (hs _ (List.mem_of_getElem? (i := 1097) (by decide +kernel))) (hs _ (List.mem_of_getElem? (i := 1098) (by decide +kernel))) (fun j hj => hs _ (va_run (p := 1099) (N := 39) (f := fun j => Jvm.Cond.eq (Jvm.Term.elem (Jvm.Term.field (Jvm.Term.string "LittleMixModel" (124 : Nat)) "java/lang/String" "value" "[B") (Jvm.Term.int (Int32.ofNat j))) (Jvm.Term.int ((mx_byt.getD 15 []).getD j 0))) (by decide +kernel) j hj)) hA
set_option maxRecDepth 100000 in
theorem mx_str_16 {args : Array Value} {s : State} {A : Nat → Prop} (hs : ∀ c ∈ flatC (Jvm.Cond.and given_1 narrow_1), c.before args s = true) (hA : ∀ a : Nat, a < s.heap.size → ¬ A a) : ∃ q : Nat × Nat, (va_O "java/lang/String" q.1 A s s.heap ∧ va_OF "java/lang/String" "coder" "B" (.int 0) q.1 A s s.heap ∧ va_OF "java/lang/String" "value" "[B" (.ref q.2) q.1 A s s.heap ∧ va_T .byte q.2 (mx_len.getD 16 0) (fun j => .int ((mx_byt.getD 16 []).getD j 0)) A s s.heap) ∧ (Term.string (mx_own.getD 16 "") (mx_idx.getD 16 0)).eval args s none [] s = some (.ref q.1) :=
  mx_str1 (Jvm.Term.string "LittleMixModel" (180 : Nat)) 28 (mx_byt.getD 16 []) (by decide) (hs _ (List.mem_of_getElem? (i := 621) (by decide +kernel))) (hs _ (List.mem_of_getElem? (i := 622) (by decide +kernel))) (hs _ (List.mem_of_getElem? (i := 623) (by decide +kernel))) (hs _ (List.mem_of_getElem? (i := 624) (by decide +kernel))) (fun j hj => hs _ (va_run (p := 625) (N := 28) (f := fun j => Jvm.Cond.eq (Jvm.Term.elem (Jvm.Term.field (Jvm.Term.string "LittleMixModel" (180 : Nat)) "java/lang/String" "value" "[B") (Jvm.Term.int (Int32.ofNat j))) (Jvm.Term.int ((mx_byt.getD 16 []).getD j 0))) (by decide +kernel) j hj)) hA
set_option maxRecDepth 100000 in
theorem mx_str_17 {args : Array Value} {s : State} {A : Nat → Prop} (hs : ∀ c ∈ flatC (Jvm.Cond.and given_1 narrow_1), c.before args s = true) (hA : ∀ a : Nat, a < s.heap.size → ¬ A a) : ∃ q : Nat × Nat, (va_O "java/lang/String" q.1 A s s.heap ∧ va_OF "java/lang/String" "coder" "B" (.int 0) q.1 A s s.heap ∧ va_OF "java/lang/String" "value" "[B" (.ref q.2) q.1 A s s.heap ∧ va_T .byte q.2 (mx_len.getD 17 0) (fun j => .int ((mx_byt.getD 17 []).getD j 0)) A s s.heap) ∧ (Term.string (mx_own.getD 17 "") (mx_idx.getD 17 0)).eval args s none [] s = some (.ref q.1) :=
  mx_str1 (Jvm.Term.string "LittleMixModel" (185 : Nat)) 93 (mx_byt.getD 17 []) (by decide) (hs _ (List.mem_of_getElem? (i := 653) (by decide +kernel))) (hs _ (List.mem_of_getElem? (i := 654) (by decide +kernel))) (hs _ (List.mem_of_getElem? (i := 655) (by decide +kernel))) (hs _ (List.mem_of_getElem? (i := 656) (by decide +kernel))) (fun j hj => hs _ (va_run (p := 657) (N := 93) (f := fun j => Jvm.Cond.eq (Jvm.Term.elem (Jvm.Term.field (Jvm.Term.string "LittleMixModel" (185 : Nat)) "java/lang/String" "value" "[B") (Jvm.Term.int (Int32.ofNat j))) (Jvm.Term.int ((mx_byt.getD 17 []).getD j 0))) (by decide +kernel) j hj)) hA
set_option maxRecDepth 100000 in
theorem mx_str_18 {args : Array Value} {s : State} {A : Nat → Prop} (hs : ∀ c ∈ flatC (Jvm.Cond.and given_1 narrow_1), c.before args s = true) (hA : ∀ a : Nat, a < s.heap.size → ¬ A a) : ∃ q : Nat × Nat, (va_O "java/lang/String" q.1 A s s.heap ∧ va_OF "java/lang/String" "coder" "B" (.int 0) q.1 A s s.heap ∧ va_OF "java/lang/String" "value" "[B" (.ref q.2) q.1 A s s.heap ∧ va_T .byte q.2 (mx_len.getD 18 0) (fun j => .int ((mx_byt.getD 18 []).getD j 0)) A s s.heap) ∧ (Term.string (mx_own.getD 18 "") (mx_idx.getD 18 0)).eval args s none [] s = some (.ref q.1) :=
  mx_str1 (Jvm.Term.string "LittleMixModel" (190 : Nat)) 31 (mx_byt.getD 18 []) (by decide) (hs _ (List.mem_of_getElem? (i := 750) (by decide +kernel))) (hs _ (List.mem_of_getElem? (i := 751) (by decide +kernel))) (hs _ (List.mem_of_getElem? (i := 752) (by decide +kernel))) (hs _ (List.mem_of_getElem? (i := 753) (by decide +kernel))) (fun j hj => hs _ (va_run (p := 754) (N := 31) (f := fun j => Jvm.Cond.eq (Jvm.Term.elem (Jvm.Term.field (Jvm.Term.string "LittleMixModel" (190 : Nat)) "java/lang/String" "value" "[B") (Jvm.Term.int (Int32.ofNat j))) (Jvm.Term.int ((mx_byt.getD 18 []).getD j 0))) (by decide +kernel) j hj)) hA
set_option maxRecDepth 100000 in
theorem mx_str_19 {args : Array Value} {s : State} {A : Nat → Prop} (hs : ∀ c ∈ flatC (Jvm.Cond.and given_1 narrow_1), c.before args s = true) (hA : ∀ a : Nat, a < s.heap.size → ¬ A a) : ∃ q : Nat × Nat, (va_O "java/lang/String" q.1 A s s.heap ∧ va_OF "java/lang/String" "coder" "B" (.int 0) q.1 A s s.heap ∧ va_OF "java/lang/String" "value" "[B" (.ref q.2) q.1 A s s.heap ∧ va_T .byte q.2 (mx_len.getD 19 0) (fun j => .int ((mx_byt.getD 19 []).getD j 0)) A s s.heap) ∧ (Term.string (mx_own.getD 19 "") (mx_idx.getD 19 0)).eval args s none [] s = some (.ref q.1) :=
  mx_str1 (Jvm.Term.string "LittleMixModel" (192 : Nat)) 31 (mx_byt.getD 19 []) (by decide) (hs _ (List.mem_of_getElem? (i := 785) (by decide +kernel))) (hs _ (List.mem_of_getElem? (i := 786) (by decide +kernel))) (hs _ (List.mem_of_getElem? (i := 787) (by decide +kernel))) (hs _ (List.mem_of_getElem? (i := 788) (by decide +kernel))) (fun j hj => hs _ (va_run (p := 789) (N := 31) (f := fun j => Jvm.Cond.eq (Jvm.Term.elem (Jvm.Term.field (Jvm.Term.string "LittleMixModel" (192 : Nat)) "java/lang/String" "value" "[B") (Jvm.Term.int (Int32.ofNat j))) (Jvm.Term.int ((mx_byt.getD 19 []).getD j 0))) (by decide +kernel) j hj)) hA
set_option maxRecDepth 100000 in
theorem mx_str_20 {args : Array Value} {s : State} {A : Nat → Prop} (hs : ∀ c ∈ flatC (Jvm.Cond.and given_1 narrow_1), c.before args s = true) (hA : ∀ a : Nat, a < s.heap.size → ¬ A a) : ∃ q : Nat × Nat, (va_O "java/lang/String" q.1 A s s.heap ∧ va_OF "java/lang/String" "coder" "B" (.int 0) q.1 A s s.heap ∧ va_OF "java/lang/String" "value" "[B" (.ref q.2) q.1 A s s.heap ∧ va_T .byte q.2 (mx_len.getD 20 0) (fun j => .int ((mx_byt.getD 20 []).getD j 0)) A s s.heap) ∧ (Term.string (mx_own.getD 20 "") (mx_idx.getD 20 0)).eval args s none [] s = some (.ref q.1) :=
  mx_str1 (Jvm.Term.string "LittleMixModel" (194 : Nat)) 72 (mx_byt.getD 20 []) (by decide) (hs _ (List.mem_of_getElem? (i := 820) (by decide +kernel))) (hs _ (List.mem_of_getElem? (i := 821) (by decide +kernel))) (hs _ (List.mem_of_getElem? (i := 822) (by decide +kernel))) (hs _ (List.mem_of_getElem? (i := 823) (by decide +kernel))) (fun j hj => hs _ (va_run (p := 824) (N := 72) (f := fun j => Jvm.Cond.eq (Jvm.Term.elem (Jvm.Term.field (Jvm.Term.string "LittleMixModel" (194 : Nat)) "java/lang/String" "value" "[B") (Jvm.Term.int (Int32.ofNat j))) (Jvm.Term.int ((mx_byt.getD 20 []).getD j 0))) (by decide +kernel) j hj)) hA
set_option maxRecDepth 100000 in
theorem mx_str_21 {args : Array Value} {s : State} {A : Nat → Prop} (hs : ∀ c ∈ flatC (Jvm.Cond.and given_1 narrow_1), c.before args s = true) (hA : ∀ a : Nat, a < s.heap.size → ¬ A a) : ∃ q : Nat × Nat, (va_O "java/lang/String" q.1 A s s.heap ∧ va_OF "java/lang/String" "coder" "B" (.int 0) q.1 A s s.heap ∧ va_OF "java/lang/String" "value" "[B" (.ref q.2) q.1 A s s.heap ∧ va_T .byte q.2 (mx_len.getD 21 0) (fun j => .int ((mx_byt.getD 21 []).getD j 0)) A s s.heap) ∧ (Term.string (mx_own.getD 21 "") (mx_idx.getD 21 0)).eval args s none [] s = some (.ref q.1) :=
  mx_str1 (Jvm.Term.string "LittleMixModel" (196 : Nat)) 88 (mx_byt.getD 21 []) (by decide) (hs _ (List.mem_of_getElem? (i := 896) (by decide +kernel))) (hs _ (List.mem_of_getElem? (i := 897) (by decide +kernel))) (hs _ (List.mem_of_getElem? (i := 898) (by decide +kernel))) (hs _ (List.mem_of_getElem? (i := 899) (by decide +kernel))) (fun j hj => hs _ (va_run (p := 900) (N := 88) (f := fun j => Jvm.Cond.eq (Jvm.Term.elem (Jvm.Term.field (Jvm.Term.string "LittleMixModel" (196 : Nat)) "java/lang/String" "value" "[B") (Jvm.Term.int (Int32.ofNat j))) (Jvm.Term.int ((mx_byt.getD 21 []).getD j 0))) (by decide +kernel) j hj)) hA
set_option maxRecDepth 100000 in
theorem mx_str_22 {args : Array Value} {s : State} {A : Nat → Prop} (hs : ∀ c ∈ flatC (Jvm.Cond.and given_1 narrow_1), c.before args s = true) (hA : ∀ a : Nat, a < s.heap.size → ¬ A a) : ∃ q : Nat × Nat, (va_O "java/lang/String" q.1 A s s.heap ∧ va_OF "java/lang/String" "coder" "B" (.int 0) q.1 A s s.heap ∧ va_OF "java/lang/String" "value" "[B" (.ref q.2) q.1 A s s.heap ∧ va_T .byte q.2 (mx_len.getD 22 0) (fun j => .int ((mx_byt.getD 22 []).getD j 0)) A s s.heap) ∧ (Term.string (mx_own.getD 22 "") (mx_idx.getD 22 0)).eval args s none [] s = some (.ref q.1) :=
  mx_str1 (Jvm.Term.string "LittleMixModel" (198 : Nat)) 22 (mx_byt.getD 22 []) (by decide) (hs _ (List.mem_of_getElem? (i := 988) (by decide +kernel))) (hs _ (List.mem_of_getElem? (i := 989) (by decide +kernel))) (hs _ (List.mem_of_getElem? (i := 990) (by decide +kernel))) (hs _ (List.mem_of_getElem? (i := 991) (by decide +kernel))) (fun j hj => hs _ (va_run (p := 992) (N := 22) (f := fun j => Jvm.Cond.eq (Jvm.Term.elem (Jvm.Term.field (Jvm.Term.string "LittleMixModel" (198 : Nat)) "java/lang/String" "value" "[B") (Jvm.Term.int (Int32.ofNat j))) (Jvm.Term.int ((mx_byt.getD 22 []).getD j 0))) (by decide +kernel) j hj)) hA
set_option maxRecDepth 100000 in
theorem mx_str_23 {args : Array Value} {s : State} {A : Nat → Prop} (hs : ∀ c ∈ flatC (Jvm.Cond.and given_1 narrow_1), c.before args s = true) (hA : ∀ a : Nat, a < s.heap.size → ¬ A a) : ∃ q : Nat × Nat, (va_O "java/lang/String" q.1 A s s.heap ∧ va_OF "java/lang/String" "coder" "B" (.int 0) q.1 A s s.heap ∧ va_OF "java/lang/String" "value" "[B" (.ref q.2) q.1 A s s.heap ∧ va_T .byte q.2 (mx_len.getD 23 0) (fun j => .int ((mx_byt.getD 23 []).getD j 0)) A s s.heap) ∧ (Term.string (mx_own.getD 23 "") (mx_idx.getD 23 0)).eval args s none [] s = some (.ref q.1) :=
  mx_str1 (Jvm.Term.string "LittleMixModel" (200 : Nat)) 32 (mx_byt.getD 23 []) (by decide) (hs _ (List.mem_of_getElem? (i := 1014) (by decide +kernel))) (hs _ (List.mem_of_getElem? (i := 1015) (by decide +kernel))) (hs _ (List.mem_of_getElem? (i := 1016) (by decide +kernel))) (hs _ (List.mem_of_getElem? (i := 1017) (by decide +kernel))) (fun j hj => hs _ (va_run (p := 1018) (N := 32) (f := fun j => Jvm.Cond.eq (Jvm.Term.elem (Jvm.Term.field (Jvm.Term.string "LittleMixModel" (200 : Nat)) "java/lang/String" "value" "[B") (Jvm.Term.int (Int32.ofNat j))) (Jvm.Term.int ((mx_byt.getD 23 []).getD j 0))) (by decide +kernel) j hj)) hA
set_option maxRecDepth 100000 in
theorem mx_str_24 {args : Array Value} {s : State} {A : Nat → Prop} (hs : ∀ c ∈ flatC (Jvm.Cond.and given_1 narrow_1), c.before args s = true) (hA : ∀ a : Nat, a < s.heap.size → ¬ A a) : ∃ q : Nat × Nat, (va_O "java/lang/String" q.1 A s s.heap ∧ va_OF "java/lang/String" "coder" "B" (.int 0) q.1 A s s.heap ∧ va_OF "java/lang/String" "value" "[B" (.ref q.2) q.1 A s s.heap ∧ va_T .byte q.2 (mx_len.getD 24 0) (fun j => .int ((mx_byt.getD 24 []).getD j 0)) A s s.heap) ∧ (Term.string (mx_own.getD 24 "") (mx_idx.getD 24 0)).eval args s none [] s = some (.ref q.1) :=
  mx_str1 (Jvm.Term.string "LittleMixModel" (206 : Nat)) 1 (mx_byt.getD 24 []) (by decide) (hs _ (List.mem_of_getElem? (i := 1050) (by decide +kernel))) (hs _ (List.mem_of_getElem? (i := 1051) (by decide +kernel))) (hs _ (List.mem_of_getElem? (i := 1052) (by decide +kernel))) (hs _ (List.mem_of_getElem? (i := 1053) (by decide +kernel))) (fun j hj => hs _ (va_run (p := 1054) (N := 1) (f := fun j => Jvm.Cond.eq (Jvm.Term.elem (Jvm.Term.field (Jvm.Term.string "LittleMixModel" (206 : Nat)) "java/lang/String" "value" "[B") (Jvm.Term.int (Int32.ofNat j))) (Jvm.Term.int ((mx_byt.getD 24 []).getD j 0))) (by decide +kernel) j hj)) hA
set_option maxRecDepth 100000 in
theorem mx_str_25 {args : Array Value} {s : State} {A : Nat → Prop} (hs : ∀ c ∈ flatC (Jvm.Cond.and given_1 narrow_1), c.before args s = true) (hA : ∀ a : Nat, a < s.heap.size → ¬ A a) : ∃ q : Nat × Nat, (va_O "java/lang/String" q.1 A s s.heap ∧ va_OF "java/lang/String" "coder" "B" (.int 0) q.1 A s s.heap ∧ va_OF "java/lang/String" "value" "[B" (.ref q.2) q.1 A s s.heap ∧ va_T .byte q.2 (mx_len.getD 25 0) (fun j => .int ((mx_byt.getD 25 []).getD j 0)) A s s.heap) ∧ (Term.string (mx_own.getD 25 "") (mx_idx.getD 25 0)).eval args s none [] s = some (.ref q.1) :=
  mx_str1 (Jvm.Term.string "LittleMixModel" (212 : Nat)) 11 (mx_byt.getD 25 []) (by decide) (hs _ (List.mem_of_getElem? (i := 1055) (by decide +kernel))) (hs _ (List.mem_of_getElem? (i := 1056) (by decide +kernel))) (hs _ (List.mem_of_getElem? (i := 1057) (by decide +kernel))) (hs _ (List.mem_of_getElem? (i := 1058) (by decide +kernel))) (fun j hj => hs _ (va_run (p := 1059) (N := 11) (f := fun j => Jvm.Cond.eq (Jvm.Term.elem (Jvm.Term.field (Jvm.Term.string "LittleMixModel" (212 : Nat)) "java/lang/String" "value" "[B") (Jvm.Term.int (Int32.ofNat j))) (Jvm.Term.int ((mx_byt.getD 25 []).getD j 0))) (by decide +kernel) j hj)) hA
set_option maxRecDepth 100000 in
theorem mx_str_26 {args : Array Value} {s : State} {A : Nat → Prop} (hs : ∀ c ∈ flatC (Jvm.Cond.and given_1 narrow_1), c.before args s = true) (hA : ∀ a : Nat, a < s.heap.size → ¬ A a) : ∃ q : Nat × Nat, (va_O "java/lang/String" q.1 A s s.heap ∧ va_OF "java/lang/String" "coder" "B" (.int 0) q.1 A s s.heap ∧ va_OF "java/lang/String" "value" "[B" (.ref q.2) q.1 A s s.heap ∧ va_T .byte q.2 (mx_len.getD 26 0) (fun j => .int ((mx_byt.getD 26 []).getD j 0)) A s s.heap) ∧ (Term.string (mx_own.getD 26 "") (mx_idx.getD 26 0)).eval args s none [] s = some (.ref q.1) :=
  mx_str1 (Jvm.Term.string "LittleMixModel" (214 : Nat)) 21 (mx_byt.getD 26 []) (by decide) (hs _ (List.mem_of_getElem? (i := 1070) (by decide +kernel))) (hs _ (List.mem_of_getElem? (i := 1071) (by decide +kernel))) (hs _ (List.mem_of_getElem? (i := 1072) (by decide +kernel))) (hs _ (List.mem_of_getElem? (i := 1073) (by decide +kernel))) (fun j hj => hs _ (va_run (p := 1074) (N := 21) (f := fun j => Jvm.Cond.eq (Jvm.Term.elem (Jvm.Term.field (Jvm.Term.string "LittleMixModel" (214 : Nat)) "java/lang/String" "value" "[B") (Jvm.Term.int (Int32.ofNat j))) (Jvm.Term.int ((mx_byt.getD 26 []).getD j 0))) (by decide +kernel) j hj)) hA
set_option maxRecDepth 100000 in
theorem mx_nums {args : Array Value} {s : State} {A : Nat → Prop} (hs : ∀ c ∈ flatC (Jvm.Cond.and given_1 narrow_1), c.before args s = true) (hA : ∀ a : Nat, a < s.heap.size → ¬ A a) : ∃ t : Nat, (Jvm.Term.static "LittleMix$Specials" "NUMBERS" "[I").eval args s none [] s = some (.ref t) ∧ va_T .int t 13 (fun j => .int (mx_num.getD j 0)) A s s.heap :=
  va_Tof (by decide) (hs _ (List.mem_of_getElem? (i := 10) (by decide +kernel))) (va_eqt (hs _ (List.mem_of_getElem? (i := 11) (by decide +kernel)))) (fun j hj => va_eqt (hs _ (va_run (p := 12) (N := 13) (f := fun j => Jvm.Cond.eq (Jvm.Term.elem (Jvm.Term.static "LittleMix$Specials" "NUMBERS" "[I") (Jvm.Term.int (Int32.ofNat j))) (Jvm.Term.int (mx_num.getD j 0))) (by decide +kernel) j hj))) hA
theorem mx_strs {args : Array Value} {s : State} {A : Nat → Prop} (hs : ∀ c ∈ flatC (Jvm.Cond.and given_1 narrow_1), c.before args s = true) (hA : ∀ a : Nat, a < s.heap.size → ¬ A a) : ∃ ad : (Nat → Nat) × (Nat → Nat), ∀ i : Nat, i < mx_nS → (va_O "java/lang/String" (ad.1 i) A s s.heap ∧ va_OF "java/lang/String" "coder" "B" (.int 0) (ad.1 i) A s s.heap ∧ va_OF "java/lang/String" "value" "[B" (.ref (ad.2 i)) (ad.1 i) A s s.heap ∧ va_T .byte (ad.2 i) (mx_len.getD i 0) (fun j => .int ((mx_byt.getD i []).getD j 0)) A s s.heap) ∧ (Term.string (mx_own.getD i "") (mx_idx.getD i 0)).eval args s none [] s = some (.ref (ad.1 i)) := by
  have h0 : ∀ i : Nat, ∃ q : Nat × Nat, i < mx_nS → (va_O "java/lang/String" q.1 A s s.heap ∧ va_OF "java/lang/String" "coder" "B" (.int 0) q.1 A s s.heap ∧ va_OF "java/lang/String" "value" "[B" (.ref q.2) q.1 A s s.heap ∧ va_T .byte q.2 (mx_len.getD i 0) (fun j => .int ((mx_byt.getD i []).getD j 0)) A s s.heap) ∧ (Term.string (mx_own.getD i "") (mx_idx.getD i 0)).eval args s none [] s = some (.ref q.1) := by
    intro i
    by_cases hi : i < mx_nS
    · have hc : i = 0 ∨ i = 1 ∨ i = 2 ∨ i = 3 ∨ i = 4 ∨ i = 5 ∨ i = 6 ∨ i = 7 ∨ i = 8 ∨ i = 9 ∨ i = 10 ∨ i = 11 ∨ i = 12 ∨ i = 13 ∨ i = 14 ∨ i = 15 ∨ i = 16 ∨ i = 17 ∨ i = 18 ∨ i = 19 ∨ i = 20 ∨ i = 21 ∨ i = 22 ∨ i = 23 ∨ i = 24 ∨ i = 25 ∨ i = 26 := by
        unfold mx_nS at hi
        omega
      rcases hc with rfl | rfl | rfl | rfl | rfl | rfl | rfl | rfl | rfl | rfl | rfl | rfl | rfl | rfl | rfl | rfl | rfl | rfl | rfl | rfl | rfl | rfl | rfl | rfl | rfl | rfl | rfl
      · obtain ⟨q, hq⟩ := mx_str_0 hs hA
        exact ⟨q, fun _ => hq⟩
      · obtain ⟨q, hq⟩ := mx_str_1 hs hA
        exact ⟨q, fun _ => hq⟩
      · obtain ⟨q, hq⟩ := mx_str_2 hs hA
        exact ⟨q, fun _ => hq⟩
      · obtain ⟨q, hq⟩ := mx_str_3 hs hA
        exact ⟨q, fun _ => hq⟩
      · obtain ⟨q, hq⟩ := mx_str_4 hs hA
        exact ⟨q, fun _ => hq⟩
      · obtain ⟨q, hq⟩ := mx_str_5 hs hA
        exact ⟨q, fun _ => hq⟩
      · obtain ⟨q, hq⟩ := mx_str_6 hs hA
        exact ⟨q, fun _ => hq⟩
      · obtain ⟨q, hq⟩ := mx_str_7 hs hA
        exact ⟨q, fun _ => hq⟩
      · obtain ⟨q, hq⟩ := mx_str_8 hs hA
        exact ⟨q, fun _ => hq⟩
      · obtain ⟨q, hq⟩ := mx_str_9 hs hA
        exact ⟨q, fun _ => hq⟩
      · obtain ⟨q, hq⟩ := mx_str_10 hs hA
        exact ⟨q, fun _ => hq⟩
      · obtain ⟨q, hq⟩ := mx_str_11 hs hA
        exact ⟨q, fun _ => hq⟩
      · obtain ⟨q, hq⟩ := mx_str_12 hs hA
        exact ⟨q, fun _ => hq⟩
      · obtain ⟨q, hq⟩ := mx_str_13 hs hA
        exact ⟨q, fun _ => hq⟩
      · obtain ⟨q, hq⟩ := mx_str_14 hs hA
        exact ⟨q, fun _ => hq⟩
      · obtain ⟨q, hq⟩ := mx_str_15 hs hA
        exact ⟨q, fun _ => hq⟩
      · obtain ⟨q, hq⟩ := mx_str_16 hs hA
        exact ⟨q, fun _ => hq⟩
      · obtain ⟨q, hq⟩ := mx_str_17 hs hA
        exact ⟨q, fun _ => hq⟩
      · obtain ⟨q, hq⟩ := mx_str_18 hs hA
        exact ⟨q, fun _ => hq⟩
      · obtain ⟨q, hq⟩ := mx_str_19 hs hA
        exact ⟨q, fun _ => hq⟩
      · obtain ⟨q, hq⟩ := mx_str_20 hs hA
        exact ⟨q, fun _ => hq⟩
      · obtain ⟨q, hq⟩ := mx_str_21 hs hA
        exact ⟨q, fun _ => hq⟩
      · obtain ⟨q, hq⟩ := mx_str_22 hs hA
        exact ⟨q, fun _ => hq⟩
      · obtain ⟨q, hq⟩ := mx_str_23 hs hA
        exact ⟨q, fun _ => hq⟩
      · obtain ⟨q, hq⟩ := mx_str_24 hs hA
        exact ⟨q, fun _ => hq⟩
      · obtain ⟨q, hq⟩ := mx_str_25 hs hA
        exact ⟨q, fun _ => hq⟩
      · obtain ⟨q, hq⟩ := mx_str_26 hs hA
        exact ⟨q, fun _ => hq⟩
    · exact ⟨(0, 0), fun h => absurd h hi⟩
  obtain ⟨f, hf⟩ := Classical.axiomOfChoice h0
  exact ⟨(fun i => (f i).1, fun i => (f i).2), fun i hi => hf i hi⟩
theorem mx_refs {args : Array Value} {s : State} (hts : ∀ w ∈ lw_tbl, w.before args s = true) : ∀ i : Nat, i < mx_nS → (Cond.stringRef (mx_own.getD i "") (mx_idx.getD i 0) (mx_tx.getD i "")).before args s = true := by
  intro i hi
  have hc : i = 0 ∨ i = 1 ∨ i = 2 ∨ i = 3 ∨ i = 4 ∨ i = 5 ∨ i = 6 ∨ i = 7 ∨ i = 8 ∨ i = 9 ∨ i = 10 ∨ i = 11 ∨ i = 12 ∨ i = 13 ∨ i = 14 ∨ i = 15 ∨ i = 16 ∨ i = 17 ∨ i = 18 ∨ i = 19 ∨ i = 20 ∨ i = 21 ∨ i = 22 ∨ i = 23 ∨ i = 24 ∨ i = 25 ∨ i = 26 := by
    unfold mx_nS at hi
    omega
  rcases hc with rfl | rfl | rfl | rfl | rfl | rfl | rfl | rfl | rfl | rfl | rfl | rfl | rfl | rfl | rfl | rfl | rfl | rfl | rfl | rfl | rfl | rfl | rfl | rfl | rfl | rfl | rfl
  · exact hts _ k_146
  · exact hts _ k_199
  · exact hts _ k_200
  · exact hts _ k_201
  · exact hts _ k_202
  · exact hts _ k_203
  · exact hts _ k_204
  · exact hts _ k_205
  · exact hts _ k_206
  · exact hts _ k_207
  · exact hts _ k_208
  · exact hts _ k_209
  · exact hts _ k_210
  · exact hts _ k_211
  · exact hts _ k_489
  · exact hts _ k_1204
  · exact hts _ k_1149
  · exact hts _ k_1156
  · exact hts _ k_1157
  · exact hts _ k_1158
  · exact hts _ k_1159
  · exact hts _ k_1160
  · exact hts _ k_1161
  · exact hts _ k_1162
  · exact hts _ k_1167
  · exact hts _ k_1172
  · exact hts _ k_1173
theorem mx_start {p : Program} {s : State} {m : MethodId} {c : Code} {b : Nat} {A : Nat → Prop} (hx : p.tables.exec = Jvm.exec) (hb : c.code = code) (hml : c.maxLocals = 4) (hown : s.vm.findClass "LittleMixLaw" = some m.cls) (hts : ∀ w ∈ lw_tbl, w.before #[Value.ref b] s = true) (hgv : (Jvm.Cond.and given_1 narrow_1).before #[Value.ref b] s = true) (hAe : A = fun q => s.heap.size ≤ q) : ∃ K : mx_K, mx_F p s m #[Value.ref b] c code 4 "LittleMixLaw" K A := by
  have hT : ∀ w ∈ mx_T, w.before #[Value.ref b] s = true := fun w h => hts w (List.mem_filter.mp h).1
  have hs := flat_of_before _ hgv
  have hAn : ∀ a : Nat, a < s.heap.size → ¬ A a := by rw [hAe]; exact fun a h => Nat.not_le.mpr h
  obtain ⟨D, hD⟩ := mx_D (s := s) (fun c q hq => by
    have hm := List.mem_of_getElem? hq
    simp only [mx_cl, List.mem_cons, List.not_mem_nil, or_false] at hm
    rcases hm with rfl | rfl | rfl | rfl | rfl | rfl | rfl | rfl | rfl | rfl | rfl
    · exact u_known hT in_Mix (hT _ k_23)
    · exact u_known hT in_Mem (hT _ k_31)
    · exact u_known hT in_Reg (hT _ k_43)
    · exact u_known hT in_Opn (hT _ k_141)
    · exact u_known hT in_Lin (hT _ k_135)
    · exact u_known hT in_Lab (hT _ k_109)
    · exact u_known hT in_Sum (hT _ k_245)
    · exact u_known hT in_Opd (hT _ k_75)
    · exact u_known hT in_Asm (hT _ k_69)
    · exact u_known hT in_Mac (hT _ k_322)
    · exact u_known hT in_Mod (hT _ k_968))
  obtain ⟨cJ, hJ⟩ := mx_arr (fun _ h => by cases h) (hT _ k_41)
  obtain ⟨cI, hI⟩ := mx_arr (fun _ h => by cases h) (hT _ k_133)
  obtain ⟨cC, hC⟩ := mx_arr (fun _ h => by cases h) (hT _ k_40)
  obtain ⟨cZ, hZ⟩ := mx_arr (fun _ h => by cases h) (hT _ k_105)
  obtain ⟨ad, had⟩ := mx_strs (A := A) hs hAn
  obtain ⟨tn, htn, hTn⟩ := mx_nums (A := A) hs hAn
  obtain ⟨ad2, h2, h27⟩ : ∃ f : Nat → Nat, (∀ i, i < mx_nS → f i = ad.2 i) ∧ f 27 = tn := ⟨fun i => if i < mx_nS then ad.2 i else tn, fun i hi => if_pos hi, if_neg (by decide)⟩
  refine ⟨(D, (cJ, cI, cC, cZ), ad.1, ad2), hx, hb, hml, hown, hT, ⟨hD, ?_⟩, ?_, ⟨fun i hi => ?_, fun i hi => ?_, ?_, ?_, ?_, ?_⟩, by rw [hAe]; exact fun q h => h⟩
  · intro k q hk
    have hm := List.mem_of_getElem? hk
    simp only [mx_ty, List.mem_cons, List.not_mem_nil, or_false] at hm
    rcases hm with rfl | rfl | rfl | rfl
    · exact hJ
    · exact hI
    · exact hC
    · exact hZ
  · intro w hw
    obtain ⟨h1, h2⟩ := List.mem_filter.mp hw
    exact va_Nw.of (by cases w <;> first | rfl | (simp [mx_isNest] at h2)) (hts w (List.mem_append_right _ h1))
  · have h9 := (had i hi).1
    rw [← h2 i hi] at h9
    exact h9
  · exact vk_R.of (mx_refs hts i hi) (had i hi).2
  · exact va_Zof (hts _ k_160) (hT _ k_9) (va_eqi (hs _ (List.mem_of_getElem? (i := 4) (by decide +kernel)))) hAn
  · exact va_Zqof (hts _ k_176) (hT _ k_11) (hs _ (List.mem_of_getElem? (i := 5) (by decide +kernel))) hAn
  · have h9 := va_Zof (hts _ k_550) (hT _ k_16) htn hAn
    rw [← h27] at h9
    exact h9
  · rw [← h27] at hTn
    exact hTn
