/-! what all contracts here share: the tables' words, the nest's words, the arrays' classes, the literals -/
abbrev mx_K : Type := va_G × (Nat × Nat × Nat × Nat) × (Nat → Nat) × (Nat → Nat)
abbrev mx_ty (K : mx_K) : List (ClassId × FieldType) := [(K.2.1.1, .long), (K.2.1.2.1, .int), (K.2.1.2.2.1, .char), (K.2.1.2.2.2, .boolean)]
def mx_isNest : Cond → Bool
  | .fieldLinkNest .. => true
  | .methodLinkNest .. => true
  | _ => false
def mx_Ns : List Cond := tables_1.filter mx_isNest
def mx_N (U : State) : Prop := ∀ w ∈ mx_Ns, va_Nw w U
theorem mx_N.warm {s U : State} (hW : s.WarmedH U.vm) (h : mx_N s) : mx_N U := by
  intro w hw
  have h1 := h w hw
  have h2 : mx_isNest w = true := (List.mem_filter.mp hw).2
  cases w <;> first | exact va_Nw.warmF hW h1 | exact va_Nw.warmM hW h1 | (simp [mx_isNest] at h2)
theorem mx_N.same {s U : State} (hv : s.vm = U.vm) (h : mx_N s) : mx_N U := by
  intro w hw
  have h2 : mx_isNest w = true := (List.mem_filter.mp hw).2
  exact va_Nw.same (by cases w <;> first | rfl | (simp [mx_isNest] at h2)) hv (h w hw)
def mx_T : List Cond := lw_tbl.filter goodWord
theorem mx_good {w : Cond} (h : w ∈ mx_T) : GoodIn mx_T (w :: mx_T) := by
  intro v hv
  have hv : v ∈ mx_T := by
    rcases List.mem_cons.mp hv with rfl | hv
    · exact h
    · exact hv
  exact ⟨hv, good_of_word (List.mem_filter.mp hv).2⟩
/-- the literals: what they hold, where the pools have them; and one switch of the library -/
def mx_S (K : mx_K) (A : Nat → Prop) (U : State) (H : Heap) : Prop := ∀ i : Nat, i < mx_nS → va_O "java/lang/String" (K.2.2.1 i) A U H ∧ va_OF "java/lang/String" "coder" "B" (.int 0) (K.2.2.1 i) A U H ∧ va_OF "java/lang/String" "value" "[B" (.ref (K.2.2.2 i)) (K.2.2.1 i) A U H ∧ va_T .byte (K.2.2.2 i) (mx_len.getD i 0) (fun j => .int ((mx_byt.getD i []).getD j 0)) A U H
def mx_E (K : mx_K) (A : Nat → Prop) (U : State) (H : Heap) : Prop :=
  mx_S K A U H ∧ (∀ i : Nat, i < mx_nS → vk_R (mx_own.getD i "") (mx_idx.getD i 0) (mx_tx.getD i "") (K.2.2.1 i) U) ∧ va_Z "java/lang/String" "COMPACT_STRINGS" "Z" (.int 1) A U H ∧ va_Zq "jdk/internal/util/Preconditions" "SIOOBE_FORMATTER" "Ljava/util/function/BiFunction;" A U H ∧ va_Z "LittleMix$Specials" "NUMBERS" "[I" (.ref (K.2.2.2 27)) A U H ∧ va_T .int (K.2.2.2 27) 13 (fun j => .int (mx_num.getD j 0)) A U H
theorem mx_S.moved {K : mx_K} {A : Nat → Prop} {u U : State} {H : Heap} (hvm : u.vm.Alike U.vm) (h : mx_S K A u H) : mx_S K A U H := fun i hi => ⟨va_O.moved hvm (h i hi).1, va_OF.moved hvm (h i hi).2.1, va_OF.moved hvm (h i hi).2.2.1, va_T.moved hvm (h i hi).2.2.2⟩
theorem mx_S.kept {K : mx_K} {A : Nat → Prop} {U : State} {H H1 : Heap} (h : mx_S K A U H) (hq : ∀ a : Nat, a < H.size → ¬ A a → H1[a]? = H[a]?) : mx_S K A U H1 := fun i hi => ⟨(h i hi).1.kept hq, (h i hi).2.1.kept hq, (h i hi).2.2.1.kept hq, (h i hi).2.2.2.kept hq⟩
theorem mx_S.narrow {K : mx_K} {A B : Nat → Prop} {U : State} {H : Heap} (h : mx_S K A U H) (hAB : ∀ q, B q → A q) : mx_S K B U H := fun i hi => ⟨(h i hi).1.narrow hAB, (h i hi).2.1.narrow hAB, (h i hi).2.2.1.narrow hAB, (h i hi).2.2.2.narrow hAB⟩
theorem mx_E.warm {K : mx_K} {A : Nat → Prop} {s U : State} {H : Heap} (hW : s.WarmedH U.vm) (h : mx_E K A s H) : mx_E K A U H := ⟨h.1.moved hW.alike, fun i hi => (h.2.1 i hi).warm hW, h.2.2.1.moved hW.alike, h.2.2.2.1.moved hW.alike, h.2.2.2.2.1.moved hW.alike, h.2.2.2.2.2.moved hW.alike⟩
theorem mx_E.same {K : mx_K} {A : Nat → Prop} {s U : State} {H : Heap} (hv : U.vm = s.vm) (h : mx_E K A s H) : mx_E K A U H := ⟨h.1.moved (by rw [hv]; exact Vm.Alike.refl _), fun i hi => (h.2.1 i hi).same hv, h.2.2.1.moved (by rw [hv]; exact Vm.Alike.refl _), h.2.2.2.1.moved (by rw [hv]; exact Vm.Alike.refl _), h.2.2.2.2.1.moved (by rw [hv]; exact Vm.Alike.refl _), h.2.2.2.2.2.moved (by rw [hv]; exact Vm.Alike.refl _)⟩
theorem mx_E.kept {K : mx_K} {A : Nat → Prop} {U : State} {H H1 : Heap} (h : mx_E K A U H) (hq : ∀ a : Nat, a < H.size → ¬ A a → H1[a]? = H[a]?) : mx_E K A U H1 := ⟨h.1.kept hq, h.2.1, h.2.2.1.kept hq, h.2.2.2.1.kept hq, h.2.2.2.2.1.kept hq, h.2.2.2.2.2.kept hq⟩
theorem mx_E.narrow {K : mx_K} {A B : Nat → Prop} {U : State} {H : Heap} (h : mx_E K A U H) (hAB : ∀ q, B q → A q) : mx_E K B U H := ⟨h.1.narrow hAB, h.2.1, h.2.2.1.narrow hAB, h.2.2.2.1.narrow hAB, h.2.2.2.2.1.narrow hAB, h.2.2.2.2.2.narrow hAB⟩
theorem mx_recvS {K : mx_K} {A : Nat → Prop} {s : State} {H : Heap} {locs : List Loc} {i : Nat} (hE : mx_E K A s s.heap) (hi : i < mx_nS) (hS : va_S A s.heap H locs) : ∃ cell : Cell, H[K.2.2.1 i]? = some cell ∧ cell.vm.isStatics = false ∧ s.vm.findClass "java/lang/String" = some cell.cls := by
  obtain ⟨cell, h1, h2, h3, -⟩ := (hE.1 i hi).1.kept hS.2.1
  exact ⟨cell, h1, h2, h3⟩
/-- what stands fixed over a method's body -/
def mx_F (p : Program) (s : State) (m : MethodId) (args : Array Value) (c : Code) (cc : ByteArray) (nL : Nat) (own : String) (K : mx_K) (A : Nat → Prop) : Prop :=
  p.tables.exec = Jvm.exec ∧ c.code = cc ∧ c.maxLocals = nL ∧ s.vm.findClass own = some m.cls ∧ (∀ w ∈ mx_T, w.before args s = true) ∧ va_K K.1 mx_cl (mx_ty K) s ∧ mx_N s ∧ mx_E K A s s.heap ∧ ∀ q, s.heap.size ≤ q → A q
/-- a method's start -/
def mx_P (K : mx_K) (wc : va_W) (sz : Nat) (U : State) : Prop := U.heap.size = sz ∧ va_P K.1 mx_cl wc U.heap ∧ va_D (fun _ => True) wc ∧ va_K K.1 mx_cl (mx_ty K) U ∧ mx_N U ∧ mx_E K (va_A wc sz) U U.heap
abbrev mx_B (K : mx_K) (A : Nat → Prop) {S : Type} (w1 : S → va_W) (u : S) (t : State) : Prop := va_P K.1 mx_cl (w1 u) t.heap ∧ va_D A (w1 u)
abbrev mx_V (l : Launch) (y : MethodName) (b : ByteArray) (mL : Nat) (rm : Room) (K : mx_K) (av : List Value) (wc : va_W) (sz : Nat) {S : Type} (post : S → Prop) (w1 : S → va_W) : Prop :=
  Met l y (Cond.code y b mL none :: mx_T) rm (va_Pc av (mx_P K wc sz)) (va_Qv post (mx_B K (va_A wc sz) w1) (va_A wc sz)) rm.cells rm.slots (va_A wc sz)
abbrev mx_I (l : Launch) (y : MethodName) (b : ByteArray) (mL : Nat) (ty : FieldType) (rm : Room) (K : mx_K) (av : List Value) (wc : va_W) (sz : Nat) {S : Type} (post : Int32 → S → Prop) (w1 : S → va_W) : Prop :=
  Met l y (Cond.code y b mL (some ty) :: mx_T) rm (va_Pc av (mx_P K wc sz)) (va_Qi post (mx_B K (va_A wc sz) w1) (va_A wc sz)) rm.cells rm.slots (va_A wc sz)
abbrev mx_L (l : Launch) (y : MethodName) (b : ByteArray) (mL : Nat) (rm : Room) (K : mx_K) (av : List Value) (wc : va_W) (sz : Nat) {S : Type} (post : Int64 → S → Prop) (w1 : S → va_W) : Prop :=
  Met l y (Cond.code y b mL (some .long) :: mx_T) rm (va_Pc av (mx_P K wc sz)) (va_Ql post (mx_B K (va_A wc sz) w1) (va_A wc sz)) rm.cells rm.slots (va_A wc sz)
/-- a body's beginning -/
theorem mx_of {l : Launch} {y : MethodName} {b : ByteArray} {mL : Nat} {ret : Option FieldType} {rm : Room} {K : mx_K} {av : List Value} {wc : va_W} {sz : Nat} {Qc : Array Value → State → Outcome → State → Prop} {mc ms : Nat} (hy : plainName y.cls = true) (hlen : (lg_sl av).length ≤ mL)
    (body : ∀ (p : Program) (e : Env) (s : State) (m : MethodId) (below : List Frame) (meth : Method) (c : Code) (A : Nat → Prop) (ls : Array Slot) (H : Heap) (locs : List Loc), va_A wc sz = A → mx_F p s m av.toArray c b mL y.cls K A → meth.sig.returnType = ret → meth.locks = false → meth.name = y.name → s.heap.size = sz → va_P K.1 mx_cl wc H → va_D A wc → va_S A s.heap H locs → lv_has ls mL (lv_args 0 av) →
      W p l e rm s m av.toArray below meth c H locs 0 0 (MQ below Qc av.toArray s mc ms A) (F0 m 0 ls [])) :
    Met l y (Cond.code y b mL ret :: mx_T) rm (va_Pc av (mx_P K wc sz)) Qc mc ms (va_A wc sz) := by
  refine Met.ofW (cc := b) (maxL := mL) (ret := ret) hy rfl ?_
  intro p e s m args below meth c s₁ B hml hv
  obtain ⟨rfl, hsz, hP, hD0, hK, hN, hE⟩ := hv
  have hts := atoms_spec (ws := Cond.code y b mL ret :: mx_T) B.pre
  have hown : s.vm.findClass y.cls = some m.cls := findClass_of_methodNamed B.named
  have hl := lv_entry av (n := mL) hlen
  rw [lg_entry_eq]
  exact body p e s m below meth c _ _ _ _ rfl ⟨B.exec, B.bytes, hml, hown, fun w h => hts w (List.mem_cons_of_mem _ h), hK, hN, hE, fun q h => Or.inr (by rw [← hsz]; exact h)⟩ B.returns B.notSynchronized (name_of_methodNamed B.named B.method).1 hsz hP hD0.self va_S.rf hl
/-- the same, of a class that has entries -/
theorem mx_ofF {l : Launch} {y : MethodName} {b : ByteArray} {mL : Nat} {ret : Option FieldType} {rm : Room} {K : mx_K} {av : List Value} {wc : va_W} {sz : Nat} {Qc : Array Value → State → Outcome → State → Prop} {mc ms : Nat} (hy : plainFor y = true) (hlen : (lg_sl av).length ≤ mL)
    (body : ∀ (p : Program) (e : Env) (s : State) (m : MethodId) (below : List Frame) (meth : Method) (c : Code) (A : Nat → Prop) (ls : Array Slot) (H : Heap) (locs : List Loc), va_A wc sz = A → mx_F p s m av.toArray c b mL y.cls K A → meth.sig.returnType = ret → meth.locks = false → meth.name = y.name → s.heap.size = sz → va_P K.1 mx_cl wc H → va_D A wc → va_S A s.heap H locs → lv_has ls mL (lv_args 0 av) →
      W p l e rm s m av.toArray below meth c H locs 0 0 (MQ below Qc av.toArray s mc ms A) (F0 m 0 ls [])) :
    Met l y (Cond.code y b mL ret :: mx_T) rm (va_Pc av (mx_P K wc sz)) Qc mc ms (va_A wc sz) := by
  refine va_MetF (cc := b) (maxL := mL) (ret := ret) hy rfl ?_
  intro p e s m args below meth c s₁ B hml hv
  obtain ⟨rfl, hsz, hP, hD0, hK, hN, hE⟩ := hv
  have hts := atoms_spec (ws := Cond.code y b mL ret :: mx_T) B.pre
  have hown : s.vm.findClass y.cls = some m.cls := findClass_of_methodNamed B.named
  have hl := lv_entry av (n := mL) hlen
  rw [lg_entry_eq]
  exact body p e s m below meth c _ _ _ _ rfl ⟨B.exec, B.bytes, hml, hown, fun w h => hts w (List.mem_cons_of_mem _ h), hK, hN, hE, fun q h => Or.inr (by rw [← hsz]; exact h)⟩ B.returns B.notSynchronized (name_of_methodNamed B.named B.method).1 hsz hP hD0.self va_S.rf hl
theorem mx_updJ0 (k : Nat) : vp_updL (fun _ => 0) k 0 = fun _ => 0 := by
  funext j
  simp [vp_updL]
theorem mx_updI0 (k : Nat) : upd (fun _ => 0) k 0 = fun _ => 0 := by
  funext j
  simp [upd]
theorem mx_inc (k : Nat) : nI k + Int32.ofInt 1 = nI (k + 1) := by
  rw [show Int32.ofInt 1 = 1 from by decide]
  exact nI_1 k
section MXR
variable {p : Program} {l : Launch} {e : Env} {R : Room} {s : State} {m : MethodId} {args : Array Value} {below : List Frame} {meth : Method} {c : Code} {H : Heap} {locs : List Loc} {cells slots : Nat} {Q : State → Prop}
variable {cc : ByteArray} {nL : Nat} {own : String} {K : mx_K} {A : Nat → Prop} {pc : Nat} {ls : Array Slot} {rest st0 : List Value}
variable {y : MethodName} {b : ByteArray} {mL : Nat} {ret : Option FieldType} {rm : Room} {wc ws wr : va_W} {Qc : Array Value → State → Outcome → State → Prop} {n index a mc ms : Nat} {As : List Value}
/-- the callee's start out of the caller's world -/
theorem mx_pre (F : mx_F p s m args c cc nL own K A) (hP : va_P K.1 mx_cl ws H) (hD : va_D A ws) (hS : va_S A s.heap H locs) (isC : List Nat) (hC : isC.map (fun i => ws[i]?) = wc.map some) (hnC : va_nd isC = true) (av : List Value) :
    FrameBlind (va_Pc av (mx_P K wc H.size)) ∧ ∀ U : State, U.heap = H → s.WarmedH U.vm → va_Pc av (mx_P K wc H.size) av.toArray U := by
  obtain ⟨hx, hb, hml, hown, hT, hK, hN, hE, hA⟩ := F
  refine ⟨fun a U g mk q => ?_, fun U hU hW => ?_⟩
  · obtain ⟨q0, q1, qP, qD, qK, qN, qE⟩ := q
    exact ⟨q0, q1, qP, qD, va_K.moved (u := U) (U := U.calling g mk a) (Vm.Alike.refl U.vm) qK, mx_N.same (s := U) (U := U.calling g mk a) rfl qN, mx_E.same (s := U) (U := U.calling g mk a) rfl qE⟩
  · have hF := va_free (wc := wc) hD hS hA isC hC
    have hw : isC.filterMap (fun i => ws[i]?) = wc := by
      have h1 : (isC.map (fun i => ws[i]?)).filterMap id = (wc.map some).filterMap id := by rw [hC]
      simpa [List.filterMap_map] using h1
    refine ⟨rfl, by rw [hU], by rw [hU]; exact hP.sub isC hw, (hD.sub isC hnC hC).weaken (fun _ _ _ _ => trivial), va_K.moved hW.alike hK, hN.warm hW, ?_⟩
    rw [hU]
    exact ((hE.kept hS.2.1).narrow hF).warm hW
/-- a call's link: plain, or of the nest -/
def mx_lk (own : String) (index : Nat) (y : MethodName) : Prop := Cond.methodLink own index y ∈ mx_T ∨ ∃ host : String, Cond.methodLinkNest own index y host ∈ mx_Ns
theorem mx_runV (F : mx_F p s m args c cc nL own K A) (hM : Met l y (Cond.code y b mL ret :: mx_T) rm (va_Pc (.ref a :: As) (mx_P K wc H.size)) Qc mc ms (va_A wc H.size)) (hcode : Cond.code y b mL ret ∈ mx_T) (hl : mx_lk own index y) (hi : Cond.instanceMethod y ∈ mx_T) (hsel : Cond.selects y.cls y y ∈ mx_T) (hini : Cond.initialized y.cls ∈ mx_T)
    (hd : y.cls ≠ "java/lang/invoke/MethodHandle" ∧ y.cls ≠ "java/lang/invoke/VarHandle" ∧ (parseMethodDescriptor y.desc).map (fun d => d.parameters.length) = some n) (hrc : rm.cells = mc) (hrs : rm.slots = ms) (hP : va_P K.1 mx_cl ws H) (hD : va_D A ws) (hS : va_S A s.heap H locs) (isC : List Nat) (hC : isC.map (fun i => ws[i]?) = wc.map some) (hnC : va_nd isC = true)
    (hrecv : ∃ cell : Cell, H[a]? = some cell ∧ cell.vm.isStatics = false ∧ s.vm.findClass y.cls = some cell.cls) (hn : As.length = n) (hsize : ls.size = nL) (hstack : st0 = As.reverse ++ .ref a :: rest) (hroom : (rest.map fun v => v.category).sum ≤ 8) (hR : rm.frames + 1 ≤ R.frames ∧ 8 + (mL + 11) + rm.locals ≤ R.locals) (hf : cells + mc ≤ R.cells ∧ slots + ms ≤ R.slots) (hdg : decode cc pc = .ok (.invokevirtual index, 3)) :
    va_Run p l e R s m args below meth c H locs cells slots mc ms (F0 m pc ls st0) rest (Qc (Value.ref a :: As).toArray) (va_A wc H.size) := by
  obtain ⟨hbl, hpr⟩ := mx_pre F hP hD hS isC hC hnC (.ref a :: As)
  obtain ⟨hx, hb, hml, hown, hT, hK, hN, hE, hA⟩ := F
  rcases hl with hl | ⟨host, hl⟩
  · exact va_runV (C := y.cls) (ret := ret) (n := n) ⟨hx, hb, hml, hown, hT⟩ hM ⟨callB_of n hT (mx_good hcode) rfl hrc hrs (hT _ hini) (hT _ hl) hd hR, hT _ hi, hT _ hsel⟩ ⟨hbl, hrecv, hpr⟩ rfl hn hsize hstack (lv_room hroom) hdg hf
  · exact va_runVN (C := y.cls) (ret := ret) (n := n) ⟨hx, hb, hml, hown, hT⟩ hM ⟨va_cnB n hT (mx_good hcode) rfl hrc hrs (hN _ hl) (hT _ hini) hd hR, hT _ hi, hT _ hsel⟩ ⟨hbl, hrecv, hpr⟩ rfl hn hsize hstack (lv_room hroom) hdg hf
theorem mx_runS (F : mx_F p s m args c cc nL own K A) (hM : Met l y (Cond.code y b mL ret :: mx_T) rm (va_Pc As (mx_P K wc H.size)) Qc mc ms (va_A wc H.size)) (hcode : Cond.code y b mL ret ∈ mx_T) (hl : mx_lk own index y) (hi : Cond.static y ∈ mx_T) (hini : Cond.initialized y.cls ∈ mx_T)
    (hd : y.cls ≠ "java/lang/invoke/MethodHandle" ∧ y.cls ≠ "java/lang/invoke/VarHandle" ∧ (parseMethodDescriptor y.desc).map (fun d => d.parameters.length) = some n) (hrc : rm.cells = mc) (hrs : rm.slots = ms) (hP : va_P K.1 mx_cl ws H) (hD : va_D A ws) (hS : va_S A s.heap H locs) (isC : List Nat) (hC : isC.map (fun i => ws[i]?) = wc.map some) (hnC : va_nd isC = true)
    (hn : As.length = n) (hsize : ls.size = nL) (hstack : st0 = As.reverse ++ rest) (hroom : (rest.map fun v => v.category).sum ≤ 8) (hR : rm.frames + 1 ≤ R.frames ∧ 8 + (mL + 11) + rm.locals ≤ R.locals) (hf : cells + mc ≤ R.cells ∧ slots + ms ≤ R.slots) (hdg : decode cc pc = .ok (.invokestatic index, 3)) :
    va_Run p l e R s m args below meth c H locs cells slots mc ms (F0 m pc ls st0) rest (Qc As.toArray) (va_A wc H.size) := by
  obtain ⟨hbl, hpr⟩ := mx_pre F hP hD hS isC hC hnC As
  obtain ⟨hx, hb, hml, hown, hT, hK, hN, hE, hA⟩ := F
  rcases hl with hl | ⟨host, hl⟩
  · exact va_runS (ret := ret) (n := n) ⟨hx, hb, hml, hown, hT⟩ hM ⟨callB_of n hT (mx_good hcode) rfl hrc hrs (hT _ hini) (hT _ hl) hd hR, hT _ hi⟩ ⟨hbl, hpr⟩ rfl hn hsize hstack (lv_room hroom) hdg hf
  · exact va_runSN (ret := ret) (n := n) ⟨hx, hb, hml, hown, hT⟩ hM ⟨va_cnB n hT (mx_good hcode) rfl hrc hrs (hN _ hl) (hT _ hini) hd hR, hT _ hi, trivial⟩ ⟨hbl, hpr⟩ rfl hn hsize hstack (lv_room hroom) hdg hf
theorem mx_runI (F : mx_F p s m args c cc nL own K A) (hM : Met l y (Cond.code y b mL none :: mx_T) rm (va_Pc (.ref a :: As) (mx_P K wc H.size)) Qc mc ms (va_A wc H.size)) (hcode : Cond.code y b mL none ∈ mx_T) (hl : mx_lk own index y) (hi : Cond.instanceMethod y ∈ mx_T) (hy1 : y.name = "<init>") (hini : Cond.initialized y.cls ∈ mx_T)
    (hd : y.cls ≠ "java/lang/invoke/MethodHandle" ∧ y.cls ≠ "java/lang/invoke/VarHandle" ∧ (parseMethodDescriptor y.desc).map (fun d => d.parameters.length) = some n) (hrc : rm.cells = mc) (hrs : rm.slots = ms) (hP : va_P K.1 mx_cl ws H) (hD : va_D A ws) (hS : va_S A s.heap H locs) (isC : List Nat) (hC : isC.map (fun i => ws[i]?) = wc.map some) (hnC : va_nd isC = true)
    (hn : As.length = n) (hsize : ls.size = nL) (hstack : st0 = As.reverse ++ .ref a :: rest) (hroom : (rest.map fun v => v.category).sum ≤ 8) (hR : rm.frames + 1 ≤ R.frames ∧ 8 + (mL + 11) + rm.locals ≤ R.locals) (hf : cells + mc ≤ R.cells ∧ slots + ms ≤ R.slots) (hdg : decode cc pc = .ok (.invokespecial index, 3)) :
    va_Run p l e R s m args below meth c H locs cells slots mc ms (F0 m pc ls st0) rest (Qc (Value.ref a :: As).toArray) (va_A wc H.size) := by
  obtain ⟨hbl, hpr⟩ := mx_pre F hP hD hS isC hC hnC (.ref a :: As)
  obtain ⟨hx, hb, hml, hown, hT, hK, hN, hE, hA⟩ := F
  rcases hl with hl | ⟨host, hl⟩
  · exact va_runI (n := n) ⟨hx, hb, hml, hown, hT⟩ hM ⟨callB_of n hT (mx_good hcode) rfl hrc hrs (hT _ hini) (hT _ hl) hd hR, hy1, hT _ hi⟩ ⟨hbl, hpr⟩ rfl hn hsize hstack (lv_room hroom) hdg hf
  · exact va_runIN (n := n) ⟨hx, hb, hml, hown, hT⟩ hM ⟨va_cnB n hT (mx_good hcode) rfl hrc hrs (hN _ hl) (hT _ hini) hd hR, hy1, hT _ hi⟩ ⟨hbl, hpr⟩ rfl hn hsize hstack (lv_room hroom) hdg hf
variable {av : Array Value} {S : Type} {w1 : S → va_W}
/-- behind a call -/
theorem mx_cv {post : S → Prop} (F : mx_F p s m args c cc nL own K A) (hr : va_Run p l e R s m args below meth c H locs cells slots mc ms (F0 m pc ls st0) rest (va_Qv post (mx_B K (va_A wc H.size) w1) (va_A wc H.size) av) (va_A wc H.size)) (hP : va_P K.1 mx_cl ws H) (hD : va_D A ws) (hS : va_S A s.heap H locs) (isC isR : List Nat) (hC : isC.map (fun i => ws[i]?) = wc.map some) (hR : isR.map (fun i => ws[i]?) = wr.map some) (hn : va_nd isR = true) (hdis : ∀ i ∈ isR, i ∉ isC)
    (kk : ∀ (u : S) (H1 : Heap) (locs1 : List Loc), post u → va_P K.1 mx_cl (wr ++ w1 u) H1 → va_D A (wr ++ w1 u) → va_S A s.heap H1 locs1 → W p l e R s m args below meth c H1 locs1 (cells + mc) (slots + ms) Q (F0 m (pc + 3) ls rest)) : W p l e R s m args below meth c H locs cells slots Q (F0 m pc ls st0) := by
  obtain ⟨hx, hb, hml, hown, hT, hK, hN, hE, hA⟩ := F
  have hF := va_free (wc := wc) hD hS hA isC hC
  refine va_callv hr hS (fun q _ h => hF q h) hF (fun u t H1 locs1 ht hvm hpost hB hz1 hk1 hS1 => ?_)
  obtain ⟨hP1, hD1⟩ := hB
  rw [ht] at hP1
  obtain ⟨hP2, hD2⟩ := va_join hP hD isC isR hC hR hn hdis hk1 hF hP1 hD1
  exact kk u H1 locs1 hpost hP2 hD2 hS1
theorem mx_ci {post : Int32 → S → Prop} (F : mx_F p s m args c cc nL own K A) (hr : va_Run p l e R s m args below meth c H locs cells slots mc ms (F0 m pc ls st0) rest (va_Qi post (mx_B K (va_A wc H.size) w1) (va_A wc H.size) av) (va_A wc H.size)) (hP : va_P K.1 mx_cl ws H) (hD : va_D A ws) (hS : va_S A s.heap H locs) (isC isR : List Nat) (hC : isC.map (fun i => ws[i]?) = wc.map some) (hR : isR.map (fun i => ws[i]?) = wr.map some) (hn : va_nd isR = true) (hdis : ∀ i ∈ isR, i ∉ isC)
    (kk : ∀ (r : Int32) (u : S) (H1 : Heap) (locs1 : List Loc), post r u → va_P K.1 mx_cl (wr ++ w1 u) H1 → va_D A (wr ++ w1 u) → va_S A s.heap H1 locs1 → W p l e R s m args below meth c H1 locs1 (cells + mc) (slots + ms) Q (F0 m (pc + 3) ls (.int r :: rest))) : W p l e R s m args below meth c H locs cells slots Q (F0 m pc ls st0) := by
  obtain ⟨hx, hb, hml, hown, hT, hK, hN, hE, hA⟩ := F
  have hF := va_free (wc := wc) hD hS hA isC hC
  refine va_calli hr hS (fun q _ h => hF q h) hF (fun r u t H1 locs1 ht hvm hpost hB hz1 hk1 hS1 => ?_)
  obtain ⟨hP1, hD1⟩ := hB
  rw [ht] at hP1
  obtain ⟨hP2, hD2⟩ := va_join hP hD isC isR hC hR hn hdis hk1 hF hP1 hD1
  exact kk r u H1 locs1 hpost hP2 hD2 hS1
theorem mx_cj {post : Int64 → S → Prop} (F : mx_F p s m args c cc nL own K A) (hr : va_Run p l e R s m args below meth c H locs cells slots mc ms (F0 m pc ls st0) rest (va_Ql post (mx_B K (va_A wc H.size) w1) (va_A wc H.size) av) (va_A wc H.size)) (hP : va_P K.1 mx_cl ws H) (hD : va_D A ws) (hS : va_S A s.heap H locs) (isC isR : List Nat) (hC : isC.map (fun i => ws[i]?) = wc.map some) (hR : isR.map (fun i => ws[i]?) = wr.map some) (hn : va_nd isR = true) (hdis : ∀ i ∈ isR, i ∉ isC)
    (kk : ∀ (r : Int64) (u : S) (H1 : Heap) (locs1 : List Loc), post r u → va_P K.1 mx_cl (wr ++ w1 u) H1 → va_D A (wr ++ w1 u) → va_S A s.heap H1 locs1 → W p l e R s m args below meth c H1 locs1 (cells + mc) (slots + ms) Q (F0 m (pc + 3) ls (.long r :: rest))) : W p l e R s m args below meth c H locs cells slots Q (F0 m pc ls st0) := by
  obtain ⟨hx, hb, hml, hown, hT, hK, hN, hE, hA⟩ := F
  have hF := va_free (wc := wc) hD hS hA isC hC
  refine va_calll hr hS (fun q _ h => hF q h) hF (fun r u t H1 locs1 ht hvm hpost hB hz1 hk1 hS1 => ?_)
  obtain ⟨hP1, hD1⟩ := hB
  rw [ht] at hP1
  obtain ⟨hP2, hD2⟩ := va_join hP hD isC isR hC hR hn hdis hk1 hF hP1 hD1
  exact kk r u H1 locs1 hpost hP2 hD2 hS1
/-- a new array: its class is the one that is known -/
theorem mx_newa (F : mx_F p s m args c cc nL own K A) {atype : ArrayType} {ty : FieldType} {cA : ClassId} (hw : Cond.arrayClass ty ∈ mx_T) (hty : newarray.typeOf atype = ty) (t0 : Nat) (ht : (mx_ty K)[t0]? = some (cA, ty)) (hP : va_P K.1 mx_cl ws H) (hD : va_D A ws) (hS : va_S A s.heap H locs)
    {n : Int32} {N' : Nat} {a0 : vp_A} (ha : ∀ cA : ClassId, vp_cell cA a0 = arrV cA N' (fun _ => defaultValue ty)) (hn : ¬ n < 0) (hN : n.toNatClampNeg = N') (hbytes : N' * componentBytes ty ≤ 536870912) (hcells : cells + 1 ≤ R.cells) (hslots : slots + N' ≤ R.slots) (hdg : decode cc pc = .ok (.newarray atype, 2)) (hob : ∀ C : String, ¬ ty = .object C)
    (kk : ∀ (q : Nat) (H1 : Heap), va_P K.1 mx_cl (ws ++ [(q, .inl (cA, a0))]) H1 → va_D A (ws ++ [(q, .inl (cA, a0))]) → va_S A s.heap H1 locs → W p l e R s m args below meth c H1 locs (cells + 1) (slots + N') Q (F0 m (pc + 2) ls (.ref q :: rest))) : W p l e R s m args below meth c H locs cells slots Q (F0 m pc ls (.int n :: rest)) := by
  obtain ⟨hx, hb, hml, hown, hT, hK, hN0, hE, hA⟩ := F
  refine va_newa hx hb (by rw [hty]; exact hT _ hw) hty hK hP hD hS hA ha hn hN hbytes hcells hslots hdg (fun q cB H1 hK1 hP1 hD1 hS1 => ?_)
  have e1 := (hK.2 t0 _ ht).2
  have e2 := (hK1.2 (mx_ty K).length (cB, ty) (by simp)).2
  have e3 : cB = cA := by
    cases ty <;> first | (exact absurd rfl (hob _)) | exact Option.some.inj (e2.symm.trans e1)
  subst e3
  exact kk q H1 hP1 hD1 hS1
/-- ends -/
theorem mx_rv {post : S → Prop} (F : mx_F p s m args c cc nL own K A) (hr : meth.sig.returnType = none) (hlk : meth.locks = false) (hP : va_P K.1 mx_cl ws H) (hD : va_D A ws) (hS : va_S A s.heap H locs) (u : S) (is : List Nat) (h2 : is.map (fun i => ws[i]?) = (w1 u).map some) (hnd : va_nd is = true) (hp : post u) (hc : cells ≤ mc) (hs : slots ≤ ms) (hdg : decode cc pc = .ok (.return_, 1)) :
    W p l e R s m args below meth c H locs cells slots (MQ below (va_Qv post (mx_B K A w1) A) args s mc ms A) (F0 m pc ls []) := by
  obtain ⟨hx, hb, hml, hown, hT, hK, hN, hE, hA⟩ := F
  have hw : is.filterMap (fun i => ws[i]?) = w1 u := by
    have h1 : (is.map (fun i => ws[i]?)).filterMap id = ((w1 u).map some).filterMap id := by rw [h2]
    simpa [List.filterMap_map] using h1
  have hP9 := hP.sub is hw
  have hD9 := hD.sub is hnd h2
  refine W.widen (k := mc) (n := ms) hc hs ?_
  exact W.vret hx hb hr (fun t ht hW => ⟨⟨u, rfl, hp, by rw [ht]; exact hP9, hD9⟩, hS.F ht⟩) hS.2.2 hdg hlk
theorem mx_ri {post : Int32 → S → Prop} {v : Int32} {ty : FieldType} (F : mx_F p s m args c cc nL own K A) (hr : meth.sig.returnType = some ty) (hlk : meth.locks = false) (hnr : narrow ty (.int v) = .int v) (hP : va_P K.1 mx_cl ws H) (hD : va_D A ws) (hS : va_S A s.heap H locs) (u : S) (is : List Nat) (h2 : is.map (fun i => ws[i]?) = (w1 u).map some) (hnd : va_nd is = true) (hp : post v u) (hc : cells ≤ mc) (hs : slots ≤ ms) (hdg : decode cc pc = .ok (.ireturn, 1)) :
    W p l e R s m args below meth c H locs cells slots (MQ below (va_Qi post (mx_B K A w1) A) args s mc ms A) (F0 m pc ls [.int v]) := by
  obtain ⟨hx, hb, hml, hown, hT, hK, hN, hE, hA⟩ := F
  have hw : is.filterMap (fun i => ws[i]?) = w1 u := by
    have h1 : (is.map (fun i => ws[i]?)).filterMap id = ((w1 u).map some).filterMap id := by rw [h2]
    simpa [List.filterMap_map] using h1
  have hP9 := hP.sub is hw
  have hD9 := hD.sub is hnd h2
  refine W.widen (k := mc) (n := ms) hc hs ?_
  exact W.zret hx hb hr hnr (fun t ht hW => ⟨⟨v, u, rfl, hp, by rw [ht]; exact hP9, hD9⟩, hS.F ht⟩) hS.2.2 hdg hlk
theorem mx_rl {post : Int64 → S → Prop} {v : Int64} (F : mx_F p s m args c cc nL own K A) (hr : meth.sig.returnType = some .long) (hlk : meth.locks = false) (hP : va_P K.1 mx_cl ws H) (hD : va_D A ws) (hS : va_S A s.heap H locs) (u : S) (is : List Nat) (h2 : is.map (fun i => ws[i]?) = (w1 u).map some) (hnd : va_nd is = true) (hp : post v u) (hc : cells ≤ mc) (hs : slots ≤ ms) (hdg : decode cc pc = .ok (.lreturn, 1)) :
    W p l e R s m args below meth c H locs cells slots (MQ below (va_Ql post (mx_B K A w1) A) args s mc ms A) (F0 m pc ls [.long v]) := by
  obtain ⟨hx, hb, hml, hown, hT, hK, hN, hE, hA⟩ := F
  have hw : is.filterMap (fun i => ws[i]?) = w1 u := by
    have h1 : (is.map (fun i => ws[i]?)).filterMap id = ((w1 u).map some).filterMap id := by rw [h2]
    simpa [List.filterMap_map] using h1
  have hP9 := hP.sub is hw
  have hD9 := hD.sub is hnd h2
  refine W.widen (k := mc) (n := ms) hc hs ?_
  exact W.lret hx hb hr (fun t ht hW => ⟨⟨v, u, rfl, hp, by rw [ht]; exact hP9, hD9⟩, hS.F ht⟩) hS.2.2 hdg hlk
end MXR

