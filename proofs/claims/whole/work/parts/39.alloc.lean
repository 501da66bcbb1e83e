/-! part 39: runs that make cells. GA: the cells stand at their addresses; CtA: a constructor's contract over its one blank object -/
def gRA (d mc ms : Nat) : Room := { frames := d, cells := mc, slots := ms, locals := 32 * d }
def gQA (D : va_G) (A : Nat → Prop) (P1 : va_W → Prop) : Array Value → State → Outcome → State → Prop :=
  fun _ st oc t => (∃ w1 : va_W, oc = .returned none ∧ P1 w1 ∧ va_P D gcl w1 t.heap ∧ va_D A w1) ∧ va_F A st t
def CtA (M : gM) (d mc ms : Nat) (as : List Value) (e0 : va_E) (P1 : (Nat → ClassId) → Nat → va_W → Prop) : Prop :=
  ∀ (l : Launch) (D : va_G) (cy : Nat → ClassId) (h0 sz : Nat), Met l M.1 (.code M.1 M.2.1 M.2.2.1 M.2.2.2 :: gw) (gRA d mc ms)
    (va_Pc (.ref h0 :: as) (fun U => U.heap.size = sz ∧ va_P D gcl [(h0, e0)] U.heap ∧ va_K D gcl (gT cy) U ∧ gN U))
    (gQA D (va_A [(h0, e0)] sz) (P1 cy h0)) mc ms (va_A [(h0, e0)] sz)
def GA (R : Room) (D : va_G) (A : Nat → Prop) (p : Program) (l : Launch) (e : Env) (s : State) (m : MethodId) (args : Array Value) (below : List Frame) (meth : Method) (c : Code) (Q : State → Prop) (ls : Array Slot) (pc : Nat) (st : List Value) (ws : va_W) (kc ks : Nat) : Prop :=
  ∀ (H : Heap) (locs : List Loc), va_P D gcl ws H → va_D A ws → va_S A s.heap H locs → W p l e R s m args below meth c H locs kc ks Q (F0 m pc ls st)
/-- the constant 'idx' of 'own' is the class number ci, of N fields; a blank object of it has the fields fs -/
def gNew (own : String) (idx ci N : Nat) (fs : List Value) : Prop := ∃ (Cn : String) (T : u_T) (ty : Nat → FieldType), gcl[ci]? = some (Cn, T, N) ∧ (∀ w ∈ u_ws Cn T N, w ∈ gw) ∧ (∀ k, k < N → parseFieldDescriptor (T k).2.2.1 = some (ty k)) ∧ Cond.classLink own idx Cn ∈ gw ∧ Cond.instantiable Cn N ∈ gw ∧ Cond.initialized Cn ∈ gw ∧ (∀ j, j < N → defaultValue (ty j) = vp_V fs j)
/-- the constant 'idx' of 'own' is the final field k of the class number ci, its own -/
def gFf (own : String) (idx ci k : Nat) (ty : FieldType) : Prop := ∃ (C : String) (T : u_T) (N : Nat) (ty0 : Nat → FieldType), gcl[ci]? = some (C, T, N) ∧ k < N ∧ (∀ w ∈ u_ws C T N, w ∈ gw) ∧ Cond.fieldLink own idx (T k).1 (T k).2.1 (T k).2.2.1 ∈ gw ∧ (T k).2.2.2 = true ∧ (T k).1 = own ∧ parseFieldDescriptor (T k).2.2.1 = some ty ∧ (∀ k, k < N → parseFieldDescriptor (T k).2.2.1 = some (ty0 k)) ∧ (∀ a, a < N → ∀ b, b < N → a ≠ b → (T a).2.1 ≠ (T b).2.1)
theorem va_D1 {A : Nat → Prop} {q : Nat} {e0 : va_E} (h : A q) : va_D A [(q, e0)] := by
  refine ⟨fun i j x y hx hy _ => ?_, fun k x hx => ?_⟩
  · have h1 : i < 1 := (List.getElem?_eq_some_iff.mp hx).1
    have h2 : j < 1 := (List.getElem?_eq_some_iff.mp hy).1
    omega
  · have h1 : k < 1 := (List.getElem?_eq_some_iff.mp hx).1
    obtain rfl : k = 0 := by omega
    cases hx
    exact h
theorem va_A1 {q : Nat} {e0 : va_E} {sz x : Nat} (h : va_A [(q, e0)] sz x) : x = q ∨ sz ≤ x := by
  rcases h with ⟨k, e, h⟩ | h
  · have h1 : k < 1 := (List.getElem?_eq_some_iff.mp h).1
    obtain rfl : k = 0 := by omega
    cases h
    exact Or.inl rfl
  · exact Or.inr h
theorem CtA.of {M : gM} {d mc ms : Nat} {as : List Value} {e0 : va_E} {P1 : (Nat → ClassId) → Nat → va_W → Prop} (hy : plainName M.1.cls = true) (hi : M.1.name = "<init>") (hn : ∀ h0, (lg_sl (.ref h0 :: as)).length ≤ M.2.2.1)
    (k : ∀ (p : Program) (l : Launch) (e : Env) (s : State) (m : MethodId) (args : Array Value) (below : List Frame) (meth : Method) (c : Code) (D : va_G) (cy : Nat → ClassId) (h0 : Nat) (A : Nat → Prop) (ls : Array Slot), gCtx M D cy A p s m args meth c → meth.name = "<init>" → lv_has ls M.2.2.1 (lv_args 0 (.ref h0 :: as)) → GA (gRA d mc ms) D A p l e s m args below meth c (MQ below (gQA D A (P1 cy h0)) args s mc ms A) ls 0 [] [(h0, e0)] 0 0) : CtA M d mc ms as e0 P1 := by
  intro l D cy h0 sz
  refine Met.ofW (cc := M.2.1) (maxL := M.2.2.1) (ret := M.2.2.2) hy rfl ?_
  intro p e s m args below meth c s₁ B hml hv
  obtain ⟨rfl, hsz, hP, hK, hN⟩ := hv
  have hts := atoms_spec (ws := .code M.1 M.2.1 M.2.2.1 M.2.2.2 :: gw) B.pre
  have hown : s.vm.findClass M.1.cls = some m.cls := findClass_of_methodNamed B.named
  have hin : meth.name = "<init>" := (name_of_methodNamed B.named B.method).1.trans hi
  subst hsz
  have hD : va_D (va_A [(h0, e0)] s.heap.size) [(h0, e0)] := va_D1 (Or.inl ⟨0, e0, rfl⟩)
  have hl := lv_entry (.ref h0 :: as) (n := M.2.2.1) (hn h0)
  rw [lg_entry_eq]
  exact k p l e s m _ below meth c D cy h0 _ _ ⟨B.exec, B.bytes, hml, B.returns, B.notSynchronized, fun w h => hts w (List.mem_cons_of_mem _ h), hown, hK, hN, fun q h => Or.inr h⟩ hin hl s.heap [] hP hD va_S.rf
section GAR
variable {M : gM} {R : Room} {D : va_G} {cy : Nat → ClassId} {A : Nat → Prop} {p : Program} {l : Launch} {e : Env} {s : State} {m : MethodId} {args : Array Value} {below : List Frame} {meth : Method} {c : Code} {Q : State → Prop} {ls : Array Slot} {pc : Nat} {st : List Value} {ws : va_W} {kc ks : Nat}
theorem a_aload_n {x : Fin 4} {i j q : Nat} {lv : List (Nat × Value)} (C : gCtx M D cy A p s m args meth c) (hl : lv_has ls M.2.2.1 lv) (hd : decode M.2.1 pc = .ok (.aload_n x, 1)) (hi : (x : Nat) = i) (hv : lv[j]? = some (i, .ref q)) (k : GA R D A p l e s m args below meth c Q ls (pc + 1) (.ref q :: st) ws kc ks) : GA R D A p l e s m args below meth c Q ls pc st ws kc ks :=
  fun H locs hP hD hS => lv_aload_n C.1 C.2.1 hd hi (lv_at hl j hv) (k H locs hP hD hS)
theorem a_iload_n {x : Fin 4} {i j : Nat} {v : Int32} {lv : List (Nat × Value)} (C : gCtx M D cy A p s m args meth c) (hl : lv_has ls M.2.2.1 lv) (hd : decode M.2.1 pc = .ok (.iload_n x, 1)) (hi : (x : Nat) = i) (hv : lv[j]? = some (i, .int v)) (k : GA R D A p l e s m args below meth c Q ls (pc + 1) (.int v :: st) ws kc ks) : GA R D A p l e s m args below meth c Q ls pc st ws kc ks :=
  fun H locs hP hD hS => lv_iload_n C.1 C.2.1 hd hi (lv_at hl j hv) (k H locs hP hD hS)
theorem a_astore_n {x : Fin 4} {i q : Nat} {lv lv' : List (Nat × Value)} (C : gCtx M D cy A p s m args meth c) (hl : lv_has ls M.2.2.1 lv) (hd : decode M.2.1 pc = .ok (.astore_n x, 1)) (hi : (x : Nat) = i) (hn : i < M.2.2.1) (hl' : (i, Value.ref q) :: lv.filter (fun q => !(q.1 == i) && !(q.1 + 1 == i && q.2.category == 2)) = lv') (k : ∀ ls', lv_has ls' M.2.2.1 lv' → GA R D A p l e s m args below meth c Q ls' (pc + 1) st ws kc ks) : GA R D A p l e s m args below meth c Q ls pc (.ref q :: st) ws kc ks :=
  fun H locs hP hD hS => lv_astore_n (lv' := lv') C.1 C.2.1 hd hi hl hn hl' (fun ls' hl2 => k ls' hl2 H locs hP hD hS)
theorem a_iconst {n : Int} {v : Int32} (C : gCtx M D cy A p s m args meth c) (hd : decode M.2.1 pc = .ok (.iconst n, 1)) (hv : Int32.ofInt n = v) (k : GA R D A p l e s m args below meth c Q ls (pc + 1) (.int v :: st) ws kc ks) : GA R D A p l e s m args below meth c Q ls pc st ws kc ks :=
  fun H locs hP hD hS => lv_iconst C.1 C.2.1 hd hv (k H locs hP hD hS)
theorem a_bipush {n : Int} {v : Int32} (C : gCtx M D cy A p s m args meth c) (hd : decode M.2.1 pc = .ok (.bipush n, 2)) (hv : (Int8.ofInt n).toInt32 = v) (k : GA R D A p l e s m args below meth c Q ls (pc + 2) (.int v :: st) ws kc ks) : GA R D A p l e s m args below meth c Q ls pc st ws kc ks :=
  fun H locs hP hD hS => lv_bipush C.1 C.2.1 hd hv (k H locs hP hD hS)
theorem a_sipush {n : Int} {v : Int32} (C : gCtx M D cy A p s m args meth c) (hd : decode M.2.1 pc = .ok (.sipush n, 3)) (hv : (Int16.ofInt n).toInt32 = v) (k : GA R D A p l e s m args below meth c Q ls (pc + 3) (.int v :: st) ws kc ks) : GA R D A p l e s m args below meth c Q ls pc st ws kc ks :=
  fun H locs hP hD hS => lv_sipush C.1 C.2.1 hd hv (k H locs hP hD hS)
theorem a_lconst {n : Fin 2} {v : Int64} (C : gCtx M D cy A p s m args meth c) (hd : decode M.2.1 pc = .ok (.lconst n, 1)) (hv : Int64.ofNat (n : Nat) = v) (k : GA R D A p l e s m args below meth c Q ls (pc + 1) (.long v :: st) ws kc ks) : GA R D A p l e s m args below meth c Q ls pc st ws kc ks :=
  fun H locs hP hD hS => lv_lconst C.1 C.2.1 hd hv (k H locs hP hD hS)
theorem a_dup {q : Nat} (C : gCtx M D cy A p s m args meth c) (hd : decode M.2.1 pc = .ok (.dup, 1)) (k : GA R D A p l e s m args below meth c Q ls (pc + 1) (.ref q :: .ref q :: st) ws kc ks) : GA R D A p l e s m args below meth c Q ls pc (.ref q :: st) ws kc ks :=
  fun H locs hP hD hS => lv_dup C.1 C.2.1 hd rfl (k H locs hP hD hS)
theorem a_imul {x y v : Int32} (C : gCtx M D cy A p s m args meth c) (hd : decode M.2.1 pc = .ok (.imul, 1)) (hv : x * y = v) (k : GA R D A p l e s m args below meth c Q ls (pc + 1) (.int v :: st) ws kc ks) : GA R D A p l e s m args below meth c Q ls pc (.int y :: .int x :: st) ws kc ks :=
  fun H locs hP hD hS => lv_imul C.1 C.2.1 hd (by rw [hv]; exact k H locs hP hD hS)
theorem a_mmax {x y v : Int32} {idx : Nat} (C : gCtx M D cy A p s m args meth c) (hls : ls.size = M.2.2.1) (hL : Cond.methodLink M.1.cls idx Lib.Math.max.name ∈ gw) (hf : 1 ≤ R.frames) (hw : (st.map fun v => v.category).sum + 13 ≤ R.locals) (hkc : kc ≤ R.cells) (hks : ks ≤ R.slots) (hd : decode M.2.1 pc = .ok (.invokestatic idx, 3)) (hv : (if x < y then y else x) = v) (k : GA R D A p l e s m args below meth c Q ls (pc + 3) (.int v :: st) ws kc ks) : GA R D A p l e s m args below meth c Q ls pc (.int y :: .int x :: st) ws kc ks :=
  fun H locs hP hD hS => va_mmax C.1 C.2.1 (C.2.2.1.trans hls.symm) C.2.2.2.2.2.2.1 (C.2.2.2.2.2.1 _ hL) (C.2.2.2.2.2.1 _ jm_max_s) (C.2.2.2.2.2.1 _ jm_i) (C.2.2.2.2.2.1 _ jm_max_c) hf hw hkc hks hd (by rw [hv]; exact k H locs hP hD hS)
theorem a_obj {a idx : Nat} (C : gCtx M D cy A p s m args meth c) (hls : ls.size = M.2.2.1) (h1 : Cond.methodLink M.1.cls idx objectInit ∈ gw) (h2 : Cond.instanceMethod objectInit ∈ gw) (h3 : Cond.code objectInit ⟨#[0xb1]⟩ 1 none ∈ gw) (hf : 1 ≤ R.frames) (hw : 12 ≤ R.locals) (hd : decode M.2.1 pc = .ok (.invokespecial idx, 3)) (k : GA R D A p l e s m args below meth c Q ls (pc + 3) [] ws kc ks) : GA R D A p l e s m args below meth c Q ls pc [.ref a] ws kc ks := by
  intro H locs hP hD hS
  refine W.objInit (g := F0 m pc ls [.ref a]) (a := a) (rest := []) C.1 C.2.1 C.2.2.2.2.2.2.1 (C.2.2.2.2.2.1 _ h1) (C.2.2.2.2.2.1 _ h2) (C.2.2.2.2.2.1 _ h3) rfl (hls.trans C.2.2.1.symm) rfl hd hf ?_ (k H locs hP hD hS)
  show 2 * 0 + 0 + 12 ≤ _
  omega
theorem a_new {idx ci N : Nat} {fs : List Value} (C : gCtx M D cy A p s m args meth c) (hn : gNew M.1.cls idx ci N fs) (hk : kc + 1 ≤ R.cells) (hs : ks + N ≤ R.slots) (hd : decode M.2.1 pc = .ok (.new idx, 3)) (k : ∀ q : Nat, GA R D A p l e s m args below meth c Q ls (pc + 3) (.ref q :: st) (ws ++ [(q, .inr (ci, fs))]) (kc + 1) (ks + N)) : GA R D A p l e s m args below meth c Q ls pc st ws kc ks := by
  intro H locs hP hD hS
  obtain ⟨Cn, T, ty, h1, h2, h3, h4, h5, h6, h7⟩ := hn
  have hts := C.2.2.2.2.2.1
  exact va_new C.1 C.2.1 hts h2 ty h3 C.2.2.2.2.2.2.1 (hts _ h4) (hts _ h5) (hts _ h6) C.2.2.2.2.2.2.2.1 hP hD hS C.2.2.2.2.2.2.2.2.2 h1 h7 hk hs hd (fun q H1 hP1 hD1 hS1 => k q H1 locs hP1 hD1 hS1)
theorem a_newI {n : Int32} {N : Nat} (C : gCtx M D cy A p s m args meth c) (ha : Cond.arrayClass .int ∈ gw) (hn : ¬ n < 0) (hN : n.toNatClampNeg = N) (hb : N * componentBytes .int ≤ 536870912) (hk : kc + 1 ≤ R.cells) (hs : ks + N ≤ R.slots) (hd : decode M.2.1 pc = .ok (.newarray .int, 2)) (k : ∀ q : Nat, GA R D A p l e s m args below meth c Q ls (pc + 2) (.ref q :: st) (ws ++ [(q, .inl (cy 0, N, .inl (nf z0)))]) (kc + 1) (ks + N)) : GA R D A p l e s m args below meth c Q ls pc (.int n :: st) ws kc ks := by
  intro H locs hP hD hS
  have hK := C.2.2.2.2.2.2.2.1
  refine va_newa (atype := .int) (ty := .int) (a0 := (N, .inl (nf z0))) C.1 C.2.1 (C.2.2.2.2.2.1 _ ha) rfl hK hP hD hS C.2.2.2.2.2.2.2.2.2 (fun _ => rfl) hn hN hb hk hs hd (fun q cA H1 hK1 hP1 hD1 hS1 => ?_)
  have e1 : s.vm.findClass ("[" ++ FieldType.int.toString) = some cA := (hK1.2 3 (cA, .int) rfl).2
  have e2 : s.vm.findClass ("[" ++ FieldType.int.toString) = some (cy 0) := (hK.2 0 (cy 0, .int) rfl).2
  have e3 : cA = cy 0 := Option.some.inj (e1.symm.trans e2)
  rw [e3] at hP1 hD1
  exact k q H1 locs hP1 hD1 hS1
theorem a_newJ {n : Int32} {N : Nat} (C : gCtx M D cy A p s m args meth c) (ha : Cond.arrayClass .long ∈ gw) (hn : ¬ n < 0) (hN : n.toNatClampNeg = N) (hb : N * componentBytes .long ≤ 536870912) (hk : kc + 1 ≤ R.cells) (hs : ks + N ≤ R.slots) (hd : decode M.2.1 pc = .ok (.newarray .long, 2)) (k : ∀ q : Nat, GA R D A p l e s m args below meth c Q ls (pc + 2) (.ref q :: st) (ws ++ [(q, .inl (cy 1, N, .inr (.inl (lf z0))))]) (kc + 1) (ks + N)) : GA R D A p l e s m args below meth c Q ls pc (.int n :: st) ws kc ks := by
  intro H locs hP hD hS
  have hK := C.2.2.2.2.2.2.2.1
  refine va_newa (atype := .long) (ty := .long) (a0 := (N, .inr (.inl (lf z0)))) C.1 C.2.1 (C.2.2.2.2.2.1 _ ha) rfl hK hP hD hS C.2.2.2.2.2.2.2.2.2 (fun _ => rfl) hn hN hb hk hs hd (fun q cA H1 hK1 hP1 hD1 hS1 => ?_)
  have e1 : s.vm.findClass ("[" ++ FieldType.long.toString) = some cA := (hK1.2 3 (cA, .long) rfl).2
  have e2 : s.vm.findClass ("[" ++ FieldType.long.toString) = some (cy 1) := (hK.2 1 (cy 1, .long) rfl).2
  have e3 : cA = cy 1 := Option.some.inj (e1.symm.trans e2)
  rw [e3] at hP1 hD1
  exact k q H1 locs hP1 hD1 hS1
theorem a_newZ {n : Int32} {N : Nat} (C : gCtx M D cy A p s m args meth c) (ha : Cond.arrayClass .boolean ∈ gw) (hn : ¬ n < 0) (hN : n.toNatClampNeg = N) (hb : N * componentBytes .boolean ≤ 536870912) (hk : kc + 1 ≤ R.cells) (hs : ks + N ≤ R.slots) (hd : decode M.2.1 pc = .ok (.newarray .boolean, 2)) (k : ∀ q : Nat, GA R D A p l e s m args below meth c Q ls (pc + 2) (.ref q :: st) (ws ++ [(q, .inl (cy 2, N, .inl (nf z0)))]) (kc + 1) (ks + N)) : GA R D A p l e s m args below meth c Q ls pc (.int n :: st) ws kc ks := by
  intro H locs hP hD hS
  have hK := C.2.2.2.2.2.2.2.1
  refine va_newa (atype := .boolean) (ty := .boolean) (a0 := (N, .inl (nf z0))) C.1 C.2.1 (C.2.2.2.2.2.1 _ ha) rfl hK hP hD hS C.2.2.2.2.2.2.2.2.2 (fun _ => rfl) hn hN hb hk hs hd (fun q cA H1 hK1 hP1 hD1 hS1 => ?_)
  have e1 : s.vm.findClass ("[" ++ FieldType.boolean.toString) = some cA := (hK1.2 3 (cA, .boolean) rfl).2
  have e2 : s.vm.findClass ("[" ++ FieldType.boolean.toString) = some (cy 2) := (hK.2 2 (cy 2, .boolean) rfl).2
  have e3 : cA = cy 2 := Option.some.inj (e1.symm.trans e2)
  rw [e3] at hP1 hD1
  exact k q H1 locs hP1 hD1 hS1
theorem a_putF {idx ci f j a : Nat} {fs : List Value} {v : Value} {ty : FieldType} {ws' : va_W} (C : gCtx M D cy A p s m args meth c) (hin : meth.name = "<init>") (hf : gFf M.1.cls idx ci f ty) (hq : ws[j]? = some (a, .inr (ci, fs))) (hl0 : f < fs.length) (hn : narrow ty v = v) (hfit : fits ty v = true) (hd : decode M.2.1 pc = .ok (.putfield idx, 3)) (hw : ws.set j (a, .inr (ci, fs.set f v)) = ws') (k : GA R D A p l e s m args below meth c Q ls (pc + 3) st ws' kc ks) : GA R D A p l e s m args below meth c Q ls pc (v :: .ref a :: st) ws kc ks := by
  intro H locs hP hD hS
  obtain ⟨C1, T, N, ty0, h1, h2, h3, h4, h5, h6, h7, h8, h9⟩ := hf
  have hts := C.2.2.2.2.2.1
  subst hw
  exact va_putF C.1 C.2.1 hts h3 ty0 h8 h9 C.2.2.2.2.2.2.1 C.2.2.2.2.2.2.2.1 hP hD hS j hq h1 f h2 (hts _ h4) (fun _ z => z) h5 hin h6 h7 hn hfit hl0 hd (fun H1 locs1 hP1 hD1 hS1 => k H1 locs1 hP1 hD1 hS1)
theorem a_put {idx ci f j a : Nat} {fs : List Value} {v : Value} {ty : FieldType} {ws' : va_W} (C : gCtx M D cy A p s m args meth c) (hf : gF M.1.cls idx ci f) (hp : gFp ci f ty) (hq : ws[j]? = some (a, .inr (ci, fs))) (hl0 : f < fs.length) (hn : narrow ty v = v) (hfit : fits ty v = true) (hd : decode M.2.1 pc = .ok (.putfield idx, 3)) (hw : ws.set j (a, .inr (ci, fs.set f v)) = ws') (k : GA R D A p l e s m args below meth c Q ls (pc + 3) st ws' kc ks) : GA R D A p l e s m args below meth c Q ls pc (v :: .ref a :: st) ws kc ks := by
  intro H locs hP hD hS
  obtain ⟨C1, T, N, h1, h2, h3, h4⟩ := hf
  obtain ⟨C2, T2, N2, ty0, g1, g2, g3, g4, g5⟩ := hp
  have e0 : (C1, T, N) = (C2, T2, N2) := Option.some.inj (h1.symm.trans g1)
  cases e0
  have hts := C.2.2.2.2.2.1
  subst hw
  rcases h4 with h4 | ⟨host, h4⟩
  · exact va_put C.1 C.2.1 hts h3 ty0 g4 g5 C.2.2.2.2.2.2.1 C.2.2.2.2.2.2.2.1 hP hD hS j hq h1 f h2 (hts _ h4) (fun _ z => z) g2 g3 hn hfit hl0 hd (fun H1 locs1 hP1 hD1 hS1 => k H1 locs1 hP1 hD1 hS1)
  · exact va_putN C.1 C.2.1 hts h3 ty0 g4 g5 C.2.2.2.2.2.2.1 C.2.2.2.2.2.2.2.1 hP hD hS j hq h1 f h2 (va_Nw.use rfl (C.2.2.2.2.2.2.2.2.1 _ h4)) (fun _ z => z) g2 g3 hn hfit hl0 hd (fun H1 locs1 hP1 hD1 hS1 => k H1 locs1 hP1 hD1 hS1)
theorem a_get {idx ci f j a : Nat} {fs : List Value} {v : Value} (C : gCtx M D cy A p s m args meth c) (hf : gF M.1.cls idx ci f) (hq : ws[j]? = some (a, .inr (ci, fs))) (hv : fs[f]? = some v) (hd : decode M.2.1 pc = .ok (.getfield idx, 3)) (k : GA R D A p l e s m args below meth c Q ls (pc + 3) (v :: st) ws kc ks) : GA R D A p l e s m args below meth c Q ls pc (.ref a :: st) ws kc ks := by
  intro H locs hP hD hS
  obtain ⟨C1, T, N, h1, h2, h3, h4⟩ := hf
  have hts := C.2.2.2.2.2.1
  have hk := k H locs hP hD hS
  rcases h4 with h4 | ⟨host, h4⟩
  · exact va_get C.1 C.2.1 hts h3 C.2.2.2.2.2.2.1 C.2.2.2.2.2.2.2.1 hP j hq h1 f h2 (hts _ h4) (fun _ z => z) hv hd hk
  · exact va_getN C.1 C.2.1 hts h3 C.2.2.2.2.2.2.1 C.2.2.2.2.2.2.2.1 hP j hq h1 f h2 (va_Nw.use rfl (C.2.2.2.2.2.2.2.2.1 _ h4)) (fun _ z => z) hv hd hk
theorem a_vret {mc ms : Nat} {P1 : va_W → Prop} (C : gCtx M D cy A p s m args meth c) (hr : M.2.2.2 = none) (hd : decode M.2.1 pc = .ok (.return_, 1)) (hk : kc ≤ mc) (hs : ks ≤ ms) (k : P1 ws) : GA R D A p l e s m args below meth c (MQ below (gQA D A P1) args s mc ms A) ls pc [] ws kc ks := by
  intro H locs hP hD hS
  refine W.widen hk hs ?_
  exact W.vret C.1 C.2.1 (C.2.2.2.1.trans hr) (fun t ht hW => ⟨⟨ws, rfl, k, by rw [ht]; exact hP, hD⟩, hS.F ht⟩) hS.2.2 hd C.2.2.2.2.1
theorem a_preS {as : List Value} {q : Nat} {e0 : va_E} {H : Heap} (hP : va_P D gcl [(q, e0)] H) (hK : va_K D gcl (gT cy) s) (hN : gN s) :
    PreS s H (va_Pc (.ref q :: as) (fun U => U.heap.size = H.size ∧ va_P D gcl [(q, e0)] U.heap ∧ va_K D gcl (gT cy) U ∧ gN U)) (.ref q :: as) := by
  refine ⟨fun a U g mk q => ?_, fun U hU hW => ⟨rfl, by rw [hU], by rw [hU]; exact hP, va_K.moved hW.alike hK, gN_warm hW hN⟩⟩
  obtain ⟨q0, q1, qP, qK, qN⟩ := q
  exact ⟨q0, q1, qP, va_K.moved (u := U) (U := U.calling g mk a) (Vm.Alike.refl U.vm) qK, gN_same (s := U) (U := U.calling g mk a) rfl qN⟩
/-- a constructor's call on the object that was made last -/
theorem a_call {M' : gM} {d' mc ms n idx q : Nat} {as st0 : List Value} {e0 : va_E} {pre : va_W} {P1 : (Nat → ClassId) → Nat → va_W → Prop} (C : gCtx M D cy A p s m args meth c) (hc : CtA M' d' mc ms as e0 P1) (hm : gMk M' n) (hr : M'.2.2.2 = none) (hi : M'.1.name = "<init>") (hin : Cond.instanceMethod M'.1 ∈ gw) (hL : Cond.methodLink M.1.cls idx M'.1 ∈ gw ∨ ∃ host, Cond.methodLinkNest M.1.cls idx M'.1 host ∈ gnl)
    (hR : d' + 1 ≤ R.frames ∧ 8 + (M'.2.2.1 + 11) + 32 * d' ≤ R.locals) (hls : ls.size = M.2.2.1) (hn : as.length = n) (hW : (st.map fun v => v.category).sum ≤ 8) (hf : kc + mc ≤ R.cells ∧ ks + ms ≤ R.slots) (hd : decode M.2.1 pc = .ok (.invokespecial idx, 3)) (hst : st0 = as.reverse ++ .ref q :: st)
    (k : ∀ w1 : va_W, P1 cy q w1 → GA R D A p l e s m args below meth c Q ls (pc + 3) st (pre ++ w1) (kc + mc) (ks + ms)) : GA R D A p l e s m args below meth c Q ls pc st0 (pre ++ [(q, e0)]) kc ks := by
  intro H locs hP hD hS
  obtain ⟨hm1, hm2, hm3, hm4⟩ := hm
  rw [hr] at hm1
  have hts := C.2.2.2.2.2.1
  have hcM := hc l D cy q H.size
  rw [hr] at hcM
  have hq : (pre ++ [(q, e0)])[pre.length]? = some (q, e0) := by simp
  have hPc : va_P D gcl [(q, e0)] H := by
    intro j x hx
    have h1 : j < 1 := (List.getElem?_eq_some_iff.mp hx).1
    obtain rfl : j = 0 := by omega
    cases hx
    exact hP pre.length _ hq
  have hpre := a_preS (as := as) hPc C.2.2.2.2.2.2.2.1 C.2.2.2.2.2.2.2.2.1
  have hrun : va_Run p l e R s m args below meth c H locs kc ks mc ms (F0 m pc ls st0) st (gQA D (va_A [(q, e0)] H.size) (P1 cy q) (Value.ref q :: as).toArray) (va_A [(q, e0)] H.size) := by
    rcases hL with hL | ⟨host, hL⟩
    · exact va_runI (As := as) (rest := st) (b := q) ⟨C.1, C.2.1, C.2.2.1, C.2.2.2.2.2.2.1, hts⟩ hcM ⟨callB_of (ws' := gw) n hts (gw_good hm1) rfl rfl rfl (hts _ hm2) (hts _ hL) hm3 hR, hi, hts _ hin⟩ hpre rfl hn hls hst (lv_room hW) hd hf
    · exact va_runIN (As := as) (rest := st) (b := q) ⟨C.1, C.2.1, C.2.2.1, C.2.2.2.2.2.2.1, hts⟩ hcM ⟨va_cnB (ws' := gw) n hts (gw_good hm1) rfl rfl rfl (C.2.2.2.2.2.2.2.2.1 _ hL) (hts _ hm2) hm3 hR, hi, hts _ hin⟩ hpre rfl hn hls hst (lv_room hW) hd hf
  have hF : ∀ x, va_A [(q, e0)] H.size x → A x := by
    intro x h
    rcases va_A1 h with h | h
    · rw [h]; exact hD.2 pre.length _ hq
    · exact C.2.2.2.2.2.2.2.2.2 x (Nat.le_trans hS.1 h)
  intro T hT X
  obtain ⟨v, st₀, t, T', L, h0, X', hLc, e1, e2, ⟨⟨w1, hv, hp, hP1, hD1⟩, hz, hk⟩, stp⟩ := hrun T hT X
  cases hv
  rw [h0] at hz hk
  have hpl : ∀ (j : Nat) (x : Nat × va_E), pre[j]? = some x → (pre ++ [(q, e0)])[j]? = some x ∧ j < pre.length := by
    intro j x hx
    have hj := (List.getElem?_eq_some_iff.mp hx).1
    exact ⟨by rw [List.getElem?_append_left hj]; exact hx, hj⟩
  have hno : ∀ (j : Nat) (x : Nat × va_E), pre[j]? = some x → x.1 < H.size ∧ ¬ va_A [(q, e0)] H.size x.1 := by
    intro j x hx
    obtain ⟨g1, g2⟩ := hpl j x hx
    have hlt := (hP j x g1).lt
    refine ⟨hlt, fun z => ?_⟩
    rcases va_A1 z with z | z
    · have := hD.1 j pre.length x _ g1 hq z
      omega
    · omega
  have hP2 : va_P D gcl (pre ++ w1) T'.heap := va_P.app (fun j x hx => (hP j x (hpl j x hx).1).kept (by rw [e1]; exact hk x.1 (hno j x hx).1 (hno j x hx).2)) (by rw [e1]; exact hP1)
  have hD2 : va_D A (pre ++ w1) := va_D.app ⟨fun i j x y hx hy hxy => hD.1 i j x y (hpl i x hx).1 (hpl j y hy).1 hxy, fun j x hx => hD.2 j x (hpl j x hx).1⟩ (hD1.weaken (fun _ x _ h => hF x.1 h)) (fun i j x y hx hy hxy => (hno i x hx).2 (by rw [hxy]; exact hD1.2 j y hy))
  obtain ⟨t2, a1, b1⟩ := k w1 hp T'.heap (locs ++ L) hP2 hD2
    ⟨Nat.le_trans hS.1 (by rw [e1]; exact hz), fun x h1 h2 => by rw [e1, hk x (Nat.lt_of_lt_of_le h1 hS.1) (fun z => h2 (hF x z))]; exact hS.2.1 x h1 h2, fun x hx => by
      rcases List.mem_append.mp hx with h | h
      · exact hS.2.2 x h
      · exact hF _ (hLc x h)⟩ T' rfl X'
  exact ⟨t2, stp t2 a1, b1⟩
end GAR
