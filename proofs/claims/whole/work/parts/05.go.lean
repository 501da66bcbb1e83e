/-! A pure picture of a run. A world is a list of cells; a reference in it is a PLACE in that list; 'ad' gives each place its address, 'cy' each kind of array its array type. Go: from every machine state that this picture is of, the method comes to its end with Post. Ct: a method's contract in these words. -/
abbrev gM : Type := MethodName × ByteArray × Nat × Option FieldType
abbrev gcl : List vw_C := [(RX0, TX0, 3), (RX1, TX1, 11), (RX2, TX2, 1), (RX3, TX3, 2), (RX4, TX4, 4), (RX5, TX5, 6), (RX6, TX6, 2), (RX7, TX7, 10), (RX8, TX8, 37)]
def gw : List Cond := lw_tbl.filter goodWord
theorem gw_at {w : Cond} (i : Nat) (h : lw_tbl[i]? = some w) (hg : goodWord w = true) : w ∈ gw := List.mem_filter.mpr ⟨List.mem_of_getElem? h, hg⟩
def gIsN : Cond → Bool
  | .fieldLinkNest _ _ _ _ _ _ => true
  | .methodLinkNest _ _ _ _ => true
  | _ => false
def gnl : List Cond := lw_tbl.filter gIsN
theorem gnl_at {w : Cond} (i : Nat) (h : lw_tbl[i]? = some w) (hg : gIsN w = true) : w ∈ gnl := List.mem_filter.mpr ⟨List.mem_of_getElem? h, hg⟩
def gN (U : State) : Prop := ∀ w ∈ gnl, va_Nw w U
theorem gN_warm {s U : State} (hW : s.WarmedH U.vm) (h : gN s) : gN U := by
  intro w hw
  have h1 := h w hw
  have h2 := (List.mem_filter.mp hw).2
  cases w <;> first | exact va_Nw.warmF hW h1 | exact va_Nw.warmM hW h1 | exact absurd h2 (by decide) | simp [gIsN] at h2
theorem gN_same {s U : State} (hv : s.vm = U.vm) (h : gN s) : gN U := by
  intro w hw
  have h1 := h w hw
  have h2 := (List.mem_filter.mp hw).2
  cases w <;> first | exact va_Nw.same rfl hv h1 | exact absurd h2 (by decide) | simp [gIsN] at h2
def gR (d : Nat) : Room := { frames := d, cells := 0, slots := 0, locals := 32 * d }
def cV (ad : Nat → Nat) : Value → Value
  | .ref k => .ref (ad k)
  | v => v
theorem cV_cat (ad : Nat → Nat) (v : Value) : (cV ad v).category = v.category := by cases v <;> rfl
def cE (ad : Nat → Nat) (cy : Nat → ClassId) : va_E → va_E
  | .inl (t, a) => .inl (cy t, a)
  | .inr (ci, fs) => .inr (ci, fs.map (cV ad))
def gC (ad : Nat → Nat) (cy : Nat → ClassId) (ws : List va_E) : va_W := ws.mapIdx (fun k e => (ad k, cE ad cy e))
abbrev gT (cy : Nat → ClassId) : List (ClassId × FieldType) := [(cy 0, .int), (cy 1, .long), (cy 2, .boolean)]
theorem gC_at {ad : Nat → Nat} {cy : Nat → ClassId} {ws : List va_E} {k : Nat} {e : va_E} (h : ws[k]? = some e) : (gC ad cy ws)[k]? = some (ad k, cE ad cy e) := by
  simp [gC, h]
theorem gC_set {ad : Nat → Nat} {cy : Nat → ClassId} (ws : List va_E) (k : Nat) (e : va_E) : (gC ad cy ws).set k (ad k, cE ad cy e) = gC ad cy (ws.set k e) := by
  apply List.ext_getElem?
  intro j
  simp only [gC, List.getElem?_set, List.getElem?_mapIdx, List.length_mapIdx]
  by_cases hj : k = j
  · subst hj
    by_cases hl : k < ws.length <;> simp [hl]
  · simp [hj]
def cL (ad : Nat → Nat) (lv : List (Nat × Value)) : List (Nat × Value) := lv.map (fun q => (q.1, cV ad q.2))
def gQ (D : va_G) (cy : Nat → ClassId) (ad : Nat → Nat) (A : Nat → Prop) (Post : Option Value → List va_E → Prop) : Array Value → State → Outcome → State → Prop :=
  fun _ st oc t => (∃ (v : Option Value) (u : List va_E), oc = .returned (v.map (cV ad)) ∧ Post v u ∧ va_P D gcl (gC ad cy u) t.heap ∧ va_D A (gC ad cy u)) ∧ va_F A st t
def gCtx (M : gM) (D : va_G) (cy : Nat → ClassId) (A : Nat → Prop) (p : Program) (s : State) (m : MethodId) (args : Array Value) (meth : Method) (c : Code) : Prop :=
  p.tables.exec = Jvm.exec ∧ c.code = M.2.1 ∧ c.maxLocals = M.2.2.1 ∧ meth.sig.returnType = M.2.2.2 ∧ meth.locks = false ∧ (∀ w ∈ gw, w.before args s = true) ∧ s.vm.findClass M.1.cls = some m.cls ∧ va_K D gcl (gT cy) s ∧ gN s ∧ ∀ q, s.heap.size ≤ q → A q
def Go (M : gM) (d : Nat) (pc : Nat) (lv : List (Nat × Value)) (st : List Value) (ws : List va_E) (Post : Option Value → List va_E → Prop) : Prop :=
  ∀ (p : Program) (l : Launch) (e : Env) (s : State) (m : MethodId) (args : Array Value) (below : List Frame) (meth : Method) (c : Code) (D : va_G) (cy : Nat → ClassId) (ad : Nat → Nat) (A : Nat → Prop) (H : Heap) (locs : List Loc) (ls : Array Slot),
    gCtx M D cy A p s m args meth c → va_P D gcl (gC ad cy ws) H → va_D A (gC ad cy ws) → va_S A s.heap H locs → lv_has ls M.2.2.1 (cL ad lv) →
    W p l e (gR d) s m args below meth c H locs 0 0 (MQ below (gQ D cy ad A Post) args s 0 0 A) (F0 m pc ls (st.map (cV ad)))
def Ct (M : gM) (d : Nat) (as : List Value) (ws : List va_E) (Post : Option Value → List va_E → Prop) : Prop :=
  ∀ (l : Launch) (D : va_G) (cy : Nat → ClassId) (ad : Nat → Nat) (sz : Nat), Met l M.1 (.code M.1 M.2.1 M.2.2.1 M.2.2.2 :: gw) (gR d)
    (va_Pc (as.map (cV ad)) (fun U => U.heap.size = sz ∧ va_P D gcl (gC ad cy ws) U.heap ∧ va_K D gcl (gT cy) U ∧ gN U ∧ va_D (fun _ => True) (gC ad cy ws)))
    (gQ D cy ad (va_A (gC ad cy ws) sz) Post) 0 0 (va_A (gC ad cy ws) sz)
/-- the end of a run: this answer, this world -/
def gE (v : Option Value) (w : List va_E) : Option Value → List va_E → Prop := fun v' u => v' = v ∧ u = w
theorem lv_args_map (ad : Nat → Nat) : ∀ (as : List Value) (i : Nat), lv_args i (as.map (cV ad)) = cL ad (lv_args i as)
  | [], _ => rfl
  | v :: vs, i => by
    show (i, cV ad v) :: lv_args (if (cV ad v).category = 2 then i + 2 else i + 1) (vs.map (cV ad)) = (i, cV ad v) :: cL ad (lv_args (if v.category = 2 then i + 2 else i + 1) vs)
    rw [cV_cat, lv_args_map ad vs]
theorem lg_sl_len (ad : Nat → Nat) : ∀ (as : List Value), (lg_sl (as.map (cV ad))).length = (lg_sl as).length
  | [] => rfl
  | v :: vs => by
    have ih := lg_sl_len ad vs
    simp only [lg_sl, List.map_cons, List.flatMap_cons, List.length_append, cV_cat] at ih ⊢
    rw [ih]
    by_cases h : v.category = 2 <;> simp [h]
theorem Ct.of {M : gM} {d : Nat} {as : List Value} {ws : List va_E} {Post : Option Value → List va_E → Prop} (hy : plainName M.1.cls = true) (hn : (lg_sl as).length ≤ M.2.2.1) (k : Go M d 0 (lv_args 0 as) [] ws Post) : Ct M d as ws Post := by
  intro l D cy ad sz
  refine Met.ofW (cc := M.2.1) (maxL := M.2.2.1) (ret := M.2.2.2) hy rfl ?_
  intro p e s m args below meth c s₁ B hml hv
  obtain ⟨rfl, hsz, hP, hK, hN, hD0⟩ := hv
  have hts := atoms_spec (ws := .code M.1 M.2.1 M.2.2.1 M.2.2.2 :: gw) B.pre
  have hown : s.vm.findClass M.1.cls = some m.cls := findClass_of_methodNamed B.named
  subst hsz
  have hD := hD0.self (sz := s.heap.size)
  have hl := lv_entry (as.map (cV ad)) (n := M.2.2.1) (by rw [lg_sl_len]; exact hn)
  rw [lg_entry_eq]
  rw [lv_args_map] at hl
  exact k p l e s m _ below meth c D cy ad _ s.heap [] _ ⟨B.exec, B.bytes, hml, B.returns, B.notSynchronized, fun w h => hts w (List.mem_cons_of_mem _ h), hown, hK, hN, fun q h => Or.inr h⟩ hP hD va_S.rf hl
theorem lv_filter_map (ad : Nat → Nat) (i : Nat) (lv : List (Nat × Value)) : (cL ad lv).filter (fun q => !(q.1 == i) && !(q.1 + 1 == i && q.2.category == 2)) = cL ad (lv.filter (fun q => !(q.1 == i) && !(q.1 + 1 == i && q.2.category == 2))) := by
  induction lv with
  | nil => rfl
  | cons q t ih =>
    simp only [cL, List.map_cons, List.filter_cons, cV_cat] at ih ⊢
    split
    · rw [List.map_cons, ih]
    · rw [ih]
theorem lv_filter_map2 (ad : Nat → Nat) (i : Nat) (lv : List (Nat × Value)) : (cL ad lv).filter (fun q => !(q.1 == i) && (!(q.1 == i + 1) && !(q.1 + 1 == i && q.2.category == 2))) = cL ad (lv.filter (fun q => !(q.1 == i) && (!(q.1 == i + 1) && !(q.1 + 1 == i && q.2.category == 2)))) := by
  induction lv with
  | nil => rfl
  | cons q t ih =>
    simp only [cL, List.map_cons, List.filter_cons, cV_cat] at ih ⊢
    split
    · rw [List.map_cons, ih]
    · rw [ih]
theorem cL_at {ad : Nat → Nat} {lv : List (Nat × Value)} {k i : Nat} {v : Value} (h : lv[k]? = some (i, v)) : (cL ad lv)[k]? = some (i, cV ad v) := by simp [cL, h]
section GR
variable {M : gM} {d pc : Nat} {lv : List (Nat × Value)} {st : List Value} {ws : List va_E} {Post : Option Value → List va_E → Prop}
theorem g_iconst {n : Int} {v : Int32} (hd : decode M.2.1 pc = .ok (.iconst n, 1)) (hv : Int32.ofInt n = v) (k : Go M d (pc + 1) lv (.int v :: st) ws Post) : Go M d pc lv st ws Post := by
  intro p l e s m args below meth c D cy ad A H locs ls C hP hD hS hl
  exact lv_iconst C.1 C.2.1 hd hv (k p l e s m args below meth c D cy ad A H locs ls C hP hD hS hl)
theorem g_bipush {n : Int} {v : Int32} (hd : decode M.2.1 pc = .ok (.bipush n, 2)) (hv : (Int8.ofInt n).toInt32 = v) (k : Go M d (pc + 2) lv (.int v :: st) ws Post) : Go M d pc lv st ws Post := by
  intro p l e s m args below meth c D cy ad A H locs ls C hP hD hS hl
  exact lv_bipush C.1 C.2.1 hd hv (k p l e s m args below meth c D cy ad A H locs ls C hP hD hS hl)
theorem g_sipush {n : Int} {v : Int32} (hd : decode M.2.1 pc = .ok (.sipush n, 3)) (hv : (Int16.ofInt n).toInt32 = v) (k : Go M d (pc + 3) lv (.int v :: st) ws Post) : Go M d pc lv st ws Post := by
  intro p l e s m args below meth c D cy ad A H locs ls C hP hD hS hl
  exact lv_sipush C.1 C.2.1 hd hv (k p l e s m args below meth c D cy ad A H locs ls C hP hD hS hl)
theorem g_lconst {n : Fin 2} {v : Int64} (hd : decode M.2.1 pc = .ok (.lconst n, 1)) (hv : Int64.ofNat (n : Nat) = v) (k : Go M d (pc + 1) lv (.long v :: st) ws Post) : Go M d pc lv st ws Post := by
  intro p l e s m args below meth c D cy ad A H locs ls C hP hD hS hl
  exact lv_lconst C.1 C.2.1 hd hv (k p l e s m args below meth c D cy ad A H locs ls C hP hD hS hl)
theorem g_ldc2 {index : Nat} {v : Int64} (hw : Cond.constantLong M.1.cls index v ∈ gw) (hd : decode M.2.1 pc = .ok (.ldc2_w index, 3)) (k : Go M d (pc + 3) lv (.long v :: st) ws Post) : Go M d pc lv st ws Post := by
  intro p l e s m args below meth c D cy ad A H locs ls C hP hD hS hl
  exact lv_ldc2 C.1 C.2.1 C.2.2.2.2.2.2.1 (C.2.2.2.2.2.1 _ hw) hd (k p l e s m args below meth c D cy ad A H locs ls C hP hD hS hl)
theorem g_iload_n {x : Fin 4} {i j : Nat} {v : Int32} (hd : decode M.2.1 pc = .ok (.iload_n x, 1)) (hi : (x : Nat) = i) (hv : lv[j]? = some (i, .int v)) (k : Go M d (pc + 1) lv (.int v :: st) ws Post) : Go M d pc lv st ws Post := by
  intro p l e s m args below meth c D cy ad A H locs ls C hP hD hS hl
  exact lv_iload_n C.1 C.2.1 hd hi (lv_at hl j (cL_at hv)) (k p l e s m args below meth c D cy ad A H locs ls C hP hD hS hl)
theorem g_iload {i j : Nat} {v : Int32} (hd : decode M.2.1 pc = .ok (.iload i, 2)) (hv : lv[j]? = some (i, .int v)) (k : Go M d (pc + 2) lv (.int v :: st) ws Post) : Go M d pc lv st ws Post := by
  intro p l e s m args below meth c D cy ad A H locs ls C hP hD hS hl
  exact lv_iload C.1 C.2.1 hd (lv_at hl j (cL_at hv)) (k p l e s m args below meth c D cy ad A H locs ls C hP hD hS hl)
theorem g_lload_n {x : Fin 4} {i j : Nat} {v : Int64} (hd : decode M.2.1 pc = .ok (.lload_n x, 1)) (hi : (x : Nat) = i) (hv : lv[j]? = some (i, .long v)) (k : Go M d (pc + 1) lv (.long v :: st) ws Post) : Go M d pc lv st ws Post := by
  intro p l e s m args below meth c D cy ad A H locs ls C hP hD hS hl
  exact lv_lload_n C.1 C.2.1 hd hi (lv_at hl j (cL_at hv)) (k p l e s m args below meth c D cy ad A H locs ls C hP hD hS hl)
theorem g_lload {i j : Nat} {v : Int64} (hd : decode M.2.1 pc = .ok (.lload i, 2)) (hv : lv[j]? = some (i, .long v)) (k : Go M d (pc + 2) lv (.long v :: st) ws Post) : Go M d pc lv st ws Post := by
  intro p l e s m args below meth c D cy ad A H locs ls C hP hD hS hl
  exact lv_lload C.1 C.2.1 hd (lv_at hl j (cL_at hv)) (k p l e s m args below meth c D cy ad A H locs ls C hP hD hS hl)
theorem g_aload_n {x : Fin 4} {i j q : Nat} (hd : decode M.2.1 pc = .ok (.aload_n x, 1)) (hi : (x : Nat) = i) (hv : lv[j]? = some (i, .ref q)) (k : Go M d (pc + 1) lv (.ref q :: st) ws Post) : Go M d pc lv st ws Post := by
  intro p l e s m args below meth c D cy ad A H locs ls C hP hD hS hl
  exact lv_aload_n C.1 C.2.1 hd hi (lv_at hl j (cL_at hv)) (k p l e s m args below meth c D cy ad A H locs ls C hP hD hS hl)
theorem g_aload {i j q : Nat} (hd : decode M.2.1 pc = .ok (.aload i, 2)) (hv : lv[j]? = some (i, .ref q)) (k : Go M d (pc + 2) lv (.ref q :: st) ws Post) : Go M d pc lv st ws Post := by
  intro p l e s m args below meth c D cy ad A H locs ls C hP hD hS hl
  exact lv_aload C.1 C.2.1 hd (lv_at hl j (cL_at hv)) (k p l e s m args below meth c D cy ad A H locs ls C hP hD hS hl)
theorem g_istore_n {x : Fin 4} {i : Nat} {v : Int32} {lv' : List (Nat × Value)} (hd : decode M.2.1 pc = .ok (.istore_n x, 1)) (hi : (x : Nat) = i) (hn : i < M.2.2.1) (hl' : (i, Value.int v) :: lv.filter (fun q => !(q.1 == i) && !(q.1 + 1 == i && q.2.category == 2)) = lv') (k : Go M d (pc + 1) lv' st ws Post) : Go M d pc lv (.int v :: st) ws Post := by
  intro p l e s m args below meth c D cy ad A H locs ls C hP hD hS hl
  refine lv_istore_n (lv' := cL ad lv') C.1 C.2.1 hd hi hl hn ?_ (fun ls hl => k p l e s m args below meth c D cy ad A H locs ls C hP hD hS hl)
  rw [lv_filter_map, ← hl']; rfl
theorem g_istore {i : Nat} {v : Int32} {lv' : List (Nat × Value)} (hd : decode M.2.1 pc = .ok (.istore i, 2)) (hn : i < M.2.2.1) (hl' : (i, Value.int v) :: lv.filter (fun q => !(q.1 == i) && !(q.1 + 1 == i && q.2.category == 2)) = lv') (k : Go M d (pc + 2) lv' st ws Post) : Go M d pc lv (.int v :: st) ws Post := by
  intro p l e s m args below meth c D cy ad A H locs ls C hP hD hS hl
  refine lv_istore (lv' := cL ad lv') C.1 C.2.1 hd hl hn ?_ (fun ls hl => k p l e s m args below meth c D cy ad A H locs ls C hP hD hS hl)
  rw [lv_filter_map, ← hl']; rfl
theorem g_lstore_n {x : Fin 4} {i : Nat} {v : Int64} {lv' : List (Nat × Value)} (hd : decode M.2.1 pc = .ok (.lstore_n x, 1)) (hi : (x : Nat) = i) (hn : i + 1 < M.2.2.1) (hl' : (i, Value.long v) :: lv.filter (fun q => !(q.1 == i) && (!(q.1 == i + 1) && !(q.1 + 1 == i && q.2.category == 2))) = lv') (k : Go M d (pc + 1) lv' st ws Post) : Go M d pc lv (.long v :: st) ws Post := by
  intro p l e s m args below meth c D cy ad A H locs ls C hP hD hS hl
  refine lv_lstore_n (lv' := cL ad lv') C.1 C.2.1 hd hi hl hn ?_ (fun ls hl => k p l e s m args below meth c D cy ad A H locs ls C hP hD hS hl)
  rw [lv_filter_map2, ← hl']; rfl
theorem g_lstore {i : Nat} {v : Int64} {lv' : List (Nat × Value)} (hd : decode M.2.1 pc = .ok (.lstore i, 2)) (hn : i + 1 < M.2.2.1) (hl' : (i, Value.long v) :: lv.filter (fun q => !(q.1 == i) && (!(q.1 == i + 1) && !(q.1 + 1 == i && q.2.category == 2))) = lv') (k : Go M d (pc + 2) lv' st ws Post) : Go M d pc lv (.long v :: st) ws Post := by
  intro p l e s m args below meth c D cy ad A H locs ls C hP hD hS hl
  refine lv_lstore (lv' := cL ad lv') C.1 C.2.1 hd hl hn ?_ (fun ls hl => k p l e s m args below meth c D cy ad A H locs ls C hP hD hS hl)
  rw [lv_filter_map2, ← hl']; rfl
theorem g_iinc {i j : Nat} {n : Int} {x v : Int32} {lv' : List (Nat × Value)} (hd : decode M.2.1 pc = .ok (.iinc i n, 3)) (hj : lv[j]? = some (i, .int x)) (hv : x + Int32.ofInt n = v) (hn : i < M.2.2.1) (hl' : (i, Value.int v) :: lv.filter (fun q => !(q.1 == i) && !(q.1 + 1 == i && q.2.category == 2)) = lv') (k : Go M d (pc + 3) lv' st ws Post) : Go M d pc lv st ws Post := by
  intro p l e s m args below meth c D cy ad A H locs ls C hP hD hS hl
  refine lv_iinc (lv' := cL ad lv') (k := j) C.1 C.2.1 hd hl (cL_at hj) hv hn ?_ (fun ls hl => k p l e s m args below meth c D cy ad A H locs ls C hP hD hS hl)
  rw [lv_filter_map, ← hl']; rfl
/-- fewer locals, in another order -/
theorem g_lv {lv' : List (Nat × Value)} (ks : List Nat) (h : lv_pick lv ks = lv') (k : Go M d pc lv' st ws Post) : Go M d pc lv st ws Post := by
  intro p l e s m args below meth c D cy ad A H locs ls C hP hD hS hl
  refine k p l e s m args below meth c D cy ad A H locs ls C hP hD hS (lv_sub hl ks ?_)
  subst h
  clear k
  induction ks with
  | nil => rfl
  | cons a t ih =>
    simp only [lv_pick, cL, List.filterMap_cons, List.getElem?_map] at ih ⊢
    cases hh : lv[a]? <;> simp [ih]
theorem g_ws {ws' : List va_E} (h : ws = ws') (k : Go M d pc lv st ws' Post) : Go M d pc lv st ws Post := h ▸ k
theorem g_st {st' : List Value} (h : st = st') (k : Go M d pc lv st' ws Post) : Go M d pc lv st ws Post := h ▸ k
theorem g_topi {x y : Int32} (h : x = y) (k : Go M d pc lv (.int y :: st) ws Post) : Go M d pc lv (.int x :: st) ws Post := h ▸ k
theorem g_post {P : Option Value → List va_E → Prop} (h : ∀ v u, P v u → Post v u) (k : Go M d pc lv st ws P) : Go M d pc lv st ws Post := by
  intro p l e s m args below meth c D cy ad A H locs ls C hP hD hS hl T hT X
  obtain ⟨t, a1, o, b1, b2, ⟨⟨v, u, c1, c2, c3, c4⟩, b3⟩, b4⟩ := k p l e s m args below meth c D cy ad A H locs ls C hP hD hS hl T hT X
  exact ⟨t, a1, o, b1, b2, ⟨⟨v, u, c1, h v u c2, c3, c4⟩, b3⟩, b4⟩
end GR
