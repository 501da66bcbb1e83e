/-! fields, arrays, calls, ends -/
/-- the constant 'idx' of the class 'own' is the field k of the class number ci -/
def gF (own : String) (idx ci k : Nat) : Prop := ∃ (C : String) (T : u_T) (N : Nat), gcl[ci]? = some (C, T, N) ∧ k < N ∧ (∀ w ∈ u_ws C T N, w ∈ gw) ∧ (Cond.fieldLink own idx (T k).1 (T k).2.1 (T k).2.2.1 ∈ gw ∨ ∃ host, Cond.fieldLinkNest own idx (T k).1 (T k).2.1 (T k).2.2.1 host ∈ gnl)
/-- it isn't final, its type is ty; the class's fields have different names and known types -/
def gFp (ci k : Nat) (ty : FieldType) : Prop := ∃ (C : String) (T : u_T) (N : Nat) (ty0 : Nat → FieldType), gcl[ci]? = some (C, T, N) ∧ (T k).2.2.2 = false ∧ parseFieldDescriptor (T k).2.2.1 = some ty ∧ (∀ k, k < N → parseFieldDescriptor (T k).2.2.1 = some (ty0 k)) ∧ (∀ a, a < N → ∀ b, b < N → a ≠ b → (T a).2.1 ≠ (T b).2.1)
/-- the method M can be called with n arguments (the receiver apart) -/
def gMk (M : gM) (n : Nat) : Prop := Cond.code M.1 M.2.1 M.2.2.1 M.2.2.2 ∈ gw ∧ Cond.initialized M.1.cls ∈ gw ∧ (M.1.cls ≠ "java/lang/invoke/MethodHandle" ∧ M.1.cls ≠ "java/lang/invoke/VarHandle" ∧ (parseMethodDescriptor M.1.desc).map (fun d => d.parameters.length) = some n) ∧ M.2.2.1 ≤ 13
def gLv (own : String) (idx : Nat) (y : MethodName) : Prop := Cond.methodLink own idx y ∈ gw ∧ Cond.instanceMethod y ∈ gw ∧ Cond.selects y.cls y y ∈ gw
def gLs (own : String) (idx : Nat) (y : MethodName) : Prop := Cond.methodLink own idx y ∈ gw ∧ Cond.static y ∈ gw
def gLn (own : String) (idx : Nat) (y : MethodName) : Prop := (∃ host, Cond.methodLinkNest own idx y host ∈ gnl) ∧ Cond.static y ∈ gw
theorem gw_good {y : MethodName} {b : ByteArray} {n : Nat} {r : Option FieldType} (h : Cond.code y b n r ∈ gw) : GoodIn gw (Cond.code y b n r :: gw) := by
  intro w hw
  rcases List.mem_cons.mp hw with rfl | hw
  · exact ⟨h, good_of_word (List.mem_filter.mp h).2⟩
  · exact ⟨hw, good_of_word (List.mem_filter.mp hw).2⟩
theorem cE_obj (ad : Nat → Nat) (cy : Nat → ClassId) (ci : Nat) (fs : List Value) : cE ad cy (.inr (ci, fs)) = .inr (ci, fs.map (cV ad)) := rfl
section GH
variable {M : gM} {d pc : Nat} {lv : List (Nat × Value)} {st : List Value} {ws : List va_E} {Post : Option Value → List va_E → Prop}
theorem g_get {idx ci f q : Nat} {fs : List Value} {v : Value} (hf : gF M.1.cls idx ci f) (hq : ws[q]? = some (.inr (ci, fs))) (hv : fs[f]? = some v) (hd : decode M.2.1 pc = .ok (.getfield idx, 3)) (k : Go M d (pc + 3) lv (v :: st) ws Post) : Go M d pc lv (.ref q :: st) ws Post := by
  intro p l e s m args below meth c D cy ad A H locs ls C hP hD hS hl
  obtain ⟨C1, T, N, h1, h2, h3, h4⟩ := hf
  have hv' : (fs.map (cV ad))[f]? = some (cV ad v) := by simp [hv]
  have hk := k p l e s m args below meth c D cy ad A H locs ls C hP hD hS hl
  rcases h4 with h4 | ⟨host, h4⟩
  · exact va_get C.1 C.2.1 C.2.2.2.2.2.1 h3 C.2.2.2.2.2.2.1 C.2.2.2.2.2.2.2.1 hP q (gC_at hq) h1 f h2 (C.2.2.2.2.2.1 _ h4) (fun _ h9 => h9) hv' hd hk
  · exact va_getN C.1 C.2.1 C.2.2.2.2.2.1 h3 C.2.2.2.2.2.2.1 C.2.2.2.2.2.2.2.1 hP q (gC_at hq) h1 f h2 (va_Nw.use rfl (C.2.2.2.2.2.2.2.2.1 _ h4)) (fun _ h9 => h9) hv' hd hk
theorem g_put {idx ci f q : Nat} {fs : List Value} {v : Value} {ty : FieldType} {ws' : List va_E} (hf : gF M.1.cls idx ci f) (hp : gFp ci f ty) (hq : ws[q]? = some (.inr (ci, fs))) (hl0 : f < fs.length) (hn : narrow ty v = v) (hfit : fits ty v = true) (hr : ∀ a, cV a v = v) (hd : decode M.2.1 pc = .ok (.putfield idx, 3)) (hw : ws.set q (.inr (ci, fs.set f v)) = ws') (k : Go M d (pc + 3) lv st ws' Post) : Go M d pc lv (v :: .ref q :: st) ws Post := by
  intro p l e s m args below meth c D cy ad A H locs ls C hP hD hS hl
  obtain ⟨C1, T, N, h1, h2, h3, h4⟩ := hf
  obtain ⟨C2, T2, N2, ty0, g1, g2, g3, g4, g5⟩ := hp
  have e0 : (C1, T, N) = (C2, T2, N2) := Option.some.inj (h1.symm.trans g1)
  cases e0
  have he : (gC ad cy ws).set q (ad q, .inr (ci, (fs.map (cV ad)).set f v)) = gC ad cy ws' := by
    rw [← hw, ← gC_set, cE_obj, List.map_set, hr]
  have hl1 : f < (fs.map (cV ad)).length := by rw [List.length_map]; exact hl0
  have hk : ∀ (H1 : Heap) (locs1 : List Loc), va_P D gcl ((gC ad cy ws).set q (ad q, .inr (ci, (fs.map (cV ad)).set f v))) H1 → va_D A ((gC ad cy ws).set q (ad q, .inr (ci, (fs.map (cV ad)).set f v))) → va_S A s.heap H1 locs1 → W p l e (gR d) s m args below meth c H1 locs1 0 0 (MQ below (gQ D cy ad A Post) args s 0 0 A) (F0 m (pc + 3) ls (st.map (cV ad))) := by
    intro H1 locs1 hP1 hD1 hS1
    rw [he] at hP1 hD1
    exact k p l e s m args below meth c D cy ad A H1 locs1 ls C hP1 hD1 hS1 hl
  show W p l e (gR d) s m args below meth c H locs 0 0 _ (F0 m pc ls (cV ad v :: .ref (ad q) :: st.map (cV ad)))
  rw [hr]
  rcases h4 with h4 | ⟨host, h4⟩
  · exact va_put C.1 C.2.1 C.2.2.2.2.2.1 h3 ty0 g4 g5 C.2.2.2.2.2.2.1 C.2.2.2.2.2.2.2.1 hP hD hS q (gC_at hq) h1 f h2 (C.2.2.2.2.2.1 _ h4) (fun _ h9 => h9) g2 g3 hn hfit hl1 hd hk
  · exact va_putN C.1 C.2.1 C.2.2.2.2.2.1 h3 ty0 g4 g5 C.2.2.2.2.2.2.1 C.2.2.2.2.2.2.2.1 hP hD hS q (gC_at hq) h1 f h2 (va_Nw.use rfl (C.2.2.2.2.2.2.2.2.1 _ h4)) (fun _ h9 => h9) g2 g3 hn hfit hl1 hd hk
theorem g_iald {q n : Nat} {f : Nat → Int32} {i : Int32} (hq : ws[q]? = some (.inl (0, n, .inl f))) (hin : vp_in i n) (hd : decode M.2.1 pc = .ok (.iaload, 1)) (k : Go M d (pc + 1) lv (.int (f i.toNatClampNeg) :: st) ws Post) : Go M d pc lv (.int i :: .ref q :: st) ws Post := by
  intro p l e s m args below meth c D cy ad A H locs ls C hP hD hS hl
  exact va_iald C.1 C.2.1 C.2.2.2.2.2.2.2.1 hP q 0 (gC_at hq) rfl hin hd (k p l e s m args below meth c D cy ad A H locs ls C hP hD hS hl)
theorem g_zald {q n : Nat} {f : Nat → Int32} {i : Int32} (hq : ws[q]? = some (.inl (2, n, .inl f))) (hin : vp_in i n) (hd : decode M.2.1 pc = .ok (.baload, 1)) (k : Go M d (pc + 1) lv (.int (f i.toNatClampNeg) :: st) ws Post) : Go M d pc lv (.int i :: .ref q :: st) ws Post := by
  intro p l e s m args below meth c D cy ad A H locs ls C hP hD hS hl
  exact va_zald C.1 C.2.1 C.2.2.2.2.2.2.2.1 hP q 2 (gC_at hq) rfl hin hd (k p l e s m args below meth c D cy ad A H locs ls C hP hD hS hl)
theorem g_lald {q n : Nat} {f : Nat → Int64} {i : Int32} (hq : ws[q]? = some (.inl (1, n, .inr (.inl f)))) (hin : vp_in i n) (hd : decode M.2.1 pc = .ok (.laload, 1)) (k : Go M d (pc + 1) lv (.long (f i.toNatClampNeg) :: st) ws Post) : Go M d pc lv (.int i :: .ref q :: st) ws Post := by
  intro p l e s m args below meth c D cy ad A H locs ls C hP hD hS hl
  exact va_lald C.1 C.2.1 C.2.2.2.2.2.2.2.1 hP q 1 (gC_at hq) rfl hin hd (k p l e s m args below meth c D cy ad A H locs ls C hP hD hS hl)
theorem g_iast {q n : Nat} {f : Nat → Int32} {i x : Int32} {ws' : List va_E} (hq : ws[q]? = some (.inl (0, n, .inl f))) (hin : vp_in i n) (hd : decode M.2.1 pc = .ok (.iastore, 1)) (hw : ws.set q (.inl (0, n, .inl (upd f i.toNatClampNeg x))) = ws') (k : Go M d (pc + 1) lv st ws' Post) : Go M d pc lv (.int x :: .int i :: .ref q :: st) ws Post := by
  intro p l e s m args below meth c D cy ad A H locs ls C hP hD hS hl
  refine va_iast C.1 C.2.1 C.2.2.2.2.2.2.2.1 hP hD hS q 0 (gC_at hq) rfl hin hd (fun H1 locs1 hP1 hD1 hS1 => ?_)
  have he : (gC ad cy ws).set q (ad q, .inl (cy 0, n, .inl (upd f i.toNatClampNeg x))) = gC ad cy ws' := by rw [← hw, ← gC_set]; rfl
  rw [he] at hP1 hD1
  exact k p l e s m args below meth c D cy ad A H1 locs1 ls C hP1 hD1 hS1 hl
theorem g_zast {q n : Nat} {f : Nat → Int32} {i x : Int32} {ws' : List va_E} (hq : ws[q]? = some (.inl (2, n, .inl f))) (hin : vp_in i n) (hd : decode M.2.1 pc = .ok (.bastore, 1)) (hw : ws.set q (.inl (2, n, .inl (upd f i.toNatClampNeg (vp_nar .boolean x)))) = ws') (k : Go M d (pc + 1) lv st ws' Post) : Go M d pc lv (.int x :: .int i :: .ref q :: st) ws Post := by
  intro p l e s m args below meth c D cy ad A H locs ls C hP hD hS hl
  refine va_zast C.1 C.2.1 C.2.2.2.2.2.2.2.1 hP hD hS q 2 (gC_at hq) rfl hin hd (fun H1 locs1 hP1 hD1 hS1 => ?_)
  have he : (gC ad cy ws).set q (ad q, .inl (cy 2, n, .inl (upd f i.toNatClampNeg (vp_nar .boolean x)))) = gC ad cy ws' := by rw [← hw, ← gC_set]; rfl
  rw [he] at hP1 hD1
  exact k p l e s m args below meth c D cy ad A H1 locs1 ls C hP1 hD1 hS1 hl
theorem g_last {q n : Nat} {f : Nat → Int64} {i : Int32} {x : Int64} {ws' : List va_E} (hq : ws[q]? = some (.inl (1, n, .inr (.inl f)))) (hin : vp_in i n) (hd : decode M.2.1 pc = .ok (.lastore, 1)) (hw : ws.set q (.inl (1, n, .inr (.inl (vp_updL f i.toNatClampNeg x)))) = ws') (k : Go M d (pc + 1) lv st ws' Post) : Go M d pc lv (.long x :: .int i :: .ref q :: st) ws Post := by
  intro p l e s m args below meth c D cy ad A H locs ls C hP hD hS hl
  refine va_last C.1 C.2.1 C.2.2.2.2.2.2.2.1 hP hD hS q 1 (gC_at hq) rfl hin hd (fun H1 locs1 hP1 hD1 hS1 => ?_)
  have he : (gC ad cy ws).set q (ad q, .inl (cy 1, n, .inr (.inl (vp_updL f i.toNatClampNeg x)))) = gC ad cy ws' := by rw [← hw, ← gC_set]; rfl
  rw [he] at hP1 hD1
  exact k p l e s m args below meth c D cy ad A H1 locs1 ls C hP1 hD1 hS1 hl
theorem g_alen {q t : Nat} {x : vp_A} {v : Int32} (hq : ws[q]? = some (.inl (t, x))) (ht : t < 3) (hv : Int32.ofNat x.1 = v) (hd : decode M.2.1 pc = .ok (.arraylength, 1)) (k : Go M d (pc + 1) lv (.int v :: st) ws Post) : Go M d pc lv (.ref q :: st) ws Post := by
  intro p l e s m args below meth c D cy ad A H locs ls C hP hD hS hl
  have hk := k p l e s m args below meth c D cy ad A H locs ls C hP hD hS hl
  have hg := gC_at (ad := ad) (cy := cy) hq
  match t, ht, hg with
  | 0, _, hg => exact va_alen C.1 C.2.1 C.2.2.2.2.2.2.2.1 hP q 0 hg rfl hv hd hk
  | 1, _, hg => exact va_alen C.1 C.2.1 C.2.2.2.2.2.2.2.1 hP q 1 hg rfl hv hd hk
  | 2, _, hg => exact va_alen C.1 C.2.1 C.2.2.2.2.2.2.2.1 hP q 2 hg rfl hv hd hk
/-- behind a call -/
theorem g_back {p : Program} {l : Launch} {e : Env} {s : State} {m : MethodId} {args : Array Value} {below : List Frame} {meth : Method} {c : Code} {D : va_G} {cy : Nat → ClassId} {ad : Nat → Nat} {A : Nat → Prop} {H : Heap} {locs : List Loc} {ls : Array Slot} {st0 rest : List Value} {a : Array Value} {P1 : Option Value → List va_E → Prop}
    (hr : va_Run p l e (gR d) s m args below meth c H locs 0 0 0 0 (F0 m pc ls st0) (rest.map (cV ad)) (gQ D cy ad (va_A (gC ad cy ws) H.size) P1 a) (va_A (gC ad cy ws) H.size))
    (C : gCtx M D cy A p s m args meth c) (hD : va_D A (gC ad cy ws)) (hS : va_S A s.heap H locs) (hl : lv_has ls M.2.2.1 (cL ad lv))
    (k : ∀ v u, P1 v u → Go M d (pc + 3) lv (v.toList ++ rest) u Post) : W p l e (gR d) s m args below meth c H locs 0 0 (MQ below (gQ D cy ad A Post) args s 0 0 A) (F0 m pc ls st0) := by
  have hF : ∀ q, va_A (gC ad cy ws) H.size q → A q := by
    intro q h
    rcases h with ⟨k, e, h⟩ | h
    · exact hD.2 k (q, e) h
    · exact C.2.2.2.2.2.2.2.2.2 q (Nat.le_trans hS.1 h)
  intro T hT X
  obtain ⟨v, st₀, t, T', L, h0, X', hL, e1, e2, ⟨⟨v0, u, hv, hp, hP1, hD1⟩, hz, hk⟩, stp⟩ := hr T hT X
  rw [h0] at hz hk
  have hv0 : v = v0.map (cV ad) := by injection hv
  subst hv0
  have hst : (Option.map (cV ad) v0).toList ++ rest.map (cV ad) = (v0.toList ++ rest).map (cV ad) := by cases v0 <;> simp
  rw [hst] at stp
  obtain ⟨t2, a1, b1⟩ := k v0 u hp p l e s m args below meth c D cy ad A T'.heap (locs ++ L) ls C (by rw [e1]; exact hP1) (hD1.weaken (fun k q _ h => hF q.1 h))
    ⟨Nat.le_trans hS.1 (by rw [e1]; exact hz), fun q h1 h2 => by rw [e1, hk q (Nat.lt_of_lt_of_le h1 hS.1) (fun z => h2 (hF q z))]; exact hS.2.1 q h1 h2, fun q hq => by
      rcases List.mem_append.mp hq with h | h
      · exact hS.2.2 q h
      · exact hF _ (hL q h)⟩ hl T' rfl X'
  exact ⟨t2, stp t2 a1, b1⟩
theorem g_pre {s : State} {D : va_G} {cy : Nat → ClassId} {ad : Nat → Nat} {A : Nat → Prop} {H : Heap} {as : List Value} (hP : va_P D gcl (gC ad cy ws) H) (hD : va_D A (gC ad cy ws)) (hK : va_K D gcl (gT cy) s) (hN : gN s) :
    PreS s H (va_Pc (as.map (cV ad)) (fun U => U.heap.size = H.size ∧ va_P D gcl (gC ad cy ws) U.heap ∧ va_K D gcl (gT cy) U ∧ gN U ∧ va_D (fun _ => True) (gC ad cy ws))) (as.map (cV ad)) := by
  refine ⟨fun a U g mk q => ?_, fun U hU hW => ⟨rfl, by rw [hU], by rw [hU]; exact hP, va_K.moved hW.alike hK, gN_warm hW hN, hD.weaken (fun _ _ _ _ => trivial)⟩⟩
  obtain ⟨q0, q1, qP, qK, qN, qD⟩ := q
  exact ⟨q0, q1, qP, va_K.moved (u := U) (U := U.calling g mk a) (Vm.Alike.refl U.vm) qK, gN_same (s := U) (U := U.calling g mk a) rfl qN, qD⟩
theorem gR_room {d d' n : Nat} (h : d' + 1 ≤ d) (hn : n ≤ 13) : (gR d').frames + 1 ≤ (gR d).frames ∧ 8 + (n + 11) + (gR d').locals ≤ (gR d).locals := ⟨h, by show 8 + (n + 11) + 32 * d' ≤ 32 * d; omega⟩
theorem g_sum {ad : Nat → Nat} {rest : List Value} (h : (rest.map fun v => v.category).sum ≤ 8) : ((rest.map (cV ad)).map fun v => v.category).sum ≤ 8 := by
  have e : (rest.map (cV ad)).map (fun v => v.category) = rest.map (fun v => v.category) := by
    rw [List.map_map]; apply List.map_congr_left; intro v _; exact cV_cat ad v
  rw [e]; exact h
theorem g_callV {M' : gM} {d' n q ci idx : Nat} {fs as rest st0 : List Value} {x : vw_C} {P1 : Option Value → List va_E → Prop} (hc : Ct M' d' (.ref q :: as) ws P1) (hm : gMk M' n) (hL : gLv M.1.cls idx M'.1) (hd' : d' + 1 ≤ d) (hn : as.length = n) (hq : ws[q]? = some (.inr (ci, fs))) (hx : gcl[ci]? = some x) (hx1 : x.1 = M'.1.cls)
    (hW : (rest.map fun v => v.category).sum ≤ 8) (hd : decode M.2.1 pc = .ok (.invokevirtual idx, 3)) (hst : st0 = as.reverse ++ .ref q :: rest) (k : ∀ v u, P1 v u → Go M d (pc + 3) lv (v.toList ++ rest) u Post) : Go M d pc lv st0 ws Post := by
  intro p l e s m args below meth c D cy ad A H locs ls C hP hD hS hl
  obtain ⟨hm1, hm2, hm3, hm4⟩ := hm
  have hts := C.2.2.2.2.2.1
  have hpre := g_pre (as := .ref q :: as) hP hD C.2.2.2.2.2.2.2.1 C.2.2.2.2.2.2.2.2.1
  have hrecv := va_recv C.2.2.2.2.2.2.2.1 hP hx (gC_at hq)
  rw [hx1] at hrecv
  have hrun := va_runV (e := e) (below := below) (meth := meth) (locs := locs) (g := F0 m pc ls (st0.map (cV ad))) (As := as.map (cV ad)) (rest := rest.map (cV ad)) (b := ad q) (C := M'.1.cls) ⟨C.1, C.2.1, C.2.2.1, C.2.2.2.2.2.2.1, hts⟩ (hc l D cy ad H.size)
    ⟨callB_of (ws' := gw) n hts (gw_good hm1) rfl rfl rfl (hts _ hm2) (hts _ hL.1) hm3 (gR_room hd' hm4), hts _ hL.2.1, hts _ hL.2.2⟩
    ⟨hpre.1, hrecv, hpre.2⟩ rfl (by rw [List.length_map]; exact hn) hl.1 (by show st0.map (cV ad) = _; rw [hst]; simp [cV]) (lv_room (g_sum hW)) hd ⟨Nat.zero_le _, Nat.zero_le _⟩
  exact g_back hrun C hD hS hl k
theorem g_callS {M' : gM} {d' n idx : Nat} {as rest st0 : List Value} {P1 : Option Value → List va_E → Prop} (hc : Ct M' d' as ws P1) (hm : gMk M' n) (hL : gLs M.1.cls idx M'.1) (hd' : d' + 1 ≤ d) (hn : as.length = n)
    (hW : (rest.map fun v => v.category).sum ≤ 8) (hd : decode M.2.1 pc = .ok (.invokestatic idx, 3)) (hst : st0 = as.reverse ++ rest) (k : ∀ v u, P1 v u → Go M d (pc + 3) lv (v.toList ++ rest) u Post) : Go M d pc lv st0 ws Post := by
  intro p l e s m args below meth c D cy ad A H locs ls C hP hD hS hl
  obtain ⟨hm1, hm2, hm3, hm4⟩ := hm
  have hts := C.2.2.2.2.2.1
  have hpre := g_pre (as := as) hP hD C.2.2.2.2.2.2.2.1 C.2.2.2.2.2.2.2.2.1
  have hrun := va_runS (e := e) (below := below) (meth := meth) (locs := locs) (g := F0 m pc ls (st0.map (cV ad))) (As := as.map (cV ad)) (rest := rest.map (cV ad)) ⟨C.1, C.2.1, C.2.2.1, C.2.2.2.2.2.2.1, hts⟩ (hc l D cy ad H.size)
    ⟨callB_of (ws' := gw) n hts (gw_good hm1) rfl rfl rfl (hts _ hm2) (hts _ hL.1) hm3 (gR_room hd' hm4), hts _ hL.2⟩
    hpre rfl (by rw [List.length_map]; exact hn) hl.1 (by show st0.map (cV ad) = _; rw [hst]; simp) (lv_room (g_sum hW)) hd ⟨Nat.zero_le _, Nat.zero_le _⟩
  exact g_back hrun C hD hS hl k
theorem g_callN {M' : gM} {d' n idx : Nat} {as rest st0 : List Value} {P1 : Option Value → List va_E → Prop} (hc : Ct M' d' as ws P1) (hm : gMk M' n) (hL : gLn M.1.cls idx M'.1) (hd' : d' + 1 ≤ d) (hn : as.length = n)
    (hW : (rest.map fun v => v.category).sum ≤ 8) (hd : decode M.2.1 pc = .ok (.invokestatic idx, 3)) (hst : st0 = as.reverse ++ rest) (k : ∀ v u, P1 v u → Go M d (pc + 3) lv (v.toList ++ rest) u Post) : Go M d pc lv st0 ws Post := by
  intro p l e s m args below meth c D cy ad A H locs ls C hP hD hS hl
  obtain ⟨hm1, hm2, hm3, hm4⟩ := hm
  obtain ⟨⟨host, hL1⟩, hL2⟩ := hL
  have hts := C.2.2.2.2.2.1
  have hpre := g_pre (as := as) hP hD C.2.2.2.2.2.2.2.1 C.2.2.2.2.2.2.2.2.1
  have hrun := va_runSN (e := e) (below := below) (meth := meth) (locs := locs) (g := F0 m pc ls (st0.map (cV ad))) (As := as.map (cV ad)) (rest := rest.map (cV ad)) ⟨C.1, C.2.1, C.2.2.1, C.2.2.2.2.2.2.1, hts⟩ (hc l D cy ad H.size)
    ⟨va_cnB (ws' := gw) n hts (gw_good hm1) rfl rfl rfl (C.2.2.2.2.2.2.2.2.1 _ hL1) (hts _ hm2) hm3 (gR_room hd' hm4), hts _ hL2, trivial⟩
    hpre rfl (by rw [List.length_map]; exact hn) hl.1 (by show st0.map (cV ad) = _; rw [hst]; simp) (lv_room (g_sum hW)) hd ⟨Nat.zero_le _, Nat.zero_le _⟩
  exact g_back hrun C hD hS hl k
theorem g_iret {v : Int32} {ty : FieldType} (hr : M.2.2.2 = some ty) (hn : narrow ty (.int v) = .int v) (hd : decode M.2.1 pc = .ok (.ireturn, 1)) (k : Post (some (.int v)) ws) : Go M d pc lv [.int v] ws Post := by
  intro p l e s m args below meth c D cy ad A H locs ls C hP hD hS hl
  exact W.zret (ty := ty) C.1 C.2.1 (C.2.2.2.1.trans hr) hn (fun t ht hW => ⟨⟨some (.int v), ws, rfl, k, by rw [ht]; exact hP, hD⟩, hS.F ht⟩) hS.2.2 hd C.2.2.2.2.1
theorem g_lret {v : Int64} (hr : M.2.2.2 = some .long) (hd : decode M.2.1 pc = .ok (.lreturn, 1)) (k : Post (some (.long v)) ws) : Go M d pc lv [.long v] ws Post := by
  intro p l e s m args below meth c D cy ad A H locs ls C hP hD hS hl
  exact W.lret C.1 C.2.1 (C.2.2.2.1.trans hr) (fun t ht hW => ⟨⟨some (.long v), ws, rfl, k, by rw [ht]; exact hP, hD⟩, hS.F ht⟩) hS.2.2 hd C.2.2.2.2.1
theorem g_vret (hr : M.2.2.2 = none) (hd : decode M.2.1 pc = .ok (.return_, 1)) (k : Post none ws) : Go M d pc lv [] ws Post := by
  intro p l e s m args below meth c D cy ad A H locs ls C hP hD hS hl
  exact W.vret C.1 C.2.1 (C.2.2.2.1.trans hr) (fun t ht hW => ⟨⟨none, ws, rfl, k, by rw [ht]; exact hP, hD⟩, hS.F ht⟩) hS.2.2 hd C.2.2.2.2.1
theorem g_mmax {x y : Int32} {idx : Nat} (hL : Cond.methodLink M.1.cls idx Lib.Math.max.name ∈ gw) (h1 : Cond.static Lib.Math.max.name ∈ gw) (h2 : Cond.initialized "java/lang/Math" ∈ gw) (h3 : Cond.code Lib.Math.max.name Lib.Math.max.code 2 (some .int) ∈ gw) (hd' : 1 ≤ d) (hW : (st.map fun v => v.category).sum ≤ 8) (hd : decode M.2.1 pc = .ok (.invokestatic idx, 3)) (k : Go M d (pc + 3) lv (.int (if x < y then y else x) :: st) ws Post) : Go M d pc lv (.int y :: .int x :: st) ws Post := by
  intro p l e s m args below meth c D cy ad A H locs ls C hP hD hS hl
  have hts := C.2.2.2.2.2.1
  exact va_mmax C.1 C.2.1 (C.2.2.1.trans hl.1.symm) C.2.2.2.2.2.2.1 (hts _ hL) (hts _ h1) (hts _ h2) (hts _ h3) hd' (by have := g_sum (ad := ad) hW; show _ + 13 ≤ 32 * d; omega) (Nat.zero_le _) (Nat.zero_le _) hd (k p l e s m args below meth c D cy ad A H locs ls C hP hD hS hl)
theorem g_mmin {x y : Int32} {idx : Nat} (hL : Cond.methodLink M.1.cls idx Lib.Math.min.name ∈ gw) (h1 : Cond.static Lib.Math.min.name ∈ gw) (h2 : Cond.initialized "java/lang/Math" ∈ gw) (h3 : Cond.code Lib.Math.min.name Lib.Math.min.code 2 (some .int) ∈ gw) (hd' : 1 ≤ d) (hW : (st.map fun v => v.category).sum ≤ 8) (hd : decode M.2.1 pc = .ok (.invokestatic idx, 3)) (k : Go M d (pc + 3) lv (.int (if y < x then y else x) :: st) ws Post) : Go M d pc lv (.int y :: .int x :: st) ws Post := by
  intro p l e s m args below meth c D cy ad A H locs ls C hP hD hS hl
  have hts := C.2.2.2.2.2.1
  exact va_mmin C.1 C.2.1 (C.2.2.1.trans hl.1.symm) C.2.2.2.2.2.2.1 (hts _ hL) (hts _ h1) (hts _ h2) (hts _ h3) hd' (by have := g_sum (ad := ad) hW; show _ + 13 ≤ 32 * d; omega) (Nat.zero_le _) (Nat.zero_le _) hd (k p l e s m args below meth c D cy ad A H locs ls C hP hD hS hl)
theorem g_copy {q0 q1 n0 n1 idx : Nat} {f g : Nat → Int32} {sp dp n : Int32} {ws' : List va_E} (hL : Cond.methodLink M.1.cls idx arraycopyName ∈ gw) (hx1 : Cond.native arraycopyName ∈ gw) (hx2 : Cond.static arraycopyName ∈ gw) (hx3 : Cond.initialized "java/lang/System" ∈ gw) (hd' : 2 ≤ d) (hW : (st.map fun v => v.category).sum ≤ 8)
    (hq0 : ws[q0]? = some (.inl (0, n0, .inl f))) (hq1 : ws[q1]? = some (.inl (0, n1, .inl g))) (h1 : ¬ sp < 0) (h2 : ¬ dp < 0) (h3 : ¬ n < 0) (h4 : sp.toNatClampNeg + n.toNatClampNeg ≤ n0) (h5 : dp.toNatClampNeg + n.toNatClampNeg ≤ n1) (hd : decode M.2.1 pc = .ok (.invokestatic idx, 3)) (hw : ws.set q1 (.inl (0, n1, .inl (va_cpy f g sp.toNatClampNeg dp.toNatClampNeg n.toNatClampNeg))) = ws') (k : Go M d (pc + 3) lv st ws' Post) : Go M d pc lv (.int n :: .int dp :: .ref q1 :: .int sp :: .ref q0 :: st) ws Post := by
  intro p l e s m args below meth c D cy ad A H locs ls C hP hD hS hl
  have hts := C.2.2.2.2.2.1
  have e5 : nativeFrameWords "java/lang/System" "arraycopy" 5 ≤ 40 := by decide +kernel
  have e6 := g_sum (ad := ad) hW
  have r1 : 1 ≤ (gR d).frames := by show 1 ≤ d; omega
  have r2 : ((st.map (cV ad)).map fun v => v.category).sum + (nativeFrameWords "java/lang/System" "arraycopy" 5 + 11) ≤ (gR d).locals := by show _ ≤ 32 * d; omega
  refine va_copyi (R := gR d) (rest := st.map (cV ad)) C.1 C.2.1 (C.2.2.1.trans hl.1.symm) C.2.2.2.2.2.2.1 (hts _ hL) (hts _ hx1) (hts _ hx2) (hts _ hx3) C.2.2.2.2.2.2.2.1 hP hD hS q0 q1 0 0 (gC_at hq0) (gC_at hq1) rfl rfl rfl h1 h2 h3 h4 h5 (fun _ _ => rfl) r1 r2 hd (fun H1 locs1 hP1 hD1 hS1 => ?_)
  have he : (gC ad cy ws).set q1 (ad q1, .inl (cy 0, n1, .inl (va_cpy f g sp.toNatClampNeg dp.toNatClampNeg n.toNatClampNeg))) = gC ad cy ws' := by rw [← hw, ← gC_set]; rfl
  rw [he] at hP1 hD1
  exact k p l e s m args below meth c D cy ad A H1 locs1 ls C hP1 hD1 hS1 hl
end GH
