/-! part 44: the law from its entry (the skeleton's words, whole_start) -/
/-! THE CLAIM OUT OF ONE WALK OF THE LAW'S BODY. Your part is whole_start (and what it stands on); all else here is the same for every law, but numbers. -/
def R_law : String := "OverSandsLaw"
def lw_P (b : Addr) (xs : List Int32) (args : Array Value) (s : State) : Prop := args = #[.ref b] ∧ s.IntsAt b xs ∧ xs.length ≤ 3584 ∧ (Jvm.Cond.and given_1 narrow_1).before args s = true
def lw_Q (_ : Array Value) (s : State) (o : Outcome) (t : State) : Prop := o = .returned (some (.int 1)) ∧ Framed s o t [] 600000 7302249
def lw_Z (below : List Frame) (a : Array Value) (s : State) : State → Prop := fun t => ∃ o, t.status = .running ∧ Ended t below o ∧ lw_Q a s o t
/-- the law's own end, with 1 on the stack, nothing written that was there before, its room as the claim has it -/
theorem lw_ret {p : Program} {l : Launch} {e : Env} {s : State} {m : MethodId} {below : List Frame} {meth : Method} {c : Code} {b : Nat} (hx : p.tables.exec = Jvm.exec) (hb : c.code = code) (hr : meth.sig.returnType = ret) (hlocks : meth.locks = false) {pc : Nat} {H : Heap} {ls : Array Slot} (hdg : decode code pc = .ok (.ireturn, 1)) : W p l e room_1 s m #[Value.ref b] below meth c H [] 600000 7302249 (lw_Z below #[Value.ref b] s) (F0 m pc ls [.int 1]) := by
  intro T hT X
  obtain ⟨fs, hret, hrun, hended, hW, hframe⟩ := X.leave (v := some (.int 1)) (hlocks := hlocks) (fun h => by rw [hr] at h; cases h)
  have hmeth' : T.vm.method? m = some meth := X.method'
  refine ⟨T.setFrames fs, ?_, .returned (some (.int 1)), hrun, hended, rfl, ⟨_, rfl⟩, hW, hframe⟩
  jvm_step X.here [X.here.top, hx, hb, hdg, hmeth', hr, ret, narrow_b1]
  (try refine ⟨rfl, ?_⟩); (try refine ⟨rfl, ?_⟩)
  first | (intro acts; rw [hret _ acts rfl rfl rfl]) | rw [hret _ _ rfl rfl rfl]
  exact Steps.refl _
/-- what holds at the law's entry: the machine, the code, the tables' words (any of lw_tbl by 'hts w (by decide +kernel)'), the script of L ints xs at the cell b, what the Statement gives of the start (any of its parts by flat_of_before) -/
def lw_At (p : Program) (s : State) (m : MethodId) (meth : Method) (c : Code) (b L : Nat) (xs : Nat → Int32) : Prop :=
  p.tables.exec = Jvm.exec ∧ c.code = code ∧ meth.sig.returnType = ret ∧ c.maxLocals = 4 ∧ s.vm.findClass R_law = some m.cls ∧ (∀ w ∈ lw_tbl, w.before #[Value.ref b] s = true) ∧ va_X b L xs s s.heap ∧ b < s.heap.size ∧ meth.locks = false ∧ (Jvm.Cond.and given_1 narrow_1).before #[Value.ref b] s = true
/-- the machine's tables, as the rows want them -/
theorem law_known {s : State} {b : Nat} (hts : ∀ w ∈ lw_tbl, w.before #[Value.ref b] s = true) : ∃ (D : va_G) (cy : Nat → ClassId), va_K D gcl (gT cy) s ∧ gN s := by
  have hg : ∀ w ∈ gw, w.before #[Value.ref b] s = true := fun w h => hts w (List.mem_filter.mp h).1
  obtain ⟨c0, i0, hn0⟩ := u_known (C := RX0) (T := TX0) (N := 3) (n := 3) hg uw_X0 (hg (.instantiable RX0 3) (gw_at 151 (by decide +kernel) (by decide +kernel)))
  obtain ⟨c1, i1, hn1⟩ := u_known (C := RX1) (T := TX1) (N := 11) (n := 11) hg uw_X1 (hg (.instantiable RX1 11) (gw_at 88 (by decide +kernel) (by decide +kernel)))
  obtain ⟨c2, i2, hn2⟩ := u_known (C := RX2) (T := TX2) (N := 1) (n := 1) hg uw_X2 (hg (.instantiable RX2 1) (gw_at 140 (by decide +kernel) (by decide +kernel)))
  obtain ⟨c3, i3, hn3⟩ := u_known (C := RX3) (T := TX3) (N := 2) (n := 2) hg uw_X3 (hg (.instantiable RX3 2) (gw_at 157 (by decide +kernel) (by decide +kernel)))
  obtain ⟨c4, i4, hn4⟩ := u_known (C := RX4) (T := TX4) (N := 4) (n := 4) hg uw_X4 (hg (.instantiable RX4 4) (gw_at 67 (by decide +kernel) (by decide +kernel)))
  obtain ⟨c5, i5, hn5⟩ := u_known (C := RX5) (T := TX5) (N := 6) (n := 6) hg uw_X5 (hg (.instantiable RX5 6) (gw_at 186 (by decide +kernel) (by decide +kernel)))
  obtain ⟨c6, i6, hn6⟩ := u_known (C := RX6) (T := TX6) (N := 2) (n := 2) hg uw_X6 (hg (.instantiable RX6 2) (gw_at 215 (by decide +kernel) (by decide +kernel)))
  obtain ⟨c7, i7, hn7⟩ := u_known (C := RX7) (T := TX7) (N := 10) (n := 10) hg uw_X7 (hg (.instantiable RX7 10) (gw_at 59 (by decide +kernel) (by decide +kernel)))
  obtain ⟨c8, i8, hn8⟩ := u_known (C := RX8) (T := TX8) (N := 37) (n := 37) hg uw_X8 (hg (.instantiable RX8 37) (gw_at 670 (by decide +kernel) (by decide +kernel)))
  obtain ⟨a0, k0, cp0, ha0, hk0, hc0⟩ := Cond.arrayClass_spec (hg _ ar_I)
  obtain ⟨a1, k1, cp1, ha1, hk1, hc1⟩ := Cond.arrayClass_spec (hg _ ar_J)
  obtain ⟨a2, k2, cp2, ha2, hk2, hc2⟩ := Cond.arrayClass_spec (hg _ ar_Z)
  refine ⟨(fun k => [c0, c1, c2, c3, c4, c5, c6, c7, c8].getD k c0, fun k => [i0, i1, i2, i3, i4, i5, i6, i7, i8].getD k i0), fun k => [a0, a1, a2].getD k a0, ⟨fun k q hq => ?_, fun k q hq => ?_⟩, fun w hw => ?_⟩
  · match k, hq with
    | 0, hq => cases hq; exact hn0
    | 1, hq => cases hq; exact hn1
    | 2, hq => cases hq; exact hn2
    | 3, hq => cases hq; exact hn3
    | 4, hq => cases hq; exact hn4
    | 5, hq => cases hq; exact hn5
    | 6, hq => cases hq; exact hn6
    | 7, hq => cases hq; exact hn7
    | 8, hq => cases hq; exact hn8
    | k + 9, hq => simp [gcl] at hq
  · match k, hq with
    | 0, hq => cases hq; exact ⟨fun n z => ⟨fun k h => (by cases h), k0, hk0, cp0, hc0⟩, ha0⟩
    | 1, hq => cases hq; exact ⟨fun n z => ⟨fun k h => (by cases h), k1, hk1, cp1, hc1⟩, ha1⟩
    | 2, hq => cases hq; exact ⟨fun n z => ⟨fun k h => (by cases h), k2, hk2, cp2, hc2⟩, ha2⟩
    | k + 3, hq => simp [gT] at hq
  · have h2 := (List.mem_filter.mp hw).2
    have h1 := hts w (List.mem_filter.mp hw).1
    cases w <;> first | exact va_Nw.of rfl h1 | simp [gIsN] at h2
set_option maxRecDepth 20000 in
/-- THE LAW, from its entry -/
theorem whole_start {p : Program} {e : Env} {s : State} {m : MethodId} {below : List Frame} {meth : Method} {c : Code} (l : Launch) (hflags : l.flags = flags0) {b L : Nat} {xs : Nat → Int32} (hL : L ≤ 3584) (C0 : lw_At p s m meth c b L xs) : W p l e room_1 s m #[Value.ref b] below meth c s.heap [] 0 0 (lw_Z below #[Value.ref b] s) (entryFrame m ([Value.ref b] : List Value).toArray 4) := by
  obtain ⟨hx, hb, hr, hml, hown, hts, hX, hbl, hlocks, hgv⟩ := id C0
  obtain ⟨D, cy, hK, hN⟩ := law_known hts
  have C : gCtx mL D cy (fun q => s.heap.size ≤ q) p s m #[Value.ref b] meth c := ⟨hx, hb, hml, hr, hlocks, fun w h => hts w (List.mem_filter.mp h).1, hown, hK, hN, fun _ h => h⟩
  have hl := lv_entry ([.ref b]) (n := 4) (Nat.le_of_ble_eq_true rfl)
  rw [lg_entry_eq]
  generalize (lg_sl ([.ref b]) ++ List.replicate (4 - (lg_sl ([.ref b])).length) Slot.unset).toArray = ls at hl ⊢
  have hl : lv_has ls 4 [(0, .ref b)] := hl
  have G : GA room_1 D (fun q => s.heap.size ≤ q) p l e s m #[Value.ref b] below meth c (lw_Z below #[Value.ref b] s) ls 0 [] [] 0 0 := by
    refine a_new C nw_L_7 (Nat.le_of_ble_eq_true rfl) (Nat.le_of_ble_eq_true rfl) dL_law_0 (fun q0 => ?_)
    refine a_dup C dL_law_3 ?_
    refine a_call C caX7 kX7_init rfl rfl in_X7 il_L_9 ⟨Nat.le_of_ble_eq_true rfl, Nat.le_of_ble_eq_true rfl⟩ hl.1 rfl (Nat.le_of_ble_eq_true rfl) ⟨Nat.le_of_ble_eq_true rfl, Nat.le_of_ble_eq_true rfl⟩ dL_law_4 rfl ?_
    intro w1 hw1
    obtain ⟨ad, had, hw⟩ := hw1
    subst had
    rw [hw, List.nil_append]
    refine a_astore_n (lv' := [(1, .ref (ad 0)), (0, .ref b)]) C hl dL_law_7 rfl (by decide) rfl (fun ls hl => ?_)
    refine a_new C nw_L_10 (Nat.le_of_ble_eq_true rfl) (Nat.le_of_ble_eq_true rfl) dL_law_8 (fun q1 => ?_)
    refine a_dup C dL_law_11 ?_
    refine a_call C caX8 kX8_init rfl rfl in_X8 il_L_12 ⟨Nat.le_of_ble_eq_true rfl, Nat.le_of_ble_eq_true rfl⟩ hl.1 rfl (Nat.le_of_ble_eq_true rfl) ⟨Nat.le_of_ble_eq_true rfl, Nat.le_of_ble_eq_true rfl⟩ dL_law_12 rfl ?_
    intro w2 hw2
    obtain ⟨ad2, had2, hw⟩ := hw2
    subst had2
    rw [hw]
    refine a_astore_n (lv' := [(2, .ref (ad2 0)), (1, .ref (ad 0)), (0, .ref b)]) C hl dL_law_15 rfl (by decide) rfl (fun ls hl => ?_)
    intro H locs hP hD hS
    have hi1 : ∀ (j : Nat) (y : Nat × va_E), (gC ad cy wC0)[j]? = some y → (gC ad cy wC0 ++ gC ad2 cy wM0)[j]? = some y ∧ j < (gC ad cy wC0).length := fun j y hy => by
      have hj := (List.getElem?_eq_some_iff.mp hy).1
      exact ⟨by rw [List.getElem?_append_left hj]; exact hy, hj⟩
    have hi2 : ∀ (j : Nat) (y : Nat × va_E), (gC ad2 cy wM0)[j]? = some y → (gC ad cy wC0 ++ gC ad2 cy wM0)[(gC ad cy wC0).length + j]? = some y := fun j y hy => by
      rw [List.getElem?_append_right (Nat.le_add_right _ _), Nat.add_sub_cancel_left]; exact hy
    refine lv_iconst (v := nI 0) C.1 C.2.1 dL_law_16 (by decide) ?_
    refine lv_istore_n (lv' := [(3, .int (nI 0)), (2, .ref (ad2 0)), (1, .ref (ad 0)), (0, .ref b)]) C.1 C.2.1 dL_law_17 rfl hl (by decide) rfl (fun ls hl => ?_)
    exact law_loop (F := ((p, l, e, s, m, below, meth, c), (D, cy, ad, ad2), (b, L, xs), lw_Z below #[Value.ref b] s, 0 + 1 + 26 + 1 + 17, 0 + 10 + 504 + 37 + 430)) ⟨C, hX, hbl, Nat.le_of_ble_eq_true rfl, Nat.le_of_ble_eq_true rfl⟩ hL
      (fun i wc wm H locs ls h1 h2 h3 h4 h5 h6 hl => by
        refine lv_iconst (v := 1) C.1 C.2.1 dL_law_1061 (by decide) ?_
        refine va_forget h6.2.2 ?_
        refine W.widen (k := 600000) (n := 7302249) (Nat.le_of_ble_eq_true rfl) (Nat.le_of_ble_eq_true rfl) ?_
        exact lw_ret hx hb hr hlocks dL_law_1062)
      (L + 1) 0 wC0 wM0 (Nat.zero_le _) (by show L < 0 + (L + 1); omega) R0 H locs ls (fun j y hy => hP j y (hi1 j y hy).1) (fun j y hy => hP _ y (hi2 j y hy)) ⟨fun i j x y hx hy hxy => hD.1 i j x y (hi1 i x hx).1 (hi1 j y hy).1 hxy, fun j y hy => hD.2 j y (hi1 j y hy).1⟩ ⟨fun i j x y hx hy hxy => by have := hD.1 _ _ x y (hi2 i x hx) (hi2 j y hy) hxy; omega, fun j y hy => hD.2 _ y (hi2 j y hy)⟩ (fun i j x y hx hy hxy => by have h1 := hD.1 _ _ x y (hi1 i x hx).1 (hi2 j y hy) hxy; have h2 := (hi1 i x hx).2; omega) hS (lv_sub hl [3, 2, 1, 0] rfl)
  exact G s.heap [] (fun k q h => by simp at h) ⟨fun i j p q h => by simp at h, fun k q h => by simp at h⟩ va_S.rf
