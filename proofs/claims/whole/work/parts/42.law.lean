/-! part 42: the law's rows: two worlds side by side, the class's and the model's; the script; calls on the one leave the other -/
abbrev mL : gM := (yL_law, cL_law, 4, ret)
def jAp (X Y : va_W) : Prop := ∀ (i j : Nat) (x y : Nat × va_E), X[i]? = some x → Y[j]? = some y → x.1 ≠ y.1
theorem jAp_sym {X Y : va_W} (h : jAp X Y) : jAp Y X := fun i j x y hx hy e => h j i y x hy hx e.symm
/-- a call of an object's method, with cells beside its world that it doesn't know of -/
theorem w_call {M M' : gM} {p : Program} {l : Launch} {e : Env} {R : Room} {s : State} {m : MethodId} {args : Array Value} {below : List Frame} {meth : Method} {c : Code} {D : va_G} {cy : Nat → ClassId} {ad : Nat → Nat} {A : Nat → Prop} {H : Heap} {locs : List Loc} {Q : State → Prop} {ls : Array Slot} {pc kc ks d' n ci idx : Nat} {fs as rest st0 : List Value} {x : vw_C} {P1 : Option Value → List va_E → Prop} {wx : List va_E} {Y : va_W}
    (C : gCtx M D cy A p s m args meth c) (hc : Ct M' d' (.ref 0 :: as) wx P1) (hm : gMk M' n) (hL : gLv M.1.cls idx M'.1) (hR : d' + 1 ≤ R.frames ∧ 8 + (M'.2.2.1 + 11) + 32 * d' ≤ R.locals) (has : as.map (cV ad) = as) (hn : as.length = n) (hq : wx[0]? = some (.inr (ci, fs))) (hx : gcl[ci]? = some x) (hx1 : x.1 = M'.1.cls) (hW : (rest.map fun v => v.category).sum ≤ 8) (hf : kc ≤ R.cells ∧ ks ≤ R.slots)
    (hd : decode M.2.1 pc = .ok (.invokevirtual idx, 3)) (hst : st0 = as.reverse ++ .ref (ad 0) :: rest) (hls : ls.size = M.2.2.1) (hP : va_P D gcl (gC ad cy wx) H) (hPy : va_P D gcl Y H) (hD : va_D A (gC ad cy wx)) (hap : jAp (gC ad cy wx) Y) (hS : va_S A s.heap H locs)
    (k : ∀ (v : Option Value) (u : List va_E) (H1 : Heap) (locs1 : List Loc), P1 v u → va_P D gcl (gC ad cy u) H1 → va_P D gcl Y H1 → va_D A (gC ad cy u) → jAp (gC ad cy u) Y → va_S A s.heap H1 locs1 → W p l e R s m args below meth c H1 locs1 kc ks Q (F0 m (pc + 3) ls ((v.map (cV ad)).toList ++ rest))) : W p l e R s m args below meth c H locs kc ks Q (F0 m pc ls st0) := by
  obtain ⟨hm1, hm2, hm3, hm4⟩ := hm
  have hts := C.2.2.2.2.2.1
  have hpre := g_pre (as := .ref 0 :: as) hP hD C.2.2.2.2.2.2.2.1 C.2.2.2.2.2.2.2.2.1
  have hrecv := va_recv C.2.2.2.2.2.2.2.1 hP hx (gC_at hq)
  rw [hx1] at hrecv
  have hrun := va_runV (e := e) (R := R) (below := below) (meth := meth) (locs := locs) (cells := kc) (slots := ks) (g := F0 m pc ls st0) (As := as.map (cV ad)) (rest := rest) (b := ad 0) (C := M'.1.cls) ⟨C.1, C.2.1, C.2.2.1, C.2.2.2.2.2.2.1, hts⟩ (hc l D cy ad H.size)
    ⟨callB_of (ws' := gw) n hts (gw_good hm1) rfl rfl rfl (hts _ hm2) (hts _ hL.1) hm3 hR, hts _ hL.2.1, hts _ hL.2.2⟩
    ⟨hpre.1, hrecv, hpre.2⟩ rfl (by rw [List.length_map]; exact hn) hls (by show st0 = _; rw [has]; exact hst) (lv_room hW) hd hf
  have hF : ∀ q, va_A (gC ad cy wx) H.size q → A q := by
    intro q h
    rcases h with ⟨k, e, h⟩ | h
    · exact hD.2 k (q, e) h
    · exact C.2.2.2.2.2.2.2.2.2 q (Nat.le_trans hS.1 h)
  intro T hT X
  obtain ⟨v, st₀, t, T', L, h0, X', hL', e1, e2, ⟨⟨v0, u, hv, hp, hP1, hD1⟩, hz, hk⟩, stp⟩ := hrun T hT X
  rw [h0] at hz hk
  have hv0 : v = v0.map (cV ad) := by injection hv
  subst hv0
  have hYno : ∀ (j : Nat) (y : Nat × va_E), Y[j]? = some y → y.1 < H.size ∧ ¬ va_A (gC ad cy wx) H.size y.1 := by
    intro j y hy
    have hlt := (hPy j y hy).lt
    refine ⟨hlt, fun z => ?_⟩
    rcases z with ⟨k2, e3, z⟩ | z
    · exact hap k2 j (y.1, e3) y z hy rfl
    · omega
  obtain ⟨t2, a1, b1⟩ := k v0 u T'.heap (locs ++ L) hp (by rw [e1]; exact hP1) (fun j y hy => (hPy j y hy).kept (by rw [e1]; exact hk y.1 (hYno j y hy).1 (hYno j y hy).2)) (hD1.weaken (fun _ q _ h => hF q.1 h)) (fun i j x y hx hy hxy => (hYno j y hy).2 (by rw [← hxy]; exact hD1.2 i x hx))
    ⟨Nat.le_trans hS.1 (by rw [e1]; exact hz), fun q h1 h2 => by rw [e1, hk q (Nat.lt_of_lt_of_le h1 hS.1) (fun z => h2 (hF q z))]; exact hS.2.1 q h1 h2, fun q hq => by
      rcases List.mem_append.mp hq with h | h
      · exact hS.2.2 q h
      · exact hF _ (hL' q h)⟩ T' rfl X'
  exact ⟨t2, stp t2 a1, b1⟩
/-- all that stays the same while the law runs: the machine; classes and addresses; the script; the end; the cells made -/
abbrev jFix : Type := (Program × Launch × Env × State × MethodId × List Frame × Method × Code) × (va_G × (Nat → ClassId) × (Nat → Nat) × (Nat → Nat)) × (Nat × Nat × (Nat → Int32)) × (State → Prop) × Nat × Nat
def jX (F : jFix) : Nat := F.2.1.2.2.1 0
def jM (F : jFix) : Nat := F.2.1.2.2.2 0
def jN (F : jFix) : Nat := F.2.2.1.2.1
def jS (F : jFix) : Nat → Int32 := F.2.2.1.2.2
def jVx (F : jFix) (v : Option Value) : List Value := (v.map (cV F.2.1.2.2.1)).toList
def jVm (F : jFix) (v : Option Value) : List Value := (v.map (cV F.2.1.2.2.2)).toList
def jCtx : jFix → Prop
  | ((p, _, _, s, m, _, meth, c), (D, cy, _, _), (b, L, xs), _, kc, ks) => gCtx mL D cy (fun q => s.heap.size ≤ q) p s m #[.ref b] meth c ∧ va_X b L xs s s.heap ∧ b < s.heap.size ∧ kc ≤ room_1.cells ∧ ks ≤ room_1.slots
/-- the law at pc, with i in its own local, st on its stack, the class's world wc and the model's world wm -/
def GL : jFix → Nat → Nat → List Value → List va_E → List va_E → Prop
  | ((p, l, e, s, m, below, meth, c), (D, cy, ad, ad2), (b, _, _), Q, kc, ks), pc, i, st, wc, wm => ∀ (H : Heap) (locs : List Loc) (ls : Array Slot), va_P D gcl (gC ad cy wc) H → va_P D gcl (gC ad2 cy wm) H → va_D (fun q => s.heap.size ≤ q) (gC ad cy wc) → va_D (fun q => s.heap.size ≤ q) (gC ad2 cy wm) → jAp (gC ad cy wc) (gC ad2 cy wm) → va_S (fun q => s.heap.size ≤ q) s.heap H locs → lv_has ls 4 [(0, .ref b), (1, .ref (ad 0)), (2, .ref (ad2 0)), (3, .int (nI i))] → W p l e room_1 s m #[.ref b] below meth c H locs kc ks Q (F0 m pc ls st)
theorem cat_1 (v : Option Value) (f : Value → Value) : (((v.map f).toList ++ ([] : List Value)).map (fun v : Value => v.category)).sum ≤ 8 := by
  cases v with
  | none => exact Nat.zero_le _
  | some w =>
    have h : (f w).category ≤ 2 := by cases f w <;> exact Nat.le_of_ble_eq_true rfl
    show (f w).category + 0 ≤ 8
    omega
section JR
variable {F : jFix} {pc i : Nat} {st : List Value} {wc wm : List va_E}
theorem j_x (hC : jCtx F) (hd : decode cL_law pc = .ok (.aload_n 1, 1)) (k : GL F (pc + 1) i (.ref (jX F) :: st) wc wm) : GL F pc i st wc wm := by
  obtain ⟨⟨p, l, e, s, m, below, meth, c⟩, ⟨D, cy, ad, ad2⟩, ⟨b, L, xs⟩, Q, kc, ks⟩ := F
  obtain ⟨C, hX, hb, hkc, hks⟩ := hC
  intro H locs ls h1 h2 h3 h4 h5 h6 hl
  exact lv_aload_n C.1 C.2.1 hd rfl (lv_at hl 1 rfl) (k H locs ls h1 h2 h3 h4 h5 h6 hl)
theorem j_m (hC : jCtx F) (hd : decode cL_law pc = .ok (.aload_n 2, 1)) (k : GL F (pc + 1) i (.ref (jM F) :: st) wc wm) : GL F pc i st wc wm := by
  obtain ⟨⟨p, l, e, s, m, below, meth, c⟩, ⟨D, cy, ad, ad2⟩, ⟨b, L, xs⟩, Q, kc, ks⟩ := F
  obtain ⟨C, hX, hb, hkc, hks⟩ := hC
  intro H locs ls h1 h2 h3 h4 h5 h6 hl
  exact lv_aload_n C.1 C.2.1 hd rfl (lv_at hl 2 rfl) (k H locs ls h1 h2 h3 h4 h5 h6 hl)
theorem j_arg {j : Nat} {n : Int} (hC : jCtx F) (hj : j < 7) (hi : i + 7 ≤ jN F) (hN : jN F ≤ 3584) (d0 : decode cL_law pc = .ok (.aload_n 0, 1)) (d1 : decode cL_law (pc + 1) = .ok (.iload_n 3, 1)) (d2 : decode cL_law (pc + 2) = .ok (.iconst n, 1)) (hn : Int32.ofInt n = nI j) (d3 : decode cL_law (pc + 3) = .ok (.iadd, 1)) (d4 : decode cL_law (pc + 4) = .ok (.iaload, 1)) (k : GL F (pc + 5) i (.int (jS F (i + j)) :: st) wc wm) : GL F pc i st wc wm := by
  obtain ⟨⟨p, l, e, s, m, below, meth, c⟩, ⟨D, cy, ad, ad2⟩, ⟨b, L, xs⟩, Q, kc, ks⟩ := F
  obtain ⟨C, hX, hb, hkc, hks⟩ := hC
  have hi : i + 7 ≤ L := hi
  have hN : L ≤ 3584 := hN
  intro H locs ls h1 h2 h3 h4 h5 h6 hl
  refine lv_aload_n C.1 C.2.1 d0 rfl (lv_at hl 0 rfl) ?_
  refine lv_iload_n C.1 C.2.1 d1 rfl (lv_at hl 3 rfl) ?_
  refine lv_iconst C.1 C.2.1 d2 hn ?_
  refine lv_iadd C.1 C.2.1 d3 ?_
  rw [nI_add]
  refine va_sld C.1 C.2.1 hX hb (Nat.not_le.mpr hb) h6 (vp_in_nI (by omega) (by omega)) d4 ?_
  rw [nI_clamp (by omega)]
  exact k H locs ls h1 h2 h3 h4 h5 h6 hl
theorem j_arg6 (hC : jCtx F) (hi : i + 7 ≤ jN F) (hN : jN F ≤ 3584) (d0 : decode cL_law pc = .ok (.aload_n 0, 1)) (d1 : decode cL_law (pc + 1) = .ok (.iload_n 3, 1)) (d2 : decode cL_law (pc + 2) = .ok (.bipush 6, 2)) (d3 : decode cL_law (pc + 4) = .ok (.iadd, 1)) (d4 : decode cL_law (pc + 5) = .ok (.iaload, 1)) (k : GL F (pc + 6) i (.int (jS F (i + 6)) :: st) wc wm) : GL F pc i st wc wm := by
  obtain ⟨⟨p, l, e, s, m, below, meth, c⟩, ⟨D, cy, ad, ad2⟩, ⟨b, L, xs⟩, Q, kc, ks⟩ := F
  obtain ⟨C, hX, hb, hkc, hks⟩ := hC
  have hi : i + 7 ≤ L := hi
  have hN : L ≤ 3584 := hN
  intro H locs ls h1 h2 h3 h4 h5 h6 hl
  refine lv_aload_n C.1 C.2.1 d0 rfl (lv_at hl 0 rfl) ?_
  refine lv_iload_n C.1 C.2.1 d1 rfl (lv_at hl 3 rfl) ?_
  refine lv_bipush (v := nI 6) C.1 C.2.1 d2 (by decide) ?_
  refine lv_iadd C.1 C.2.1 d3 ?_
  rw [nI_add]
  refine va_sld C.1 C.2.1 hX hb (Nat.not_le.mpr hb) h6 (vp_in_nI (by omega) (by omega)) d4 ?_
  rw [nI_clamp (by omega)]
  exact k H locs ls h1 h2 h3 h4 h5 h6 hl
theorem j_bool {x : Int32} (hC : jCtx F) (d0 : decode cL_law pc = .ok (.ifCond .eq 7, 3)) (d1 : decode cL_law (pc + 3) = .ok (.iconst 1, 1)) (d2 : decode cL_law (pc + 4) = .ok (.goto 4, 3)) (d3 : decode cL_law (pc + 7) = .ok (.iconst 0, 1)) (k : GL F (pc + 8) i (.int (nI (bN (x ≠ 0))) :: st) wc wm) : GL F pc i (.int x :: st) wc wm := by
  obtain ⟨⟨p, l, e, s, m, below, meth, c⟩, ⟨D, cy, ad, ad2⟩, ⟨b, L, xs⟩, Q, kc, ks⟩ := F
  obtain ⟨C, hX, hb, hkc, hks⟩ := hC
  intro H locs ls h1 h2 h3 h4 h5 h6 hl
  have kk := k H locs ls h1 h2 h3 h4 h5 h6 hl
  refine lv_if_eq (tgt := pc + 7) C.1 C.2.1 d0 (by omega) (fun h => ?_) (fun h => ?_)
  · rw [bN_f (fun z => z h)] at kk
    exact lv_iconst (v := nI 0) C.1 C.2.1 d3 (by decide) kk
  · rw [bN_t h] at kk
    refine lv_iconst (v := nI 1) C.1 C.2.1 d1 (by decide) ?_
    exact lv_goto (tgt := pc + 8) C.1 C.2.1 d2 (by omega) kk
theorem j_i2l {x : Int32} (hC : jCtx F) (hd : decode cL_law pc = .ok (.i2l, 1)) (k : GL F (pc + 1) i (.long x.toInt64 :: st) wc wm) : GL F pc i (.int x :: st) wc wm := by
  obtain ⟨⟨p, l, e, s, m, below, meth, c⟩, ⟨D, cy, ad, ad2⟩, ⟨b, L, xs⟩, Q, kc, ks⟩ := F
  obtain ⟨C, hX, hb, hkc, hks⟩ := hC
  intro H locs ls h1 h2 h3 h4 h5 h6 hl
  exact lv_i2l C.1 C.2.1 hd rfl (k H locs ls h1 h2 h3 h4 h5 h6 hl)
theorem j_shl {x : Int64} (hC : jCtx F) (d0 : decode cL_law pc = .ok (.bipush 32, 2)) (d1 : decode cL_law (pc + 2) = .ok (.lshl, 1)) (k : GL F (pc + 3) i (.long (x <<< ((nI 32).toInt64 &&& 63)) :: st) wc wm) : GL F pc i (.long x :: st) wc wm := by
  obtain ⟨⟨p, l, e, s, m, below, meth, c⟩, ⟨D, cy, ad, ad2⟩, ⟨b, L, xs⟩, Q, kc, ks⟩ := F
  obtain ⟨C, hX, hb, hkc, hks⟩ := hC
  intro H locs ls h1 h2 h3 h4 h5 h6 hl
  refine lv_bipush (v := nI 32) C.1 C.2.1 d0 (by decide) ?_
  exact lv_lshl C.1 C.2.1 d1 rfl (k H locs ls h1 h2 h3 h4 h5 h6 hl)
theorem j_mask {x y : Int64} (hC : jCtx F) (d0 : decode cL_law pc = .ok (.ldc2_w 117, 3)) (d1 : decode cL_law (pc + 3) = .ok (.land, 1)) (d2 : decode cL_law (pc + 4) = .ok (.lor, 1)) (k : GL F (pc + 5) i (.long (y ||| (x &&& 4294967295)) :: st) wc wm) : GL F pc i (.long x :: .long y :: st) wc wm := by
  obtain ⟨⟨p, l, e, s, m, below, meth, c⟩, ⟨D, cy, ad, ad2⟩, ⟨b, L, xs⟩, Q, kc, ks⟩ := F
  obtain ⟨C, hX, hb, hkc, hks⟩ := hC
  intro H locs ls h1 h2 h3 h4 h5 h6 hl
  refine lv_ldc2 C.1 C.2.1 C.2.2.2.2.2.2.1 (C.2.2.2.2.2.1 _ clL_117) d0 ?_
  refine lv_land C.1 C.2.1 d1 ?_
  exact lv_lor C.1 C.2.1 d2 (k H locs ls h1 h2 h3 h4 h5 h6 hl)
theorem j_callX {M' : gM} {d' n ci idx : Nat} {fs as rest st0 : List Value} {x : vw_C} {P1 : Option Value → List va_E → Prop} (hC : jCtx F) (hc : Ct M' d' (.ref 0 :: as) wc P1) (hm : gMk M' n) (hL : gLv RL idx M'.1) (hd' : d' ≤ 7) (has : ∀ a, as.map (cV a) = as) (hn : as.length = n) (hq : wc[0]? = some (.inr (ci, fs))) (hx : gcl[ci]? = some x) (hx1 : x.1 = M'.1.cls) (hW : (rest.map fun v => v.category).sum ≤ 8) (hd : decode cL_law pc = .ok (.invokevirtual idx, 3)) (hst : st0 = as.reverse ++ .ref (jX F) :: rest)
    (k : ∀ (v : Option Value) (u : List va_E), P1 v u → GL F (pc + 3) i (jVx F v ++ rest) u wm) : GL F pc i st0 wc wm := by
  obtain ⟨⟨p, l, e, s, m, below, meth, c⟩, ⟨D, cy, ad, ad2⟩, ⟨b, L, xs⟩, Q, kc, ks⟩ := F
  obtain ⟨C, hX, hb, hkc, hks⟩ := hC
  intro H locs ls h1 h2 h3 h4 h5 h6 hl
  have hm4 := hm.2.2.2
  exact w_call (M := mL) C hc hm hL ⟨by show d' + 1 ≤ 10; omega, by show 8 + (M'.2.2.1 + 11) + 32 * d' ≤ 394; omega⟩ (has ad) hn hq hx hx1 hW ⟨hkc, hks⟩ hd hst hl.1 h1 h2 h3 h5 h6 (fun v u H1 locs1 hp g1 g2 g3 g4 g5 => k v u hp H1 locs1 ls g1 g2 g3 h4 g4 g5 hl)
theorem j_callM {M' : gM} {d' n ci idx : Nat} {fs as rest st0 : List Value} {x : vw_C} {P1 : Option Value → List va_E → Prop} (hC : jCtx F) (hc : Ct M' d' (.ref 0 :: as) wm P1) (hm : gMk M' n) (hL : gLv RL idx M'.1) (hd' : d' ≤ 7) (has : ∀ a, as.map (cV a) = as) (hn : as.length = n) (hq : wm[0]? = some (.inr (ci, fs))) (hx : gcl[ci]? = some x) (hx1 : x.1 = M'.1.cls) (hW : (rest.map fun v => v.category).sum ≤ 8) (hd : decode cL_law pc = .ok (.invokevirtual idx, 3)) (hst : st0 = as.reverse ++ .ref (jM F) :: rest)
    (k : ∀ (v : Option Value) (u : List va_E), P1 v u → GL F (pc + 3) i (jVm F v ++ rest) wc u) : GL F pc i st0 wc wm := by
  obtain ⟨⟨p, l, e, s, m, below, meth, c⟩, ⟨D, cy, ad, ad2⟩, ⟨b, L, xs⟩, Q, kc, ks⟩ := F
  obtain ⟨C, hX, hb, hkc, hks⟩ := hC
  intro H locs ls h1 h2 h3 h4 h5 h6 hl
  have hm4 := hm.2.2.2
  exact w_call (M := mL) C hc hm hL ⟨by show d' + 1 ≤ 10; omega, by show 8 + (M'.2.2.1 + 11) + 32 * d' ≤ 394; omega⟩ (has ad2) hn hq hx hx1 hW ⟨hkc, hks⟩ hd hst hl.1 h2 h1 h4 (jAp_sym h5) h6 (fun v u H1 locs1 hp g1 g2 g3 g4 g5 => k v u hp H1 locs1 ls g2 g1 h3 g3 (jAp_sym g4) g5 hl)
theorem j_cmp {v : Option Value} {off : Int} (hC : jCtx F) (hv : ∃ x : Int32, v = some (.int x)) (hd : decode cL_law pc = .ok (.if_icmp .eq off, 3)) (ht : (pc : Int) + off = (1055 : Nat)) (k : GL F 1055 i [] wc wm) : GL F pc i (jVm F v ++ (jVx F v ++ [])) wc wm := by
  obtain ⟨⟨p, l, e, s, m, below, meth, c⟩, ⟨D, cy, ad, ad2⟩, ⟨b, L, xs⟩, Q, kc, ks⟩ := F
  obtain ⟨C, hX, hb, hkc, hks⟩ := hC
  obtain ⟨x, rfl⟩ := hv
  intro H locs ls h1 h2 h3 h4 h5 h6 hl
  exact lv_icmp_eq (x := x) (y := x) (tgt := 1055) C.1 C.2.1 hd ht (fun _ => k H locs ls h1 h2 h3 h4 h5 h6 hl) (fun z => absurd rfl z)
theorem j_cmpL {v : Option Value} {off : Int} (hC : jCtx F) (hv : ∃ x : Int64, v = some (.long x)) (d0 : decode cL_law pc = .ok (.lcmp, 1)) (hd : decode cL_law (pc + 1) = .ok (.ifCond .eq off, 3)) (ht : ((pc + 1 : Nat) : Int) + off = (1055 : Nat)) (k : GL F 1055 i [] wc wm) : GL F pc i (jVm F v ++ (jVx F v ++ [])) wc wm := by
  obtain ⟨⟨p, l, e, s, m, below, meth, c⟩, ⟨D, cy, ad, ad2⟩, ⟨b, L, xs⟩, Q, kc, ks⟩ := F
  obtain ⟨C, hX, hb, hkc, hks⟩ := hC
  obtain ⟨x, rfl⟩ := hv
  intro H locs ls h1 h2 h3 h4 h5 h6 hl
  refine W.lcmp (x := x) (y := x) C.1 C.2.1 d0 ?_
  have e1 : lg_cmp x x = 0 := by simp [lg_cmp]
  rw [e1]
  exact lv_if_eq (x := 0) (tgt := 1055) C.1 C.2.1 hd ht (fun _ => k H locs ls h1 h2 h3 h4 h5 h6 hl) (fun z => absurd rfl z)
theorem j_next (hC : jCtx F) (k : GL F 18 (i + 7) [] wc wm) : GL F 1055 i [] wc wm := by
  obtain ⟨⟨p, l, e, s, m, below, meth, c⟩, ⟨D, cy, ad, ad2⟩, ⟨b, L, xs⟩, Q, kc, ks⟩ := F
  obtain ⟨C, hX, hb, hkc, hks⟩ := hC
  intro H locs ls h1 h2 h3 h4 h5 h6 hl
  refine lv_iinc (k := 3) (v := nI (i + 7)) (lv' := [(3, .int (nI (i + 7))), (0, .ref b), (1, .ref (ad 0)), (2, .ref (ad2 0))]) C.1 C.2.1 dL_law_1055 hl rfl (nI_add i 7) (by decide) rfl (fun ls hl => ?_)
  exact lv_goto (tgt := 18) C.1 C.2.1 dL_law_1058 (by decide) (k H locs ls h1 h2 h3 h4 h5 h6 (lv_sub hl [1, 2, 3, 0] rfl))
theorem j_head (hC : jCtx F) (hN : jN F ≤ 3584) (hi : i ≤ 10000) (kt : GL F 1061 i [] wc wm) (kf : i + 7 ≤ jN F → GL F 27 i [] wc wm) : GL F 18 i [] wc wm := by
  obtain ⟨⟨p, l, e, s, m, below, meth, c⟩, ⟨D, cy, ad, ad2⟩, ⟨b, L, xs⟩, Q, kc, ks⟩ := F
  obtain ⟨C, hX, hb, hkc, hks⟩ := hC
  have hN : L ≤ 3584 := hN
  intro H locs ls h1 h2 h3 h4 h5 h6 hl
  refine lv_iload_n C.1 C.2.1 dL_law_18 rfl (lv_at hl 3 rfl) ?_
  refine lv_aload_n C.1 C.2.1 dL_law_19 rfl (lv_at hl 0 rfl) ?_
  refine va_slen C.1 C.2.1 hX hb (Nat.not_le.mpr hb) h6 dL_law_20 ?_
  refine lv_bipush (v := nI 7) C.1 C.2.1 dL_law_21 (by decide) ?_
  refine lv_isub C.1 C.2.1 dL_law_23 ?_
  refine lv_icmp_gt (tgt := 1061) C.1 C.2.1 dL_law_24 (by decide) (fun _ => kt H locs ls h1 h2 h3 h4 h5 h6 hl) (fun h => ?_)
  refine kf ?_ H locs ls h1 h2 h3 h4 h5 h6 hl
  show i + 7 ≤ L
  have e1 : (nI L - nI 7).toInt = (L : Int) - (7 : Nat) := pk_sub_toInt (by omega) (by omega)
  have e2 : (nI i).toInt = (i : Int) := nI_toInt (by omega)
  have h' : ¬ (nI L - nI 7 < nI i) := h
  rw [Int32.lt_iff_toInt_lt, e1, e2] at h'
  omega
def jT (n : Nat) : Nat := [160, 183, 196, 209, 222, 245, 278, 311, 344, 377, 390, 413, 426, 479, 502, 535, 558, 581, 624, 637, 660, 673, 764, 833, 912, 966, 1009, 1032].getD n 1055
theorem jT_ok : ∀ n, n < 28 → (#[127, 150, 163, 176, 189, 212, 245, 278, 311, 344, 357, 380, 393, 446, 469, 502, 525, 548, 591, 604, 627, 640, 731, 800, 879, 933, 976, 999] : Array Int)[n]? = some ((jT n : Int) - 33) := by decide
theorem j_sw (hC : jCtx F) (hi : i + 7 ≤ jN F) (hN : jN F ≤ 3584) (k : ∀ n, n < 32 → GL F (jT n) i [] wc wm) : GL F 27 i [] wc wm := by
  obtain ⟨⟨p, l, e, s, m, below, meth, c⟩, ⟨D, cy, ad, ad2⟩, ⟨b, L, xs⟩, Q, kc, ks⟩ := F
  obtain ⟨C, hX, hb, hkc, hks⟩ := hC
  have hi : i + 7 ≤ L := hi
  have hN : L ≤ 3584 := hN
  intro H locs ls h1 h2 h3 h4 h5 h6 hl
  refine lv_aload_n C.1 C.2.1 dL_law_27 rfl (lv_at hl 0 rfl) ?_
  refine lv_iload_n C.1 C.2.1 dL_law_28 rfl (lv_at hl 3 rfl) ?_
  refine va_sld C.1 C.2.1 hX hb (Nat.not_le.mpr hb) h6 (vp_in_nI (by omega) (by omega)) dL_law_29 ?_
  refine lv_bipush (v := nI 31) C.1 C.2.1 dL_law_30 (by decide) ?_
  refine lv_iand C.1 C.2.1 dL_law_32 ?_
  obtain ⟨n, hn, e0⟩ := pk_andE (xs (nI i).toNatClampNeg) (m := nI 31) 5 (by decide)
  rw [e0]
  have e1 : (nI n).toInt = (n : Int) := nI_toInt (by omega)
  have kk := k n hn H locs ls h1 h2 h3 h4 h5 h6 hl
  by_cases h28 : n < 28
  · refine lv_tableIn (tgt := jT n) (off := (jT n : Int) - 33) C.1 C.2.1 dL_law_33 (by rw [e1]; omega) (by rw [e1]; omega) ?_ (by omega) kk
    rw [e1]
    have e2 : ((n : Int) - 0).toNat = n := by omega
    rw [e2]
    exact jT_ok n h28
  · have e3 : jT n = 1055 := by
      unfold jT
      rw [List.getD_eq_getElem?_getD, List.getElem?_eq_none (by show 28 ≤ n; omega)]
      rfl
    rw [e3] at kk
    exact lv_tableOut (tgt := 1055) C.1 C.2.1 dL_law_33 (by rw [e1]; omega) (by decide) kk
end JR
theorem R_c0 {wc wm : List va_E} (h : R wc wm) : ∃ fs, wc[0]? = some (.inr (7, fs)) := by
  obtain ⟨sd, ln, le, wk, tw, lo, ri, la, h, so, ho, pa, wa, r, nx, ct, q, z, kp, sf, at_, fo, Q, Z, hI, ⟨pl, sp, sc, dwk, dtw, dsf, dlo, dri, dla, dh, dso, dho, dpa, dwa, od, cm, t, hdz, rfl⟩, ⟨pl', wn, tn, rs, ce, sa, ti, rl, rr, re, rh, rpa, rwd, rat, rfo, od', cm', rfl⟩⟩ := h
  exact ⟨_, rfl⟩
theorem R_m0 {wc wm : List va_E} (h : R wc wm) : ∃ fs, wm[0]? = some (.inr (8, fs)) := by
  obtain ⟨sd, ln, le, wk, tw, lo, ri, la, h, so, ho, pa, wa, r, nx, ct, q, z, kp, sf, at_, fo, Q, Z, hI, ⟨pl, sp, sc, dwk, dtw, dsf, dlo, dri, dla, dh, dso, dho, dpa, dwa, od, cm, t, hdz, rfl⟩, ⟨pl', wn, tn, rs, ce, sa, ti, rl, rr, re, rh, rpa, rwd, rat, rfo, od', cm', rfl⟩⟩ := h
  exact ⟨_, rfl⟩
