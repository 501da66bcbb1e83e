/-! part 11: Moment, Shelf, Acts -/
theorem g_lvE {M : gM} {d pc : Nat} {lv lv' : List (Nat × Value)} {st : List Value} {ws : List va_E} {Post : Option Value → List va_E → Prop} (h : lv = lv') (k : Go M d pc lv' st ws Post) : Go M d pc lv st ws Post := h ▸ k
def zf (n : Nat) (f : Nat → Nat) : Nat → Nat := fun j => if j < n then 0 else f j
theorem zf_0 (f : Nat → Nat) : zf 0 f = f := by funext j; simp [zf]
theorem zf_s (n : Nat) (f : Nat → Nat) : va_up (zf n f) n 0 = zf (n + 1) f := by
  funext j
  simp only [va_up, zf]
  by_cases h : j = n
  · subst h; simp
  · by_cases h2 : j < n
    · rw [if_neg h, if_pos h2, if_pos (by omega)]
    · rw [if_neg h, if_neg h2, if_neg (by omega)]
/-- a set of walkers as bits; how many of them there are -/
def sSet (p : Nat → Bool) : Nat → Nat
  | 0 => 0
  | n + 1 => sSet p n + if p n then 2 ^ n else 0
def sCnt (p : Nat → Bool) : Nat → Nat
  | 0 => 0
  | n + 1 => sCnt p n + if p n then 1 else 0
theorem sSet_lt (p : Nat → Bool) : ∀ n, sSet p n < 2 ^ n
  | 0 => by simp [sSet]
  | n + 1 => by
    have ih := sSet_lt p n
    rw [sSet, Nat.pow_succ]
    split <;> omega
theorem sCnt_le (p : Nat → Bool) : ∀ n, sCnt p n ≤ n
  | 0 => Nat.le_refl _
  | n + 1 => by
    have ih := sCnt_le p n
    rw [sCnt]
    split <;> omega
theorem sSet_32 (p : Nat → Bool) {n : Nat} (h : n ≤ 5) : sSet p n < 32 := Nat.lt_of_lt_of_le (sSet_lt p n) (Nat.pow_le_pow_right (by omega) h)
theorem sSet_congr {p q : Nat → Bool} : ∀ {n : Nat}, (∀ k, k < n → p k = q k) → sSet p n = sSet q n
  | 0, _ => rfl
  | n + 1, h => by rw [sSet, sSet, sSet_congr (fun k hk => h k (by omega)), h n (by omega)]
theorem sCnt_congr {p q : Nat → Bool} : ∀ {n : Nat}, (∀ k, k < n → p k = q k) → sCnt p n = sCnt q n
  | 0, _ => rfl
  | n + 1, h => by rw [sCnt, sCnt, sCnt_congr (fun k hk => h k (by omega)), h n (by omega)]
theorem or_bit : ∀ w, w < 5 → ∀ a, a < 2 ^ w → nI a ||| (nI 1 <<< (nI w &&& 31)) = nI (a + 2 ^ w) := by decide +kernel
theorem shr_bit : ∀ w, w < 5 → ∀ a, a < 32 → (nI a >>> (nI w &&& 31)) &&& nI 1 = nI (a / 2 ^ w % 2) := by decide +kernel
theorem sSet_bit5 : ∀ b0 b1 b2 b3 b4 : Bool, ∀ n, n ≤ 5 → ∀ w, w < 5 → sSet (fun k => [b0, b1, b2, b3, b4].getD k false) n / 2 ^ w % 2 = if decide (w < n) && [b0, b1, b2, b3, b4].getD w false then 1 else 0 := by decide +kernel
theorem sSet_bit (p : Nat → Bool) {n w : Nat} (hn : n ≤ 5) (hw : w < 5) : sSet p n / 2 ^ w % 2 = if decide (w < n) && p w then 1 else 0 := by
  have h := sSet_bit5 (p 0) (p 1) (p 2) (p 3) (p 4) n hn w hw
  have e : ∀ k, k < 5 → ([p 0, p 1, p 2, p 3, p 4] : List Bool).getD k false = p k := by
    intro k hk
    match k, hk with
    | 0, _ => rfl
    | 1, _ => rfl
    | 2, _ => rfl
    | 3, _ => rfl
    | 4, _ => rfl
  rw [e w hw] at h
  rw [← h, sSet_congr (fun k hk => (e k (by omega)).symm)]
theorem lp_mclear {e0 e1 e2 e3 e4 e5 e6 e7 e8 e9 e10 e11 e12 e13 e14 e17 e19 e21 e22 e23 e25 e26 : va_E} {r : Nat → Nat} : ∀ (n i : Nat), i + n = 16 → Go mX2_clear 0 2 [(0, .ref 15), (1, .int (nI i))] [] (wC e0 e1 e2 e3 e4 e5 e6 e7 e8 e9 e10 e11 e12 e13 e14 (kI 16 (zf i r)) e17 e19 e21 e22 e23 e25 e26) (gE none (wC e0 e1 e2 e3 e4 e5 e6 e7 e8 e9 e10 e11 e12 e13 e14 (kI 16 (zf 16 r)) e17 e19 e21 e22 e23 e25 e26)) := by
  intro n
  induction n with
  | zero =>
    intro i hi
    obtain rfl : i = 16 := by omega
    refine g_iload_n (i := 1) (j := 1) dX2_clear_2 rfl rfl ?_
    refine g_bipush (v := nI 16) dX2_clear_3 (by decide) ?_
    refine n_icmp_ge (tgt := 21) (rng_lit 16 rfl) (rng_lit 16 rfl) dX2_clear_5 (by decide) (fun h5 => ?_) (fun h5 => ?_)
    · refine g_vret rfl dX2_clear_21 ?_
      exact gE_i rfl rfl
    · exact absurd h5 (by decide)

  | succ n ih =>
    intro i hi
    refine g_iload_n (i := 1) (j := 1) dX2_clear_2 rfl rfl ?_
    refine g_bipush (v := nI 16) dX2_clear_3 (by decide) ?_
    refine n_icmp_ge (tgt := 21) (by omega) (rng_lit 16 rfl) dX2_clear_5 (by decide) (fun h5 => ?_) (fun h5 => ?_)
    · exfalso; omega
    · refine g_aload_n (i := 0) (j := 0) dX2_clear_8 rfl rfl ?_
      refine g_get fX2_11 rfl rfl dX2_clear_9 ?_
      refine g_iload_n (i := 1) (j := 1) dX2_clear_12 rfl rfl ?_
      refine g_iconst (v := nI 0) dX2_clear_13 (by decide) ?_
      refine n_iast (x := i) (ws' := wC e0 e1 e2 e3 e4 e5 e6 e7 e8 e9 e10 e11 e12 e13 e14 (kI 16 (va_up (zf i r) i 0)) e17 e19 e21 e22 e23 e25 e26) rfl (by omega) (rng_lit 16 rfl) dX2_clear_14 rfl ?_
      refine n_inc (x := i) (j := 1) (lv' := [(1, .int (nI (i + 1))), (0, .ref 15)]) dX2_clear_15 rfl (by decide) rfl ?_
      refine g_goto (tgt := 2) dX2_clear_18 (by decide) ?_
      refine g_lv [1, 0] rfl ?_
      refine g_ws (ws' := wC e0 e1 e2 e3 e4 e5 e6 e7 e8 e9 e10 e11 e12 e13 e14 (kI 16 (zf (i + 1) r)) e17 e19 e21 e22 e23 e25 e26) (by rw [zf_s]) ?_
      exact ih (i + 1) (by omega)

theorem ctX2_clear {e0 e1 e2 e3 e4 e5 e6 e7 e8 e9 e10 e11 e12 e13 e14 e17 e19 e21 e22 e23 e25 e26 : va_E} {r : Nat → Nat} : Ct mX2_clear 0 [.ref 15] (wC e0 e1 e2 e3 e4 e5 e6 e7 e8 e9 e10 e11 e12 e13 e14 (kI 16 r) e17 e19 e21 e22 e23 e25 e26) (gE none (wC e0 e1 e2 e3 e4 e5 e6 e7 e8 e9 e10 e11 e12 e13 e14 (kI 16 (zf 16 r)) e17 e19 e21 e22 e23 e25 e26)) := by
  refine Ct.of (by decide) (by exact Nat.le_of_ble_eq_true rfl) ?_
  show Go mX2_clear 0 0 [(0, .ref 15)] [] (wC e0 e1 e2 e3 e4 e5 e6 e7 e8 e9 e10 e11 e12 e13 e14 (kI 16 r) e17 e19 e21 e22 e23 e25 e26) (gE none (wC e0 e1 e2 e3 e4 e5 e6 e7 e8 e9 e10 e11 e12 e13 e14 (kI 16 (zf 16 r)) e17 e19 e21 e22 e23 e25 e26))
  refine g_iconst (v := nI 0) dX2_clear_0 (by decide) ?_
  refine g_istore_n (i := 1) (lv' := [(1, .int (nI 0)), (0, .ref 15)]) dX2_clear_1 rfl (by decide) rfl ?_
  refine g_lv [1, 0] rfl ?_
  refine g_ws (ws' := wC e0 e1 e2 e3 e4 e5 e6 e7 e8 e9 e10 e11 e12 e13 e14 (kI 16 (zf 0 r)) e17 e19 e21 e22 e23 e25 e26) (by rw [zf_0]) ?_
  exact lp_mclear 16 0 (by omega)

theorem ctX2_time {e0 e1 e2 e3 e4 e5 e6 e7 e8 e9 e10 e11 e12 e13 e14 e17 e19 e21 e22 e23 e25 e26 : va_E} {r : Nat → Nat} : Ct mX2_time 0 [.ref 15] (wC e0 e1 e2 e3 e4 e5 e6 e7 e8 e9 e10 e11 e12 e13 e14 (kI 16 r) e17 e19 e21 e22 e23 e25 e26) (gE (some (.int (nI (r 0)))) (wC e0 e1 e2 e3 e4 e5 e6 e7 e8 e9 e10 e11 e12 e13 e14 (kI 16 r) e17 e19 e21 e22 e23 e25 e26)) := by
  refine Ct.of (by decide) (by exact Nat.le_of_ble_eq_true rfl) ?_
  show Go mX2_time 0 0 [(0, .ref 15)] [] (wC e0 e1 e2 e3 e4 e5 e6 e7 e8 e9 e10 e11 e12 e13 e14 (kI 16 r) e17 e19 e21 e22 e23 e25 e26) (gE (some (.int (nI (r 0)))) (wC e0 e1 e2 e3 e4 e5 e6 e7 e8 e9 e10 e11 e12 e13 e14 (kI 16 r) e17 e19 e21 e22 e23 e25 e26))
  refine g_aload_n (i := 0) (j := 0) dX2_time_0 rfl rfl ?_
  refine g_get fX2_11 rfl rfl dX2_time_1 ?_
  refine g_iconst (v := nI 0) dX2_time_4 (by decide) ?_
  refine n_iald (x := 0) rfl (by omega) (rng_lit 16 rfl) dX2_time_5 ?_
  refine g_iret rfl rfl dX2_time_6 ?_
  exact gE_i rfl rfl

theorem ctX2_setTime {e0 e1 e2 e3 e4 e5 e6 e7 e8 e9 e10 e11 e12 e13 e14 e17 e19 e21 e22 e23 e25 e26 : va_E} {r : Nat → Nat} {x : Nat} : Ct mX2_setTime 0 [.ref 15, .int (nI x)] (wC e0 e1 e2 e3 e4 e5 e6 e7 e8 e9 e10 e11 e12 e13 e14 (kI 16 r) e17 e19 e21 e22 e23 e25 e26) (gE none (wC e0 e1 e2 e3 e4 e5 e6 e7 e8 e9 e10 e11 e12 e13 e14 (kI 16 (va_up r 0 x)) e17 e19 e21 e22 e23 e25 e26)) := by
  refine Ct.of (by decide) (by exact Nat.le_of_ble_eq_true rfl) ?_
  show Go mX2_setTime 0 0 [(0, .ref 15), (1, .int (nI x))] [] (wC e0 e1 e2 e3 e4 e5 e6 e7 e8 e9 e10 e11 e12 e13 e14 (kI 16 r) e17 e19 e21 e22 e23 e25 e26) (gE none (wC e0 e1 e2 e3 e4 e5 e6 e7 e8 e9 e10 e11 e12 e13 e14 (kI 16 (va_up r 0 x)) e17 e19 e21 e22 e23 e25 e26))
  refine g_aload_n (i := 0) (j := 0) dX2_setTime_0 rfl rfl ?_
  refine g_get fX2_11 rfl rfl dX2_setTime_1 ?_
  refine g_iconst (v := nI 0) dX2_setTime_4 (by decide) ?_
  refine g_iload_n (i := 1) (j := 1) dX2_setTime_5 rfl rfl ?_
  refine n_iast (x := 0) (ws' := wC e0 e1 e2 e3 e4 e5 e6 e7 e8 e9 e10 e11 e12 e13 e14 (kI 16 (va_up r 0 x)) e17 e19 e21 e22 e23 e25 e26) rfl (by omega) (rng_lit 16 rfl) dX2_setTime_6 rfl ?_
  refine g_vret rfl dX2_setTime_7 ?_
  exact gE_i rfl rfl

theorem ctX2_valueOf {e0 e1 e2 e3 e4 e5 e6 e7 e8 e9 e10 e11 e12 e13 e14 e17 e19 e21 e22 e23 e25 e26 : va_E} {r : Nat → Nat} {p k : Nat} (h1 : k < 5) (h2 : p ≤ 11) : Ct mX2_valueOf 0 [.ref 15, .int (nI p), .int (nI k)] (wC e0 e1 e2 e3 e4 e5 e6 e7 e8 e9 e10 e11 e12 e13 e14 (kI 16 r) e17 e19 e21 e22 e23 e25 e26) (gE (some (.int (nI (r (p + k))))) (wC e0 e1 e2 e3 e4 e5 e6 e7 e8 e9 e10 e11 e12 e13 e14 (kI 16 r) e17 e19 e21 e22 e23 e25 e26)) := by
  refine Ct.of (by decide) (by exact Nat.le_of_ble_eq_true rfl) ?_
  show Go mX2_valueOf 0 0 [(0, .ref 15), (1, .int (nI p)), (2, .int (nI k))] [] (wC e0 e1 e2 e3 e4 e5 e6 e7 e8 e9 e10 e11 e12 e13 e14 (kI 16 r) e17 e19 e21 e22 e23 e25 e26) (gE (some (.int (nI (r (p + k))))) (wC e0 e1 e2 e3 e4 e5 e6 e7 e8 e9 e10 e11 e12 e13 e14 (kI 16 r) e17 e19 e21 e22 e23 e25 e26))
  refine g_iload_n (i := 2) (j := 2) dX2_valueOf_0 rfl rfl ?_
  refine n_if_lt (tgt := 20) (by omega) dX2_valueOf_1 (by decide) ?_
  refine g_iload_n (i := 2) (j := 2) dX2_valueOf_4 rfl rfl ?_
  refine g_iconst (v := nI 5) dX2_valueOf_5 (by decide) ?_
  refine n_icmp_ge (tgt := 20) (by omega) (rng_lit 5 rfl) dX2_valueOf_6 (by decide) (fun h6 => ?_) (fun h6 => ?_)
  · exfalso; omega
  · refine g_aload_n (i := 0) (j := 0) dX2_valueOf_9 rfl rfl ?_
    refine g_get fX2_11 rfl rfl dX2_valueOf_10 ?_
    refine g_iload_n (i := 1) (j := 1) dX2_valueOf_13 rfl rfl ?_
    refine g_iload_n (i := 2) (j := 2) dX2_valueOf_14 rfl rfl ?_
    refine n_iadd (a := p) (b := k) dX2_valueOf_15 ?_
    refine n_iald (x := (p + k)) rfl (by omega) (rng_lit 16 rfl) dX2_valueOf_16 ?_
    refine g_goto (tgt := 21) dX2_valueOf_17 (by decide) ?_
    refine g_iret rfl rfl dX2_valueOf_21 ?_
    exact gE_i rfl rfl

theorem ctX2_setValue {e0 e1 e2 e3 e4 e5 e6 e7 e8 e9 e10 e11 e12 e13 e14 e17 e19 e21 e22 e23 e25 e26 : va_E} {r : Nat → Nat} {p k x : Nat} (h1 : k < 5) (h2 : p ≤ 11) : Ct mX2_setValue 0 [.ref 15, .int (nI p), .int (nI k), .int (nI x)] (wC e0 e1 e2 e3 e4 e5 e6 e7 e8 e9 e10 e11 e12 e13 e14 (kI 16 r) e17 e19 e21 e22 e23 e25 e26) (gE none (wC e0 e1 e2 e3 e4 e5 e6 e7 e8 e9 e10 e11 e12 e13 e14 (kI 16 (va_up r (p + k) x)) e17 e19 e21 e22 e23 e25 e26)) := by
  refine Ct.of (by decide) (by exact Nat.le_of_ble_eq_true rfl) ?_
  show Go mX2_setValue 0 0 [(0, .ref 15), (1, .int (nI p)), (2, .int (nI k)), (3, .int (nI x))] [] (wC e0 e1 e2 e3 e4 e5 e6 e7 e8 e9 e10 e11 e12 e13 e14 (kI 16 r) e17 e19 e21 e22 e23 e25 e26) (gE none (wC e0 e1 e2 e3 e4 e5 e6 e7 e8 e9 e10 e11 e12 e13 e14 (kI 16 (va_up r (p + k) x)) e17 e19 e21 e22 e23 e25 e26))
  refine g_iload_n (i := 2) (j := 2) dX2_setValue_0 rfl rfl ?_
  refine n_if_lt (tgt := 18) (by omega) dX2_setValue_1 (by decide) ?_
  refine g_iload_n (i := 2) (j := 2) dX2_setValue_4 rfl rfl ?_
  refine g_iconst (v := nI 5) dX2_setValue_5 (by decide) ?_
  refine n_icmp_ge (tgt := 18) (by omega) (rng_lit 5 rfl) dX2_setValue_6 (by decide) (fun h6 => ?_) (fun h6 => ?_)
  · exfalso; omega
  · refine g_aload_n (i := 0) (j := 0) dX2_setValue_9 rfl rfl ?_
    refine g_get fX2_11 rfl rfl dX2_setValue_10 ?_
    refine g_iload_n (i := 1) (j := 1) dX2_setValue_13 rfl rfl ?_
    refine g_iload_n (i := 2) (j := 2) dX2_setValue_14 rfl rfl ?_
    refine n_iadd (a := p) (b := k) dX2_setValue_15 ?_
    refine g_iload_n (i := 3) (j := 3) dX2_setValue_16 rfl rfl ?_
    refine n_iast (x := (p + k)) (ws' := wC e0 e1 e2 e3 e4 e5 e6 e7 e8 e9 e10 e11 e12 e13 e14 (kI 16 (va_up r (p + k) x)) e17 e19 e21 e22 e23 e25 e26) rfl (by omega) (rng_lit 16 rfl) dX2_setValue_17 rfl ?_
    refine g_vret rfl dX2_setValue_18 ?_
    exact gE_i rfl rfl

theorem ctX2_cellOf {e0 e1 e2 e3 e4 e5 e6 e7 e8 e9 e10 e11 e12 e13 e14 e17 e19 e21 e22 e23 e25 e26 : va_E} {r : Nat → Nat} {k : Nat} (h1 : k < 5) : Ct mX2_cellOf 1 [.ref 15, .int (nI k)] (wC e0 e1 e2 e3 e4 e5 e6 e7 e8 e9 e10 e11 e12 e13 e14 (kI 16 r) e17 e19 e21 e22 e23 e25 e26) (gE (some (.int (nI (r (1 + k))))) (wC e0 e1 e2 e3 e4 e5 e6 e7 e8 e9 e10 e11 e12 e13 e14 (kI 16 r) e17 e19 e21 e22 e23 e25 e26)) := by
  refine Ct.of (by decide) (by exact Nat.le_of_ble_eq_true rfl) ?_
  show Go mX2_cellOf 1 0 [(0, .ref 15), (1, .int (nI k))] [] (wC e0 e1 e2 e3 e4 e5 e6 e7 e8 e9 e10 e11 e12 e13 e14 (kI 16 r) e17 e19 e21 e22 e23 e25 e26) (gE (some (.int (nI (r (1 + k))))) (wC e0 e1 e2 e3 e4 e5 e6 e7 e8 e9 e10 e11 e12 e13 e14 (kI 16 r) e17 e19 e21 e22 e23 e25 e26))
  refine g_aload_n (i := 0) (j := 0) dX2_cellOf_0 rfl rfl ?_
  refine g_iconst (v := nI 1) dX2_cellOf_1 (by decide) ?_
  refine g_iload_n (i := 1) (j := 1) dX2_cellOf_2 rfl rfl ?_
  refine c_V (st1 := [.int (nI (r (1 + k)))]) (ctX2_valueOf (p := 1) (k := k) (by omega) (by omega)) kX2_valueOf lX2_15 (by decide) rfl rfl rfl rfl (by exact Nat.le_of_ble_eq_true rfl) dX2_cellOf_3 rfl rfl ?_
  refine g_iret rfl rfl dX2_cellOf_6 ?_
  exact gE_i rfl rfl

theorem ctX2_setCell {e0 e1 e2 e3 e4 e5 e6 e7 e8 e9 e10 e11 e12 e13 e14 e17 e19 e21 e22 e23 e25 e26 : va_E} {r : Nat → Nat} {k x : Nat} (h1 : k < 5) : Ct mX2_setCell 1 [.ref 15, .int (nI k), .int (nI x)] (wC e0 e1 e2 e3 e4 e5 e6 e7 e8 e9 e10 e11 e12 e13 e14 (kI 16 r) e17 e19 e21 e22 e23 e25 e26) (gE none (wC e0 e1 e2 e3 e4 e5 e6 e7 e8 e9 e10 e11 e12 e13 e14 (kI 16 (va_up r (1 + k) x)) e17 e19 e21 e22 e23 e25 e26)) := by
  refine Ct.of (by decide) (by exact Nat.le_of_ble_eq_true rfl) ?_
  show Go mX2_setCell 1 0 [(0, .ref 15), (1, .int (nI k)), (2, .int (nI x))] [] (wC e0 e1 e2 e3 e4 e5 e6 e7 e8 e9 e10 e11 e12 e13 e14 (kI 16 r) e17 e19 e21 e22 e23 e25 e26) (gE none (wC e0 e1 e2 e3 e4 e5 e6 e7 e8 e9 e10 e11 e12 e13 e14 (kI 16 (va_up r (1 + k) x)) e17 e19 e21 e22 e23 e25 e26))
  refine g_aload_n (i := 0) (j := 0) dX2_setCell_0 rfl rfl ?_
  refine g_iconst (v := nI 1) dX2_setCell_1 (by decide) ?_
  refine g_iload_n (i := 1) (j := 1) dX2_setCell_2 rfl rfl ?_
  refine g_iload_n (i := 2) (j := 2) dX2_setCell_3 rfl rfl ?_
  refine c_V (st1 := []) (ctX2_setValue (p := 1) (k := k) (x := x) (by omega) (by omega)) kX2_setValue lX2_19 (by decide) rfl rfl rfl rfl (by exact Nat.le_of_ble_eq_true rfl) dX2_setCell_4 rfl rfl ?_
  refine g_vret rfl dX2_setCell_7 ?_
  exact gE_i rfl rfl

theorem ctX2_wayOf {e0 e1 e2 e3 e4 e5 e6 e7 e8 e9 e10 e11 e12 e13 e14 e17 e19 e21 e22 e23 e25 e26 : va_E} {r : Nat → Nat} {k : Nat} (h1 : k < 5) : Ct mX2_wayOf 1 [.ref 15, .int (nI k)] (wC e0 e1 e2 e3 e4 e5 e6 e7 e8 e9 e10 e11 e12 e13 e14 (kI 16 r) e17 e19 e21 e22 e23 e25 e26) (gE (some (.int (nI (r (6 + k))))) (wC e0 e1 e2 e3 e4 e5 e6 e7 e8 e9 e10 e11 e12 e13 e14 (kI 16 r) e17 e19 e21 e22 e23 e25 e26)) := by
  refine Ct.of (by decide) (by exact Nat.le_of_ble_eq_true rfl) ?_
  show Go mX2_wayOf 1 0 [(0, .ref 15), (1, .int (nI k))] [] (wC e0 e1 e2 e3 e4 e5 e6 e7 e8 e9 e10 e11 e12 e13 e14 (kI 16 r) e17 e19 e21 e22 e23 e25 e26) (gE (some (.int (nI (r (6 + k))))) (wC e0 e1 e2 e3 e4 e5 e6 e7 e8 e9 e10 e11 e12 e13 e14 (kI 16 r) e17 e19 e21 e22 e23 e25 e26))
  refine g_aload_n (i := 0) (j := 0) dX2_wayOf_0 rfl rfl ?_
  refine g_bipush (v := nI 6) dX2_wayOf_1 (by decide) ?_
  refine g_iload_n (i := 1) (j := 1) dX2_wayOf_3 rfl rfl ?_
  refine c_V (st1 := [.int (nI (r (6 + k)))]) (ctX2_valueOf (p := 6) (k := k) (by omega) (by omega)) kX2_valueOf lX2_15 (by decide) rfl rfl rfl rfl (by exact Nat.le_of_ble_eq_true rfl) dX2_wayOf_4 rfl rfl ?_
  refine g_iret rfl rfl dX2_wayOf_7 ?_
  exact gE_i rfl rfl

theorem ctX2_setWay {e0 e1 e2 e3 e4 e5 e6 e7 e8 e9 e10 e11 e12 e13 e14 e17 e19 e21 e22 e23 e25 e26 : va_E} {r : Nat → Nat} {k x : Nat} (h1 : k < 5) : Ct mX2_setWay 1 [.ref 15, .int (nI k), .int (nI x)] (wC e0 e1 e2 e3 e4 e5 e6 e7 e8 e9 e10 e11 e12 e13 e14 (kI 16 r) e17 e19 e21 e22 e23 e25 e26) (gE none (wC e0 e1 e2 e3 e4 e5 e6 e7 e8 e9 e10 e11 e12 e13 e14 (kI 16 (va_up r (6 + k) x)) e17 e19 e21 e22 e23 e25 e26)) := by
  refine Ct.of (by decide) (by exact Nat.le_of_ble_eq_true rfl) ?_
  show Go mX2_setWay 1 0 [(0, .ref 15), (1, .int (nI k)), (2, .int (nI x))] [] (wC e0 e1 e2 e3 e4 e5 e6 e7 e8 e9 e10 e11 e12 e13 e14 (kI 16 r) e17 e19 e21 e22 e23 e25 e26) (gE none (wC e0 e1 e2 e3 e4 e5 e6 e7 e8 e9 e10 e11 e12 e13 e14 (kI 16 (va_up r (6 + k) x)) e17 e19 e21 e22 e23 e25 e26))
  refine g_aload_n (i := 0) (j := 0) dX2_setWay_0 rfl rfl ?_
  refine g_bipush (v := nI 6) dX2_setWay_1 (by decide) ?_
  refine g_iload_n (i := 1) (j := 1) dX2_setWay_3 rfl rfl ?_
  refine g_iload_n (i := 2) (j := 2) dX2_setWay_4 rfl rfl ?_
  refine c_V (st1 := []) (ctX2_setValue (p := 6) (k := k) (x := x) (by omega) (by omega)) kX2_setValue lX2_19 (by decide) rfl rfl rfl rfl (by exact Nat.le_of_ble_eq_true rfl) dX2_setWay_5 rfl rfl ?_
  refine g_vret rfl dX2_setWay_8 ?_
  exact gE_i rfl rfl

theorem ctX2_fateOf {e0 e1 e2 e3 e4 e5 e6 e7 e8 e9 e10 e11 e12 e13 e14 e17 e19 e21 e22 e23 e25 e26 : va_E} {r : Nat → Nat} {k : Nat} (h1 : k < 5) : Ct mX2_fateOf 1 [.ref 15, .int (nI k)] (wC e0 e1 e2 e3 e4 e5 e6 e7 e8 e9 e10 e11 e12 e13 e14 (kI 16 r) e17 e19 e21 e22 e23 e25 e26) (gE (some (.int (nI (r (11 + k))))) (wC e0 e1 e2 e3 e4 e5 e6 e7 e8 e9 e10 e11 e12 e13 e14 (kI 16 r) e17 e19 e21 e22 e23 e25 e26)) := by
  refine Ct.of (by decide) (by exact Nat.le_of_ble_eq_true rfl) ?_
  show Go mX2_fateOf 1 0 [(0, .ref 15), (1, .int (nI k))] [] (wC e0 e1 e2 e3 e4 e5 e6 e7 e8 e9 e10 e11 e12 e13 e14 (kI 16 r) e17 e19 e21 e22 e23 e25 e26) (gE (some (.int (nI (r (11 + k))))) (wC e0 e1 e2 e3 e4 e5 e6 e7 e8 e9 e10 e11 e12 e13 e14 (kI 16 r) e17 e19 e21 e22 e23 e25 e26))
  refine g_aload_n (i := 0) (j := 0) dX2_fateOf_0 rfl rfl ?_
  refine g_bipush (v := nI 11) dX2_fateOf_1 (by decide) ?_
  refine g_iload_n (i := 1) (j := 1) dX2_fateOf_3 rfl rfl ?_
  refine c_V (st1 := [.int (nI (r (11 + k)))]) (ctX2_valueOf (p := 11) (k := k) (by omega) (by omega)) kX2_valueOf lX2_15 (by decide) rfl rfl rfl rfl (by exact Nat.le_of_ble_eq_true rfl) dX2_fateOf_4 rfl rfl ?_
  refine g_iret rfl rfl dX2_fateOf_7 ?_
  exact gE_i rfl rfl

theorem ctX2_setFate {e0 e1 e2 e3 e4 e5 e6 e7 e8 e9 e10 e11 e12 e13 e14 e17 e19 e21 e22 e23 e25 e26 : va_E} {r : Nat → Nat} {k x : Nat} (h1 : k < 5) : Ct mX2_setFate 1 [.ref 15, .int (nI k), .int (nI x)] (wC e0 e1 e2 e3 e4 e5 e6 e7 e8 e9 e10 e11 e12 e13 e14 (kI 16 r) e17 e19 e21 e22 e23 e25 e26) (gE none (wC e0 e1 e2 e3 e4 e5 e6 e7 e8 e9 e10 e11 e12 e13 e14 (kI 16 (va_up r (11 + k) x)) e17 e19 e21 e22 e23 e25 e26)) := by
  refine Ct.of (by decide) (by exact Nat.le_of_ble_eq_true rfl) ?_
  show Go mX2_setFate 1 0 [(0, .ref 15), (1, .int (nI k)), (2, .int (nI x))] [] (wC e0 e1 e2 e3 e4 e5 e6 e7 e8 e9 e10 e11 e12 e13 e14 (kI 16 r) e17 e19 e21 e22 e23 e25 e26) (gE none (wC e0 e1 e2 e3 e4 e5 e6 e7 e8 e9 e10 e11 e12 e13 e14 (kI 16 (va_up r (11 + k) x)) e17 e19 e21 e22 e23 e25 e26))
  refine g_aload_n (i := 0) (j := 0) dX2_setFate_0 rfl rfl ?_
  refine g_bipush (v := nI 11) dX2_setFate_1 (by decide) ?_
  refine g_iload_n (i := 1) (j := 1) dX2_setFate_3 rfl rfl ?_
  refine g_iload_n (i := 2) (j := 2) dX2_setFate_4 rfl rfl ?_
  refine c_V (st1 := []) (ctX2_setValue (p := 11) (k := k) (x := x) (by omega) (by omega)) kX2_setValue lX2_19 (by decide) rfl rfl rfl rfl (by exact Nat.le_of_ble_eq_true rfl) dX2_setFate_5 rfl rfl ?_
  refine g_vret rfl dX2_setFate_8 ?_
  exact gE_i rfl rfl

theorem lp_allThat {e0 e1 e2 e3 e4 e5 e6 e7 e8 e9 e10 e11 e12 e13 e14 e17 e19 e21 e22 e23 e25 e26 : va_E} {r : Nat → Nat} {x wk : Nat} (hr : ∀ k, r k ≤ 40) (hx : x ≤ 4) (hwk : wk ≤ 5) : ∀ (n i : Nat), i + n = wk → Go mX2_allThat 2 5 [(0, .ref 15), (1, .int (nI x)), (2, .int (nI wk)), (3, .int (nI (sSet (fun w => decide (r (11 + w) = x)) i))), (4, .int (nI i))] [] (wC e0 e1 e2 e3 e4 e5 e6 e7 e8 e9 e10 e11 e12 e13 e14 (kI 16 r) e17 e19 e21 e22 e23 e25 e26) (gE (some (.int (nI (sSet (fun w => decide (r (11 + w) = x)) wk)))) (wC e0 e1 e2 e3 e4 e5 e6 e7 e8 e9 e10 e11 e12 e13 e14 (kI 16 r) e17 e19 e21 e22 e23 e25 e26)) := by
  intro n
  induction n with
  | zero =>
    intro i hi
    obtain rfl : i = wk := by omega
    refine g_iload (j := 4) dX2_allThat_5 rfl ?_
    refine g_iload_n (i := 2) (j := 2) dX2_allThat_7 rfl rfl ?_
    refine n_icmp_ge (tgt := 40) (by omega) (by omega) dX2_allThat_8 (by decide) (fun h8 => ?_) (fun h8 => ?_)
    · refine g_iload_n (i := 3) (j := 3) dX2_allThat_40 rfl rfl ?_
      refine g_iret rfl rfl dX2_allThat_41 ?_
      exact gE_i rfl rfl
    · exfalso; omega

  | succ n ih =>
    intro i hi
    have q1 := hr (11 + i)
    refine g_iload (j := 4) dX2_allThat_5 rfl ?_
    refine g_iload_n (i := 2) (j := 2) dX2_allThat_7 rfl rfl ?_
    refine n_icmp_ge (tgt := 40) (by omega) (by omega) dX2_allThat_8 (by decide) (fun h8 => ?_) (fun h8 => ?_)
    · exfalso; omega
    · refine g_iload (j := 4) dX2_allThat_11 rfl ?_
      refine g_iconst (v := nI 5) dX2_allThat_13 (by decide) ?_
      refine n_icmp_ge (tgt := 40) (by omega) (rng_lit 5 rfl) dX2_allThat_14 (by decide) (fun h14 => ?_) (fun h14 => ?_)
      · exfalso; omega
      · refine g_aload_n (i := 0) (j := 0) dX2_allThat_17 rfl rfl ?_
        refine g_iload (j := 4) dX2_allThat_18 rfl ?_
        refine c_V (st1 := [.int (nI (r (11 + i)))]) (ctX2_fateOf (k := i) (by omega)) kX2_fateOf lX2_23 (by decide) rfl rfl rfl rfl (by exact Nat.le_of_ble_eq_true rfl) dX2_allThat_20 rfl rfl ?_
        refine g_iload_n (i := 1) (j := 1) dX2_allThat_23 rfl rfl ?_
        refine n_icmp_ne (tgt := 34) (by omega) (by omega) dX2_allThat_24 (by decide) (fun h24 => ?_) (fun h24 => ?_)
        · refine n_inc (x := i) (j := 4) (lv' := [(4, .int (nI (i + 1))), (0, .ref 15), (1, .int (nI x)), (2, .int (nI wk)), (3, .int (nI (sSet (fun w => decide (r (11 + w) = x)) i)))]) dX2_allThat_34 rfl (by decide) rfl ?_
          refine g_goto (tgt := 5) dX2_allThat_37 (by decide) ?_
          refine g_lv [1, 2, 3, 4, 0] rfl ?_
          refine Eq.mp (congrArg (fun z => Go mX2_allThat 2 5 [(0, .ref 15), (1, .int (nI x)), (2, .int (nI wk)), (3, .int (nI z)), (4, .int (nI (i + 1)))] [] (wC e0 e1 e2 e3 e4 e5 e6 e7 e8 e9 e10 e11 e12 e13 e14 (kI 16 r) e17 e19 e21 e22 e23 e25 e26) (gE (some (.int (nI (sSet (fun w => decide (r (11 + w) = x)) wk)))) (wC e0 e1 e2 e3 e4 e5 e6 e7 e8 e9 e10 e11 e12 e13 e14 (kI 16 r) e17 e19 e21 e22 e23 e25 e26))) (show sSet (fun w => decide (r (11 + w) = x)) (i + 1) = sSet (fun w => decide (r (11 + w) = x)) i by rw [sSet]; simp [h24])) (ih (i + 1) (by omega))
        · refine g_iload_n (i := 3) (j := 3) dX2_allThat_27 rfl rfl ?_
          refine g_iconst (v := nI 1) dX2_allThat_28 (by decide) ?_
          refine g_iload (j := 4) dX2_allThat_29 rfl ?_
          refine g_ishl dX2_allThat_31 ?_
          refine g_topi (y := (nI 1 <<< (nI i &&& 31))) rfl ?_
          refine g_ior dX2_allThat_32 ?_
          refine g_topi (y := (nI (sSet (fun w => decide (r (11 + w) = x)) i + 2 ^ i))) (or_bit i (by omega) _ (sSet_lt _ i)) ?_
          refine g_istore_n (i := 3) (lv' := [(3, .int (nI (sSet (fun w => decide (r (11 + w) = x)) i + 2 ^ i))), (0, .ref 15), (1, .int (nI x)), (2, .int (nI wk)), (4, .int (nI i))]) dX2_allThat_33 rfl (by decide) rfl ?_
          refine n_inc (x := i) (j := 4) (lv' := [(4, .int (nI (i + 1))), (3, .int (nI (sSet (fun w => decide (r (11 + w) = x)) i + 2 ^ i))), (0, .ref 15), (1, .int (nI x)), (2, .int (nI wk))]) dX2_allThat_34 rfl (by decide) rfl ?_
          refine g_goto (tgt := 5) dX2_allThat_37 (by decide) ?_
          refine g_lv [2, 3, 4, 1, 0] rfl ?_
          refine Eq.mp (congrArg (fun z => Go mX2_allThat 2 5 [(0, .ref 15), (1, .int (nI x)), (2, .int (nI wk)), (3, .int (nI z)), (4, .int (nI (i + 1)))] [] (wC e0 e1 e2 e3 e4 e5 e6 e7 e8 e9 e10 e11 e12 e13 e14 (kI 16 r) e17 e19 e21 e22 e23 e25 e26) (gE (some (.int (nI (sSet (fun w => decide (r (11 + w) = x)) wk)))) (wC e0 e1 e2 e3 e4 e5 e6 e7 e8 e9 e10 e11 e12 e13 e14 (kI 16 r) e17 e19 e21 e22 e23 e25 e26))) (show sSet (fun w => decide (r (11 + w) = x)) (i + 1) = sSet (fun w => decide (r (11 + w) = x)) i + 2 ^ i by rw [sSet]; simp [h24])) (ih (i + 1) (by omega))

theorem ctX2_allThat {e0 e1 e2 e3 e4 e5 e6 e7 e8 e9 e10 e11 e12 e13 e14 e17 e19 e21 e22 e23 e25 e26 : va_E} {r : Nat → Nat} {x wk : Nat} (hr : ∀ k, r k ≤ 40) (hx : x ≤ 4) (hwk : wk ≤ 5) : Ct mX2_allThat 2 [.ref 15, .int (nI x), .int (nI wk)] (wC e0 e1 e2 e3 e4 e5 e6 e7 e8 e9 e10 e11 e12 e13 e14 (kI 16 r) e17 e19 e21 e22 e23 e25 e26) (gE (some (.int (nI (sSet (fun w => decide (r (11 + w) = x)) wk)))) (wC e0 e1 e2 e3 e4 e5 e6 e7 e8 e9 e10 e11 e12 e13 e14 (kI 16 r) e17 e19 e21 e22 e23 e25 e26)) := by
  refine Ct.of (by decide) (by exact Nat.le_of_ble_eq_true rfl) ?_
  show Go mX2_allThat 2 0 [(0, .ref 15), (1, .int (nI x)), (2, .int (nI wk))] [] (wC e0 e1 e2 e3 e4 e5 e6 e7 e8 e9 e10 e11 e12 e13 e14 (kI 16 r) e17 e19 e21 e22 e23 e25 e26) (gE (some (.int (nI (sSet (fun w => decide (r (11 + w) = x)) wk)))) (wC e0 e1 e2 e3 e4 e5 e6 e7 e8 e9 e10 e11 e12 e13 e14 (kI 16 r) e17 e19 e21 e22 e23 e25 e26))
  refine g_iconst (v := nI 0) dX2_allThat_0 (by decide) ?_
  refine g_istore_n (i := 3) (lv' := [(3, .int (nI 0)), (0, .ref 15), (1, .int (nI x)), (2, .int (nI wk))]) dX2_allThat_1 rfl (by decide) rfl ?_
  refine g_iconst (v := nI 0) dX2_allThat_2 (by decide) ?_
  refine g_istore (lv' := [(4, .int (nI 0)), (3, .int (nI 0)), (0, .ref 15), (1, .int (nI x)), (2, .int (nI wk))]) dX2_allThat_3 (by decide) rfl ?_
  refine g_lv [2, 3, 4, 1, 0] rfl ?_
  exact lp_allThat hr hx hwk wk 0 (by omega)

theorem lp_countOn {e0 e1 e2 e3 e4 e5 e6 e7 e8 e9 e10 e11 e12 e13 e14 e17 e19 e21 e22 e23 e25 e26 : va_E} {r : Nat → Nat} {c b : Nat} (hr : ∀ k, r k ≤ 40) (hc : c ≤ 9) (hb : b < 32) : ∀ (n i : Nat), i + n = 5 → Go mX2_countOn 2 5 [(0, .ref 15), (1, .int (nI c)), (2, .int (nI b)), (3, .int (nI (sCnt (fun w => decide (b / 2 ^ w % 2 = 1) && decide (r (1 + w) = c)) i))), (4, .int (nI i))] [] (wC e0 e1 e2 e3 e4 e5 e6 e7 e8 e9 e10 e11 e12 e13 e14 (kI 16 r) e17 e19 e21 e22 e23 e25 e26) (gE (some (.int (nI (sCnt (fun w => decide (b / 2 ^ w % 2 = 1) && decide (r (1 + w) = c)) 5)))) (wC e0 e1 e2 e3 e4 e5 e6 e7 e8 e9 e10 e11 e12 e13 e14 (kI 16 r) e17 e19 e21 e22 e23 e25 e26)) := by
  intro n
  induction n with
  | zero =>
    intro i hi
    obtain rfl : i = 5 := by omega
    refine g_iload (j := 4) dX2_countOn_5 rfl ?_
    refine g_iconst (v := nI 5) dX2_countOn_7 (by decide) ?_
    refine n_icmp_ge (tgt := 39) (rng_lit 5 rfl) (rng_lit 5 rfl) dX2_countOn_8 (by decide) (fun h8 => ?_) (fun h8 => ?_)
    · refine g_iload_n (i := 3) (j := 3) dX2_countOn_39 rfl rfl ?_
      refine g_iret rfl rfl dX2_countOn_40 ?_
      exact gE_i rfl rfl
    · exact absurd h8 (by decide)

  | succ n ih =>
    intro i hi
    have q1 := hr (1 + i)
    refine g_iload (j := 4) dX2_countOn_5 rfl ?_
    refine g_iconst (v := nI 5) dX2_countOn_7 (by decide) ?_
    refine n_icmp_ge (tgt := 39) (by omega) (rng_lit 5 rfl) dX2_countOn_8 (by decide) (fun h8 => ?_) (fun h8 => ?_)
    · exfalso; omega
    · refine g_iload_n (i := 2) (j := 2) dX2_countOn_11 rfl rfl ?_
      refine g_iload (j := 4) dX2_countOn_12 rfl ?_
      refine g_ishr dX2_countOn_14 ?_
      refine g_topi (y := (nI b >>> (nI i &&& 31))) rfl ?_
      refine g_iconst (v := nI 1) dX2_countOn_15 (by decide) ?_
      refine g_iand dX2_countOn_16 ?_
      refine g_topi (y := (nI (b / 2 ^ i % 2))) (shr_bit i (by omega) b hb) ?_
      refine n_if_eq (tgt := 33) (by omega) dX2_countOn_17 (by decide) (fun h17 => ?_) (fun h17 => ?_)
      · refine n_inc (x := i) (j := 4) (lv' := [(4, .int (nI (i + 1))), (0, .ref 15), (1, .int (nI c)), (2, .int (nI b)), (3, .int (nI (sCnt (fun w => decide (b / 2 ^ w % 2 = 1) && decide (r (1 + w) = c)) i)))]) dX2_countOn_33 rfl (by decide) rfl ?_
        refine g_goto (tgt := 5) dX2_countOn_36 (by decide) ?_
        have e : sCnt (fun w => decide (b / 2 ^ w % 2 = 1) && decide (r (1 + w) = c)) (i + 1) = sCnt (fun w => decide (b / 2 ^ w % 2 = 1) && decide (r (1 + w) = c)) i := by rw [sCnt]; first | (simp [h17]; done) | (simp [h27]; done) | simp [h17', h27]
        refine g_lv [1, 2, 3, 4, 0] rfl ?_
        refine g_lvE (lv' := [(0, .ref 15), (1, .int (nI c)), (2, .int (nI b)), (3, .int (nI (sCnt (fun w => decide (b / 2 ^ w % 2 = 1) && decide (r (1 + w) = c)) (i + 1)))), (4, .int (nI (i + 1)))]) (by rw [e]; rfl) (ih (i + 1) (by omega))
      · refine g_aload_n (i := 0) (j := 0) dX2_countOn_20 rfl rfl ?_
        refine g_iload (j := 4) dX2_countOn_21 rfl ?_
        refine c_V (st1 := [.int (nI (r (1 + i)))]) (ctX2_cellOf (k := i) (by omega)) kX2_cellOf lX2_27 (by decide) rfl rfl rfl rfl (by exact Nat.le_of_ble_eq_true rfl) dX2_countOn_23 rfl rfl ?_
        refine g_iload_n (i := 1) (j := 1) dX2_countOn_26 rfl rfl ?_
        refine n_icmp_ne (tgt := 33) (by omega) (by omega) dX2_countOn_27 (by decide) (fun h27 => ?_) (fun h27 => ?_)
        · refine n_inc (x := i) (j := 4) (lv' := [(4, .int (nI (i + 1))), (0, .ref 15), (1, .int (nI c)), (2, .int (nI b)), (3, .int (nI (sCnt (fun w => decide (b / 2 ^ w % 2 = 1) && decide (r (1 + w) = c)) i)))]) dX2_countOn_33 rfl (by decide) rfl ?_
          refine g_goto (tgt := 5) dX2_countOn_36 (by decide) ?_
          have e : sCnt (fun w => decide (b / 2 ^ w % 2 = 1) && decide (r (1 + w) = c)) (i + 1) = sCnt (fun w => decide (b / 2 ^ w % 2 = 1) && decide (r (1 + w) = c)) i := by rw [sCnt]; first | (simp [h17]; done) | (simp [h27]; done) | simp [h17', h27]
          refine g_lv [1, 2, 3, 4, 0] rfl ?_
          refine g_lvE (lv' := [(0, .ref 15), (1, .int (nI c)), (2, .int (nI b)), (3, .int (nI (sCnt (fun w => decide (b / 2 ^ w % 2 = 1) && decide (r (1 + w) = c)) (i + 1)))), (4, .int (nI (i + 1)))]) (by rw [e]; rfl) (ih (i + 1) (by omega))
        · refine n_inc (x := (sCnt (fun w => decide (b / 2 ^ w % 2 = 1) && decide (r (1 + w) = c)) i)) (j := 3) (lv' := [(3, .int (nI ((sCnt (fun w => decide (b / 2 ^ w % 2 = 1) && decide (r (1 + w) = c)) i) + 1))), (0, .ref 15), (1, .int (nI c)), (2, .int (nI b)), (4, .int (nI i))]) dX2_countOn_30 rfl (by decide) rfl ?_
          refine n_inc (x := i) (j := 4) (lv' := [(4, .int (nI (i + 1))), (3, .int (nI ((sCnt (fun w => decide (b / 2 ^ w % 2 = 1) && decide (r (1 + w) = c)) i) + 1))), (0, .ref 15), (1, .int (nI c)), (2, .int (nI b))]) dX2_countOn_33 rfl (by decide) rfl ?_
          refine g_goto (tgt := 5) dX2_countOn_36 (by decide) ?_
          have h17' : b / 2 ^ i % 2 = 1 := by omega
          have e : sCnt (fun w => decide (b / 2 ^ w % 2 = 1) && decide (r (1 + w) = c)) (i + 1) = (sCnt (fun w => decide (b / 2 ^ w % 2 = 1) && decide (r (1 + w) = c)) i) + 1 := by rw [sCnt]; first | (simp [h17]; done) | (simp [h27]; done) | simp [h17', h27]
          refine g_lv [2, 3, 4, 1, 0] rfl ?_
          refine g_lvE (lv' := [(0, .ref 15), (1, .int (nI c)), (2, .int (nI b)), (3, .int (nI (sCnt (fun w => decide (b / 2 ^ w % 2 = 1) && decide (r (1 + w) = c)) (i + 1)))), (4, .int (nI (i + 1)))]) (by rw [e]; rfl) (ih (i + 1) (by omega))

theorem ctX2_countOn {e0 e1 e2 e3 e4 e5 e6 e7 e8 e9 e10 e11 e12 e13 e14 e17 e19 e21 e22 e23 e25 e26 : va_E} {r : Nat → Nat} {c b : Nat} (hr : ∀ k, r k ≤ 40) (hc : c ≤ 9) (hb : b < 32) : Ct mX2_countOn 2 [.ref 15, .int (nI c), .int (nI b)] (wC e0 e1 e2 e3 e4 e5 e6 e7 e8 e9 e10 e11 e12 e13 e14 (kI 16 r) e17 e19 e21 e22 e23 e25 e26) (gE (some (.int (nI (sCnt (fun w => decide (b / 2 ^ w % 2 = 1) && decide (r (1 + w) = c)) 5)))) (wC e0 e1 e2 e3 e4 e5 e6 e7 e8 e9 e10 e11 e12 e13 e14 (kI 16 r) e17 e19 e21 e22 e23 e25 e26)) := by
  refine Ct.of (by decide) (by exact Nat.le_of_ble_eq_true rfl) ?_
  show Go mX2_countOn 2 0 [(0, .ref 15), (1, .int (nI c)), (2, .int (nI b))] [] (wC e0 e1 e2 e3 e4 e5 e6 e7 e8 e9 e10 e11 e12 e13 e14 (kI 16 r) e17 e19 e21 e22 e23 e25 e26) (gE (some (.int (nI (sCnt (fun w => decide (b / 2 ^ w % 2 = 1) && decide (r (1 + w) = c)) 5)))) (wC e0 e1 e2 e3 e4 e5 e6 e7 e8 e9 e10 e11 e12 e13 e14 (kI 16 r) e17 e19 e21 e22 e23 e25 e26))
  refine g_iconst (v := nI 0) dX2_countOn_0 (by decide) ?_
  refine g_istore_n (i := 3) (lv' := [(3, .int (nI 0)), (0, .ref 15), (1, .int (nI c)), (2, .int (nI b))]) dX2_countOn_1 rfl (by decide) rfl ?_
  refine g_iconst (v := nI 0) dX2_countOn_2 (by decide) ?_
  refine g_istore (lv' := [(4, .int (nI 0)), (3, .int (nI 0)), (0, .ref 15), (1, .int (nI c)), (2, .int (nI b))]) dX2_countOn_3 (by decide) rfl ?_
  refine g_lv [2, 3, 4, 1, 0] rfl ?_
  exact lp_countOn hr hc hb 5 0 (by omega)

theorem ctX3_put_a {e0 e1 e2 e3 e4 e5 e6 e7 e8 e9 e10 e11 e12 e13 e14 e17 e21 e22 e23 e25 e26 : va_E} {r q : Nat → Nat} {k : Nat} (h1 : k < 16) : Ct mX3_put 2 [.ref 18, .int (nI k), .ref 15] (wC e0 e1 e2 e3 e4 e5 e6 e7 e8 e9 e10 e11 e12 e13 e14 (kI 16 r) e17 (kI 256 q) e21 e22 e23 e25 e26) (gE none (wC e0 e1 e2 e3 e4 e5 e6 e7 e8 e9 e10 e11 e12 e13 e14 (kI 16 r) e17 (kI 256 (va_cpy r q 0 (k * 16) 16)) e21 e22 e23 e25 e26)) := by
  refine Ct.of (by decide) (by exact Nat.le_of_ble_eq_true rfl) ?_
  show Go mX3_put 2 0 [(0, .ref 18), (1, .int (nI k)), (2, .ref 15)] [] (wC e0 e1 e2 e3 e4 e5 e6 e7 e8 e9 e10 e11 e12 e13 e14 (kI 16 r) e17 (kI 256 q) e21 e22 e23 e25 e26) (gE none (wC e0 e1 e2 e3 e4 e5 e6 e7 e8 e9 e10 e11 e12 e13 e14 (kI 16 r) e17 (kI 256 (va_cpy r q 0 (k * 16) 16)) e21 e22 e23 e25 e26))
  refine g_iload_n (i := 1) (j := 1) dX3_put_0 rfl rfl ?_
  refine n_if_lt (tgt := 12) (by omega) dX3_put_1 (by decide) ?_
  refine g_iload_n (i := 1) (j := 1) dX3_put_4 rfl rfl ?_
  refine g_aload_n (i := 0) (j := 0) dX3_put_5 rfl rfl ?_
  refine g_get fX3_13 rfl rfl dX3_put_6 ?_
  refine n_icmp_lt (tgt := 13) (by omega) (rng_lit 16 rfl) dX3_put_9 (by decide) (fun h9 => ?_) (fun h9 => ?_)
  · refine g_aload_n (i := 2) (j := 2) dX3_put_13 rfl rfl ?_
    refine g_get fX3_25 rfl rfl dX3_put_14 ?_
    refine g_iconst (v := nI 0) dX3_put_17 (by decide) ?_
    refine g_aload_n (i := 0) (j := 0) dX3_put_18 rfl rfl ?_
    refine g_get fX3_21 rfl rfl dX3_put_19 ?_
    refine g_iload_n (i := 1) (j := 1) dX3_put_22 rfl rfl ?_
    refine g_bipush (v := nI 16) dX3_put_23 (by decide) ?_
    refine n_imul (a := k) (b := 16) dX3_put_25 ?_
    refine g_bipush (v := nI 16) dX3_put_26 (by decide) ?_
    refine n_copy (ws' := wC e0 e1 e2 e3 e4 e5 e6 e7 e8 e9 e10 e11 e12 e13 e14 (kI 16 r) e17 (kI 256 (va_cpy r q 0 (k * 16) 16)) e21 e22 e23 e25 e26) lmX3_28 (by decide) (by exact Nat.le_of_ble_eq_true rfl) rfl rfl (by omega) (by omega) (rng_lit 16 rfl) (rng_lit 256 rfl) dX3_put_28 rfl ?_
    refine g_vret rfl dX3_put_31 ?_
    exact gE_i rfl rfl
  · exfalso; omega

theorem ctX3_take_a {e0 e1 e2 e3 e4 e5 e6 e7 e8 e9 e10 e11 e12 e13 e14 e17 e21 e22 e23 e25 e26 : va_E} {r q : Nat → Nat} {k : Nat} (h1 : k < 16) : Ct mX3_take 2 [.ref 18, .int (nI k), .ref 15] (wC e0 e1 e2 e3 e4 e5 e6 e7 e8 e9 e10 e11 e12 e13 e14 (kI 16 r) e17 (kI 256 q) e21 e22 e23 e25 e26) (gE none (wC e0 e1 e2 e3 e4 e5 e6 e7 e8 e9 e10 e11 e12 e13 e14 (kI 16 (va_cpy q r (k * 16) 0 16)) e17 (kI 256 q) e21 e22 e23 e25 e26)) := by
  refine Ct.of (by decide) (by exact Nat.le_of_ble_eq_true rfl) ?_
  show Go mX3_take 2 0 [(0, .ref 18), (1, .int (nI k)), (2, .ref 15)] [] (wC e0 e1 e2 e3 e4 e5 e6 e7 e8 e9 e10 e11 e12 e13 e14 (kI 16 r) e17 (kI 256 q) e21 e22 e23 e25 e26) (gE none (wC e0 e1 e2 e3 e4 e5 e6 e7 e8 e9 e10 e11 e12 e13 e14 (kI 16 (va_cpy q r (k * 16) 0 16)) e17 (kI 256 q) e21 e22 e23 e25 e26))
  refine g_iload_n (i := 1) (j := 1) dX3_take_0 rfl rfl ?_
  refine n_if_lt (tgt := 12) (by omega) dX3_take_1 (by decide) ?_
  refine g_iload_n (i := 1) (j := 1) dX3_take_4 rfl rfl ?_
  refine g_aload_n (i := 0) (j := 0) dX3_take_5 rfl rfl ?_
  refine g_get fX3_13 rfl rfl dX3_take_6 ?_
  refine n_icmp_lt (tgt := 13) (by omega) (rng_lit 16 rfl) dX3_take_9 (by decide) (fun h9 => ?_) (fun h9 => ?_)
  · refine g_aload_n (i := 0) (j := 0) dX3_take_13 rfl rfl ?_
    refine g_get fX3_21 rfl rfl dX3_take_14 ?_
    refine g_iload_n (i := 1) (j := 1) dX3_take_17 rfl rfl ?_
    refine g_bipush (v := nI 16) dX3_take_18 (by decide) ?_
    refine n_imul (a := k) (b := 16) dX3_take_20 ?_
    refine g_aload_n (i := 2) (j := 2) dX3_take_21 rfl rfl ?_
    refine g_get fX3_25 rfl rfl dX3_take_22 ?_
    refine g_iconst (v := nI 0) dX3_take_25 (by decide) ?_
    refine g_bipush (v := nI 16) dX3_take_26 (by decide) ?_
    refine n_copy (ws' := wC e0 e1 e2 e3 e4 e5 e6 e7 e8 e9 e10 e11 e12 e13 e14 (kI 16 (va_cpy q r (k * 16) 0 16)) e17 (kI 256 q) e21 e22 e23 e25 e26) lmX3_28 (by decide) (by exact Nat.le_of_ble_eq_true rfl) rfl rfl (by omega) (by omega) (rng_lit 256 rfl) (rng_lit 16 rfl) dX3_take_28 rfl ?_
    refine g_vret rfl dX3_take_31 ?_
    exact gE_i rfl rfl
  · exfalso; omega

theorem ctX3_put_s {e0 e1 e2 e3 e4 e5 e6 e7 e8 e9 e10 e11 e12 e13 e14 e17 e19 e22 e23 e25 e26 : va_E} {r q : Nat → Nat} {k : Nat} (h1 : k < 2) : Ct mX3_put 2 [.ref 20, .int (nI k), .ref 15] (wC e0 e1 e2 e3 e4 e5 e6 e7 e8 e9 e10 e11 e12 e13 e14 (kI 16 r) e17 e19 (kI 32 q) e22 e23 e25 e26) (gE none (wC e0 e1 e2 e3 e4 e5 e6 e7 e8 e9 e10 e11 e12 e13 e14 (kI 16 r) e17 e19 (kI 32 (va_cpy r q 0 (k * 16) 16)) e22 e23 e25 e26)) := by
  refine Ct.of (by decide) (by exact Nat.le_of_ble_eq_true rfl) ?_
  show Go mX3_put 2 0 [(0, .ref 20), (1, .int (nI k)), (2, .ref 15)] [] (wC e0 e1 e2 e3 e4 e5 e6 e7 e8 e9 e10 e11 e12 e13 e14 (kI 16 r) e17 e19 (kI 32 q) e22 e23 e25 e26) (gE none (wC e0 e1 e2 e3 e4 e5 e6 e7 e8 e9 e10 e11 e12 e13 e14 (kI 16 r) e17 e19 (kI 32 (va_cpy r q 0 (k * 16) 16)) e22 e23 e25 e26))
  refine g_iload_n (i := 1) (j := 1) dX3_put_0 rfl rfl ?_
  refine n_if_lt (tgt := 12) (by omega) dX3_put_1 (by decide) ?_
  refine g_iload_n (i := 1) (j := 1) dX3_put_4 rfl rfl ?_
  refine g_aload_n (i := 0) (j := 0) dX3_put_5 rfl rfl ?_
  refine g_get fX3_13 rfl rfl dX3_put_6 ?_
  refine n_icmp_lt (tgt := 13) (by omega) (rng_lit 2 rfl) dX3_put_9 (by decide) (fun h9 => ?_) (fun h9 => ?_)
  · refine g_aload_n (i := 2) (j := 2) dX3_put_13 rfl rfl ?_
    refine g_get fX3_25 rfl rfl dX3_put_14 ?_
    refine g_iconst (v := nI 0) dX3_put_17 (by decide) ?_
    refine g_aload_n (i := 0) (j := 0) dX3_put_18 rfl rfl ?_
    refine g_get fX3_21 rfl rfl dX3_put_19 ?_
    refine g_iload_n (i := 1) (j := 1) dX3_put_22 rfl rfl ?_
    refine g_bipush (v := nI 16) dX3_put_23 (by decide) ?_
    refine n_imul (a := k) (b := 16) dX3_put_25 ?_
    refine g_bipush (v := nI 16) dX3_put_26 (by decide) ?_
    refine n_copy (ws' := wC e0 e1 e2 e3 e4 e5 e6 e7 e8 e9 e10 e11 e12 e13 e14 (kI 16 r) e17 e19 (kI 32 (va_cpy r q 0 (k * 16) 16)) e22 e23 e25 e26) lmX3_28 (by decide) (by exact Nat.le_of_ble_eq_true rfl) rfl rfl (by omega) (by omega) (rng_lit 16 rfl) (rng_lit 32 rfl) dX3_put_28 rfl ?_
    refine g_vret rfl dX3_put_31 ?_
    exact gE_i rfl rfl
  · exfalso; omega

theorem ctX3_take_s {e0 e1 e2 e3 e4 e5 e6 e7 e8 e9 e10 e11 e12 e13 e14 e17 e19 e22 e23 e25 e26 : va_E} {r q : Nat → Nat} {k : Nat} (h1 : k < 2) : Ct mX3_take 2 [.ref 20, .int (nI k), .ref 15] (wC e0 e1 e2 e3 e4 e5 e6 e7 e8 e9 e10 e11 e12 e13 e14 (kI 16 r) e17 e19 (kI 32 q) e22 e23 e25 e26) (gE none (wC e0 e1 e2 e3 e4 e5 e6 e7 e8 e9 e10 e11 e12 e13 e14 (kI 16 (va_cpy q r (k * 16) 0 16)) e17 e19 (kI 32 q) e22 e23 e25 e26)) := by
  refine Ct.of (by decide) (by exact Nat.le_of_ble_eq_true rfl) ?_
  show Go mX3_take 2 0 [(0, .ref 20), (1, .int (nI k)), (2, .ref 15)] [] (wC e0 e1 e2 e3 e4 e5 e6 e7 e8 e9 e10 e11 e12 e13 e14 (kI 16 r) e17 e19 (kI 32 q) e22 e23 e25 e26) (gE none (wC e0 e1 e2 e3 e4 e5 e6 e7 e8 e9 e10 e11 e12 e13 e14 (kI 16 (va_cpy q r (k * 16) 0 16)) e17 e19 (kI 32 q) e22 e23 e25 e26))
  refine g_iload_n (i := 1) (j := 1) dX3_take_0 rfl rfl ?_
  refine n_if_lt (tgt := 12) (by omega) dX3_take_1 (by decide) ?_
  refine g_iload_n (i := 1) (j := 1) dX3_take_4 rfl rfl ?_
  refine g_aload_n (i := 0) (j := 0) dX3_take_5 rfl rfl ?_
  refine g_get fX3_13 rfl rfl dX3_take_6 ?_
  refine n_icmp_lt (tgt := 13) (by omega) (rng_lit 2 rfl) dX3_take_9 (by decide) (fun h9 => ?_) (fun h9 => ?_)
  · refine g_aload_n (i := 0) (j := 0) dX3_take_13 rfl rfl ?_
    refine g_get fX3_21 rfl rfl dX3_take_14 ?_
    refine g_iload_n (i := 1) (j := 1) dX3_take_17 rfl rfl ?_
    refine g_bipush (v := nI 16) dX3_take_18 (by decide) ?_
    refine n_imul (a := k) (b := 16) dX3_take_20 ?_
    refine g_aload_n (i := 2) (j := 2) dX3_take_21 rfl rfl ?_
    refine g_get fX3_25 rfl rfl dX3_take_22 ?_
    refine g_iconst (v := nI 0) dX3_take_25 (by decide) ?_
    refine g_bipush (v := nI 16) dX3_take_26 (by decide) ?_
    refine n_copy (ws' := wC e0 e1 e2 e3 e4 e5 e6 e7 e8 e9 e10 e11 e12 e13 e14 (kI 16 (va_cpy q r (k * 16) 0 16)) e17 e19 (kI 32 q) e22 e23 e25 e26) lmX3_28 (by decide) (by exact Nat.le_of_ble_eq_true rfl) rfl rfl (by omega) (by omega) (rng_lit 32 rfl) (rng_lit 16 rfl) dX3_take_28 rfl ?_
    refine g_vret rfl dX3_take_31 ?_
    exact gE_i rfl rfl
  · exfalso; omega

theorem ctX0_clear {e0 e1 e2 e3 e4 e5 e6 e7 e8 e9 e10 e11 e12 e13 e14 e16 e19 e21 e22 e23 e25 e26 : va_E} {nx ct : Nat} : Ct mX0_clear 0 [.ref 17] (wC e0 e1 e2 e3 e4 e5 e6 e7 e8 e9 e10 e11 e12 e13 e14 e16 (kA nx ct) e19 e21 e22 e23 e25 e26) (gE none (wC e0 e1 e2 e3 e4 e5 e6 e7 e8 e9 e10 e11 e12 e13 e14 e16 (kA 0 0) e19 e21 e22 e23 e25 e26)) := by
  refine Ct.of (by decide) (by exact Nat.le_of_ble_eq_true rfl) ?_
  show Go mX0_clear 0 0 [(0, .ref 17)] [] (wC e0 e1 e2 e3 e4 e5 e6 e7 e8 e9 e10 e11 e12 e13 e14 e16 (kA nx ct) e19 e21 e22 e23 e25 e26) (gE none (wC e0 e1 e2 e3 e4 e5 e6 e7 e8 e9 e10 e11 e12 e13 e14 e16 (kA 0 0) e19 e21 e22 e23 e25 e26))
  refine g_aload_n (i := 0) (j := 0) dX0_clear_0 rfl rfl ?_
  refine g_iconst (v := nI 0) dX0_clear_1 (by decide) ?_
  refine n_putI (ws' := wC e0 e1 e2 e3 e4 e5 e6 e7 e8 e9 e10 e11 e12 e13 e14 e16 (kA 0 ct) e19 e21 e22 e23 e25 e26) fX0_20 fp_X0_1 rfl (by exact Nat.le_of_ble_eq_true rfl) dX0_clear_2 rfl ?_
  refine g_aload_n (i := 0) (j := 0) dX0_clear_5 rfl rfl ?_
  refine g_iconst (v := nI 0) dX0_clear_6 (by decide) ?_
  refine n_putI (ws' := wC e0 e1 e2 e3 e4 e5 e6 e7 e8 e9 e10 e11 e12 e13 e14 e16 (kA 0 0) e19 e21 e22 e23 e25 e26) fX0_24 fp_X0_2 rfl (by exact Nat.le_of_ble_eq_true rfl) dX0_clear_7 rfl ?_
  refine g_vret rfl dX0_clear_10 ?_
  exact gE_i rfl rfl

theorem ctX0_remember {e0 e1 e2 e3 e4 e5 e6 e7 e8 e9 e10 e11 e12 e13 e14 e21 e22 e23 e25 e26 : va_E} {r q : Nat → Nat} {nx ct : Nat} (h1 : nx < 16) (h2 : ct ≤ 16) : Ct mX0_remember 3 [.ref 17, .ref 15] (wC e0 e1 e2 e3 e4 e5 e6 e7 e8 e9 e10 e11 e12 e13 e14 (kI 16 r) (kA nx ct) (kI 256 q) e21 e22 e23 e25 e26) (gE none (wC e0 e1 e2 e3 e4 e5 e6 e7 e8 e9 e10 e11 e12 e13 e14 (kI 16 r) (kA (if nx + 1 < 16 then nx + 1 else 0) (if ct < 16 then ct + 1 else ct)) (kI 256 (va_cpy r q 0 (nx * 16) 16)) e21 e22 e23 e25 e26)) := by
  refine Ct.of (by decide) (by exact Nat.le_of_ble_eq_true rfl) ?_
  show Go mX0_remember 3 0 [(0, .ref 17), (1, .ref 15)] [] (wC e0 e1 e2 e3 e4 e5 e6 e7 e8 e9 e10 e11 e12 e13 e14 (kI 16 r) (kA nx ct) (kI 256 q) e21 e22 e23 e25 e26) (gE none (wC e0 e1 e2 e3 e4 e5 e6 e7 e8 e9 e10 e11 e12 e13 e14 (kI 16 r) (kA (if nx + 1 < 16 then nx + 1 else 0) (if ct < 16 then ct + 1 else ct)) (kI 256 (va_cpy r q 0 (nx * 16) 16)) e21 e22 e23 e25 e26))
  refine g_aload_n (i := 0) (j := 0) dX0_remember_0 rfl rfl ?_
  refine g_get fX0_14 rfl rfl dX0_remember_1 ?_
  refine g_aload_n (i := 0) (j := 0) dX0_remember_4 rfl rfl ?_
  refine g_get fX0_20 rfl rfl dX0_remember_5 ?_
  refine g_aload_n (i := 1) (j := 1) dX0_remember_8 rfl rfl ?_
  refine c_V (st1 := []) (ctX3_put_a (k := nx) (by omega)) kX3_put lX0_27 (by decide) rfl rfl rfl rfl (by exact Nat.le_of_ble_eq_true rfl) dX0_remember_9 rfl rfl ?_
  refine g_aload_n (i := 0) (j := 0) dX0_remember_12 rfl rfl ?_
  refine g_aload_n (i := 0) (j := 0) dX0_remember_13 rfl rfl ?_
  refine g_get fX0_20 rfl rfl dX0_remember_14 ?_
  refine g_iconst (v := nI 1) dX0_remember_17 (by decide) ?_
  refine n_iadd (a := nx) (b := 1) dX0_remember_18 ?_
  refine g_bipush (v := nI 16) dX0_remember_19 (by decide) ?_
  refine n_icmp_ge (tgt := 33) (by omega) (rng_lit 16 rfl) dX0_remember_21 (by decide) (fun h21 => ?_) (fun h21 => ?_)
  · refine g_iconst (v := nI 0) dX0_remember_33 (by decide) ?_
    refine n_putI (ws' := wC e0 e1 e2 e3 e4 e5 e6 e7 e8 e9 e10 e11 e12 e13 e14 (kI 16 r) (kA 0 ct) (kI 256 (va_cpy r q 0 (nx * 16) 16)) e21 e22 e23 e25 e26) fX0_20 fp_X0_1 rfl (by exact Nat.le_of_ble_eq_true rfl) dX0_remember_34 rfl ?_
    refine g_aload_n (i := 0) (j := 0) dX0_remember_37 rfl rfl ?_
    refine g_get fX0_24 rfl rfl dX0_remember_38 ?_
    refine g_bipush (v := nI 16) dX0_remember_41 (by decide) ?_
    refine n_icmp_ge (tgt := 56) (by omega) (rng_lit 16 rfl) dX0_remember_43 (by decide) (fun h43 => ?_) (fun h43 => ?_)
    · refine g_vret rfl dX0_remember_56 ?_
      refine gE_i rfl ?_
      rw [show (if nx + 1 < 16 then nx + 1 else 0) = 0 by first | rw [if_pos (by omega)] | rw [if_neg (by omega)], show (if ct < 16 then ct + 1 else ct) = ct by first | rw [if_pos (by omega)] | rw [if_neg (by omega)]]
    · refine g_aload_n (i := 0) (j := 0) dX0_remember_46 rfl rfl ?_
      refine g_dup dX0_remember_47 rfl ?_
      refine g_get fX0_24 rfl rfl dX0_remember_48 ?_
      refine g_iconst (v := nI 1) dX0_remember_51 (by decide) ?_
      refine n_iadd (a := ct) (b := 1) dX0_remember_52 ?_
      refine n_putI (ws' := wC e0 e1 e2 e3 e4 e5 e6 e7 e8 e9 e10 e11 e12 e13 e14 (kI 16 r) (kA 0 (ct + 1)) (kI 256 (va_cpy r q 0 (nx * 16) 16)) e21 e22 e23 e25 e26) fX0_24 fp_X0_2 rfl (by exact Nat.le_of_ble_eq_true rfl) dX0_remember_53 rfl ?_
      refine g_vret rfl dX0_remember_56 ?_
      refine gE_i rfl ?_
      rw [show (if nx + 1 < 16 then nx + 1 else 0) = 0 by first | rw [if_pos (by omega)] | rw [if_neg (by omega)], show (if ct < 16 then ct + 1 else ct) = ct + 1 by first | rw [if_pos (by omega)] | rw [if_neg (by omega)]]
  · refine g_aload_n (i := 0) (j := 0) dX0_remember_24 rfl rfl ?_
    refine g_get fX0_20 rfl rfl dX0_remember_25 ?_
    refine g_iconst (v := nI 1) dX0_remember_28 (by decide) ?_
    refine n_iadd (a := nx) (b := 1) dX0_remember_29 ?_
    refine g_goto (tgt := 34) dX0_remember_30 (by decide) ?_
    refine n_putI (ws' := wC e0 e1 e2 e3 e4 e5 e6 e7 e8 e9 e10 e11 e12 e13 e14 (kI 16 r) (kA (nx + 1) ct) (kI 256 (va_cpy r q 0 (nx * 16) 16)) e21 e22 e23 e25 e26) fX0_20 fp_X0_1 rfl (by exact Nat.le_of_ble_eq_true rfl) dX0_remember_34 rfl ?_
    refine g_aload_n (i := 0) (j := 0) dX0_remember_37 rfl rfl ?_
    refine g_get fX0_24 rfl rfl dX0_remember_38 ?_
    refine g_bipush (v := nI 16) dX0_remember_41 (by decide) ?_
    refine n_icmp_ge (tgt := 56) (by omega) (rng_lit 16 rfl) dX0_remember_43 (by decide) (fun h43 => ?_) (fun h43 => ?_)
    · refine g_vret rfl dX0_remember_56 ?_
      refine gE_i rfl ?_
      rw [show (if nx + 1 < 16 then nx + 1 else 0) = nx + 1 by first | rw [if_pos (by omega)] | rw [if_neg (by omega)], show (if ct < 16 then ct + 1 else ct) = ct by first | rw [if_pos (by omega)] | rw [if_neg (by omega)]]
    · refine g_aload_n (i := 0) (j := 0) dX0_remember_46 rfl rfl ?_
      refine g_dup dX0_remember_47 rfl ?_
      refine g_get fX0_24 rfl rfl dX0_remember_48 ?_
      refine g_iconst (v := nI 1) dX0_remember_51 (by decide) ?_
      refine n_iadd (a := ct) (b := 1) dX0_remember_52 ?_
      refine n_putI (ws' := wC e0 e1 e2 e3 e4 e5 e6 e7 e8 e9 e10 e11 e12 e13 e14 (kI 16 r) (kA (nx + 1) (ct + 1)) (kI 256 (va_cpy r q 0 (nx * 16) 16)) e21 e22 e23 e25 e26) fX0_24 fp_X0_2 rfl (by exact Nat.le_of_ble_eq_true rfl) dX0_remember_53 rfl ?_
      refine g_vret rfl dX0_remember_56 ?_
      refine gE_i rfl ?_
      rw [show (if nx + 1 < 16 then nx + 1 else 0) = nx + 1 by first | rw [if_pos (by omega)] | rw [if_neg (by omega)], show (if ct < 16 then ct + 1 else ct) = ct + 1 by first | rw [if_pos (by omega)] | rw [if_neg (by omega)]]

theorem ctX0_takeBack {e0 e1 e2 e3 e4 e5 e6 e7 e8 e9 e10 e11 e12 e13 e14 e21 e22 e23 e25 e26 : va_E} {r q : Nat → Nat} {nx ct : Nat} (h1 : nx < 16) (h2 : ct ≤ 16) (h3 : 0 < ct) : Ct mX0_takeBack 3 [.ref 17, .ref 15] (wC e0 e1 e2 e3 e4 e5 e6 e7 e8 e9 e10 e11 e12 e13 e14 (kI 16 r) (kA nx ct) (kI 256 q) e21 e22 e23 e25 e26) (gE none (wC e0 e1 e2 e3 e4 e5 e6 e7 e8 e9 e10 e11 e12 e13 e14 (kI 16 (va_cpy q r ((if 0 < nx then nx - 1 else 15) * 16) 0 16)) (kA (if 0 < nx then nx - 1 else 15) (ct - 1)) (kI 256 q) e21 e22 e23 e25 e26)) := by
  refine Ct.of (by decide) (by exact Nat.le_of_ble_eq_true rfl) ?_
  show Go mX0_takeBack 3 0 [(0, .ref 17), (1, .ref 15)] [] (wC e0 e1 e2 e3 e4 e5 e6 e7 e8 e9 e10 e11 e12 e13 e14 (kI 16 r) (kA nx ct) (kI 256 q) e21 e22 e23 e25 e26) (gE none (wC e0 e1 e2 e3 e4 e5 e6 e7 e8 e9 e10 e11 e12 e13 e14 (kI 16 (va_cpy q r ((if 0 < nx then nx - 1 else 15) * 16) 0 16)) (kA (if 0 < nx then nx - 1 else 15) (ct - 1)) (kI 256 q) e21 e22 e23 e25 e26))
  refine g_aload_n (i := 0) (j := 0) dX0_takeBack_0 rfl rfl ?_
  refine g_get fX0_24 rfl rfl dX0_takeBack_1 ?_
  refine n_if_gt (tgt := 8) (by omega) dX0_takeBack_4 (by decide) (fun h4 => ?_) (fun h4 => ?_)
  · refine g_aload_n (i := 0) (j := 0) dX0_takeBack_8 rfl rfl ?_
    refine g_aload_n (i := 0) (j := 0) dX0_takeBack_9 rfl rfl ?_
    refine g_get fX0_20 rfl rfl dX0_takeBack_10 ?_
    refine n_if_le (tgt := 25) (by omega) dX0_takeBack_13 (by decide) (fun h13 => ?_) (fun h13 => ?_)
    · refine g_bipush (v := nI 15) dX0_takeBack_25 (by decide) ?_
      refine n_putI (ws' := wC e0 e1 e2 e3 e4 e5 e6 e7 e8 e9 e10 e11 e12 e13 e14 (kI 16 r) (kA 15 ct) (kI 256 q) e21 e22 e23 e25 e26) fX0_20 fp_X0_1 rfl (by exact Nat.le_of_ble_eq_true rfl) dX0_takeBack_27 rfl ?_
      refine g_aload_n (i := 0) (j := 0) dX0_takeBack_30 rfl rfl ?_
      refine g_dup dX0_takeBack_31 rfl ?_
      refine g_get fX0_24 rfl rfl dX0_takeBack_32 ?_
      refine g_iconst (v := nI 1) dX0_takeBack_35 (by decide) ?_
      refine n_isub (a := ct) (b := 1) (by omega) dX0_takeBack_36 ?_
      refine n_putI (ws' := wC e0 e1 e2 e3 e4 e5 e6 e7 e8 e9 e10 e11 e12 e13 e14 (kI 16 r) (kA 15 (ct - 1)) (kI 256 q) e21 e22 e23 e25 e26) fX0_24 fp_X0_2 rfl (by exact Nat.le_of_ble_eq_true rfl) dX0_takeBack_37 rfl ?_
      refine g_aload_n (i := 0) (j := 0) dX0_takeBack_40 rfl rfl ?_
      refine g_get fX0_14 rfl rfl dX0_takeBack_41 ?_
      refine g_aload_n (i := 0) (j := 0) dX0_takeBack_44 rfl rfl ?_
      refine g_get fX0_20 rfl rfl dX0_takeBack_45 ?_
      refine g_aload_n (i := 1) (j := 1) dX0_takeBack_48 rfl rfl ?_
      refine c_V (st1 := []) (ctX3_take_a (k := 15) (by omega)) kX3_take lX0_31 (by decide) rfl rfl rfl rfl (by exact Nat.le_of_ble_eq_true rfl) dX0_takeBack_49 rfl rfl ?_
      refine g_vret rfl dX0_takeBack_52 ?_
      refine gE_i rfl ?_
      rw [show (if 0 < nx then nx - 1 else 15) = 15 by first | rw [if_pos (by omega)] | rw [if_neg (by omega)]]
    · refine g_aload_n (i := 0) (j := 0) dX0_takeBack_16 rfl rfl ?_
      refine g_get fX0_20 rfl rfl dX0_takeBack_17 ?_
      refine g_iconst (v := nI 1) dX0_takeBack_20 (by decide) ?_
      refine n_isub (a := nx) (b := 1) (by omega) dX0_takeBack_21 ?_
      refine g_goto (tgt := 27) dX0_takeBack_22 (by decide) ?_
      refine n_putI (ws' := wC e0 e1 e2 e3 e4 e5 e6 e7 e8 e9 e10 e11 e12 e13 e14 (kI 16 r) (kA (nx - 1) ct) (kI 256 q) e21 e22 e23 e25 e26) fX0_20 fp_X0_1 rfl (by exact Nat.le_of_ble_eq_true rfl) dX0_takeBack_27 rfl ?_
      refine g_aload_n (i := 0) (j := 0) dX0_takeBack_30 rfl rfl ?_
      refine g_dup dX0_takeBack_31 rfl ?_
      refine g_get fX0_24 rfl rfl dX0_takeBack_32 ?_
      refine g_iconst (v := nI 1) dX0_takeBack_35 (by decide) ?_
      refine n_isub (a := ct) (b := 1) (by omega) dX0_takeBack_36 ?_
      refine n_putI (ws' := wC e0 e1 e2 e3 e4 e5 e6 e7 e8 e9 e10 e11 e12 e13 e14 (kI 16 r) (kA (nx - 1) (ct - 1)) (kI 256 q) e21 e22 e23 e25 e26) fX0_24 fp_X0_2 rfl (by exact Nat.le_of_ble_eq_true rfl) dX0_takeBack_37 rfl ?_
      refine g_aload_n (i := 0) (j := 0) dX0_takeBack_40 rfl rfl ?_
      refine g_get fX0_14 rfl rfl dX0_takeBack_41 ?_
      refine g_aload_n (i := 0) (j := 0) dX0_takeBack_44 rfl rfl ?_
      refine g_get fX0_20 rfl rfl dX0_takeBack_45 ?_
      refine g_aload_n (i := 1) (j := 1) dX0_takeBack_48 rfl rfl ?_
      refine c_V (st1 := []) (ctX3_take_a (k := nx - 1) (by omega)) kX3_take lX0_31 (by decide) rfl rfl rfl rfl (by exact Nat.le_of_ble_eq_true rfl) dX0_takeBack_49 rfl rfl ?_
      refine g_vret rfl dX0_takeBack_52 ?_
      refine gE_i rfl ?_
      rw [show (if 0 < nx then nx - 1 else 15) = nx - 1 by first | rw [if_pos (by omega)] | rw [if_neg (by omega)]]
  · exfalso; omega

