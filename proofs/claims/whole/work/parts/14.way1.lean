/-! part 14: slots, text, seed; latest, cut, safest -/
theorem nI_n9 {x : Nat} (h : x < 2 ^ 31) : ¬ nI x = -9 := by
  intro e
  have h1 := nI_toInt h
  rw [e, show ((-9 : Int32)).toInt = -9 by decide] at h1
  omega
/-- the last of the first n that has it; the first from i on, of n -/
def sLast (p : Nat → Bool) : Nat → Option Nat
  | 0 => none
  | n + 1 => if p n then some n else sLast p n
def sFirst (p : Nat → Bool) : Nat → Nat → Option Nat
  | 0, _ => none
  | n + 1, i => if p i then some i else sFirst p n (i + 1)
def sAny (p : Nat → Bool) : Nat → Bool
  | 0 => false
  | n + 1 => p n || sAny p n
def sAll (p : Nat → Bool) : Nat → Bool
  | 0 => true
  | n + 1 => p n && sAll p n
theorem sLast_lt {p : Nat → Bool} : ∀ {n t : Nat}, sLast p n = some t → t < n
  | 0, t, h => by cases h
  | n + 1, t, h => by
    rw [sLast] at h
    split at h
    · cases h; omega
    · have := sLast_lt h; omega
theorem sFirst_lt {p : Nat → Bool} : ∀ {n i t : Nat}, sFirst p n i = some t → t < i + n
  | 0, i, t, h => by cases h
  | n + 1, i, t, h => by
    rw [sFirst] at h
    split at h
    · cases h; omega
    · have := sFirst_lt h; omega
theorem sAny_f {p : Nat → Bool} : ∀ {n : Nat}, sAny p n = false ↔ ∀ k, k < n → p k = false
  | 0 => by simp [sAny]
  | n + 1 => by
    rw [sAny, Bool.or_eq_false_iff, sAny_f]
    constructor
    · intro h k hk
      rcases Nat.lt_or_ge k n with q | q
      · exact h.2 k q
      · rw [show k = n by omega]; exact h.1
    · intro h
      exact ⟨h n (by omega), fun k hk => h k (by omega)⟩
theorem sAny_t {p : Nat → Bool} {n k : Nat} (hk : k < n) (h : p k = true) : sAny p n = true := by
  cases e : sAny p n with
  | true => rfl
  | false => rw [sAny_f.mp e k hk] at h; cases h
theorem sAll_t {p : Nat → Bool} : ∀ {n : Nat}, sAll p n = true ↔ ∀ k, k < n → p k = true
  | 0 => by simp [sAll]
  | n + 1 => by
    rw [sAll, Bool.and_eq_true, sAll_t]
    constructor
    · intro h k hk
      rcases Nat.lt_or_ge k n with q | q
      · exact h.2 k q
      · rw [show k = n by omega]; exact h.1
    · intro h
      exact ⟨h n (by omega), fun k hk => h k (by omega)⟩
theorem sAll_f {p : Nat → Bool} {n k : Nat} (hk : k < n) (h : p k = false) : sAll p n = false := by
  cases e : sAll p n with
  | false => rfl
  | true => rw [sAll_t.mp e k hk] at h; cases h
def pWrite (ln : Nat) (x : Int32) : Int32 := if iW x 256 then (if ln < 56 then nI (ln + 1) else -4) else -2
abbrev cWrite (ln : Nat) (x : Int32) : Prop := iW x 256 ∧ ln < 56
def pAgain (kp z : Nat → Nat) (x : Int32) : Int32 := if iW x 2 then (if kp (cN x) = 0 then -3 else nI (z (cN x * 16))) else -1
def pLatest (h so pa wa : Nat → Nat) (wk lo ri la : Nat) (k : Int32) : Int32 := if iW k wk then rO (sLast (fun s => (sArr h so la ri (pa (cN k)) (wa (cN k)) lo 1 0 s).isSome) 41) else -1
def pCut (h wa : Nat → Nat) (wk lo ri la : Nat) (r : Nat → Nat) (k : Int32) : Int32 := if iW k wk then rO (sFirst (fun t => sAny (fun c => decide (wa (cN k) < sDepth h c (sWater la ri t lo))) (r (1 + cN k) + 1)) (41 - r 0) (r 0)) else -1
def sBits (on bk : Option Nat) (up : Bool) : Nat := (if on.isSome then 1 else 0) + (if bk.isSome then 2 else 0) + (if up then 4 else 0)
def sWhich (on bk : Option Nat) (up : Bool) (tm : Nat) : Int32 := match on, bk with
  | some a, some b => if b < a then (if up && decide (tm < b) then nI 2 else nI 1) else (if up && decide (tm < a) then nI 2 else nI 0)
  | some a, none => if up && decide (tm < a) then nI 2 else nI 0
  | none, some b => if up && decide (tm < b) then nI 2 else nI 1
  | none, none => if up then nI 2 else -9
def sTow (up : Bool) (tm : Nat) : Option Nat := if up then some tm else none
def pSafest (h so ho pa wa : Nat → Nat) (wk lo ri la : Nat) (r : Nat → Nat) (k x : Int32) : Int32 := if iW k wk then (if iW x 2 then (if r (11 + cN k) = 0 then
    (if x = 0 then nI (sBits (sArr h so la ri (pa (cN k)) (wa (cN k)) lo 1 (r (1 + cN k)) (r 0)) (sArr h so la ri (pa (cN k)) (wa (cN k)) lo 2 (r (1 + cN k)) (r 0)) (decide (sUp r wk (r (1 + cN k)) < ho (r (1 + cN k)))))
     else sWhich (sArr h so la ri (pa (cN k)) (wa (cN k)) lo 1 (r (1 + cN k)) (r 0)) (sArr h so la ri (pa (cN k)) (wa (cN k)) lo 2 (r (1 + cN k)) (r 0)) (decide (sUp r wk (r (1 + cN k)) < ho (r (1 + cN k)))) (r 0)) else -3) else -2) else -1
theorem ctX4_append {e0 e3 e4 e5 e6 e7 e8 e9 e10 e11 e12 e13 e14 e16 e17 e19 e21 e22 e23 e25 e26 : va_E} {le : Nat → Nat} {ln pl sp x : Nat} (h1 : ln < 56) : Ct mX4_append 0 [.ref 1, .int (nI x)] (wC e0 (kT ln pl sp) (kI 56 le) e3 e4 e5 e6 e7 e8 e9 e10 e11 e12 e13 e14 e16 e17 e19 e21 e22 e23 e25 e26) (gE none (wC e0 (kT (ln + 1) pl sp) (kI 56 (va_up le ln x)) e3 e4 e5 e6 e7 e8 e9 e10 e11 e12 e13 e14 e16 e17 e19 e21 e22 e23 e25 e26)) := by
  refine Ct.of (by decide) (by exact Nat.le_of_ble_eq_true rfl) ?_
  show Go mX4_append 0 0 [(0, .ref 1), (1, .int (nI x))] [] (wC e0 (kT ln pl sp) (kI 56 le) e3 e4 e5 e6 e7 e8 e9 e10 e11 e12 e13 e14 e16 e17 e19 e21 e22 e23 e25 e26) (gE none (wC e0 (kT (ln + 1) pl sp) (kI 56 (va_up le ln x)) e3 e4 e5 e6 e7 e8 e9 e10 e11 e12 e13 e14 e16 e17 e19 e21 e22 e23 e25 e26))
  refine g_aload_n (i := 0) (j := 0) dX4_append_0 rfl rfl ?_
  refine g_get fX4_15 rfl rfl dX4_append_1 ?_
  refine n_if_lt (tgt := 16) (by omega) dX4_append_4 (by decide) ?_
  refine g_aload_n (i := 0) (j := 0) dX4_append_7 rfl rfl ?_
  refine g_get fX4_15 rfl rfl dX4_append_8 ?_
  refine g_bipush (v := nI 56) dX4_append_11 (by decide) ?_
  refine n_icmp_lt (tgt := 17) (by omega) (rng_lit 56 rfl) dX4_append_13 (by decide) (fun h13 => ?_) (fun h13 => ?_)
  · refine g_aload_n (i := 0) (j := 0) dX4_append_17 rfl rfl ?_
    refine g_get fX4_9 rfl rfl dX4_append_18 ?_
    refine g_aload_n (i := 0) (j := 0) dX4_append_21 rfl rfl ?_
    refine g_get fX4_15 rfl rfl dX4_append_22 ?_
    refine g_iload_n (i := 1) (j := 1) dX4_append_25 rfl rfl ?_
    refine n_iast (x := ln) (ws' := wC e0 (kT ln pl sp) (kI 56 (va_up le ln x)) e3 e4 e5 e6 e7 e8 e9 e10 e11 e12 e13 e14 e16 e17 e19 e21 e22 e23 e25 e26) rfl (by omega) (rng_lit 56 rfl) dX4_append_26 rfl ?_
    refine g_aload_n (i := 0) (j := 0) dX4_append_27 rfl rfl ?_
    refine g_dup dX4_append_28 rfl ?_
    refine g_get fX4_15 rfl rfl dX4_append_29 ?_
    refine g_iconst (v := nI 1) dX4_append_32 (by decide) ?_
    refine n_iadd (a := ln) (b := 1) dX4_append_33 ?_
    refine n_putI (ws' := wC e0 (kT (ln + 1) pl sp) (kI 56 (va_up le ln x)) e3 e4 e5 e6 e7 e8 e9 e10 e11 e12 e13 e14 e16 e17 e19 e21 e22 e23 e25 e26) fX4_15 fp_X4_1 rfl (by exact Nat.le_of_ble_eq_true rfl) dX4_append_34 rfl ?_
    refine g_vret rfl dX4_append_37 ?_
    exact gE_i rfl rfl
  · exfalso; omega

theorem ctX4_empty {e0 e2 e3 e4 e5 e6 e7 e8 e9 e10 e11 e12 e13 e14 e16 e17 e19 e21 e22 e23 e25 e26 : va_E} {ln pl sp : Nat} : Ct mX4_empty 0 [.ref 1] (wC e0 (kT ln pl sp) e2 e3 e4 e5 e6 e7 e8 e9 e10 e11 e12 e13 e14 e16 e17 e19 e21 e22 e23 e25 e26) (gE none (wC e0 (kT 0 pl sp) e2 e3 e4 e5 e6 e7 e8 e9 e10 e11 e12 e13 e14 e16 e17 e19 e21 e22 e23 e25 e26)) := by
  refine Ct.of (by decide) (by exact Nat.le_of_ble_eq_true rfl) ?_
  show Go mX4_empty 0 0 [(0, .ref 1)] [] (wC e0 (kT ln pl sp) e2 e3 e4 e5 e6 e7 e8 e9 e10 e11 e12 e13 e14 e16 e17 e19 e21 e22 e23 e25 e26) (gE none (wC e0 (kT 0 pl sp) e2 e3 e4 e5 e6 e7 e8 e9 e10 e11 e12 e13 e14 e16 e17 e19 e21 e22 e23 e25 e26))
  refine g_aload_n (i := 0) (j := 0) dX4_empty_0 rfl rfl ?_
  refine g_iconst (v := nI 0) dX4_empty_1 (by decide) ?_
  refine n_putI (ws' := wC e0 (kT 0 pl sp) e2 e3 e4 e5 e6 e7 e8 e9 e10 e11 e12 e13 e14 e16 e17 e19 e21 e22 e23 e25 e26) fX4_15 fp_X4_1 rfl (by exact Nat.le_of_ble_eq_true rfl) dX4_empty_2 rfl ?_
  refine g_vret rfl dX4_empty_5 ?_
  exact gE_i rfl rfl

theorem ctX7_write {e3 e4 e5 e6 e7 e8 e9 e10 e11 e12 e13 e14 e16 e17 e19 e21 e22 e23 e25 e26 : va_E} {sd : Int64} {le : Nat → Nat} {ln pl sp : Nat} {x : Int32} (hln : ln ≤ 56) : Ct mX7_write 1 [.ref 0, .int x] (wC (kO sd) (kT ln pl sp) (kI 56 le) e3 e4 e5 e6 e7 e8 e9 e10 e11 e12 e13 e14 e16 e17 e19 e21 e22 e23 e25 e26) (gE (some (.int (pWrite ln x))) (if cWrite ln x then wC (kO sd) (kT (ln + 1) pl sp) (kI 56 (va_up le ln (cN x))) e3 e4 e5 e6 e7 e8 e9 e10 e11 e12 e13 e14 e16 e17 e19 e21 e22 e23 e25 e26 else wC (kO sd) (kT ln pl sp) (kI 56 le) e3 e4 e5 e6 e7 e8 e9 e10 e11 e12 e13 e14 e16 e17 e19 e21 e22 e23 e25 e26)) := by
  refine Ct.of (by decide) (by exact Nat.le_of_ble_eq_true rfl) ?_
  show Go mX7_write 1 0 [(0, .ref 0), (1, .int x)] [] (wC (kO sd) (kT ln pl sp) (kI 56 le) e3 e4 e5 e6 e7 e8 e9 e10 e11 e12 e13 e14 e16 e17 e19 e21 e22 e23 e25 e26) (gE (some (.int (pWrite ln x))) (if cWrite ln x then wC (kO sd) (kT (ln + 1) pl sp) (kI 56 (va_up le ln (cN x))) e3 e4 e5 e6 e7 e8 e9 e10 e11 e12 e13 e14 e16 e17 e19 e21 e22 e23 e25 e26 else wC (kO sd) (kT ln pl sp) (kI 56 le) e3 e4 e5 e6 e7 e8 e9 e10 e11 e12 e13 e14 e16 e17 e19 e21 e22 e23 e25 e26))
  refine g_iload_n (i := 1) (j := 1) dX7_write_0 rfl rfl ?_
  refine g_if_lt (tgt := 11) dX7_write_1 (by decide) (fun h1 => ?_) (fun h1 => ?_)
  · refine g_bipush (v := (-2)) dX7_write_11 (by decide) ?_
    refine g_iret rfl rfl dX7_write_13 ?_
    simp only [Int32.lt_iff_toInt_lt, Int32.le_iff_toInt_le, t_z, t_0, t_1, t_2, t_3, t_5, t_6, t_8, t_9, t_10, t_20, t_40, t_56, t_255] at *
    have ni : ¬ iW x 256 := by unfold iW; omega
    exact gE_r (if_neg ni).symm (if_neg (fun z => ni z.1)).symm
  · refine g_iload_n (i := 1) (j := 1) dX7_write_4 rfl rfl ?_
    refine g_sipush (v := nI 255) dX7_write_5 (by decide) ?_
    refine g_icmp_le (tgt := 14) dX7_write_8 (by decide) (fun h8 => ?_) (fun h8 => ?_)
    · simp only [Int32.lt_iff_toInt_lt, Int32.le_iff_toInt_le, t_z, t_0, t_1, t_2, t_3, t_5, t_6, t_8, t_9, t_10, t_20, t_40, t_56, t_255] at h1 h8
      obtain ⟨j, hj, rfl⟩ := raw_lt (x := x) (n := 256) (by omega)
      have ek : cN (nI j) = j := cN_n (by omega)
      have ei : iW (nI j) 256 := (iW_n (by omega)).mpr hj
      refine g_aload_n (i := 0) (j := 0) dX7_write_14 rfl rfl ?_
      refine g_get fX7_10 rfl rfl dX7_write_15 ?_
      refine g_get fX7_71 rfl rfl dX7_write_18 ?_
      refine g_bipush (v := nI 56) dX7_write_21 (by decide) ?_
      refine n_icmp_lt (tgt := 29) (by omega) (rng_lit 56 rfl) dX7_write_23 (by decide) (fun h23 => ?_) (fun h23 => ?_)
      · refine g_aload_n (i := 0) (j := 0) dX7_write_29 rfl rfl ?_
        refine g_get fX7_10 rfl rfl dX7_write_30 ?_
        refine g_iload_n (i := 1) (j := 1) dX7_write_33 rfl rfl ?_
        refine c_V (st1 := []) (ctX4_append (x := j) (by omega)) kX4_append lX7_75 (by decide) rfl rfl rfl rfl (by exact Nat.le_of_ble_eq_true rfl) dX7_write_34 rfl rfl ?_
        refine g_aload_n (i := 0) (j := 0) dX7_write_37 rfl rfl ?_
        refine g_get fX7_10 rfl rfl dX7_write_38 ?_
        refine g_get fX7_71 rfl rfl dX7_write_41 ?_
        refine g_iret rfl rfl dX7_write_44 ?_
        refine gE_r ?_ ?_
        · unfold pWrite
          rw [if_pos ei, if_pos (by omega)]
        · refine Eq.trans ?_ (if_pos (c := cWrite ln (nI j)) ⟨ei, by omega⟩).symm
          rw [ek]
      · refine g_bipush (v := (-4)) dX7_write_26 (by decide) ?_
        refine g_iret rfl rfl dX7_write_28 ?_
        refine gE_r ?_ (if_neg (fun z => by have := z.2; omega)).symm
        unfold pWrite
        rw [if_pos ei, if_neg (by omega)]
    · refine g_bipush (v := (-2)) dX7_write_11 (by decide) ?_
      refine g_iret rfl rfl dX7_write_13 ?_
      simp only [Int32.lt_iff_toInt_lt, Int32.le_iff_toInt_le, t_z, t_0, t_1, t_2, t_3, t_5, t_6, t_8, t_9, t_10, t_20, t_40, t_56, t_255] at *
      have ni : ¬ iW x 256 := by unfold iW; omega
      exact gE_r (if_neg ni).symm (if_neg (fun z => ni z.1)).symm

theorem ctX7_wipe {e2 e3 e4 e5 e6 e7 e8 e9 e10 e11 e12 e13 e14 e16 e17 e19 e21 e22 e23 e25 e26 : va_E} {sd : Int64} {ln pl sp : Nat} : Ct mX7_wipe 1 [.ref 0] (wC (kO sd) (kT ln pl sp) e2 e3 e4 e5 e6 e7 e8 e9 e10 e11 e12 e13 e14 e16 e17 e19 e21 e22 e23 e25 e26) (gE (some (.int (nI ln))) (wC (kO sd) (kT 0 pl sp) e2 e3 e4 e5 e6 e7 e8 e9 e10 e11 e12 e13 e14 e16 e17 e19 e21 e22 e23 e25 e26)) := by
  refine Ct.of (by decide) (by exact Nat.le_of_ble_eq_true rfl) ?_
  show Go mX7_wipe 1 0 [(0, .ref 0)] [] (wC (kO sd) (kT ln pl sp) e2 e3 e4 e5 e6 e7 e8 e9 e10 e11 e12 e13 e14 e16 e17 e19 e21 e22 e23 e25 e26) (gE (some (.int (nI ln))) (wC (kO sd) (kT 0 pl sp) e2 e3 e4 e5 e6 e7 e8 e9 e10 e11 e12 e13 e14 e16 e17 e19 e21 e22 e23 e25 e26))
  refine g_aload_n (i := 0) (j := 0) dX7_wipe_0 rfl rfl ?_
  refine g_get fX7_10 rfl rfl dX7_wipe_1 ?_
  refine g_get fX7_71 rfl rfl dX7_wipe_4 ?_
  refine g_istore_n (i := 1) (lv' := [(1, .int (nI ln)), (0, .ref 0)]) dX7_wipe_7 rfl (by decide) rfl ?_
  refine g_aload_n (i := 0) (j := 1) dX7_wipe_8 rfl rfl ?_
  refine g_get fX7_10 rfl rfl dX7_wipe_9 ?_
  refine c_V (st1 := []) (ctX4_empty  ) kX4_empty lX7_78 (by decide) rfl rfl rfl rfl (by exact Nat.le_of_ble_eq_true rfl) dX7_wipe_12 rfl rfl ?_
  refine g_iload_n (i := 1) (j := 0) dX7_wipe_15 rfl rfl ?_
  refine g_iret rfl rfl dX7_wipe_16 ?_
  exact gE_i rfl rfl

theorem ctX7_seed {e1 e2 e3 e4 e5 e6 e7 e8 e9 e10 e11 e12 e13 e14 e16 e17 e19 e21 e22 e23 e25 e26 : va_E} {sd x : Int64} : Ct mX7_seed 0 [.ref 0, .long x] (wC (kO sd) e1 e2 e3 e4 e5 e6 e7 e8 e9 e10 e11 e12 e13 e14 e16 e17 e19 e21 e22 e23 e25 e26) (gE (some (.long sd)) (wC (kO x) e1 e2 e3 e4 e5 e6 e7 e8 e9 e10 e11 e12 e13 e14 e16 e17 e19 e21 e22 e23 e25 e26)) := by
  refine Ct.of (by decide) (by exact Nat.le_of_ble_eq_true rfl) ?_
  show Go mX7_seed 0 0 [(0, .ref 0), (1, .long x)] [] (wC (kO sd) e1 e2 e3 e4 e5 e6 e7 e8 e9 e10 e11 e12 e13 e14 e16 e17 e19 e21 e22 e23 e25 e26) (gE (some (.long sd)) (wC (kO x) e1 e2 e3 e4 e5 e6 e7 e8 e9 e10 e11 e12 e13 e14 e16 e17 e19 e21 e22 e23 e25 e26))
  refine g_aload_n (i := 0) (j := 0) dX7_seed_0 rfl rfl ?_
  refine g_get fX7_67 rfl rfl dX7_seed_1 ?_
  refine g_lstore_n (i := 3) (lv' := [(3, .long sd), (0, .ref 0), (1, .long x)]) dX7_seed_4 rfl (by decide) rfl ?_
  refine g_aload_n (i := 0) (j := 1) dX7_seed_5 rfl rfl ?_
  refine g_lload_n (i := 1) (j := 2) dX7_seed_6 rfl rfl ?_
  refine r_putJ (ws' := wC (kO x) e1 e2 e3 e4 e5 e6 e7 e8 e9 e10 e11 e12 e13 e14 e16 e17 e19 e21 e22 e23 e25 e26) fX7_67 fp_X7_9 rfl (by exact Nat.le_of_ble_eq_true rfl) dX7_seed_7 rfl ?_
  refine g_lload_n (i := 3) (j := 0) dX7_seed_10 rfl rfl ?_
  refine g_lret rfl dX7_seed_11 ?_
  exact gE_i rfl rfl

theorem ctX7_keep {e1 e2 e9 e10 e11 e12 e13 e14 e17 e19 e25 e26 : va_E} {z kp : Nat → Nat} {sd : Int64} {h so ho pa wa : Nat → Nat} {wk tw sf lo ri la : Nat} {r : Nat → Nat} {t : t6} (hrk : rOK r) {x : Int32} : Ct mX7_keep 3 [.ref 0, .int x] (wC (kO sd) e1 e2 (kG3 wk tw sf lo ri la) (kI 10 h) (kZ 10 so) (kI 10 ho) (kI 5 pa) (kI 5 wa) e9 e10 e11 e12 e13 e14 (kI 16 r) e17 e19 (kI 32 z) (kZ 2 kp) (kPt t) e25 e26) (gE (some (.int (if iW x 2 then nI (r 0) else -1))) (if iW x 2 then wC (kO sd) e1 e2 (kG3 wk tw sf lo ri la) (kI 10 h) (kZ 10 so) (kI 10 ho) (kI 5 pa) (kI 5 wa) e9 e10 e11 e12 e13 e14 (kI 16 r) e17 e19 (kI 32 (va_cpy r z 0 (cN x * 16) 16)) (kZ 2 (va_up kp (cN x) 1)) (kPt t) e25 e26 else wC (kO sd) e1 e2 (kG3 wk tw sf lo ri la) (kI 10 h) (kZ 10 so) (kI 10 ho) (kI 5 pa) (kI 5 wa) e9 e10 e11 e12 e13 e14 (kI 16 r) e17 e19 (kI 32 z) (kZ 2 kp) (kPt t) e25 e26)) := by
  refine Ct.of (by decide) (by exact Nat.le_of_ble_eq_true rfl) ?_
  show Go mX7_keep 3 0 [(0, .ref 0), (1, .int x)] [] (wC (kO sd) e1 e2 (kG3 wk tw sf lo ri la) (kI 10 h) (kZ 10 so) (kI 10 ho) (kI 5 pa) (kI 5 wa) e9 e10 e11 e12 e13 e14 (kI 16 r) e17 e19 (kI 32 z) (kZ 2 kp) (kPt t) e25 e26) (gE (some (.int (if iW x 2 then nI (r 0) else -1))) (if iW x 2 then wC (kO sd) e1 e2 (kG3 wk tw sf lo ri la) (kI 10 h) (kZ 10 so) (kI 10 ho) (kI 5 pa) (kI 5 wa) e9 e10 e11 e12 e13 e14 (kI 16 r) e17 e19 (kI 32 (va_cpy r z 0 (cN x * 16) 16)) (kZ 2 (va_up kp (cN x) 1)) (kPt t) e25 e26 else wC (kO sd) e1 e2 (kG3 wk tw sf lo ri la) (kI 10 h) (kZ 10 so) (kI 10 ho) (kI 5 pa) (kI 5 wa) e9 e10 e11 e12 e13 e14 (kI 16 r) e17 e19 (kI 32 z) (kZ 2 kp) (kPt t) e25 e26))
  obtain ⟨hr, hr1, hr6, hr11⟩ := hrk
  refine g_iload_n (i := 1) (j := 1) dX7_keep_0 rfl rfl ?_
  refine c_S (st1 := [.int (nI (bN (0 ≤ x.toInt ∧ x.toInt ≤ 1)))]) (ctX7_isSlot (x := x) ) kX7_isSlot lX7_268 (by decide) rfl (by exact Nat.le_of_ble_eq_true rfl) dX7_keep_1 rfl rfl ?_
  refine b_if_ne (tgt := 9) dX7_keep_4 (by decide) (fun h4 => ?_) (fun h4 => ?_)
  · obtain ⟨j, hj, rfl⟩ := raw_lt (x := x) (n := 2) (by omega)
    have ek : cN (nI j) = j := cN_n (by omega)
    have ei : iW (nI j) 2 := (iW_n (by omega)).mpr hj
    refine g_aload_n (i := 0) (j := 0) dX7_keep_9 rfl rfl ?_
    refine g_get fX7_45 rfl rfl dX7_keep_10 ?_
    refine g_iload_n (i := 1) (j := 1) dX7_keep_13 rfl rfl ?_
    refine g_aload_n (i := 0) (j := 0) dX7_keep_14 rfl rfl ?_
    refine g_get fX7_29 rfl rfl dX7_keep_15 ?_
    refine c_V (st1 := []) (ctX3_put_s (k := j) (by omega)) kX3_put lX7_271 (by decide) rfl rfl rfl rfl (by exact Nat.le_of_ble_eq_true rfl) dX7_keep_18 rfl rfl ?_
    refine g_aload_n (i := 0) (j := 0) dX7_keep_21 rfl rfl ?_
    refine g_get fX7_49 rfl rfl dX7_keep_22 ?_
    refine g_iload_n (i := 1) (j := 1) dX7_keep_25 rfl rfl ?_
    refine g_iconst (v := nI 1) dX7_keep_26 (by decide) ?_
    refine n_zast (x := j) (ws' := wC (kO sd) e1 e2 (kG3 wk tw sf lo ri la) (kI 10 h) (kZ 10 so) (kI 10 ho) (kI 5 pa) (kI 5 wa) e9 e10 e11 e12 e13 e14 (kI 16 r) e17 e19 (kI 32 (va_cpy r z 0 (j * 16) 16)) (kZ 2 (va_up kp j 1)) (kPt t) e25 e26) rfl (by omega) (rng_lit 2 rfl) (by omega) dX7_keep_27 rfl ?_
    refine g_aload_n (i := 0) (j := 0) dX7_keep_28 rfl rfl ?_
    refine g_get fX7_29 rfl rfl dX7_keep_29 ?_
    refine c_V (st1 := [.int (nI (r 0))]) (ctX2_time  ) kX2_time lX7_95 (by decide) rfl rfl rfl rfl (by exact Nat.le_of_ble_eq_true rfl) dX7_keep_32 rfl rfl ?_
    refine g_iret rfl rfl dX7_keep_35 ?_
    refine gE_r (if_pos ei).symm ?_
    refine Eq.trans ?_ (if_pos ei).symm
    rw [ek]
  · refine g_iconst (v := (-1)) dX7_keep_7 (by decide) ?_
    refine g_iret rfl rfl dX7_keep_8 ?_
    have ni : ¬ iW x 2 := by unfold iW; omega
    exact gE_r (if_neg ni).symm (if_neg ni).symm

theorem ctX7_again {e1 e2 e9 e10 e11 e12 e13 e14 e19 e25 e26 : va_E} {nx ct : Nat} {z kp : Nat → Nat} {sd : Int64} {h so ho pa wa : Nat → Nat} {wk tw sf lo ri la : Nat} {r : Nat → Nat} {t : t6} (hkp : ∀ k, kp k ≤ 1) {x : Int32} : Ct mX7_again 3 [.ref 0, .int x] (wC (kO sd) e1 e2 (kG3 wk tw sf lo ri la) (kI 10 h) (kZ 10 so) (kI 10 ho) (kI 5 pa) (kI 5 wa) e9 e10 e11 e12 e13 e14 (kI 16 r) (kA nx ct) e19 (kI 32 z) (kZ 2 kp) (kPt t) e25 e26) (gE (some (.int (pAgain kp z x))) (if iW x 2 ∧ kp (cN x) ≠ 0 then wC (kO sd) e1 e2 (kG3 wk tw sf lo ri la) (kI 10 h) (kZ 10 so) (kI 10 ho) (kI 5 pa) (kI 5 wa) e9 e10 e11 e12 e13 e14 (kI 16 (va_cpy z r (cN x * 16) 0 16)) (kA 0 0) e19 (kI 32 z) (kZ 2 kp) (kPt t) e25 e26 else wC (kO sd) e1 e2 (kG3 wk tw sf lo ri la) (kI 10 h) (kZ 10 so) (kI 10 ho) (kI 5 pa) (kI 5 wa) e9 e10 e11 e12 e13 e14 (kI 16 r) (kA nx ct) e19 (kI 32 z) (kZ 2 kp) (kPt t) e25 e26)) := by
  refine Ct.of (by decide) (by exact Nat.le_of_ble_eq_true rfl) ?_
  show Go mX7_again 3 0 [(0, .ref 0), (1, .int x)] [] (wC (kO sd) e1 e2 (kG3 wk tw sf lo ri la) (kI 10 h) (kZ 10 so) (kI 10 ho) (kI 5 pa) (kI 5 wa) e9 e10 e11 e12 e13 e14 (kI 16 r) (kA nx ct) e19 (kI 32 z) (kZ 2 kp) (kPt t) e25 e26) (gE (some (.int (pAgain kp z x))) (if iW x 2 ∧ kp (cN x) ≠ 0 then wC (kO sd) e1 e2 (kG3 wk tw sf lo ri la) (kI 10 h) (kZ 10 so) (kI 10 ho) (kI 5 pa) (kI 5 wa) e9 e10 e11 e12 e13 e14 (kI 16 (va_cpy z r (cN x * 16) 0 16)) (kA 0 0) e19 (kI 32 z) (kZ 2 kp) (kPt t) e25 e26 else wC (kO sd) e1 e2 (kG3 wk tw sf lo ri la) (kI 10 h) (kZ 10 so) (kI 10 ho) (kI 5 pa) (kI 5 wa) e9 e10 e11 e12 e13 e14 (kI 16 r) (kA nx ct) e19 (kI 32 z) (kZ 2 kp) (kPt t) e25 e26))
  refine g_iload_n (i := 1) (j := 1) dX7_again_0 rfl rfl ?_
  refine c_S (st1 := [.int (nI (bN (0 ≤ x.toInt ∧ x.toInt ≤ 1)))]) (ctX7_isSlot (x := x) ) kX7_isSlot lX7_268 (by decide) rfl (by exact Nat.le_of_ble_eq_true rfl) dX7_again_1 rfl rfl ?_
  refine b_if_ne (tgt := 9) dX7_again_4 (by decide) (fun h4 => ?_) (fun h4 => ?_)
  · obtain ⟨j, hj, rfl⟩ := raw_lt (x := x) (n := 2) (by omega)
    have ek : cN (nI j) = j := cN_n (by omega)
    have ei : iW (nI j) 2 := (iW_n (by omega)).mpr hj
    refine g_aload_n (i := 0) (j := 0) dX7_again_9 rfl rfl ?_
    refine g_get fX7_49 rfl rfl dX7_again_10 ?_
    refine g_iload_n (i := 1) (j := 1) dX7_again_13 rfl rfl ?_
    refine n_zald (x := j) rfl (by omega) (rng_lit 2 rfl) dX7_again_14 ?_
    refine n_if_ne (tgt := 21) (by have := hkp j; omega) dX7_again_15 (by decide) (fun h15 => ?_) (fun h15 => ?_)
    · refine g_aload_n (i := 0) (j := 0) dX7_again_21 rfl rfl ?_
      refine g_get fX7_45 rfl rfl dX7_again_22 ?_
      refine g_iload_n (i := 1) (j := 1) dX7_again_25 rfl rfl ?_
      refine g_aload_n (i := 0) (j := 0) dX7_again_26 rfl rfl ?_
      refine g_get fX7_29 rfl rfl dX7_again_27 ?_
      refine c_V (st1 := []) (ctX3_take_s (k := j) (by omega)) kX3_take lX7_275 (by decide) rfl rfl rfl rfl (by exact Nat.le_of_ble_eq_true rfl) dX7_again_30 rfl rfl ?_
      refine g_aload_n (i := 0) (j := 0) dX7_again_33 rfl rfl ?_
      refine g_get fX7_36 rfl rfl dX7_again_34 ?_
      refine c_V (st1 := []) (ctX0_clear  ) kX0_clear lX7_88 (by decide) rfl rfl rfl rfl (by exact Nat.le_of_ble_eq_true rfl) dX7_again_37 rfl rfl ?_
      refine g_aload_n (i := 0) (j := 0) dX7_again_40 rfl rfl ?_
      refine g_get fX7_29 rfl rfl dX7_again_41 ?_
      refine c_V (st1 := [.int (nI ((va_cpy z r (j * 16) 0 16) 0))]) (ctX2_time  ) kX2_time lX7_95 (by decide) rfl rfl rfl rfl (by exact Nat.le_of_ble_eq_true rfl) dX7_again_44 rfl rfl ?_
      refine g_iret rfl rfl dX7_again_47 ?_
      refine gE_r ?_ ?_
      · unfold pAgain
        rw [if_pos ei, ek, if_neg (by omega)]
        simp [va_cpy]
      · refine Eq.trans ?_ (if_pos ⟨ei, by rw [ek]; omega⟩).symm
        rw [ek]
    · refine g_bipush (v := (-3)) dX7_again_18 (by decide) ?_
      refine g_iret rfl rfl dX7_again_20 ?_
      refine gE_r ?_ (if_neg (fun z => by have z2 := z.2; rw [ek] at z2; omega)).symm
      unfold pAgain
      rw [if_pos ei, ek, if_pos h15]
  · refine g_iconst (v := (-1)) dX7_again_7 (by decide) ?_
    refine g_iret rfl rfl dX7_again_8 ?_
    have ni : ¬ iW x 2 := by unfold iW; omega
    exact gE_r (if_neg ni).symm (if_neg (fun z => ni z.1)).symm

theorem lp_latest {e1 e2 e9 e10 e11 e12 e13 e14 e17 e19 e21 e22 e25 e26 : va_E} {sd : Int64} {h so ho pa wa : Nat → Nat} {wk tw sf lo ri la : Nat} {r : Nat → Nat} (hg : gOK h so ho pa wa wk tw lo ri la) {k : Nat} (hk : k < 5) : ∀ (n : Nat) (t : t6), n ≤ 41 → Go mX7_latest 5 13 [(0, .ref 0), (1, .int (nI k)), (2, .int (nI n + (-1)))] [] (wC (kO sd) e1 e2 (kG3 wk tw sf lo ri la) (kI 10 h) (kZ 10 so) (kI 10 ho) (kI 5 pa) (kI 5 wa) e9 e10 e11 e12 e13 e14 (kI 16 r) e17 e19 e21 e22 (kPt t) e25 e26) (fun v u => v = some (.int (rO (sLast (fun s => (sArr h so la ri (pa k) (wa k) lo 1 0 s).isSome) n))) ∧ ∃ t2 : t6, u = wC (kO sd) e1 e2 (kG3 wk tw sf lo ri la) (kI 10 h) (kZ 10 so) (kI 10 ho) (kI 5 pa) (kI 5 wa) e9 e10 e11 e12 e13 e14 (kI 16 r) e17 e19 e21 e22 (kPt t2) e25 e26) := by
  obtain ⟨hH, hso, hho, hpa, hwa, hwk, htw, hlo, hri, hla⟩ := hg
  intro n
  induction n with
  | zero =>
    intro t hn
    refine g_lvE (lv' := [(0, .ref 0), (1, .int (nI k)), (2, .int (-1))]) (by rw [show nI 0 + (-1) = (-1 : Int32) by decide]) ?_
    refine g_iload_n (i := 2) (j := 2) dX7_latest_13 rfl rfl ?_
    refine g_if_lt (tgt := 38) dX7_latest_14 (by decide) (fun h14 => ?_) (fun h14 => ?_)
    · refine g_bipush (v := (-9)) dX7_latest_38 (by decide) ?_
      refine g_iret rfl rfl dX7_latest_40 ?_
      exact ⟨rfl, _, rfl⟩
    · exact absurd (by decide) h14

  | succ n ih =>
    intro t hn
    refine g_lvE (lv' := [(0, .ref 0), (1, .int (nI k)), (2, .int (nI n))]) (by rw [pk_m1]) ?_
    refine g_iload_n (i := 2) (j := 2) dX7_latest_13 rfl rfl ?_
    refine n_if_lt (tgt := 38) (by omega) dX7_latest_14 (by decide) ?_
    refine g_aload_n (i := 0) (j := 0) dX7_latest_17 rfl rfl ?_
    refine g_iload_n (i := 1) (j := 1) dX7_latest_18 rfl rfl ?_
    refine g_iconst (v := nI 0) dX7_latest_19 (by decide) ?_
    refine g_iload_n (i := 2) (j := 2) dX7_latest_20 rfl rfl ?_
    refine g_iconst (v := nI 1) dX7_latest_21 (by decide) ?_
    refine g_callV (rest := []) (ctX7_arrival (k := k) (c := 0) (s := n) (way := 1) ⟨hH, hso, hho, hpa, hwa, hwk, htw, hlo, hri, hla⟩ (by first | omega | exact hpa _ | exact hwa _ | exact hr1 _ (by omega) | exact hr6 _ (by omega) | exact hr11 _ (by omega) | exact hr _ | exact Nat.le_succ_of_le (hr _)) (by first | omega | exact hpa _ | exact hwa _ | exact hr1 _ (by omega) | exact hr6 _ (by omega) | exact hr11 _ (by omega) | exact hr _ | exact Nat.le_succ_of_le (hr _)) (by first | omega | exact hpa _ | exact hwa _ | exact hr1 _ (by omega) | exact hr6 _ (by omega) | exact hr11 _ (by omega) | exact hr _ | exact Nat.le_succ_of_le (hr _)) (by first | omega | exact hpa _ | exact hwa _ | exact hr1 _ (by omega) | exact hr6 _ (by omega) | exact hr11 _ (by omega) | exact hr _ | exact Nat.le_succ_of_le (hr _)) (by first | omega | exact hpa _ | exact hwa _ | exact hr1 _ (by omega) | exact hr6 _ (by omega) | exact hr11 _ (by omega) | exact hr _ | exact Nat.le_succ_of_le (hr _))) kX7_arrival lX7_185 (by decide) rfl rfl rfl rfl (by exact Nat.le_of_ble_eq_true rfl) dX7_latest_22 rfl (fun v u hvu => ?_)
    obtain ⟨rfl, t22, rfl⟩ := hvu
    refine g_st (st' := [.int (rO (sArr h so la ri (pa k) (wa k) lo 1 0 n))]) rfl ?_
    refine g_bipush (v := (-9)) dX7_latest_25 (by decide) ?_
    refine g_icmp_eq (tgt := 32) dX7_latest_27 (by decide) (fun h27 => ?_) (fun h27 => ?_)
    · replace h27 := (sArr_ne (by omega)).mp h27
      refine g_iinc (x := (nI n)) (v := ((nI n) + (-1))) (j := 2) (lv' := [(2, .int ((nI n) + (-1))), (0, .ref 0), (1, .int (nI k))]) dX7_latest_32 rfl rfl (by decide) rfl ?_
      refine g_goto (tgt := 13) dX7_latest_35 (by decide) ?_
      refine g_lv [1, 2, 0] rfl ?_
      refine g_post ?_ (ih t22 (by omega))
      intro v u hvu
      rw [show sLast (fun s => (sArr h so la ri (pa k) (wa k) lo 1 0 s).isSome) (n + 1) = sLast (fun s => (sArr h so la ri (pa k) (wa k) lo 1 0 s).isSome) n by rw [sLast, isSome_f h27]; rfl]
      exact hvu
    · replace h27 := fun z => h27 ((sArr_ne (by omega)).mpr z)
      refine g_iload_n (i := 2) (j := 2) dX7_latest_30 rfl rfl ?_
      refine g_iret rfl rfl dX7_latest_31 ?_
      refine ⟨?_, _, rfl⟩
      rw [show sLast (fun s => (sArr h so la ri (pa k) (wa k) lo 1 0 s).isSome) (n + 1) = some n by rw [sLast, isSome_t h27]; rfl]
      rfl

theorem ctX7_latest {e1 e2 e9 e10 e11 e12 e13 e14 e17 e19 e21 e22 e25 e26 : va_E} {sd : Int64} {h so ho pa wa : Nat → Nat} {wk tw sf lo ri la : Nat} {r : Nat → Nat} {t : t6} (hg : gOK h so ho pa wa wk tw lo ri la) {k0 : Int32} : Ct mX7_latest 5 [.ref 0, .int k0] (wC (kO sd) e1 e2 (kG3 wk tw sf lo ri la) (kI 10 h) (kZ 10 so) (kI 10 ho) (kI 5 pa) (kI 5 wa) e9 e10 e11 e12 e13 e14 (kI 16 r) e17 e19 e21 e22 (kPt t) e25 e26) (fun v u => v = some (.int (pLatest h so pa wa wk lo ri la k0)) ∧ ∃ t2 : t6, u = wC (kO sd) e1 e2 (kG3 wk tw sf lo ri la) (kI 10 h) (kZ 10 so) (kI 10 ho) (kI 5 pa) (kI 5 wa) e9 e10 e11 e12 e13 e14 (kI 16 r) e17 e19 e21 e22 (kPt t2) e25 e26) := by
  refine Ct.of (by decide) (by exact Nat.le_of_ble_eq_true rfl) ?_
  show Go mX7_latest 5 0 [(0, .ref 0), (1, .int k0)] [] (wC (kO sd) e1 e2 (kG3 wk tw sf lo ri la) (kI 10 h) (kZ 10 so) (kI 10 ho) (kI 5 pa) (kI 5 wa) e9 e10 e11 e12 e13 e14 (kI 16 r) e17 e19 e21 e22 (kPt t) e25 e26) (fun v u => v = some (.int (pLatest h so pa wa wk lo ri la k0)) ∧ ∃ t2 : t6, u = wC (kO sd) e1 e2 (kG3 wk tw sf lo ri la) (kI 10 h) (kZ 10 so) (kI 10 ho) (kI 5 pa) (kI 5 wa) e9 e10 e11 e12 e13 e14 (kI 16 r) e17 e19 e21 e22 (kPt t2) e25 e26)
  obtain ⟨hH, hso, hho, hpa, hwa, hwk, htw, hlo, hri, hla⟩ := hg
  refine g_aload_n (i := 0) (j := 0) dX7_latest_0 rfl rfl ?_
  refine g_iload_n (i := 1) (j := 1) dX7_latest_1 rfl rfl ?_
  refine c_V (st1 := [.int (nI (bN (0 ≤ k0.toInt ∧ k0.toInt < wk)))]) (ctX7_isWalker (x := k0) (by omega)) kX7_isWalker lX7_138 (by decide) rfl rfl rfl rfl (by exact Nat.le_of_ble_eq_true rfl) dX7_latest_2 rfl rfl ?_
  refine b_if_ne (tgt := 10) dX7_latest_5 (by decide) (fun h5 => ?_) (fun h5 => ?_)
  · obtain ⟨k, hk, rfl⟩ := raw_lt h5
    have ek : cN (nI k) = k := cN_n (by omega)
    refine g_bipush (v := nI 40) dX7_latest_10 (by decide) ?_
    refine g_istore_n (i := 2) (lv' := [(2, .int (nI 40)), (0, .ref 0), (1, .int (nI k))]) dX7_latest_12 rfl (by decide) rfl ?_
    refine g_lv [1, 2, 0] rfl ?_
    refine g_lvE (lv' := [(0, .ref 0), (1, .int (nI k)), (2, .int (nI 41 + (-1)))]) (by rw [show nI 41 + (-1) = nI 40 by decide]; rfl) ?_
    refine g_post ?_ (lp_latest ⟨hH, hso, hho, hpa, hwa, hwk, htw, hlo, hri, hla⟩ (by omega) 41 t (by omega))
    intro v u hvu
    unfold pLatest
    rw [if_pos ((iW_n (by omega)).mpr hk), ek]
    exact hvu
  · refine g_iconst (v := (-1)) dX7_latest_8 (by decide) ?_
    refine g_iret rfl rfl dX7_latest_9 ?_
    refine ⟨?_, _, rfl⟩
    unfold pLatest
    rw [if_neg h5]

theorem lp_cutI {e1 e2 e9 e10 e11 e12 e13 e14 e17 e19 e21 e22 e25 e26 : va_E} {sd : Int64} {h so ho pa wa : Nat → Nat} {wk tw sf lo ri la : Nat} {r : Nat → Nat} {t : t6} (hg : gOK h so ho pa wa wk tw lo ri la) (hrk : rOK r) {k : Nat} (hk : k < 5) {s : Nat} (hs : s ≤ 40) {R : Int32} (hyes : (∃ c, c ≤ r (1 + k) ∧ wa k < sDepth h c (sWater la ri s lo)) → R = nI s)
    (kn : (∀ c, c ≤ r (1 + k) → sDepth h c (sWater la ri s lo) ≤ wa k) → Go mX7_cut 3 74 [(0, .ref 0), (1, .int (nI k)), (2, .int (nI s))] [] (wC (kO sd) e1 e2 (kG3 wk tw sf lo ri la) (kI 10 h) (kZ 10 so) (kI 10 ho) (kI 5 pa) (kI 5 wa) e9 e10 e11 e12 e13 e14 (kI 16 r) e17 e19 e21 e22 (kPt t) e25 e26) (gE (some (.int R)) (wC (kO sd) e1 e2 (kG3 wk tw sf lo ri la) (kI 10 h) (kZ 10 so) (kI 10 ho) (kI 5 pa) (kI 5 wa) e9 e10 e11 e12 e13 e14 (kI 16 r) e17 e19 e21 e22 (kPt t) e25 e26))) :
    ∀ (c : Nat), c ≤ r (1 + k) → (∀ j, c < j → j ≤ r (1 + k) → sDepth h j (sWater la ri s lo) ≤ wa k) → Go mX7_cut 3 40 [(0, .ref 0), (1, .int (nI k)), (2, .int (nI s)), (3, .int (nI (sWater la ri s lo))), (4, .int (nI c))] [] (wC (kO sd) e1 e2 (kG3 wk tw sf lo ri la) (kI 10 h) (kZ 10 so) (kI 10 ho) (kI 5 pa) (kI 5 wa) e9 e10 e11 e12 e13 e14 (kI 16 r) e17 e19 e21 e22 (kPt t) e25 e26) (gE (some (.int R)) (wC (kO sd) e1 e2 (kG3 wk tw sf lo ri la) (kI 10 h) (kZ 10 so) (kI 10 ho) (kI 5 pa) (kI 5 wa) e9 e10 e11 e12 e13 e14 (kI 16 r) e17 e19 e21 e22 (kPt t) e25 e26)) := by
  obtain ⟨hH, hso, hho, hpa, hwa, hwk, htw, hlo, hri, hla⟩ := hg
  obtain ⟨hr, hr1, hr6, hr11⟩ := hrk
  have q1 := hr1 k hk
  have q2 := hwa k
  intro c
  induction c with
  | zero =>
    intro hc hj
    refine g_iload (j := 4) dX7_cut_40 rfl ?_
    refine n_if_le (tgt := 74) (rng_lit 0 rfl) dX7_cut_42 (by decide) (fun h42 => ?_) (fun h42 => ?_)
    · refine g_lv [0, 1, 2] rfl ?_
      exact kn (fun j hj2 => by
        rcases Nat.eq_zero_or_pos j with rfl | hp
        · simp [sDepth]
        · exact hj j hp hj2)
    · exact absurd h42 (by decide)

  | succ c ih =>
    intro hc hj
    have q3 := sDepth_le h (c + 1) (sWater la ri s lo)
    have q4 := sWater_le la ri s lo
    refine g_iload (j := 4) dX7_cut_40 rfl ?_
    refine n_if_le (tgt := 74) (by omega) dX7_cut_42 (by decide) (fun h42 => ?_) (fun h42 => ?_)
    · exfalso; omega
    · refine g_aload_n (i := 0) (j := 0) dX7_cut_45 rfl rfl ?_
      refine g_get fX7_19 rfl rfl dX7_cut_46 ?_
      refine g_iload (j := 4) dX7_cut_49 rfl ?_
      refine g_iload_n (i := 3) (j := 3) dX7_cut_51 rfl rfl ?_
      refine c_V (st1 := [.int (nI (sDepth h (c + 1) (sWater la ri s lo)))]) (ctX1_depth (c := c + 1) (w := sWater la ri s lo) hH (by first | omega | exact hpa _ | exact hwa _ | exact hr1 _ (by omega) | exact hr6 _ (by omega) | exact hr11 _ (by omega) | exact hr _ | exact Nat.le_succ_of_le (hr _)) (by first | omega | exact sWater_le _ _ _ _)) kX1_depth lX7_126 (by decide) rfl rfl rfl rfl (by exact Nat.le_of_ble_eq_true rfl) dX7_cut_52 rfl rfl ?_
      refine g_aload_n (i := 0) (j := 0) dX7_cut_55 rfl rfl ?_
      refine g_get fX7_19 rfl rfl dX7_cut_56 ?_
      refine g_iload_n (i := 1) (j := 1) dX7_cut_59 rfl rfl ?_
      refine c_V (st1 := [.int (nI (wa k)), .int (nI (sDepth h (c + 1) (sWater la ri s lo)))]) (ctX1_wadeOf (c := k) (by omega)) kX1_wadeOf lX7_144 (by decide) rfl rfl rfl rfl (by exact Nat.le_of_ble_eq_true rfl) dX7_cut_60 rfl rfl ?_
      refine n_icmp_le (tgt := 68) (by omega) (by omega) dX7_cut_63 (by decide) (fun h63 => ?_) (fun h63 => ?_)
      · refine n_dec (x := (c + 1)) (j := 4) (lv' := [(4, .int (nI (c + 1 - 1))), (0, .ref 0), (1, .int (nI k)), (2, .int (nI s)), (3, .int (nI (sWater la ri s lo)))]) (by omega) dX7_cut_68 rfl (by decide) rfl ?_
        refine g_goto (tgt := 40) dX7_cut_71 (by decide) ?_
        refine g_lv [1, 2, 3, 4, 0] rfl ?_
        exact ih (by omega) (fun j h1 h2 => by
          rcases Nat.lt_or_ge (c + 1) j with q | q
          · exact hj j q h2
          · rw [show j = c + 1 by omega]; exact h63)
      · refine g_iload_n (i := 2) (j := 2) dX7_cut_66 rfl rfl ?_
        refine g_iret rfl rfl dX7_cut_67 ?_
        exact gE_r (hyes ⟨c + 1, by omega, h63⟩).symm rfl

theorem lp_cutO {e1 e2 e9 e10 e11 e12 e13 e14 e17 e19 e21 e22 e25 e26 : va_E} {sd : Int64} {h so ho pa wa : Nat → Nat} {wk tw sf lo ri la : Nat} {r : Nat → Nat} {t : t6} (hg : gOK h so ho pa wa wk tw lo ri la) (hrk : rOK r) {k : Nat} (hk : k < 5) : ∀ (n s : Nat), s + n = 41 → Go mX7_cut 3 18 [(0, .ref 0), (1, .int (nI k)), (2, .int (nI s))] [] (wC (kO sd) e1 e2 (kG3 wk tw sf lo ri la) (kI 10 h) (kZ 10 so) (kI 10 ho) (kI 5 pa) (kI 5 wa) e9 e10 e11 e12 e13 e14 (kI 16 r) e17 e19 e21 e22 (kPt t) e25 e26) (gE (some (.int (rO (sFirst (fun t => sAny (fun c => decide (wa k < sDepth h c (sWater la ri t lo))) (r (1 + k) + 1)) n s)))) (wC (kO sd) e1 e2 (kG3 wk tw sf lo ri la) (kI 10 h) (kZ 10 so) (kI 10 ho) (kI 5 pa) (kI 5 wa) e9 e10 e11 e12 e13 e14 (kI 16 r) e17 e19 e21 e22 (kPt t) e25 e26)) := by
  have hg0 := hg
  have hrk0 := hrk
  obtain ⟨hH, hso, hho, hpa, hwa, hwk, htw, hlo, hri, hla⟩ := hg
  obtain ⟨hr, hr1, hr6, hr11⟩ := hrk
  have q1 := hr1 k hk
  intro n
  induction n with
  | zero =>
    intro s hs
    refine g_iload_n (i := 2) (j := 2) dX7_cut_18 rfl rfl ?_
    refine g_bipush (v := nI 40) dX7_cut_19 (by decide) ?_
    refine n_icmp_gt (tgt := 80) (by omega) (rng_lit 40 rfl) dX7_cut_21 (by decide) (fun h21 => ?_) (fun h21 => ?_)
    · refine g_bipush (v := (-9)) dX7_cut_80 (by decide) ?_
      refine g_iret rfl rfl dX7_cut_82 ?_
      exact gE_i rfl rfl
    · exfalso; omega

  | succ n ih =>
    intro s hs
    refine g_iload_n (i := 2) (j := 2) dX7_cut_18 rfl rfl ?_
    refine g_bipush (v := nI 40) dX7_cut_19 (by decide) ?_
    refine n_icmp_gt (tgt := 80) (by omega) (rng_lit 40 rfl) dX7_cut_21 (by decide) (fun h21 => ?_) (fun h21 => ?_)
    · exfalso; omega
    · refine g_aload_n (i := 0) (j := 0) dX7_cut_24 rfl rfl ?_
      refine g_iload_n (i := 2) (j := 2) dX7_cut_25 rfl rfl ?_
      refine c_V (st1 := [.int (nI (sWater la ri s lo))]) (ctX7_waterAt (st := s) (by first | omega | exact hpa _ | exact hwa _ | exact hr1 _ (by omega) | exact hr6 _ (by omega) | exact hr11 _ (by omega) | exact hr _ | exact Nat.le_succ_of_le (hr _)) (by first | omega | exact hpa _ | exact hwa _ | exact hr1 _ (by omega) | exact hr6 _ (by omega) | exact hr11 _ (by omega) | exact hr _ | exact Nat.le_succ_of_le (hr _)) (by first | omega | exact hpa _ | exact hwa _ | exact hr1 _ (by omega) | exact hr6 _ (by omega) | exact hr11 _ (by omega) | exact hr _ | exact Nat.le_succ_of_le (hr _)) (by first | omega | exact hpa _ | exact hwa _ | exact hr1 _ (by omega) | exact hr6 _ (by omega) | exact hr11 _ (by omega) | exact hr _ | exact Nat.le_succ_of_le (hr _))) kX7_waterAt lX7_99 (by decide) rfl rfl rfl rfl (by exact Nat.le_of_ble_eq_true rfl) dX7_cut_26 rfl rfl ?_
      refine g_istore_n (i := 3) (lv' := [(3, .int (nI (sWater la ri s lo))), (0, .ref 0), (1, .int (nI k)), (2, .int (nI s))]) dX7_cut_29 rfl (by decide) rfl ?_
      refine g_aload_n (i := 0) (j := 1) dX7_cut_30 rfl rfl ?_
      refine g_get fX7_29 rfl rfl dX7_cut_31 ?_
      refine g_iload_n (i := 1) (j := 2) dX7_cut_34 rfl rfl ?_
      refine c_V (st1 := [.int (nI (r (1 + k)))]) (ctX2_cellOf (k := k) (by omega)) kX2_cellOf lX7_147 (by decide) rfl rfl rfl rfl (by exact Nat.le_of_ble_eq_true rfl) dX7_cut_35 rfl rfl ?_
      refine g_istore (lv' := [(4, .int (nI (r (1 + k)))), (3, .int (nI (sWater la ri s lo))), (0, .ref 0), (1, .int (nI k)), (2, .int (nI s))]) dX7_cut_38 (by decide) rfl ?_
      refine g_lv [2, 3, 4, 1, 0] rfl ?_
      refine lp_cutI hg0 hrk0 hk (by omega) (R := rO (sFirst (fun t => sAny (fun c => decide (wa k < sDepth h c (sWater la ri t lo))) (r (1 + k) + 1)) (n + 1) s)) ?_ ?_ (r (1 + k)) (Nat.le_refl _) (fun j h1 h2 => absurd h1 (by omega))
      · intro hex
        obtain ⟨c, hc, hd⟩ := hex
        rw [sFirst, if_pos (sAny_t (k := c) (by omega) (by simp [hd]))]
        rfl
      · intro hno

        refine n_inc (x := s) (j := 2) (lv' := [(2, .int (nI (s + 1))), (0, .ref 0), (1, .int (nI k))]) dX7_cut_74 rfl (by decide) rfl ?_
        refine g_goto (tgt := 18) dX7_cut_77 (by decide) ?_
        refine g_lv [1, 2, 0] rfl ?_
        rw [show sFirst (fun t => sAny (fun c => decide (wa k < sDepth h c (sWater la ri t lo))) (r (1 + k) + 1)) (n + 1) s = sFirst (fun t => sAny (fun c => decide (wa k < sDepth h c (sWater la ri t lo))) (r (1 + k) + 1)) n (s + 1) by rw [sFirst, if_neg (by rw [sAny_f.mpr (fun c hc => by simp [hno c (by omega)])]; simp)]]
        exact ih (s + 1) (by omega)
theorem ctX7_cut {e1 e2 e9 e10 e11 e12 e13 e14 e17 e19 e21 e22 e25 e26 : va_E} {sd : Int64} {h so ho pa wa : Nat → Nat} {wk tw sf lo ri la : Nat} {r : Nat → Nat} {t : t6} (hg : gOK h so ho pa wa wk tw lo ri la) (hrk : rOK r) (hst : r 0 ≤ 40) {k0 : Int32} : Ct mX7_cut 3 [.ref 0, .int k0] (wC (kO sd) e1 e2 (kG3 wk tw sf lo ri la) (kI 10 h) (kZ 10 so) (kI 10 ho) (kI 5 pa) (kI 5 wa) e9 e10 e11 e12 e13 e14 (kI 16 r) e17 e19 e21 e22 (kPt t) e25 e26) (gE (some (.int (pCut h wa wk lo ri la r k0))) (wC (kO sd) e1 e2 (kG3 wk tw sf lo ri la) (kI 10 h) (kZ 10 so) (kI 10 ho) (kI 5 pa) (kI 5 wa) e9 e10 e11 e12 e13 e14 (kI 16 r) e17 e19 e21 e22 (kPt t) e25 e26)) := by
  refine Ct.of (by decide) (by exact Nat.le_of_ble_eq_true rfl) ?_
  show Go mX7_cut 3 0 [(0, .ref 0), (1, .int k0)] [] (wC (kO sd) e1 e2 (kG3 wk tw sf lo ri la) (kI 10 h) (kZ 10 so) (kI 10 ho) (kI 5 pa) (kI 5 wa) e9 e10 e11 e12 e13 e14 (kI 16 r) e17 e19 e21 e22 (kPt t) e25 e26) (gE (some (.int (pCut h wa wk lo ri la r k0))) (wC (kO sd) e1 e2 (kG3 wk tw sf lo ri la) (kI 10 h) (kZ 10 so) (kI 10 ho) (kI 5 pa) (kI 5 wa) e9 e10 e11 e12 e13 e14 (kI 16 r) e17 e19 e21 e22 (kPt t) e25 e26))
  have hg0 := hg
  have hrk0 := hrk
  obtain ⟨hH, hso, hho, hpa, hwa, hwk, htw, hlo, hri, hla⟩ := hg
  obtain ⟨hr, hr1, hr6, hr11⟩ := hrk
  refine g_aload_n (i := 0) (j := 0) dX7_cut_0 rfl rfl ?_
  refine g_iload_n (i := 1) (j := 1) dX7_cut_1 rfl rfl ?_
  refine c_V (st1 := [.int (nI (bN (0 ≤ k0.toInt ∧ k0.toInt < wk)))]) (ctX7_isWalker (x := k0) (by omega)) kX7_isWalker lX7_138 (by decide) rfl rfl rfl rfl (by exact Nat.le_of_ble_eq_true rfl) dX7_cut_2 rfl rfl ?_
  refine b_if_ne (tgt := 10) dX7_cut_5 (by decide) (fun h5 => ?_) (fun h5 => ?_)
  · obtain ⟨k, hk, rfl⟩ := raw_lt h5
    have ek : cN (nI k) = k := cN_n (by omega)
    refine g_aload_n (i := 0) (j := 0) dX7_cut_10 rfl rfl ?_
    refine g_get fX7_29 rfl rfl dX7_cut_11 ?_
    refine c_V (st1 := [.int (nI (r 0))]) (ctX2_time  ) kX2_time lX7_95 (by decide) rfl rfl rfl rfl (by exact Nat.le_of_ble_eq_true rfl) dX7_cut_14 rfl rfl ?_
    refine g_istore_n (i := 2) (lv' := [(2, .int (nI (r 0))), (0, .ref 0), (1, .int (nI k))]) dX7_cut_17 rfl (by decide) rfl ?_
    refine g_lv [1, 2, 0] rfl ?_
    unfold pCut
    rw [if_pos ((iW_n (by omega)).mpr hk), ek]
    exact lp_cutO hg0 hrk0 (by omega) (41 - r 0) (r 0) (by omega)
  · refine g_iconst (v := (-1)) dX7_cut_8 (by decide) ?_
    refine g_iret rfl rfl dX7_cut_9 ?_
    refine gE_r ?_ rfl
    unfold pCut
    rw [if_neg h5]

