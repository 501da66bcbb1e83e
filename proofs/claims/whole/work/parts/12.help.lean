/-! part 12: the helpers of OverSands -/
abbrev t6 : Type := Nat × Nat × Nat × Nat × Nat × Nat
def kPt (t : t6) : va_E := kP t.1 t.2.1 t.2.2.1 t.2.2.2.1 t.2.2.2.2.1 t.2.2.2.2.2
/-- what a bay holds, in its bounds -/
def gOK (h so ho pa wa : Nat → Nat) (wk tw lo ri la : Nat) : Prop := (∀ k, h k ≤ 9) ∧ (∀ k, so k ≤ 1) ∧ (∀ k, ho k ≤ 4) ∧ (∀ k, pa k ≤ 3) ∧ (∀ k, wa k ≤ 5) ∧ wk ≤ 5 ∧ tw ≤ 2 ∧ lo ≤ 40 ∧ ri ≤ 3 ∧ la ≤ 9
/-- a moment, in its bounds -/
def rOK (r : Nat → Nat) : Prop := (∀ k, r k ≤ 40) ∧ (∀ k, k < 5 → r (1 + k) ≤ 9) ∧ (∀ k, k < 5 → r (6 + k) ≤ 2) ∧ (∀ k, k < 5 → r (11 + k) ≤ 4)
theorem raw_lt {x : Int32} {n : Nat} (h : 0 ≤ x.toInt ∧ x.toInt < n) : ∃ k : Nat, k < n ∧ x = nI k := by
  obtain ⟨j, hj, rfl⟩ := nI_of (x := x) (by rw [Int32.lt_iff_toInt_lt, t_z]; omega)
  rw [nI_toInt hj] at h
  exact ⟨j, by omega, rfl⟩
theorem raw_le {x : Int32} {n : Nat} (h : 0 ≤ x.toInt ∧ x.toInt ≤ n) : ∃ k : Nat, k ≤ n ∧ x = nI k := by
  obtain ⟨k, h1, h2⟩ := raw_lt (x := x) (n := n + 1) ⟨h.1, by omega⟩
  exact ⟨k, by omega, h2⟩
/-- how many are up on a cell -/
def sUp (r : Nat → Nat) (wk c : Nat) : Nat := sCnt (fun w => decide (r (11 + w) = 4) && decide (r (1 + w) = c)) wk
theorem sUp_le (r : Nat → Nat) (wk c : Nat) : sUp r wk c ≤ wk := sCnt_le _ _
theorem sCnt_add {p : Nat → Bool} {n : Nat} : ∀ {m : Nat}, (∀ k, n ≤ k → k < n + m → p k = false) → sCnt p (n + m) = sCnt p n
  | 0, _ => rfl
  | m + 1, h => by
    rw [show n + (m + 1) = (n + m) + 1 by omega, sCnt, sCnt_add (fun k h1 h2 => h k h1 (by omega)), h (n + m) (by omega) (by omega)]
    simp
theorem sCnt_set (p q : Nat → Bool) {n : Nat} (hn : n ≤ 5) : sCnt (fun w => decide (sSet p n / 2 ^ w % 2 = 1) && q w) 5 = sCnt (fun w => p w && q w) n := by
  obtain ⟨m, hm⟩ : ∃ m, 5 = n + m := ⟨5 - n, by omega⟩
  have e : ∀ w, w < 5 → (decide (sSet p n / 2 ^ w % 2 = 1) && q w) = (decide (w < n) && p w && q w) := by
    intro w hw
    rw [sSet_bit p hn hw]
    cases hd : (decide (w < n) && p w) <;> simp [hd]
  rw [sCnt_congr e, hm, sCnt_add (fun k h1 h2 => by rw [decide_eq_false (by omega)]; rfl)]
  exact sCnt_congr (fun k hk => by rw [decide_eq_true hk]; rfl)
theorem sUp_eq (r : Nat → Nat) {wk : Nat} (c : Nat) (h : wk ≤ 5) : sCnt (fun w => decide (sSet (fun w => decide (r (11 + w) = 4)) wk / 2 ^ w % 2 = 1) && decide (r (1 + w) = c)) 5 = sUp r wk c := sCnt_set _ _ h
theorem ctX7_isWalker {e1 e2 e4 e5 e6 e7 e8 e9 e10 e11 e12 e13 e14 e16 e17 e19 e21 e22 e23 e25 e26 : va_E} {sd : Int64} {wk tw sf lo ri la : Nat} {x : Int32} (hwk : wk ≤ 5) : Ct mX7_isWalker 0 [.ref 0, .int x] (wC (kO sd) e1 e2 (kG3 wk tw sf lo ri la) e4 e5 e6 e7 e8 e9 e10 e11 e12 e13 e14 e16 e17 e19 e21 e22 e23 e25 e26) (gE (some (.int (nI (bN (0 ≤ x.toInt ∧ x.toInt < wk))))) (wC (kO sd) e1 e2 (kG3 wk tw sf lo ri la) e4 e5 e6 e7 e8 e9 e10 e11 e12 e13 e14 e16 e17 e19 e21 e22 e23 e25 e26)) := by
  refine Ct.of (by decide) (by exact Nat.le_of_ble_eq_true rfl) ?_
  show Go mX7_isWalker 0 0 [(0, .ref 0), (1, .int x)] [] (wC (kO sd) e1 e2 (kG3 wk tw sf lo ri la) e4 e5 e6 e7 e8 e9 e10 e11 e12 e13 e14 e16 e17 e19 e21 e22 e23 e25 e26) (gE (some (.int (nI (bN (0 ≤ x.toInt ∧ x.toInt < wk))))) (wC (kO sd) e1 e2 (kG3 wk tw sf lo ri la) e4 e5 e6 e7 e8 e9 e10 e11 e12 e13 e14 e16 e17 e19 e21 e22 e23 e25 e26))
  refine g_iload_n (i := 1) (j := 1) dX7_isWalker_0 rfl rfl ?_
  refine g_if_lt (tgt := 19) dX7_isWalker_1 (by decide) (fun h1 => ?_) (fun h1 => ?_)
  · refine g_iconst (v := nI 0) dX7_isWalker_19 (by decide) ?_
    refine g_iret rfl (by decide) dX7_isWalker_20 ?_
    refine gE_n (bN_f ?_).symm rfl
    have q1 := nI_toInt (n := wk) (by omega)
    simp only [Int32.lt_iff_toInt_lt, Int32.le_iff_toInt_le, t_z] at *
    omega
  · refine g_iload_n (i := 1) (j := 1) dX7_isWalker_4 rfl rfl ?_
    refine g_aload_n (i := 0) (j := 0) dX7_isWalker_5 rfl rfl ?_
    refine g_get fX7_19 rfl rfl dX7_isWalker_6 ?_
    refine g_get fX7_89 rfl rfl dX7_isWalker_9 ?_
    refine g_icmp_ge (tgt := 19) dX7_isWalker_12 (by decide) (fun h12 => ?_) (fun h12 => ?_)
    · refine g_iconst (v := nI 0) dX7_isWalker_19 (by decide) ?_
      refine g_iret rfl (by decide) dX7_isWalker_20 ?_
      refine gE_n (bN_f ?_).symm rfl
      have q1 := nI_toInt (n := wk) (by omega)
      simp only [Int32.lt_iff_toInt_lt, Int32.le_iff_toInt_le, t_z] at *
      omega
    · refine g_iconst (v := nI 1) dX7_isWalker_15 (by decide) ?_
      refine g_goto (tgt := 20) dX7_isWalker_16 (by decide) ?_
      refine g_iret rfl (by decide) dX7_isWalker_20 ?_
      refine gE_n (bN_t ?_).symm rfl
      have q1 := nI_toInt (n := wk) (by omega)
      simp only [Int32.lt_iff_toInt_lt, Int32.le_iff_toInt_le, t_z] at *
      omega

theorem ctX7_isWalking {e1 e2 e3 e4 e5 e6 e7 e8 e9 e10 e11 e12 e13 e14 e17 e19 e21 e22 e23 e25 e26 : va_E} {sd : Int64} {r : Nat → Nat} {k : Nat} (hr : ∀ k, r k ≤ 40) (h1 : k < 5) : Ct mX7_isWalking 2 [.ref 0, .int (nI k)] (wC (kO sd) e1 e2 e3 e4 e5 e6 e7 e8 e9 e10 e11 e12 e13 e14 (kI 16 r) e17 e19 e21 e22 e23 e25 e26) (gE (some (.int (nI (bN (r (11 + k) = 0))))) (wC (kO sd) e1 e2 e3 e4 e5 e6 e7 e8 e9 e10 e11 e12 e13 e14 (kI 16 r) e17 e19 e21 e22 e23 e25 e26)) := by
  refine Ct.of (by decide) (by exact Nat.le_of_ble_eq_true rfl) ?_
  show Go mX7_isWalking 2 0 [(0, .ref 0), (1, .int (nI k))] [] (wC (kO sd) e1 e2 e3 e4 e5 e6 e7 e8 e9 e10 e11 e12 e13 e14 (kI 16 r) e17 e19 e21 e22 e23 e25 e26) (gE (some (.int (nI (bN (r (11 + k) = 0))))) (wC (kO sd) e1 e2 e3 e4 e5 e6 e7 e8 e9 e10 e11 e12 e13 e14 (kI 16 r) e17 e19 e21 e22 e23 e25 e26))
  have q1 := hr (11 + k)
  refine g_aload_n (i := 0) (j := 0) dX7_isWalking_0 rfl rfl ?_
  refine g_get fX7_29 rfl rfl dX7_isWalking_1 ?_
  refine g_iload_n (i := 1) (j := 1) dX7_isWalking_4 rfl rfl ?_
  refine c_V (st1 := [.int (nI (r (11 + k)))]) (ctX2_fateOf (k := k) (by omega)) kX2_fateOf lX7_153 (by decide) rfl rfl rfl rfl (by exact Nat.le_of_ble_eq_true rfl) dX7_isWalking_5 rfl rfl ?_
  refine n_if_ne (tgt := 15) (by omega) dX7_isWalking_8 (by decide) (fun h8 => ?_) (fun h8 => ?_)
  · refine g_iconst (v := nI 0) dX7_isWalking_15 (by decide) ?_
    refine g_iret rfl (by decide) dX7_isWalking_16 ?_
    exact gE_n (bN_f (by omega)).symm rfl
  · refine g_iconst (v := nI 1) dX7_isWalking_11 (by decide) ?_
    refine g_goto (tgt := 16) dX7_isWalking_12 (by decide) ?_
    refine g_iret rfl (by decide) dX7_isWalking_16 ?_
    exact gE_n (bN_t (by omega)).symm rfl

theorem ctX7_waterAt {e1 e2 e4 e5 e6 e7 e8 e9 e10 e11 e12 e13 e14 e16 e17 e19 e21 e22 e23 e25 e26 : va_E} {sd : Int64} {wk tw sf lo ri la : Nat} {st : Nat} (h1 : la ≤ 9) (h2 : ri ≤ 3) (h3 : st ≤ 41) (h4 : lo ≤ 41) : Ct mX7_waterAt 1 [.ref 0, .int (nI st)] (wC (kO sd) e1 e2 (kG3 wk tw sf lo ri la) e4 e5 e6 e7 e8 e9 e10 e11 e12 e13 e14 e16 e17 e19 e21 e22 e23 e25 e26) (gE (some (.int (nI (sWater la ri st lo)))) (wC (kO sd) e1 e2 (kG3 wk tw sf lo ri la) e4 e5 e6 e7 e8 e9 e10 e11 e12 e13 e14 e16 e17 e19 e21 e22 e23 e25 e26)) := by
  refine Ct.of (by decide) (by exact Nat.le_of_ble_eq_true rfl) ?_
  show Go mX7_waterAt 1 0 [(0, .ref 0), (1, .int (nI st))] [] (wC (kO sd) e1 e2 (kG3 wk tw sf lo ri la) e4 e5 e6 e7 e8 e9 e10 e11 e12 e13 e14 e16 e17 e19 e21 e22 e23 e25 e26) (gE (some (.int (nI (sWater la ri st lo)))) (wC (kO sd) e1 e2 (kG3 wk tw sf lo ri la) e4 e5 e6 e7 e8 e9 e10 e11 e12 e13 e14 e16 e17 e19 e21 e22 e23 e25 e26))
  refine g_aload_n (i := 0) (j := 0) dX7_waterAt_0 rfl rfl ?_
  refine g_get fX7_19 rfl rfl dX7_waterAt_1 ?_
  refine g_iload_n (i := 1) (j := 1) dX7_waterAt_4 rfl rfl ?_
  refine g_aload_n (i := 0) (j := 0) dX7_waterAt_5 rfl rfl ?_
  refine g_get fX7_19 rfl rfl dX7_waterAt_6 ?_
  refine g_get fX7_103 rfl rfl dX7_waterAt_9 ?_
  refine c_V (st1 := [.int (nI (sWater la ri st lo))]) (ctX1_water (st := st) (lo2 := lo) (by omega) (by omega) (by omega) (by omega)) kX1_water lX7_278 (by decide) rfl rfl rfl rfl (by exact Nat.le_of_ble_eq_true rfl) dX7_waterAt_12 rfl rfl ?_
  refine g_iret rfl rfl dX7_waterAt_15 ?_
  exact gE_i rfl rfl

theorem ctX7_upOn {e1 e2 e4 e5 e6 e7 e8 e9 e10 e11 e12 e13 e14 e17 e19 e21 e22 e23 e25 e26 : va_E} {sd : Int64} {wk tw sf lo ri la : Nat} {r : Nat → Nat} {c : Nat} (hr : ∀ k, r k ≤ 40) (hwk : wk ≤ 5) (hc : c ≤ 9) : Ct mX7_upOn 3 [.ref 0, .int (nI c)] (wC (kO sd) e1 e2 (kG3 wk tw sf lo ri la) e4 e5 e6 e7 e8 e9 e10 e11 e12 e13 e14 (kI 16 r) e17 e19 e21 e22 e23 e25 e26) (gE (some (.int (nI (sUp r wk c)))) (wC (kO sd) e1 e2 (kG3 wk tw sf lo ri la) e4 e5 e6 e7 e8 e9 e10 e11 e12 e13 e14 (kI 16 r) e17 e19 e21 e22 e23 e25 e26)) := by
  refine Ct.of (by decide) (by exact Nat.le_of_ble_eq_true rfl) ?_
  show Go mX7_upOn 3 0 [(0, .ref 0), (1, .int (nI c))] [] (wC (kO sd) e1 e2 (kG3 wk tw sf lo ri la) e4 e5 e6 e7 e8 e9 e10 e11 e12 e13 e14 (kI 16 r) e17 e19 e21 e22 e23 e25 e26) (gE (some (.int (nI (sUp r wk c)))) (wC (kO sd) e1 e2 (kG3 wk tw sf lo ri la) e4 e5 e6 e7 e8 e9 e10 e11 e12 e13 e14 (kI 16 r) e17 e19 e21 e22 e23 e25 e26))
  refine g_aload_n (i := 0) (j := 0) dX7_upOn_0 rfl rfl ?_
  refine g_get fX7_29 rfl rfl dX7_upOn_1 ?_
  refine g_iload_n (i := 1) (j := 1) dX7_upOn_4 rfl rfl ?_
  refine g_aload_n (i := 0) (j := 0) dX7_upOn_5 rfl rfl ?_
  refine g_get fX7_29 rfl rfl dX7_upOn_6 ?_
  refine g_iconst (v := nI 4) dX7_upOn_9 (by decide) ?_
  refine g_aload_n (i := 0) (j := 0) dX7_upOn_10 rfl rfl ?_
  refine g_get fX7_19 rfl rfl dX7_upOn_11 ?_
  refine g_get fX7_89 rfl rfl dX7_upOn_14 ?_
  refine c_V (st1 := [.int (nI (sSet (fun w => decide (r (11 + w) = 4)) wk)), .int (nI c), .ref 15]) (ctX2_allThat (x := 4) (wk := wk) hr (by omega) (by omega)) kX2_allThat lX7_112 (by decide) rfl rfl rfl rfl (by exact Nat.le_of_ble_eq_true rfl) dX7_upOn_17 rfl rfl ?_
  refine c_V (st1 := [.int (nI (sCnt (fun w => decide ((sSet (fun w => decide (r (11 + w) = 4)) wk) / 2 ^ w % 2 = 1) && decide (r (1 + w) = c)) 5))]) (ctX2_countOn (c := c) (b := sSet (fun w => decide (r (11 + w) = 4)) wk) hr (by omega) (by first | omega | exact sSet_32 _ (by omega))) kX2_countOn lX7_230 (by decide) rfl rfl rfl rfl (by exact Nat.le_of_ble_eq_true rfl) dX7_upOn_20 rfl rfl ?_
  refine g_iret rfl rfl dX7_upOn_23 ?_
  exact gE_n (sUp_eq r c hwk) rfl

theorem ctX7_roomOn {e1 e2 e4 e5 e7 e8 e9 e10 e11 e12 e13 e14 e17 e19 e21 e22 e23 e25 e26 : va_E} {sd : Int64} {wk tw sf lo ri la : Nat} {r ho : Nat → Nat} {c : Nat} (hr : ∀ k, r k ≤ 40) (hwk : wk ≤ 5) (hc : c ≤ 9) : Ct mX7_roomOn 4 [.ref 0, .int (nI c)] (wC (kO sd) e1 e2 (kG3 wk tw sf lo ri la) e4 e5 (kI 10 ho) e7 e8 e9 e10 e11 e12 e13 e14 (kI 16 r) e17 e19 e21 e22 e23 e25 e26) (gE (some (.int (nI (ho c) - nI (sUp r wk c)))) (wC (kO sd) e1 e2 (kG3 wk tw sf lo ri la) e4 e5 (kI 10 ho) e7 e8 e9 e10 e11 e12 e13 e14 (kI 16 r) e17 e19 e21 e22 e23 e25 e26)) := by
  refine Ct.of (by decide) (by exact Nat.le_of_ble_eq_true rfl) ?_
  show Go mX7_roomOn 4 0 [(0, .ref 0), (1, .int (nI c))] [] (wC (kO sd) e1 e2 (kG3 wk tw sf lo ri la) e4 e5 (kI 10 ho) e7 e8 e9 e10 e11 e12 e13 e14 (kI 16 r) e17 e19 e21 e22 e23 e25 e26) (gE (some (.int (nI (ho c) - nI (sUp r wk c)))) (wC (kO sd) e1 e2 (kG3 wk tw sf lo ri la) e4 e5 (kI 10 ho) e7 e8 e9 e10 e11 e12 e13 e14 (kI 16 r) e17 e19 e21 e22 e23 e25 e26))
  refine g_aload_n (i := 0) (j := 0) dX7_roomOn_0 rfl rfl ?_
  refine g_get fX7_19 rfl rfl dX7_roomOn_1 ?_
  refine g_iload_n (i := 1) (j := 1) dX7_roomOn_4 rfl rfl ?_
  refine c_V (st1 := [.int (nI (ho c))]) (ctX1_holdOf (c := c) (by first | omega | exact hpa _ | exact hwa _ | exact hr1 _ (by omega) | exact hr6 _ (by omega) | exact hr11 _ (by omega) | exact hr _ | exact Nat.le_succ_of_le (hr _))) kX1_holdOf lX7_132 (by decide) rfl rfl rfl rfl (by exact Nat.le_of_ble_eq_true rfl) dX7_roomOn_5 rfl rfl ?_
  refine g_aload_n (i := 0) (j := 0) dX7_roomOn_8 rfl rfl ?_
  refine g_iload_n (i := 1) (j := 1) dX7_roomOn_9 rfl rfl ?_
  refine c_V (st1 := [.int (nI (sUp r wk c)), .int (nI (ho c))]) (ctX7_upOn (c := c) hr (by omega) (by first | omega | exact hpa _ | exact hwa _ | exact hr1 _ (by omega) | exact hr6 _ (by omega) | exact hr11 _ (by omega) | exact hr _ | exact Nat.le_succ_of_le (hr _))) kX7_upOn lX7_135 (by decide) rfl rfl rfl rfl (by exact Nat.le_of_ble_eq_true rfl) dX7_roomOn_10 rfl rfl ?_
  refine g_isub dX7_roomOn_13 ?_
  refine g_iret rfl rfl dX7_roomOn_14 ?_
  exact gE_i rfl rfl

theorem ctX7_arrival {e1 e2 e9 e10 e11 e12 e13 e14 e17 e19 e21 e22 e25 e26 : va_E} {sd : Int64} {h so ho pa wa : Nat → Nat} {wk tw sf lo ri la : Nat} {r : Nat → Nat} {t : t6} (hg : gOK h so ho pa wa wk tw lo ri la) {k c s way : Nat} (hk : k < 5) (hc : c ≤ 9) (hs : s ≤ 40) (hway : way ≤ 2) (hway1 : 1 ≤ way) : Ct mX7_arrival 4 [.ref 0, .int (nI k), .int (nI c), .int (nI s), .int (nI way)] (wC (kO sd) e1 e2 (kG3 wk tw sf lo ri la) (kI 10 h) (kZ 10 so) (kI 10 ho) (kI 5 pa) (kI 5 wa) e9 e10 e11 e12 e13 e14 (kI 16 r) e17 e19 e21 e22 (kPt t) e25 e26) (fun v u => v = some (.int (rO (sArr h so la ri (pa k) (wa k) lo way c s))) ∧ ∃ t2 : t6, u = wC (kO sd) e1 e2 (kG3 wk tw sf lo ri la) (kI 10 h) (kZ 10 so) (kI 10 ho) (kI 5 pa) (kI 5 wa) e9 e10 e11 e12 e13 e14 (kI 16 r) e17 e19 e21 e22 (kPt t2) e25 e26) := by
  refine Ct.of (by decide) (by exact Nat.le_of_ble_eq_true rfl) ?_
  show Go mX7_arrival 4 0 [(0, .ref 0), (1, .int (nI k)), (2, .int (nI c)), (3, .int (nI s)), (4, .int (nI way))] [] (wC (kO sd) e1 e2 (kG3 wk tw sf lo ri la) (kI 10 h) (kZ 10 so) (kI 10 ho) (kI 5 pa) (kI 5 wa) e9 e10 e11 e12 e13 e14 (kI 16 r) e17 e19 e21 e22 (kPt t) e25 e26) (fun v u => v = some (.int (rO (sArr h so la ri (pa k) (wa k) lo way c s))) ∧ ∃ t2 : t6, u = wC (kO sd) e1 e2 (kG3 wk tw sf lo ri la) (kI 10 h) (kZ 10 so) (kI 10 ho) (kI 5 pa) (kI 5 wa) e9 e10 e11 e12 e13 e14 (kI 16 r) e17 e19 e21 e22 (kPt t2) e25 e26)
  obtain ⟨hH, hso, hho, hpa, hwa, hwk, htw, hlo, hri, hla⟩ := hg
  refine g_aload_n (i := 0) (j := 0) dX7_arrival_0 rfl rfl ?_
  refine g_get fX7_56 rfl rfl dX7_arrival_1 ?_
  refine g_aload_n (i := 0) (j := 0) dX7_arrival_4 rfl rfl ?_
  refine g_get fX7_19 rfl rfl dX7_arrival_5 ?_
  refine g_iload_n (i := 1) (j := 1) dX7_arrival_8 rfl rfl ?_
  refine g_iload_n (i := 2) (j := 2) dX7_arrival_9 rfl rfl ?_
  refine g_iload_n (i := 3) (j := 3) dX7_arrival_10 rfl rfl ?_
  refine c_V (st1 := []) (ctX5_begin (k := k) (c := c) (s := s) (by omega)) kX5_begin lX7_206 (by decide) rfl rfl rfl rfl (by exact Nat.le_of_ble_eq_true rfl) dX7_arrival_11 rfl rfl ?_
  refine g_aload_n (i := 0) (j := 0) dX7_arrival_14 rfl rfl ?_
  refine g_get fX7_56 rfl rfl dX7_arrival_15 ?_
  refine g_aload_n (i := 0) (j := 0) dX7_arrival_18 rfl rfl ?_
  refine g_get fX7_19 rfl rfl dX7_arrival_19 ?_
  refine g_iload (j := 4) dX7_arrival_22 rfl ?_
  refine g_callV (rest := []) (ctX5_goTillThere (way := way) hH hso hla hri (by first | omega | exact hpa _ | exact hwa _ | exact hr1 _ (by omega) | exact hr6 _ (by omega) | exact hr11 _ (by omega) | exact hr _ | exact Nat.le_succ_of_le (hr _)) (by first | omega | exact hpa _ | exact hwa _ | exact hr1 _ (by omega) | exact hr6 _ (by omega) | exact hr11 _ (by omega) | exact hr _ | exact Nat.le_succ_of_le (hr _)) (by first | omega | exact hpa _ | exact hwa _ | exact hr1 _ (by omega) | exact hr6 _ (by omega) | exact hr11 _ (by omega) | exact hr _ | exact Nat.le_succ_of_le (hr _)) (by first | omega | exact hpa _ | exact hwa _ | exact hr1 _ (by omega) | exact hr6 _ (by omega) | exact hr11 _ (by omega) | exact hr _ | exact Nat.le_succ_of_le (hr _)) (by first | omega | exact hpa _ | exact hwa _ | exact hr1 _ (by omega) | exact hr6 _ (by omega) | exact hr11 _ (by omega) | exact hr _ | exact Nat.le_succ_of_le (hr _)) (by first | omega | exact hpa _ | exact hwa _ | exact hr1 _ (by omega) | exact hr6 _ (by omega) | exact hr11 _ (by omega) | exact hr _ | exact Nat.le_succ_of_le (hr _)) (by first | omega | exact hpa _ | exact hwa _ | exact hr1 _ (by omega) | exact hr6 _ (by omega) | exact hr11 _ (by omega) | exact hr _ | exact Nat.le_succ_of_le (hr _)) (by first | omega | exact hpa _ | exact hwa _ | exact hr1 _ (by omega) | exact hr6 _ (by omega) | exact hr11 _ (by omega) | exact hr _ | exact Nat.le_succ_of_le (hr _))) kX5_goTillThere lX7_284 (by decide) rfl rfl rfl rfl (by exact Nat.le_of_ble_eq_true rfl) dX7_arrival_24 rfl (fun v u hvu => ?_)
  obtain ⟨rfl, c24, s24, f24, rfl⟩ := hvu
  refine g_st (st' := [.int (rO (sGone h so la ri (pa k) (wa k) lo way 41 c s 0))]) rfl ?_
  refine g_iret rfl rfl dX7_arrival_27 ?_
  exact ⟨rfl, (pa k, wa k, lo, c24, s24, f24), rfl⟩

theorem rO_ne (o : Option Nat) (h : ∀ s, o = some s → s < 2 ^ 31) : rO o = -9 ↔ o = none := by
  cases o with
  | none => simp [rO]
  | some s =>
    have h1 : (nI s).toInt = s := nI_toInt (h s rfl)
    have h2 : ((-9 : Int32)).toInt = -9 := by decide
    constructor
    · intro e
      have e2 : (nI s).toInt = (-9 : Int32).toInt := by rw [show nI s = -9 from e]
      omega
    · intro e; cases e
theorem sGone_lt (h so : Nat → Nat) (la ri pa wa lo way : Nat) : ∀ (n c s f t : Nat), s ≤ 40 → sGone h so la ri pa wa lo way n c s f = some t → t ≤ 40
  | 0, c, s, f, t, hs, e => by cases e
  | n + 1, c, s, f, t, hs, e => by
    rw [sGone] at e
    split at e
    · cases e; exact hs
    · split at e
      · cases e
      · exact sGone_lt h so la ri pa wa lo way n _ _ _ t (by omega) e
theorem sArr_ne {h so : Nat → Nat} {la ri pa wa lo way c s : Nat} (hs : s ≤ 40) : rO (sArr h so la ri pa wa lo way c s) = -9 ↔ sArr h so la ri pa wa lo way c s = none :=
  rO_ne _ (fun t e => by have := sGone_lt h so la ri pa wa lo way _ _ _ _ t hs e; omega)
/-- on or back is safe -/
def sSafe (h so : Nat → Nat) (la ri pa wa lo c s : Nat) : Prop := sArr h so la ri pa wa lo 1 c s ≠ none ∨ sArr h so la ri pa wa lo 2 c s ≠ none
noncomputable def sSafe_dec (h so : Nat → Nat) (la ri pa wa lo c s : Nat) : Decidable (sSafe h so la ri pa wa lo c s) := Classical.propDecidable _
/-- the same as a truth value -/
def sSafeB (h so : Nat → Nat) (la ri pa wa lo c s : Nat) : Bool := (sArr h so la ri pa wa lo 1 c s).isSome || (sArr h so la ri pa wa lo 2 c s).isSome
theorem isSome_t {α : Type} {o : Option α} (h : ¬ o = none) : o.isSome = true := by cases o <;> simp_all
theorem isSome_f {α : Type} {o : Option α} (h : o = none) : o.isSome = false := by cases o <;> simp_all
theorem ctX7_isSafe {e1 e2 e9 e10 e11 e12 e13 e14 e17 e19 e21 e22 e25 e26 : va_E} {sd : Int64} {h so ho pa wa : Nat → Nat} {wk tw sf lo ri la : Nat} {r : Nat → Nat} {t : t6} (hg : gOK h so ho pa wa wk tw lo ri la) {k c s : Nat} (hk : k < 5) (hc : c ≤ 9) (hs : s ≤ 40) : Ct mX7_isSafe 5 [.ref 0, .int (nI k), .int (nI c), .int (nI s)] (wC (kO sd) e1 e2 (kG3 wk tw sf lo ri la) (kI 10 h) (kZ 10 so) (kI 10 ho) (kI 5 pa) (kI 5 wa) e9 e10 e11 e12 e13 e14 (kI 16 r) e17 e19 e21 e22 (kPt t) e25 e26) (fun v u => v = some (.int (nI (bN (sSafeB h so la ri (pa k) (wa k) lo c s = true)))) ∧ ∃ t2 : t6, u = wC (kO sd) e1 e2 (kG3 wk tw sf lo ri la) (kI 10 h) (kZ 10 so) (kI 10 ho) (kI 5 pa) (kI 5 wa) e9 e10 e11 e12 e13 e14 (kI 16 r) e17 e19 e21 e22 (kPt t2) e25 e26) := by
  refine Ct.of (by decide) (by exact Nat.le_of_ble_eq_true rfl) ?_
  show Go mX7_isSafe 5 0 [(0, .ref 0), (1, .int (nI k)), (2, .int (nI c)), (3, .int (nI s))] [] (wC (kO sd) e1 e2 (kG3 wk tw sf lo ri la) (kI 10 h) (kZ 10 so) (kI 10 ho) (kI 5 pa) (kI 5 wa) e9 e10 e11 e12 e13 e14 (kI 16 r) e17 e19 e21 e22 (kPt t) e25 e26) (fun v u => v = some (.int (nI (bN (sSafeB h so la ri (pa k) (wa k) lo c s = true)))) ∧ ∃ t2 : t6, u = wC (kO sd) e1 e2 (kG3 wk tw sf lo ri la) (kI 10 h) (kZ 10 so) (kI 10 ho) (kI 5 pa) (kI 5 wa) e9 e10 e11 e12 e13 e14 (kI 16 r) e17 e19 e21 e22 (kPt t2) e25 e26)
  obtain ⟨hH, hso, hho, hpa, hwa, hwk, htw, hlo, hri, hla⟩ := hg
  refine g_aload_n (i := 0) (j := 0) dX7_isSafe_0 rfl rfl ?_
  refine g_iload_n (i := 1) (j := 1) dX7_isSafe_1 rfl rfl ?_
  refine g_iload_n (i := 2) (j := 2) dX7_isSafe_2 rfl rfl ?_
  refine g_iload_n (i := 3) (j := 3) dX7_isSafe_3 rfl rfl ?_
  refine g_iconst (v := nI 1) dX7_isSafe_4 (by decide) ?_
  refine g_callV (rest := []) (ctX7_arrival (k := k) (c := c) (s := s) (way := 1) ⟨hH, hso, hho, hpa, hwa, hwk, htw, hlo, hri, hla⟩ (by first | omega | exact hpa _ | exact hwa _ | exact hr1 _ (by omega) | exact hr6 _ (by omega) | exact hr11 _ (by omega) | exact hr _ | exact Nat.le_succ_of_le (hr _)) (by first | omega | exact hpa _ | exact hwa _ | exact hr1 _ (by omega) | exact hr6 _ (by omega) | exact hr11 _ (by omega) | exact hr _ | exact Nat.le_succ_of_le (hr _)) (by first | omega | exact hpa _ | exact hwa _ | exact hr1 _ (by omega) | exact hr6 _ (by omega) | exact hr11 _ (by omega) | exact hr _ | exact Nat.le_succ_of_le (hr _)) (by first | omega | exact hpa _ | exact hwa _ | exact hr1 _ (by omega) | exact hr6 _ (by omega) | exact hr11 _ (by omega) | exact hr _ | exact Nat.le_succ_of_le (hr _)) (by first | omega | exact hpa _ | exact hwa _ | exact hr1 _ (by omega) | exact hr6 _ (by omega) | exact hr11 _ (by omega) | exact hr _ | exact Nat.le_succ_of_le (hr _))) kX7_arrival lX7_185 (by decide) rfl rfl rfl rfl (by exact Nat.le_of_ble_eq_true rfl) dX7_isSafe_5 rfl (fun v u hvu => ?_)
  obtain ⟨rfl, t5, rfl⟩ := hvu
  refine g_st (st' := [.int (rO (sArr h so la ri (pa k) (wa k) lo 1 c s))]) rfl ?_
  refine g_bipush (v := (-9)) dX7_isSafe_8 (by decide) ?_
  refine g_icmp_ne (tgt := 26) dX7_isSafe_10 (by decide) (fun h10 => ?_) (fun h10 => ?_)
  · replace h10 := fun z => h10 ((sArr_ne hs).mpr z)
    refine g_iconst (v := nI 1) dX7_isSafe_26 (by decide) ?_
    refine g_goto (tgt := 31) dX7_isSafe_27 (by decide) ?_
    refine g_iret rfl (by decide) dX7_isSafe_31 ?_
    refine ⟨?_, _, rfl⟩
    rw [bN_t (by unfold sSafeB; first | simp [isSome_t h10] | simp [isSome_t h23] | simp [isSome_f h10, isSome_f h23])]
  · replace h10 := (sArr_ne hs).mp h10
    refine g_aload_n (i := 0) (j := 0) dX7_isSafe_13 rfl rfl ?_
    refine g_iload_n (i := 1) (j := 1) dX7_isSafe_14 rfl rfl ?_
    refine g_iload_n (i := 2) (j := 2) dX7_isSafe_15 rfl rfl ?_
    refine g_iload_n (i := 3) (j := 3) dX7_isSafe_16 rfl rfl ?_
    refine g_iconst (v := nI 2) dX7_isSafe_17 (by decide) ?_
    refine g_callV (rest := []) (ctX7_arrival (k := k) (c := c) (s := s) (way := 2) ⟨hH, hso, hho, hpa, hwa, hwk, htw, hlo, hri, hla⟩ (by first | omega | exact hpa _ | exact hwa _ | exact hr1 _ (by omega) | exact hr6 _ (by omega) | exact hr11 _ (by omega) | exact hr _ | exact Nat.le_succ_of_le (hr _)) (by first | omega | exact hpa _ | exact hwa _ | exact hr1 _ (by omega) | exact hr6 _ (by omega) | exact hr11 _ (by omega) | exact hr _ | exact Nat.le_succ_of_le (hr _)) (by first | omega | exact hpa _ | exact hwa _ | exact hr1 _ (by omega) | exact hr6 _ (by omega) | exact hr11 _ (by omega) | exact hr _ | exact Nat.le_succ_of_le (hr _)) (by first | omega | exact hpa _ | exact hwa _ | exact hr1 _ (by omega) | exact hr6 _ (by omega) | exact hr11 _ (by omega) | exact hr _ | exact Nat.le_succ_of_le (hr _)) (by first | omega | exact hpa _ | exact hwa _ | exact hr1 _ (by omega) | exact hr6 _ (by omega) | exact hr11 _ (by omega) | exact hr _ | exact Nat.le_succ_of_le (hr _))) kX7_arrival lX7_185 (by decide) rfl rfl rfl rfl (by exact Nat.le_of_ble_eq_true rfl) dX7_isSafe_18 rfl (fun v u hvu => ?_)
    obtain ⟨rfl, t18, rfl⟩ := hvu
    refine g_st (st' := [.int (rO (sArr h so la ri (pa k) (wa k) lo 2 c s))]) rfl ?_
    refine g_bipush (v := (-9)) dX7_isSafe_21 (by decide) ?_
    refine g_icmp_eq (tgt := 30) dX7_isSafe_23 (by decide) (fun h23 => ?_) (fun h23 => ?_)
    · replace h23 := (sArr_ne hs).mp h23
      refine g_iconst (v := nI 0) dX7_isSafe_30 (by decide) ?_
      refine g_iret rfl (by decide) dX7_isSafe_31 ?_
      refine ⟨?_, _, rfl⟩
      rw [bN_f (by unfold sSafeB; first | simp [isSome_t h10] | simp [isSome_t h23] | simp [isSome_f h10, isSome_f h23])]
    · replace h23 := fun z => h23 ((sArr_ne hs).mpr z)
      refine g_iconst (v := nI 1) dX7_isSafe_26 (by decide) ?_
      refine g_goto (tgt := 31) dX7_isSafe_27 (by decide) ?_
      refine g_iret rfl (by decide) dX7_isSafe_31 ?_
      refine ⟨?_, _, rfl⟩
      rw [bN_t (by unfold sSafeB; first | simp [isSome_t h10] | simp [isSome_t h23] | simp [isSome_f h10, isSome_f h23])]

theorem ctX7_outlastsStanding {e1 e2 e9 e10 e11 e12 e13 e14 e17 e19 e21 e22 e25 e26 : va_E} {sd : Int64} {h so ho pa wa : Nat → Nat} {wk tw sf lo ri la : Nat} {r : Nat → Nat} {t : t6} (hg : gOK h so ho pa wa wk tw lo ri la) {k c s : Nat} (hk : k < 5) (hc : c ≤ 9) (hs : s ≤ 40) : Ct mX7_outlastsStanding 3 [.ref 0, .int (nI k), .int (nI c), .int (nI s)] (wC (kO sd) e1 e2 (kG3 wk tw sf lo ri la) (kI 10 h) (kZ 10 so) (kI 10 ho) (kI 5 pa) (kI 5 wa) e9 e10 e11 e12 e13 e14 (kI 16 r) e17 e19 e21 e22 (kPt t) e25 e26) (fun v u => v = some (.int (nI (bN (sFate h so (wa k) c (sTo h (pa k) (wa k) c 0 (sWater la ri s lo)) 0 (sWater la ri (s + 1) lo) 0 = 0)))) ∧ ∃ t2 : t6, u = wC (kO sd) e1 e2 (kG3 wk tw sf lo ri la) (kI 10 h) (kZ 10 so) (kI 10 ho) (kI 5 pa) (kI 5 wa) e9 e10 e11 e12 e13 e14 (kI 16 r) e17 e19 e21 e22 (kPt t2) e25 e26) := by
  refine Ct.of (by decide) (by exact Nat.le_of_ble_eq_true rfl) ?_
  show Go mX7_outlastsStanding 3 0 [(0, .ref 0), (1, .int (nI k)), (2, .int (nI c)), (3, .int (nI s))] [] (wC (kO sd) e1 e2 (kG3 wk tw sf lo ri la) (kI 10 h) (kZ 10 so) (kI 10 ho) (kI 5 pa) (kI 5 wa) e9 e10 e11 e12 e13 e14 (kI 16 r) e17 e19 e21 e22 (kPt t) e25 e26) (fun v u => v = some (.int (nI (bN (sFate h so (wa k) c (sTo h (pa k) (wa k) c 0 (sWater la ri s lo)) 0 (sWater la ri (s + 1) lo) 0 = 0)))) ∧ ∃ t2 : t6, u = wC (kO sd) e1 e2 (kG3 wk tw sf lo ri la) (kI 10 h) (kZ 10 so) (kI 10 ho) (kI 5 pa) (kI 5 wa) e9 e10 e11 e12 e13 e14 (kI 16 r) e17 e19 e21 e22 (kPt t2) e25 e26)
  obtain ⟨hH, hso, hho, hpa, hwa, hwk, htw, hlo, hri, hla⟩ := hg
  have hfl : sFate h so (wa k) c (sTo h (pa k) (wa k) c 0 (sWater la ri s lo)) 0 (sWater la ri (s + 1) lo) 0 ≤ 3 := by unfold sFate; (repeat' split) <;> omega
  have hf1 : sFate h so (wa k) c (sTo h (pa k) (wa k) c 0 (sWater la ri s lo)) 0 (sWater la ri (s + 1) lo) 0 ≠ 1 := by unfold sFate; rw [if_neg (by omega)]; (repeat' split) <;> omega
  refine g_aload_n (i := 0) (j := 0) dX7_outlastsStanding_0 rfl rfl ?_
  refine g_get fX7_56 rfl rfl dX7_outlastsStanding_1 ?_
  refine g_aload_n (i := 0) (j := 0) dX7_outlastsStanding_4 rfl rfl ?_
  refine g_get fX7_19 rfl rfl dX7_outlastsStanding_5 ?_
  refine g_iload_n (i := 1) (j := 1) dX7_outlastsStanding_8 rfl rfl ?_
  refine g_iload_n (i := 2) (j := 2) dX7_outlastsStanding_9 rfl rfl ?_
  refine g_iload_n (i := 3) (j := 3) dX7_outlastsStanding_10 rfl rfl ?_
  refine c_V (st1 := []) (ctX5_begin (k := k) (c := c) (s := s) (by omega)) kX5_begin lX7_206 (by decide) rfl rfl rfl rfl (by exact Nat.le_of_ble_eq_true rfl) dX7_outlastsStanding_11 rfl rfl ?_
  refine g_aload_n (i := 0) (j := 0) dX7_outlastsStanding_14 rfl rfl ?_
  refine g_get fX7_56 rfl rfl dX7_outlastsStanding_15 ?_
  refine g_aload_n (i := 0) (j := 0) dX7_outlastsStanding_18 rfl rfl ?_
  refine g_get fX7_19 rfl rfl dX7_outlastsStanding_19 ?_
  refine g_iconst (v := nI 0) dX7_outlastsStanding_22 (by decide) ?_
  refine c_V (st1 := []) (ctX5_move (way := 0) hH hso hla hri (by first | omega | exact hpa _ | exact hwa _ | exact hr1 _ (by omega) | exact hr6 _ (by omega) | exact hr11 _ (by omega) | exact hr _ | exact Nat.le_succ_of_le (hr _)) (by first | omega | exact hpa _ | exact hwa _ | exact hr1 _ (by omega) | exact hr6 _ (by omega) | exact hr11 _ (by omega) | exact hr _ | exact Nat.le_succ_of_le (hr _)) (by first | omega | exact hpa _ | exact hwa _ | exact hr1 _ (by omega) | exact hr6 _ (by omega) | exact hr11 _ (by omega) | exact hr _ | exact Nat.le_succ_of_le (hr _)) (by first | omega | exact hpa _ | exact hwa _ | exact hr1 _ (by omega) | exact hr6 _ (by omega) | exact hr11 _ (by omega) | exact hr _ | exact Nat.le_succ_of_le (hr _)) (by first | omega | exact hpa _ | exact hwa _ | exact hr1 _ (by omega) | exact hr6 _ (by omega) | exact hr11 _ (by omega) | exact hr _ | exact Nat.le_succ_of_le (hr _)) (by first | omega | exact hpa _ | exact hwa _ | exact hr1 _ (by omega) | exact hr6 _ (by omega) | exact hr11 _ (by omega) | exact hr _ | exact Nat.le_succ_of_le (hr _)) (by first | omega | exact hpa _ | exact hwa _ | exact hr1 _ (by omega) | exact hr6 _ (by omega) | exact hr11 _ (by omega) | exact hr _ | exact Nat.le_succ_of_le (hr _))) kX5_move lX7_219 (by decide) rfl rfl rfl rfl (by exact Nat.le_of_ble_eq_true rfl) dX7_outlastsStanding_23 rfl rfl ?_
  refine g_aload_n (i := 0) (j := 0) dX7_outlastsStanding_26 rfl rfl ?_
  refine g_get fX7_56 rfl rfl dX7_outlastsStanding_27 ?_
  refine c_V (st1 := [.int (nI (bN ((sFate h so (wa k) c (sTo h (pa k) (wa k) c 0 (sWater la ri s lo)) 0 (sWater la ri (s + 1) lo) 0) = 2 ∨ (sFate h so (wa k) c (sTo h (pa k) (wa k) c 0 (sWater la ri s lo)) 0 (sWater la ri (s + 1) lo) 0) = 3)))]) (ctX5_isLost  (by omega)) kX5_isLost lX7_223 (by decide) rfl rfl rfl rfl (by exact Nat.le_of_ble_eq_true rfl) dX7_outlastsStanding_30 rfl rfl ?_
  refine b_if_ne (tgt := 40) dX7_outlastsStanding_33 (by decide) (fun h33 => ?_) (fun h33 => ?_)
  · refine g_iconst (v := nI 0) dX7_outlastsStanding_40 (by decide) ?_
    refine g_iret rfl (by decide) dX7_outlastsStanding_41 ?_
    refine ⟨?_, (pa k, wa k, lo, sTo h (pa k) (wa k) c 0 (sWater la ri s lo), s + 1, sFate h so (wa k) c (sTo h (pa k) (wa k) c 0 (sWater la ri s lo)) 0 (sWater la ri (s + 1) lo) 0), rfl⟩
    rw [bN_f (by omega)]
  · refine g_iconst (v := nI 1) dX7_outlastsStanding_36 (by decide) ?_
    refine g_goto (tgt := 41) dX7_outlastsStanding_37 (by decide) ?_
    refine g_iret rfl (by decide) dX7_outlastsStanding_41 ?_
    refine ⟨?_, (pa k, wa k, lo, sTo h (pa k) (wa k) c 0 (sWater la ri s lo), s + 1, sFate h so (wa k) c (sTo h (pa k) (wa k) c 0 (sWater la ri s lo)) 0 (sWater la ri (s + 1) lo) 0), rfl⟩
    rw [bN_t (by omega)]

theorem ctX7_isOverByLow {e1 e2 e9 e10 e11 e12 e13 e14 e17 e19 e21 e22 e25 e26 : va_E} {sd : Int64} {h so ho pa wa : Nat → Nat} {wk tw sf lo ri la : Nat} {r : Nat → Nat} {t : t6} (hg : gOK h so ho pa wa wk tw lo ri la) {k s lw : Nat} (hk : k < 5) (hs : s ≤ 40) (hlw : lw ≤ 41) : Ct mX7_isOverByLow 4 [.ref 0, .int (nI k), .int (nI s), .int (nI lw)] (wC (kO sd) e1 e2 (kG3 wk tw sf lo ri la) (kI 10 h) (kZ 10 so) (kI 10 ho) (kI 5 pa) (kI 5 wa) e9 e10 e11 e12 e13 e14 (kI 16 r) e17 e19 e21 e22 (kPt t) e25 e26) (fun v u => v = some (.int (nI (bN ((sArr h so la ri (pa k) (wa k) lw 1 0 s).isSome = true)))) ∧ ∃ t2 : t6, u = wC (kO sd) e1 e2 (kG3 wk tw sf lo ri la) (kI 10 h) (kZ 10 so) (kI 10 ho) (kI 5 pa) (kI 5 wa) e9 e10 e11 e12 e13 e14 (kI 16 r) e17 e19 e21 e22 (kPt t2) e25 e26) := by
  refine Ct.of (by decide) (by exact Nat.le_of_ble_eq_true rfl) ?_
  show Go mX7_isOverByLow 4 0 [(0, .ref 0), (1, .int (nI k)), (2, .int (nI s)), (3, .int (nI lw))] [] (wC (kO sd) e1 e2 (kG3 wk tw sf lo ri la) (kI 10 h) (kZ 10 so) (kI 10 ho) (kI 5 pa) (kI 5 wa) e9 e10 e11 e12 e13 e14 (kI 16 r) e17 e19 e21 e22 (kPt t) e25 e26) (fun v u => v = some (.int (nI (bN ((sArr h so la ri (pa k) (wa k) lw 1 0 s).isSome = true)))) ∧ ∃ t2 : t6, u = wC (kO sd) e1 e2 (kG3 wk tw sf lo ri la) (kI 10 h) (kZ 10 so) (kI 10 ho) (kI 5 pa) (kI 5 wa) e9 e10 e11 e12 e13 e14 (kI 16 r) e17 e19 e21 e22 (kPt t2) e25 e26)
  obtain ⟨hH, hso, hho, hpa, hwa, hwk, htw, hlo, hri, hla⟩ := hg
  refine g_aload_n (i := 0) (j := 0) dX7_isOverByLow_0 rfl rfl ?_
  refine g_get fX7_56 rfl rfl dX7_isOverByLow_1 ?_
  refine g_aload_n (i := 0) (j := 0) dX7_isOverByLow_4 rfl rfl ?_
  refine g_get fX7_19 rfl rfl dX7_isOverByLow_5 ?_
  refine g_iload_n (i := 1) (j := 1) dX7_isOverByLow_8 rfl rfl ?_
  refine g_iconst (v := nI 0) dX7_isOverByLow_9 (by decide) ?_
  refine g_iload_n (i := 2) (j := 2) dX7_isOverByLow_10 rfl rfl ?_
  refine c_V (st1 := []) (ctX5_begin (k := k) (c := 0) (s := s) (by omega)) kX5_begin lX7_206 (by decide) rfl rfl rfl rfl (by exact Nat.le_of_ble_eq_true rfl) dX7_isOverByLow_11 rfl rfl ?_
  refine g_aload_n (i := 0) (j := 0) dX7_isOverByLow_14 rfl rfl ?_
  refine g_get fX7_56 rfl rfl dX7_isOverByLow_15 ?_
  refine g_iload_n (i := 3) (j := 3) dX7_isOverByLow_18 rfl rfl ?_
  refine n_putI (ws' := wC (kO sd) e1 e2 (kG3 wk tw sf lo ri la) (kI 10 h) (kZ 10 so) (kI 10 ho) (kI 5 pa) (kI 5 wa) e9 e10 e11 e12 e13 e14 (kI 16 r) e17 e19 e21 e22 (kP (pa k) (wa k) lw 0 s 0) e25 e26) fX7_288 fp_X5_2 rfl (by exact Nat.le_of_ble_eq_true rfl) dX7_isOverByLow_19 rfl ?_
  refine g_aload_n (i := 0) (j := 0) dX7_isOverByLow_22 rfl rfl ?_
  refine g_get fX7_56 rfl rfl dX7_isOverByLow_23 ?_
  refine g_aload_n (i := 0) (j := 0) dX7_isOverByLow_26 rfl rfl ?_
  refine g_get fX7_19 rfl rfl dX7_isOverByLow_27 ?_
  refine g_iconst (v := nI 1) dX7_isOverByLow_30 (by decide) ?_
  refine g_callV (rest := []) (ctX5_goTillThere (way := 1) hH hso hla hri (by first | omega | exact hpa _ | exact hwa _ | exact hr1 _ (by omega) | exact hr6 _ (by omega) | exact hr11 _ (by omega) | exact hr _ | exact Nat.le_succ_of_le (hr _)) (by first | omega | exact hpa _ | exact hwa _ | exact hr1 _ (by omega) | exact hr6 _ (by omega) | exact hr11 _ (by omega) | exact hr _ | exact Nat.le_succ_of_le (hr _)) (by first | omega | exact hpa _ | exact hwa _ | exact hr1 _ (by omega) | exact hr6 _ (by omega) | exact hr11 _ (by omega) | exact hr _ | exact Nat.le_succ_of_le (hr _)) (by first | omega | exact hpa _ | exact hwa _ | exact hr1 _ (by omega) | exact hr6 _ (by omega) | exact hr11 _ (by omega) | exact hr _ | exact Nat.le_succ_of_le (hr _)) (by first | omega | exact hpa _ | exact hwa _ | exact hr1 _ (by omega) | exact hr6 _ (by omega) | exact hr11 _ (by omega) | exact hr _ | exact Nat.le_succ_of_le (hr _)) (by first | omega | exact hpa _ | exact hwa _ | exact hr1 _ (by omega) | exact hr6 _ (by omega) | exact hr11 _ (by omega) | exact hr _ | exact Nat.le_succ_of_le (hr _)) (by first | omega | exact hpa _ | exact hwa _ | exact hr1 _ (by omega) | exact hr6 _ (by omega) | exact hr11 _ (by omega) | exact hr _ | exact Nat.le_succ_of_le (hr _)) (by first | omega | exact hpa _ | exact hwa _ | exact hr1 _ (by omega) | exact hr6 _ (by omega) | exact hr11 _ (by omega) | exact hr _ | exact Nat.le_succ_of_le (hr _))) kX5_goTillThere lX7_284 (by decide) rfl rfl rfl rfl (by exact Nat.le_of_ble_eq_true rfl) dX7_isOverByLow_31 rfl (fun v u hvu => ?_)
  obtain ⟨rfl, c31, s31, f31, rfl⟩ := hvu
  refine g_st (st' := [.int (rO (sGone h so la ri (pa k) (wa k) lw 1 41 0 s 0))]) rfl ?_
  refine g_bipush (v := (-9)) dX7_isOverByLow_34 (by decide) ?_
  refine g_icmp_eq (tgt := 43) dX7_isOverByLow_36 (by decide) (fun h36 => ?_) (fun h36 => ?_)
  · replace h36 := (sArr_ne hs).mp h36
    refine g_iconst (v := nI 0) dX7_isOverByLow_43 (by decide) ?_
    refine g_iret rfl (by decide) dX7_isOverByLow_44 ?_
    refine ⟨?_, (pa k, wa k, lw, c31, s31, f31), rfl⟩
    rw [bN_f (by first | simp [isSome_t h36] | simp [isSome_f h36])]
  · replace h36 := fun z => h36 ((sArr_ne hs).mpr z)
    refine g_iconst (v := nI 1) dX7_isOverByLow_39 (by decide) ?_
    refine g_goto (tgt := 44) dX7_isOverByLow_40 (by decide) ?_
    refine g_iret rfl (by decide) dX7_isOverByLow_44 ?_
    refine ⟨?_, (pa k, wa k, lw, c31, s31, f31), rfl⟩
    rw [bN_t (by first | simp [isSome_t h36] | simp [isSome_f h36])]

/-- a step of one: where it comes, what becomes of it -/
def sMc (h : Nat → Nat) (pa wa : Nat → Nat) (la ri lo : Nat) (r : Nat → Nat) (k : Nat) : Nat := sTo h (pa k) (wa k) (r (1 + k)) (r (6 + k)) (sWater la ri (r 0) lo)
def sMf (h so : Nat → Nat) (pa wa : Nat → Nat) (la ri lo : Nat) (r : Nat → Nat) (k : Nat) : Nat := sFate h so (wa k) (r (1 + k)) (sMc h pa wa la ri lo r k) (r (6 + k)) (sWater la ri (r 0 + 1) lo) 0
theorem sMc_le (h : Nat → Nat) (pa wa : Nat → Nat) (la ri lo : Nat) (r : Nat → Nat) (k : Nat) (hc : r (1 + k) ≤ 9) : sMc h pa wa la ri lo r k ≤ 9 := sTo_le _ _ _ _ _ _ hc
theorem sMf_le (h so : Nat → Nat) (pa wa : Nat → Nat) (la ri lo : Nat) (r : Nat → Nat) (k : Nat) : sMf h so pa wa la ri lo r k ≤ 4 := sFate_le _ _ _ _ _ _ _ _ (by omega)
theorem sMf_3 (h so : Nat → Nat) (pa wa : Nat → Nat) (la ri lo : Nat) (r : Nat → Nat) (k : Nat) : sMf h so pa wa la ri lo r k ≤ 3 := by unfold sMf sFate; (repeat' split) <;> omega
theorem ctX7_moveOne {e1 e2 e9 e10 e11 e12 e13 e14 e17 e19 e21 e22 e25 e26 : va_E} {sd : Int64} {h so ho pa wa : Nat → Nat} {wk tw sf lo ri la : Nat} {r : Nat → Nat} {t : t6} (hg : gOK h so ho pa wa wk tw lo ri la) (hrk : rOK r) {k : Nat} (hk : k < 5) (hst : r 0 ≤ 40) : Ct mX7_moveOne 3 [.ref 0, .int (nI k)] (wC (kO sd) e1 e2 (kG3 wk tw sf lo ri la) (kI 10 h) (kZ 10 so) (kI 10 ho) (kI 5 pa) (kI 5 wa) e9 e10 e11 e12 e13 e14 (kI 16 r) e17 e19 e21 e22 (kPt t) e25 e26) (fun v u => v = some (.int (nI (bN (sMf h so pa wa la ri lo r k = 2 ∨ sMf h so pa wa la ri lo r k = 3)))) ∧ ∃ t2 : t6, u = wC (kO sd) e1 e2 (kG3 wk tw sf lo ri la) (kI 10 h) (kZ 10 so) (kI 10 ho) (kI 5 pa) (kI 5 wa) e9 e10 e11 e12 e13 e14 (kI 16 (va_up (va_up r (1 + k) (sMc h pa wa la ri lo r k)) (11 + k) (sMf h so pa wa la ri lo r k))) e17 e19 e21 e22 (kPt t2) e25 e26) := by
  refine Ct.of (by decide) (by exact Nat.le_of_ble_eq_true rfl) ?_
  show Go mX7_moveOne 3 0 [(0, .ref 0), (1, .int (nI k))] [] (wC (kO sd) e1 e2 (kG3 wk tw sf lo ri la) (kI 10 h) (kZ 10 so) (kI 10 ho) (kI 5 pa) (kI 5 wa) e9 e10 e11 e12 e13 e14 (kI 16 r) e17 e19 e21 e22 (kPt t) e25 e26) (fun v u => v = some (.int (nI (bN (sMf h so pa wa la ri lo r k = 2 ∨ sMf h so pa wa la ri lo r k = 3)))) ∧ ∃ t2 : t6, u = wC (kO sd) e1 e2 (kG3 wk tw sf lo ri la) (kI 10 h) (kZ 10 so) (kI 10 ho) (kI 5 pa) (kI 5 wa) e9 e10 e11 e12 e13 e14 (kI 16 (va_up (va_up r (1 + k) (sMc h pa wa la ri lo r k)) (11 + k) (sMf h so pa wa la ri lo r k))) e17 e19 e21 e22 (kPt t2) e25 e26)
  obtain ⟨hH, hso, hho, hpa, hwa, hwk, htw, hlo, hri, hla⟩ := hg
  obtain ⟨hr, hr1, hr6, hr11⟩ := hrk
  have hfl := sMf_le h so pa wa la ri lo r k
  refine g_aload_n (i := 0) (j := 0) dX7_moveOne_0 rfl rfl ?_
  refine g_get fX7_56 rfl rfl dX7_moveOne_1 ?_
  refine g_aload_n (i := 0) (j := 0) dX7_moveOne_4 rfl rfl ?_
  refine g_get fX7_19 rfl rfl dX7_moveOne_5 ?_
  refine g_iload_n (i := 1) (j := 1) dX7_moveOne_8 rfl rfl ?_
  refine g_aload_n (i := 0) (j := 0) dX7_moveOne_9 rfl rfl ?_
  refine g_get fX7_29 rfl rfl dX7_moveOne_10 ?_
  refine g_iload_n (i := 1) (j := 1) dX7_moveOne_13 rfl rfl ?_
  refine c_V (st1 := [.int (nI (r (1 + k))), .int (nI k), .ref 3, .ref 23]) (ctX2_cellOf (k := k) (by omega)) kX2_cellOf lX7_147 (by decide) rfl rfl rfl rfl (by exact Nat.le_of_ble_eq_true rfl) dX7_moveOne_14 rfl rfl ?_
  refine g_aload_n (i := 0) (j := 0) dX7_moveOne_17 rfl rfl ?_
  refine g_get fX7_29 rfl rfl dX7_moveOne_18 ?_
  refine c_V (st1 := [.int (nI (r 0)), .int (nI (r (1 + k))), .int (nI k), .ref 3, .ref 23]) (ctX2_time  ) kX2_time lX7_95 (by decide) rfl rfl rfl rfl (by exact Nat.le_of_ble_eq_true rfl) dX7_moveOne_21 rfl rfl ?_
  refine c_V (st1 := []) (ctX5_begin (k := k) (c := r (1 + k)) (s := r 0) (by omega)) kX5_begin lX7_206 (by decide) rfl rfl rfl rfl (by exact Nat.le_of_ble_eq_true rfl) dX7_moveOne_24 rfl rfl ?_
  refine g_aload_n (i := 0) (j := 0) dX7_moveOne_27 rfl rfl ?_
  refine g_get fX7_56 rfl rfl dX7_moveOne_28 ?_
  refine g_aload_n (i := 0) (j := 0) dX7_moveOne_31 rfl rfl ?_
  refine g_get fX7_19 rfl rfl dX7_moveOne_32 ?_
  refine g_aload_n (i := 0) (j := 0) dX7_moveOne_35 rfl rfl ?_
  refine g_get fX7_29 rfl rfl dX7_moveOne_36 ?_
  refine g_iload_n (i := 1) (j := 1) dX7_moveOne_39 rfl rfl ?_
  refine c_V (st1 := [.int (nI (r (6 + k))), .ref 3, .ref 23]) (ctX2_wayOf (k := k) (by omega)) kX2_wayOf lX7_150 (by decide) rfl rfl rfl rfl (by exact Nat.le_of_ble_eq_true rfl) dX7_moveOne_40 rfl rfl ?_
  refine c_V (st1 := []) (ctX5_move (way := r (6 + k)) hH hso hla hri (by first | omega | exact hpa _ | exact hwa _ | exact hr1 _ (by omega) | exact hr6 _ (by omega) | exact hr11 _ (by omega) | exact hr _ | exact Nat.le_succ_of_le (hr _)) (by first | omega | exact hpa _ | exact hwa _ | exact hr1 _ (by omega) | exact hr6 _ (by omega) | exact hr11 _ (by omega) | exact hr _ | exact Nat.le_succ_of_le (hr _)) (by first | omega | exact hpa _ | exact hwa _ | exact hr1 _ (by omega) | exact hr6 _ (by omega) | exact hr11 _ (by omega) | exact hr _ | exact Nat.le_succ_of_le (hr _)) (by first | omega | exact hpa _ | exact hwa _ | exact hr1 _ (by omega) | exact hr6 _ (by omega) | exact hr11 _ (by omega) | exact hr _ | exact Nat.le_succ_of_le (hr _)) (by first | omega | exact hpa _ | exact hwa _ | exact hr1 _ (by omega) | exact hr6 _ (by omega) | exact hr11 _ (by omega) | exact hr _ | exact Nat.le_succ_of_le (hr _)) (by first | omega | exact hpa _ | exact hwa _ | exact hr1 _ (by omega) | exact hr6 _ (by omega) | exact hr11 _ (by omega) | exact hr _ | exact Nat.le_succ_of_le (hr _)) (by first | omega | exact hpa _ | exact hwa _ | exact hr1 _ (by omega) | exact hr6 _ (by omega) | exact hr11 _ (by omega) | exact hr _ | exact Nat.le_succ_of_le (hr _))) kX5_move lX7_219 (by decide) rfl rfl rfl rfl (by exact Nat.le_of_ble_eq_true rfl) dX7_moveOne_43 rfl rfl ?_
  refine g_ws (ws' := wC (kO sd) e1 e2 (kG3 wk tw sf lo ri la) (kI 10 h) (kZ 10 so) (kI 10 ho) (kI 5 pa) (kI 5 wa) e9 e10 e11 e12 e13 e14 (kI 16 r) e17 e19 e21 e22 (kP (pa k) (wa k) lo (sMc h pa wa la ri lo r k) ((r 0) + 1) (sMf h so pa wa la ri lo r k)) e25 e26) rfl ?_
  refine g_aload_n (i := 0) (j := 0) dX7_moveOne_46 rfl rfl ?_
  refine g_get fX7_29 rfl rfl dX7_moveOne_47 ?_
  refine g_iload_n (i := 1) (j := 1) dX7_moveOne_50 rfl rfl ?_
  refine g_aload_n (i := 0) (j := 0) dX7_moveOne_51 rfl rfl ?_
  refine g_get fX7_56 rfl rfl dX7_moveOne_52 ?_
  refine g_get fX7_265 rfl rfl dX7_moveOne_55 ?_
  refine c_V (st1 := []) (ctX2_setCell (k := k) (x := sMc h pa wa la ri lo r k) (by omega)) kX2_setCell lX7_281 (by decide) rfl rfl rfl rfl (by exact Nat.le_of_ble_eq_true rfl) dX7_moveOne_58 rfl rfl ?_
  refine g_aload_n (i := 0) (j := 0) dX7_moveOne_61 rfl rfl ?_
  refine g_get fX7_29 rfl rfl dX7_moveOne_62 ?_
  refine g_iload_n (i := 1) (j := 1) dX7_moveOne_65 rfl rfl ?_
  refine g_aload_n (i := 0) (j := 0) dX7_moveOne_66 rfl rfl ?_
  refine g_get fX7_56 rfl rfl dX7_moveOne_67 ?_
  refine g_get fX7_210 rfl rfl dX7_moveOne_70 ?_
  refine c_V (st1 := []) (ctX2_setFate (k := k) (x := sMf h so pa wa la ri lo r k) (by omega)) kX2_setFate lX7_179 (by decide) rfl rfl rfl rfl (by exact Nat.le_of_ble_eq_true rfl) dX7_moveOne_73 rfl rfl ?_
  refine g_aload_n (i := 0) (j := 0) dX7_moveOne_76 rfl rfl ?_
  refine g_get fX7_56 rfl rfl dX7_moveOne_77 ?_
  refine c_V (st1 := [.int (nI (bN ((sMf h so pa wa la ri lo r k) = 2 ∨ (sMf h so pa wa la ri lo r k) = 3)))]) (ctX5_isLost  (by omega)) kX5_isLost lX7_223 (by decide) rfl rfl rfl rfl (by exact Nat.le_of_ble_eq_true rfl) dX7_moveOne_80 rfl rfl ?_
  refine g_iret rfl (nar_b _) dX7_moveOne_83 ?_
  exact ⟨rfl, (pa k, wa k, lo, sMc h pa wa la ri lo r k, (r 0) + 1, sMf h so pa wa la ri lo r k), rfl⟩

