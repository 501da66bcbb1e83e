/-! part 22: the model's small methods; one alone -/
theorem in_0 {x : Int32} {B n : Nat} (hB : B < 2 ^ 31) (h : n = B + 1) : ((lN 0).toInt ≤ x.toInt64.toInt ∧ x.toInt64.toInt ≤ (lN B).toInt) ↔ iW x n := by
  rw [lN_toInt hB, lN_toInt (by omega), Int32.toInt_toInt64]; unfold iW; omega
theorem in_1 {x : Int32} {B n : Nat} (hB : B < 2 ^ 31) (h : n = B + 1) : ((lN 1).toInt ≤ x.toInt64.toInt ∧ x.toInt64.toInt ≤ (lN B).toInt) ↔ (iW x n ∧ ¬ x = nI 0) := by
  rw [lN_toInt hB, lN_toInt (by omega), Int32.toInt_toInt64]
  have e : x = nI 0 ↔ x.toInt = 0 := ⟨fun h => by rw [h]; decide, fun h => Int32.toInt_inj.mp (by rw [h]; decide)⟩
  rw [e]; unfold iW; omega
theorem in_n {t A B : Nat} (ht : t < 2 ^ 31) (hA : A < 2 ^ 31) (hB : B < 2 ^ 31) : ((lN A).toInt ≤ (lN t).toInt ∧ (lN t).toInt ≤ (lN B).toInt) ↔ (A ≤ t ∧ t ≤ B) := by
  rw [lN_toInt hB, lN_toInt hA, lN_toInt ht]; omega
theorem in_w {x : Int32} {wk : Nat} (h : wk ≤ 5) : ((lN 0).toInt ≤ x.toInt64.toInt ∧ x.toInt64.toInt ≤ ((nI wk) - (nI 1)).toInt64.toInt) ↔ iW x wk := by
  rw [lN_toInt (by omega), Int32.toInt_toInt64, Int32.toInt_toInt64, pk_sub_toInt (by omega) (by omega)]; unfold iW; omega
/-- the model's page of a moment -/
def pgR (r : Nat → Nat) : Nat → Nat := fun k => if k = 15 then r 0 else if 15 < k then 0 else if k % 3 = 0 then r (1 + k / 3) else if k % 3 = 1 then r (6 + k / 3) else r (11 + k / 3)
theorem pg_t {r : Nat → Nat} : pgR r 15 = r 0 := rfl
theorem pg_0 {r : Nat → Nat} {w : Nat} (h : w < 5) : pgR r (3 * w) = r (1 + w) := by unfold pgR; rw [if_neg (by omega), if_neg (by omega), if_pos (by omega), show 3 * w / 3 = w by omega]
theorem pg_1 {r : Nat → Nat} {w : Nat} (h : w < 5) : pgR r (3 * w + 1) = r (6 + w) := by unfold pgR; rw [if_neg (by omega), if_neg (by omega), if_neg (by omega), if_pos (by omega), show (3 * w + 1) / 3 = w by omega]
theorem pg_2 {r : Nat → Nat} {w : Nat} (h : w < 5) : pgR r (3 * w + 2) = r (11 + w) := by unfold pgR; rw [if_neg (by omega), if_neg (by omega), if_neg (by omega), if_neg (by omega), show (3 * w + 2) / 3 = w by omega]
theorem pu_t {r : Nat → Nat} {y : Nat} : va_up (pgR r) 15 y = pgR (va_up r 0 y) := by
  funext k; simp only [pgR, va_up]
  by_cases h : k = 15
  · simp [h]
  · rw [if_neg h, if_neg h, if_neg h]
    split
    · rfl
    · simp only [show ∀ j, ((1 + j = 0) = False) from fun j => by simp, show ∀ j, ((6 + j = 0) = False) from fun j => by simp, show ∀ j, ((11 + j = 0) = False) from fun j => by simp, if_false]
theorem pu_0 {r : Nat → Nat} {w y : Nat} (h : w < 5) : va_up (pgR r) (3 * w) y = pgR (va_up r (1 + w) y) := by
  funext k; simp only [pgR, va_up]
  by_cases h1 : k = 15
  · subst h1; rw [if_neg (by omega), if_pos rfl, if_pos rfl, if_neg (by omega)]
  by_cases h2 : 15 < k
  · rw [if_neg (by omega), if_neg h1, if_pos h2, if_neg h1, if_pos h2]
  rw [if_neg h1, if_neg h2, if_neg h1, if_neg h2]
  by_cases h3 : k % 3 = 0
  · rw [if_pos h3, if_pos h3]
    by_cases h4 : k = 3 * w
    · rw [if_pos h4, if_pos (by omega)]
    · rw [if_neg h4, if_neg (by omega)]
  · rw [if_neg (by omega), if_neg h3, if_neg h3]
    split
    · rw [if_neg (by omega)]
    · rw [if_neg (by omega)]
theorem pu_1 {r : Nat → Nat} {w y : Nat} (h : w < 5) : va_up (pgR r) (3 * w + 1) y = pgR (va_up r (6 + w) y) := by
  funext k; simp only [pgR, va_up]
  by_cases h1 : k = 15
  · subst h1; rw [if_neg (by omega), if_pos rfl, if_pos rfl, if_neg (by omega)]
  by_cases h2 : 15 < k
  · rw [if_neg (by omega), if_neg h1, if_pos h2, if_neg h1, if_pos h2]
  rw [if_neg h1, if_neg h2, if_neg h1, if_neg h2]
  by_cases h3 : k % 3 = 0
  · rw [if_neg (by omega), if_pos h3, if_pos h3, if_neg (by omega)]
  rw [if_neg h3, if_neg h3]
  by_cases h5 : k % 3 = 1
  · rw [if_pos h5, if_pos h5]
    by_cases h4 : k = 3 * w + 1
    · rw [if_pos h4, if_pos (by omega)]
    · rw [if_neg h4, if_neg (by omega)]
  · rw [if_neg (by omega), if_neg h5, if_neg h5, if_neg (by omega)]
theorem pu_2 {r : Nat → Nat} {w y : Nat} (h : w < 5) : va_up (pgR r) (3 * w + 2) y = pgR (va_up r (11 + w) y) := by
  funext k; simp only [pgR, va_up]
  by_cases h1 : k = 15
  · subst h1; rw [if_neg (by omega), if_pos rfl, if_pos rfl, if_neg (by omega)]
  by_cases h2 : 15 < k
  · rw [if_neg (by omega), if_neg h1, if_pos h2, if_neg h1, if_pos h2]
  rw [if_neg h1, if_neg h2, if_neg h1, if_neg h2]
  by_cases h3 : k % 3 = 0
  · rw [if_neg (by omega), if_pos h3, if_pos h3, if_neg (by omega)]
  rw [if_neg h3, if_neg h3]
  by_cases h5 : k % 3 = 1
  · rw [if_neg (by omega), if_pos h5, if_pos h5, if_neg (by omega)]
  rw [if_neg h5, if_neg h5]
  by_cases h4 : k = 3 * w + 2
  · rw [if_pos h4, if_pos (by omega)]
  · rw [if_neg h4, if_neg (by omega)]
theorem shr10 : ∀ w, w < 10 → ∀ a, a < 1024 → (nI a >>> (nI w &&& 31)) &&& nI 1 = nI (a / 2 ^ w % 2) := by decide +kernel
theorem ctX8_in {e0 e1 e2 e3 e4 e5 e6 e7 e8 e9 e10 e11 e12 e13 e14 e15 e16 e17 : va_E} {v a b : Int64} {P : Prop} [Decidable P] (hP : (a.toInt ≤ v.toInt ∧ v.toInt ≤ b.toInt) ↔ P) : Ct mX8_in 0 [.long v, .long a, .long b] (wM e0 e1 e2 e3 e4 e5 e6 e7 e8 e9 e10 e11 e12 e13 e14 e15 e16 e17) (gE (some (.int (nI (bN (P))))) (wM e0 e1 e2 e3 e4 e5 e6 e7 e8 e9 e10 e11 e12 e13 e14 e15 e16 e17)) := by
  refine Ct.of (by decide) (by exact Nat.le_of_ble_eq_true rfl) ?_
  show Go mX8_in 0 0 [(0, .long v), (2, .long a), (4, .long b)] [] (wM e0 e1 e2 e3 e4 e5 e6 e7 e8 e9 e10 e11 e12 e13 e14 e15 e16 e17) (gE (some (.int (nI (bN (P))))) (wM e0 e1 e2 e3 e4 e5 e6 e7 e8 e9 e10 e11 e12 e13 e14 e15 e16 e17))
  refine g_lload_n (i := 0) (j := 0) dX8_in_0 rfl rfl ?_
  refine g_lload_n (i := 2) (j := 1) dX8_in_1 rfl rfl ?_
  refine g_lcmp dX8_in_2 ?_
  refine g_if_lt (tgt := 17) dX8_in_3 (by decide) (fun h3 => ?_) (fun h3 => ?_)
  · refine g_iconst (v := nI 0) dX8_in_17 (by decide) ?_
    refine g_iret rfl (by decide) dX8_in_18 ?_
    refine gE_n (bN_f ?_).symm rfl
    rw [← hP]
    simp only [lg_cmp_lt, lg_cmp_gt, Int64.lt_iff_toInt_lt] at *
    omega
  · refine g_lload_n (i := 0) (j := 0) dX8_in_6 rfl rfl ?_
    refine g_lload (j := 2) dX8_in_7 rfl ?_
    refine g_lcmp dX8_in_9 ?_
    refine g_if_gt (tgt := 17) dX8_in_10 (by decide) (fun h10 => ?_) (fun h10 => ?_)
    · refine g_iconst (v := nI 0) dX8_in_17 (by decide) ?_
      refine g_iret rfl (by decide) dX8_in_18 ?_
      refine gE_n (bN_f ?_).symm rfl
      rw [← hP]
      simp only [lg_cmp_lt, lg_cmp_gt, Int64.lt_iff_toInt_lt] at *
      omega
    · refine g_iconst (v := nI 1) dX8_in_13 (by decide) ?_
      refine g_goto (tgt := 18) dX8_in_14 (by decide) ?_
      refine g_iret rfl (by decide) dX8_in_18 ?_
      refine gE_n (bN_t ?_).symm rfl
      rw [← hP]
      simp only [lg_cmp_lt, lg_cmp_gt, Int64.lt_iff_toInt_lt] at *
      omega

theorem ctX8_has {e0 e1 e2 e3 e4 e5 e6 e7 e8 e9 e10 e11 e12 e13 e14 e15 e16 e17 : va_E} {a k : Nat} (ha : a < 1024) (hk : k < 10) : Ct mX8_has 0 [.int (nI a), .int (nI k)] (wM e0 e1 e2 e3 e4 e5 e6 e7 e8 e9 e10 e11 e12 e13 e14 e15 e16 e17) (gE (some (.int (nI (bN (a / 2 ^ k % 2 = 1))))) (wM e0 e1 e2 e3 e4 e5 e6 e7 e8 e9 e10 e11 e12 e13 e14 e15 e16 e17)) := by
  refine Ct.of (by decide) (by exact Nat.le_of_ble_eq_true rfl) ?_
  show Go mX8_has 0 0 [(0, .int (nI a)), (1, .int (nI k))] [] (wM e0 e1 e2 e3 e4 e5 e6 e7 e8 e9 e10 e11 e12 e13 e14 e15 e16 e17) (gE (some (.int (nI (bN (a / 2 ^ k % 2 = 1))))) (wM e0 e1 e2 e3 e4 e5 e6 e7 e8 e9 e10 e11 e12 e13 e14 e15 e16 e17))
  refine g_iload_n (i := 0) (j := 0) dX8_has_0 rfl rfl ?_
  refine g_iload_n (i := 1) (j := 1) dX8_has_1 rfl rfl ?_
  refine g_ishr dX8_has_2 ?_
  refine g_iconst (v := nI 1) dX8_has_3 (by decide) ?_
  refine g_iand dX8_has_4 ?_
  refine g_topi (y := nI (a / 2 ^ k % 2)) (shr10 k hk a ha) ?_
  refine g_iconst (v := nI 1) dX8_has_5 (by decide) ?_
  refine n_icmp_ne (tgt := 13) (by omega) (rng_lit 1 rfl) dX8_has_6 (by decide) (fun h6 => ?_) (fun h6 => ?_)
  · refine g_iconst (v := nI 0) dX8_has_13 (by decide) ?_
    refine g_iret rfl (by decide) dX8_has_14 ?_
    exact gE_n (bN_f (by omega)).symm rfl
  · refine g_iconst (v := nI 1) dX8_has_9 (by decide) ?_
    refine g_goto (tgt := 14) dX8_has_10 (by decide) ?_
    refine g_iret rfl (by decide) dX8_has_14 ?_
    exact gE_n (bN_t (by omega)).symm rfl

theorem ctX8_noOne {e1 e2 e3 e4 e5 e6 e7 e8 e9 e10 e11 e12 e13 e14 e15 e16 e17 : va_E} {ts pl lo ri la wk tw sf : Nat} {rl rr re : Int32} {rw rt rs ac : Nat} {sd : Int64} {ce sa ti : Nat} {x : Int32} (hwk : wk ≤ 5) : Ct mX8_noOne 1 [.ref 0, .int x] (wM (kM 0 ts pl lo ri la wk tw sf rl rr re rw rt rs ac sd ce sa ti) e1 e2 e3 e4 e5 e6 e7 e8 e9 e10 e11 e12 e13 e14 e15 e16 e17) (gE (some (.int (nI (bN (¬ iW x wk))))) (wM (kM 0 ts pl lo ri la wk tw sf rl rr re rw rt rs ac sd ce sa ti) e1 e2 e3 e4 e5 e6 e7 e8 e9 e10 e11 e12 e13 e14 e15 e16 e17)) := by
  refine Ct.of (by decide) (by exact Nat.le_of_ble_eq_true rfl) ?_
  show Go mX8_noOne 1 0 [(0, .ref 0), (1, .int x)] [] (wM (kM 0 ts pl lo ri la wk tw sf rl rr re rw rt rs ac sd ce sa ti) e1 e2 e3 e4 e5 e6 e7 e8 e9 e10 e11 e12 e13 e14 e15 e16 e17) (gE (some (.int (nI (bN (¬ iW x wk))))) (wM (kM 0 ts pl lo ri la wk tw sf rl rr re rw rt rs ac sd ce sa ti) e1 e2 e3 e4 e5 e6 e7 e8 e9 e10 e11 e12 e13 e14 e15 e16 e17))
  refine g_iload_n (i := 1) (j := 1) dX8_noOne_0 rfl rfl ?_
  refine g_i2l dX8_noOne_1 rfl ?_
  refine g_lconst (v := lN 0) dX8_noOne_2 (by decide) ?_
  refine g_aload_n (i := 0) (j := 0) dX8_noOne_3 rfl rfl ?_
  refine g_get fX8_70 rfl rfl dX8_noOne_4 ?_
  refine g_iconst (v := nI 1) dX8_noOne_7 (by decide) ?_
  refine g_isub dX8_noOne_8 ?_
  refine g_i2l dX8_noOne_9 rfl ?_
  refine c_S (st1 := [.int (nI (bN (iW x wk)))]) (ctX8_in  (in_w (by omega))) kX8_in lX8_73 (by decide) rfl (by exact Nat.le_of_ble_eq_true rfl) dX8_noOne_10 rfl rfl ?_
  refine b_if_ne (tgt := 20) dX8_noOne_13 (by decide) (fun h13 => ?_) (fun h13 => ?_)
  · refine g_iconst (v := nI 0) dX8_noOne_20 (by decide) ?_
    refine g_iret rfl (by decide) dX8_noOne_21 ?_
    exact gE_n (bN_f (by first | exact h13 | exact fun z => z h13)).symm rfl
  · refine g_iconst (v := nI 1) dX8_noOne_16 (by decide) ?_
    refine g_goto (tgt := 21) dX8_noOne_17 (by decide) ?_
    refine g_iret rfl (by decide) dX8_noOne_21 ?_
    exact gE_n (bN_t (by first | exact h13 | exact fun z => z h13)).symm rfl

theorem ctX8_noCell {e0 e1 e2 e3 e4 e5 e6 e7 e8 e9 e10 e11 e12 e13 e14 e15 e16 e17 : va_E} {x : Int32} : Ct mX8_noCell 1 [.int x] (wM e0 e1 e2 e3 e4 e5 e6 e7 e8 e9 e10 e11 e12 e13 e14 e15 e16 e17) (gE (some (.int (nI (bN (¬ iW x 10))))) (wM e0 e1 e2 e3 e4 e5 e6 e7 e8 e9 e10 e11 e12 e13 e14 e15 e16 e17)) := by
  refine Ct.of (by decide) (by exact Nat.le_of_ble_eq_true rfl) ?_
  show Go mX8_noCell 1 0 [(0, .int x)] [] (wM e0 e1 e2 e3 e4 e5 e6 e7 e8 e9 e10 e11 e12 e13 e14 e15 e16 e17) (gE (some (.int (nI (bN (¬ iW x 10))))) (wM e0 e1 e2 e3 e4 e5 e6 e7 e8 e9 e10 e11 e12 e13 e14 e15 e16 e17))
  refine g_iload_n (i := 0) (j := 0) dX8_noCell_0 rfl rfl ?_
  refine g_i2l dX8_noCell_1 rfl ?_
  refine g_lconst (v := lN 0) dX8_noCell_2 (by decide) ?_
  refine g_ldc2 clX8_77 dX8_noCell_3 ?_
  refine g_st (st' := [.long (lN 9), .long (lN 0), .long x.toInt64]) rfl ?_
  refine c_S (st1 := [.int (nI (bN (iW x 10)))]) (ctX8_in (P := iW x 10) (in_0 (rng_lit _ rfl) rfl)) kX8_in lX8_73 (by decide) rfl (by exact Nat.le_of_ble_eq_true rfl) dX8_noCell_6 rfl rfl ?_
  refine b_if_ne (tgt := 16) dX8_noCell_9 (by decide) (fun h9 => ?_) (fun h9 => ?_)
  · refine g_iconst (v := nI 0) dX8_noCell_16 (by decide) ?_
    refine g_iret rfl (by decide) dX8_noCell_17 ?_
    exact gE_n (bN_f (by first | exact h9 | exact fun z => z h9)).symm rfl
  · refine g_iconst (v := nI 1) dX8_noCell_12 (by decide) ?_
    refine g_goto (tgt := 17) dX8_noCell_13 (by decide) ?_
    refine g_iret rfl (by decide) dX8_noCell_17 ?_
    exact gE_n (bN_t (by first | exact h9 | exact fun z => z h9)).symm rfl

theorem ctX8_noCellN {e0 e1 e2 e3 e4 e5 e6 e7 e8 e9 e10 e11 e12 e13 e14 e15 e16 e17 : va_E} {x : Nat} (hx : x < 2 ^ 31) : Ct mX8_noCell 1 [.int (nI x)] (wM e0 e1 e2 e3 e4 e5 e6 e7 e8 e9 e10 e11 e12 e13 e14 e15 e16 e17) (gE (some (.int (nI (bN (10 ≤ x))))) (wM e0 e1 e2 e3 e4 e5 e6 e7 e8 e9 e10 e11 e12 e13 e14 e15 e16 e17)) := by
  refine Ct.of (by decide) (by exact Nat.le_of_ble_eq_true rfl) ?_
  show Go mX8_noCell 1 0 [(0, .int (nI x))] [] (wM e0 e1 e2 e3 e4 e5 e6 e7 e8 e9 e10 e11 e12 e13 e14 e15 e16 e17) (gE (some (.int (nI (bN (10 ≤ x))))) (wM e0 e1 e2 e3 e4 e5 e6 e7 e8 e9 e10 e11 e12 e13 e14 e15 e16 e17))
  refine g_iload_n (i := 0) (j := 0) dX8_noCell_0 rfl rfl ?_
  refine g_i2l (v := lN x) dX8_noCell_1 (nI_l (by omega)) ?_
  refine g_lconst (v := lN 0) dX8_noCell_2 (by decide) ?_
  refine g_ldc2 clX8_77 dX8_noCell_3 ?_
  refine g_st (st' := [.long (lN 9), .long (lN 0), .long (lN x)]) rfl ?_
  refine c_S (st1 := [.int (nI (bN (0 ≤ x ∧ x ≤ 9)))]) (ctX8_in  (in_n (t := x) (A := 0) (B := 9) (by omega) (by omega) (by omega))) kX8_in lX8_73 (by decide) rfl (by exact Nat.le_of_ble_eq_true rfl) dX8_noCell_6 rfl rfl ?_
  refine b_if_ne (tgt := 16) dX8_noCell_9 (by decide) (fun h9 => ?_) (fun h9 => ?_)
  · refine g_iconst (v := nI 0) dX8_noCell_16 (by decide) ?_
    refine g_iret rfl (by decide) dX8_noCell_17 ?_
    exact gE_n (bN_f (by omega)).symm rfl
  · refine g_iconst (v := nI 1) dX8_noCell_12 (by decide) ?_
    refine g_goto (tgt := 17) dX8_noCell_13 (by decide) ?_
    refine g_iret rfl (by decide) dX8_noCell_17 ?_
    exact gE_n (bN_t (by omega)).symm rfl

theorem lp_ten {e0 e1 e2 e3 e4 e5 e6 e7 e8 e9 e10 e11 e12 e13 e14 e15 e16 e17 : va_E} {n : Nat} (hn : n ≤ 9) : ∀ (j i : Nat), i + j = n → Go mX8_ten 0 4 [(0, .int (nI n)), (1, .int (nI (10 ^ i))), (2, .int (nI i))] [] (wM e0 e1 e2 e3 e4 e5 e6 e7 e8 e9 e10 e11 e12 e13 e14 e15 e16 e17) (gE (some (.int (nI (10 ^ n)))) (wM e0 e1 e2 e3 e4 e5 e6 e7 e8 e9 e10 e11 e12 e13 e14 e15 e16 e17)) := by
  intro j
  induction j with
  | zero =>
    intro i hi
    obtain rfl : i = n := by omega
    refine g_iload_n (i := 2) (j := 2) dX8_ten_4 rfl rfl ?_
    refine g_iload_n (i := 0) (j := 0) dX8_ten_5 rfl rfl ?_
    refine n_icmp_ge (tgt := 20) (by omega) (by omega) dX8_ten_6 (by decide) (fun h6 => ?_) (fun h6 => ?_)
    · refine g_iload_n (i := 1) (j := 1) dX8_ten_20 rfl rfl ?_
      refine g_iret rfl rfl dX8_ten_21 ?_
      exact gE_i rfl rfl
    · exfalso; omega

  | succ j ih =>
    intro i hi
    refine g_iload_n (i := 2) (j := 2) dX8_ten_4 rfl rfl ?_
    refine g_iload_n (i := 0) (j := 0) dX8_ten_5 rfl rfl ?_
    refine n_icmp_ge (tgt := 20) (by omega) (by omega) dX8_ten_6 (by decide) (fun h6 => ?_) (fun h6 => ?_)
    · exfalso; omega
    · refine g_iload_n (i := 1) (j := 1) dX8_ten_9 rfl rfl ?_
      refine g_bipush (v := nI 10) dX8_ten_10 (by decide) ?_
      refine n_imul (a := (10 ^ i)) (b := 10) dX8_ten_12 ?_
      refine g_istore_n (i := 1) (lv' := [(1, .int (nI ((10 ^ i) * 10))), (0, .int (nI n)), (2, .int (nI i))]) dX8_ten_13 rfl (by decide) rfl ?_
      refine n_inc (x := i) (j := 2) (lv' := [(2, .int (nI (i + 1))), (1, .int (nI ((10 ^ i) * 10))), (0, .int (nI n))]) dX8_ten_14 rfl (by decide) rfl ?_
      refine g_goto (tgt := 4) dX8_ten_17 (by decide) ?_
      refine g_lv [2, 1, 0] rfl ?_
      exact ih (i + 1) (by omega)

theorem ctX8_ten {e0 e1 e2 e3 e4 e5 e6 e7 e8 e9 e10 e11 e12 e13 e14 e15 e16 e17 : va_E} {n : Nat} (hn : n ≤ 9) : Ct mX8_ten 0 [.int (nI n)] (wM e0 e1 e2 e3 e4 e5 e6 e7 e8 e9 e10 e11 e12 e13 e14 e15 e16 e17) (gE (some (.int (nI (10 ^ n)))) (wM e0 e1 e2 e3 e4 e5 e6 e7 e8 e9 e10 e11 e12 e13 e14 e15 e16 e17)) := by
  refine Ct.of (by decide) (by exact Nat.le_of_ble_eq_true rfl) ?_
  show Go mX8_ten 0 0 [(0, .int (nI n))] [] (wM e0 e1 e2 e3 e4 e5 e6 e7 e8 e9 e10 e11 e12 e13 e14 e15 e16 e17) (gE (some (.int (nI (10 ^ n)))) (wM e0 e1 e2 e3 e4 e5 e6 e7 e8 e9 e10 e11 e12 e13 e14 e15 e16 e17))
  refine g_iconst (v := nI 1) dX8_ten_0 (by decide) ?_
  refine g_istore_n (i := 1) (lv' := [(1, .int (nI 1)), (0, .int (nI n))]) dX8_ten_1 rfl (by decide) rfl ?_
  refine g_iconst (v := nI 0) dX8_ten_2 (by decide) ?_
  refine g_istore_n (i := 2) (lv' := [(2, .int (nI 0)), (1, .int (nI 1)), (0, .int (nI n))]) dX8_ten_3 rfl (by decide) rfl ?_
  refine g_lv [2, 1, 0] rfl ?_
  exact lp_ten hn n 0 (by omega)

theorem lp_divisor {e0 e1 e2 e3 e4 e5 e6 e7 e8 e9 e10 e11 e12 e13 e14 e15 e16 e17 : va_E} {a b : Nat} : ∀ (q p : Nat), p < 2 ^ 31 → q < 2 ^ 31 → Go mX8_divisor 0 6 [(0, .long (lN a)), (2, .long (lN b)), (4, .long (lN p)), (6, .long (lN q))] [] (wM e0 e1 e2 e3 e4 e5 e6 e7 e8 e9 e10 e11 e12 e13 e14 e15 e16 e17) (gE (some (.long (lN (Nat.gcd p q)))) (wM e0 e1 e2 e3 e4 e5 e6 e7 e8 e9 e10 e11 e12 e13 e14 e15 e16 e17)) := by
  intro q
  induction q using Nat.strongRecOn with | _ q ih => ?_
  intro p hp hq
  refine g_lload (j := 3) dX8_divisor_6 rfl ?_
  refine g_lconst (v := lN 0) dX8_divisor_8 (by decide) ?_
  refine g_lcmp dX8_divisor_9 ?_
  refine g_if_eq (tgt := 31) dX8_divisor_10 (by decide) (fun h10 => ?_) (fun h10 => ?_)
  · rw [lg_cmp_eq, lN_eq (by omega) (by omega)] at h10
    subst h10
    refine g_lload (j := 2) dX8_divisor_31 rfl ?_
    refine g_lret rfl dX8_divisor_33 ?_
    exact ⟨by rw [Nat.gcd_zero_right], rfl⟩
  · rw [lg_cmp_eq, lN_eq (by omega) (by omega)] at h10
    refine g_lload (j := 2) dX8_divisor_13 rfl ?_
    refine g_lload (j := 3) dX8_divisor_15 rfl ?_
    refine g_lrem dX8_divisor_17 (fun z => h10 ((lN_eq (b := 0) (by omega) (by omega)).mp z)) ?_
    refine g_topl (y := (lN (p % q))) (pk_lRem (by omega) (by omega) (by omega)) ?_
    refine g_lstore (lv' := [(8, .long (lN (p % q))), (0, .long (lN a)), (2, .long (lN b)), (4, .long (lN p)), (6, .long (lN q))]) dX8_divisor_18 (by decide) rfl ?_
    refine g_lload (j := 4) dX8_divisor_20 rfl ?_
    refine g_lstore (lv' := [(4, .long (lN q)), (8, .long (lN (p % q))), (0, .long (lN a)), (2, .long (lN b)), (6, .long (lN q))]) dX8_divisor_22 (by decide) rfl ?_
    refine g_lload (j := 1) dX8_divisor_24 rfl ?_
    refine g_lstore (lv' := [(6, .long (lN (p % q))), (4, .long (lN q)), (8, .long (lN (p % q))), (0, .long (lN a)), (2, .long (lN b))]) dX8_divisor_26 (by decide) rfl ?_
    refine g_goto (tgt := 6) dX8_divisor_28 (by decide) ?_
    refine g_lv [3, 4, 1, 0] rfl ?_
    rw [Nat.gcd_comm p q, Nat.gcd_rec q p, Nat.gcd_comm]
    have hm : p % q < q := Nat.mod_lt _ (by omega)
    exact ih (p % q) hm q hq (by omega)

theorem ctX8_divisor {e0 e1 e2 e3 e4 e5 e6 e7 e8 e9 e10 e11 e12 e13 e14 e15 e16 e17 : va_E} {a b : Nat} (ha : a < 2 ^ 31) (hb : b < 2 ^ 31) : Ct mX8_divisor 0 [.long (lN a), .long (lN b)] (wM e0 e1 e2 e3 e4 e5 e6 e7 e8 e9 e10 e11 e12 e13 e14 e15 e16 e17) (gE (some (.long (lN (Nat.gcd a b)))) (wM e0 e1 e2 e3 e4 e5 e6 e7 e8 e9 e10 e11 e12 e13 e14 e15 e16 e17)) := by
  refine Ct.of (by decide) (by exact Nat.le_of_ble_eq_true rfl) ?_
  show Go mX8_divisor 0 0 [(0, .long (lN a)), (2, .long (lN b))] [] (wM e0 e1 e2 e3 e4 e5 e6 e7 e8 e9 e10 e11 e12 e13 e14 e15 e16 e17) (gE (some (.long (lN (Nat.gcd a b)))) (wM e0 e1 e2 e3 e4 e5 e6 e7 e8 e9 e10 e11 e12 e13 e14 e15 e16 e17))
  refine g_lload_n (i := 0) (j := 0) dX8_divisor_0 rfl rfl ?_
  refine g_lstore (lv' := [(4, .long (lN a)), (0, .long (lN a)), (2, .long (lN b))]) dX8_divisor_1 (by decide) rfl ?_
  refine g_lload_n (i := 2) (j := 2) dX8_divisor_3 rfl rfl ?_
  refine g_lstore (lv' := [(6, .long (lN b)), (4, .long (lN a)), (0, .long (lN a)), (2, .long (lN b))]) dX8_divisor_4 (by decide) rfl ?_
  refine g_lv [2, 3, 1, 0] rfl ?_
  exact lp_divisor b a ha hb

theorem ctX8_fraction {e0 e1 e2 e3 e4 e5 e6 e7 e8 e9 e10 e11 e12 e13 e14 e15 e16 e17 : va_E} {a b u : Nat} (ha : a < 2 ^ 31) (hb : b < 2 ^ 31) (hb0 : 0 < b) (hu : u ≤ 1) : Ct mX8_fraction 1 [.long (lN a), .long (lN b), .int (nI u)] (wM e0 e1 e2 e3 e4 e5 e6 e7 e8 e9 e10 e11 e12 e13 e14 e15 e16 e17) (gE (some (.int (nI (sTold a b u)))) (wM e0 e1 e2 e3 e4 e5 e6 e7 e8 e9 e10 e11 e12 e13 e14 e15 e16 e17)) := by
  refine Ct.of (by decide) (by exact Nat.le_of_ble_eq_true rfl) ?_
  show Go mX8_fraction 1 0 [(0, .long (lN a)), (2, .long (lN b)), (4, .int (nI u))] [] (wM e0 e1 e2 e3 e4 e5 e6 e7 e8 e9 e10 e11 e12 e13 e14 e15 e16 e17) (gE (some (.int (nI (sTold a b u)))) (wM e0 e1 e2 e3 e4 e5 e6 e7 e8 e9 e10 e11 e12 e13 e14 e15 e16 e17))
  have hg0 : 0 < Nat.gcd a b := Nat.gcd_pos_of_pos_right _ hb0
  have hg1 : Nat.gcd a b ≤ b := Nat.gcd_le_right _ hb0
  refine g_lload_n (i := 0) (j := 0) dX8_fraction_0 rfl rfl ?_
  refine g_lload_n (i := 2) (j := 1) dX8_fraction_1 rfl rfl ?_
  refine c_S (st1 := [.long (lN (Nat.gcd a b))]) (ctX8_divisor (a := a) (b := b) (by omega) (by omega)) kX8_divisor lX8_223 (by decide) rfl (by exact Nat.le_of_ble_eq_true rfl) dX8_fraction_2 rfl rfl ?_
  refine g_lstore (lv' := [(5, .long (lN (Nat.gcd a b))), (0, .long (lN a)), (2, .long (lN b)), (4, .int (nI u))]) dX8_fraction_5 (by decide) rfl ?_
  refine g_iload (j := 3) dX8_fraction_7 rfl ?_
  refine n_if_eq (tgt := 19) (by omega) dX8_fraction_9 (by decide) (fun h9 => ?_) (fun h9 => ?_)
  · refine g_lload_n (i := 2) (j := 2) dX8_fraction_19 rfl rfl ?_
    refine g_lload (j := 0) dX8_fraction_20 rfl ?_
    refine g_ldiv dX8_fraction_22 (fun z => absurd ((lN_eq (b := 0) (by omega) (by omega)).mp z) (by omega)) ?_
    refine g_topl (y := (lN (b / Nat.gcd a b))) (pk_lDiv (by omega) (by omega) (by omega)) ?_
    refine g_l2i (v := nI (b / Nat.gcd a b)) dX8_fraction_23 (lN_i _) ?_
    refine g_iret rfl rfl dX8_fraction_24 ?_
    refine gE_n ?_ rfl
    unfold sTold
    split <;> first | rfl | omega
  · refine g_lload_n (i := 0) (j := 1) dX8_fraction_12 rfl rfl ?_
    refine g_lload (j := 0) dX8_fraction_13 rfl ?_
    refine g_ldiv dX8_fraction_15 (fun z => absurd ((lN_eq (b := 0) (by omega) (by omega)).mp z) (by omega)) ?_
    refine g_topl (y := (lN (a / Nat.gcd a b))) (pk_lDiv (by omega) (by omega) (by omega)) ?_
    refine g_goto (tgt := 23) dX8_fraction_16 (by decide) ?_
    refine g_l2i (v := nI (a / Nat.gcd a b)) dX8_fraction_23 (lN_i _) ?_
    refine g_iret rfl rfl dX8_fraction_24 ?_
    refine gE_n ?_ rfl
    unfold sTold
    split <;> first | rfl | omega

abbrev tenP (a b : Int32) : Prop := iW a 11 ∧ iW b 11 ∧ cN a + cN b ≤ 10
theorem ten_c {a b : Int32} (ha : iW a 11) (hb : iW b 11) : (a + b ≤ nI 10) ↔ cN a + cN b ≤ 10 := by
  obtain ⟨i, hi, rfl⟩ := raw_lt ha
  obtain ⟨j, hj, rfl⟩ := raw_lt hb
  rw [nI_add, nI_leI (by omega) (by omega)]
  unfold cN
  rw [nI_clamp (by omega), nI_clamp (by omega)]
theorem ctX8_noTenths {e0 e1 e2 e3 e4 e5 e6 e7 e8 e9 e10 e11 e12 e13 e14 e15 e16 e17 : va_E} {a b : Int32} : Ct mX8_noTenths 1 [.int a, .int b] (wM e0 e1 e2 e3 e4 e5 e6 e7 e8 e9 e10 e11 e12 e13 e14 e15 e16 e17) (gE (some (.int (nI (bN (¬ tenP a b))))) (wM e0 e1 e2 e3 e4 e5 e6 e7 e8 e9 e10 e11 e12 e13 e14 e15 e16 e17)) := by
  refine Ct.of (by decide) (by exact Nat.le_of_ble_eq_true rfl) ?_
  show Go mX8_noTenths 1 0 [(0, .int a), (1, .int b)] [] (wM e0 e1 e2 e3 e4 e5 e6 e7 e8 e9 e10 e11 e12 e13 e14 e15 e16 e17) (gE (some (.int (nI (bN (¬ tenP a b))))) (wM e0 e1 e2 e3 e4 e5 e6 e7 e8 e9 e10 e11 e12 e13 e14 e15 e16 e17))
  refine g_iload_n (i := 0) (j := 0) dX8_noTenths_0 rfl rfl ?_
  refine g_i2l dX8_noTenths_1 rfl ?_
  refine g_lconst (v := lN 0) dX8_noTenths_2 (by decide) ?_
  refine g_ldc2 clX8_227 dX8_noTenths_3 ?_
  refine g_st (st' := [.long (lN 10), .long (lN 0), .long a.toInt64]) rfl ?_
  refine c_S (st1 := [.int (nI (bN (iW a 11)))]) (ctX8_in (P := iW a 11) (in_0 (rng_lit _ rfl) rfl)) kX8_in lX8_73 (by decide) rfl (by exact Nat.le_of_ble_eq_true rfl) dX8_noTenths_6 rfl rfl ?_
  refine b_if_eq (tgt := 32) dX8_noTenths_9 (by decide) (fun h9 => ?_) (fun h9 => ?_)
  · refine g_iconst (v := nI 1) dX8_noTenths_32 (by decide) ?_
    refine g_goto (tgt := 37) dX8_noTenths_33 (by decide) ?_
    refine g_iret rfl (by decide) dX8_noTenths_37 ?_
    refine gE_n (bN_t ?_).symm rfl
    intro z
    first | exact h9 z.1 | exact h21 z.2.1 | exact h29 ((ten_c h9 h21).mpr z.2.2)
  · refine g_iload_n (i := 1) (j := 1) dX8_noTenths_12 rfl rfl ?_
    refine g_i2l dX8_noTenths_13 rfl ?_
    refine g_lconst (v := lN 0) dX8_noTenths_14 (by decide) ?_
    refine g_ldc2 clX8_227 dX8_noTenths_15 ?_
    refine g_st (st' := [.long (lN 10), .long (lN 0), .long b.toInt64]) rfl ?_
    refine c_S (st1 := [.int (nI (bN (iW b 11)))]) (ctX8_in (P := iW b 11) (in_0 (rng_lit _ rfl) rfl)) kX8_in lX8_73 (by decide) rfl (by exact Nat.le_of_ble_eq_true rfl) dX8_noTenths_18 rfl rfl ?_
    refine b_if_eq (tgt := 32) dX8_noTenths_21 (by decide) (fun h21 => ?_) (fun h21 => ?_)
    · refine g_iconst (v := nI 1) dX8_noTenths_32 (by decide) ?_
      refine g_goto (tgt := 37) dX8_noTenths_33 (by decide) ?_
      refine g_iret rfl (by decide) dX8_noTenths_37 ?_
      refine gE_n (bN_t ?_).symm rfl
      intro z
      first | exact h9 z.1 | exact h21 z.2.1 | exact h29 ((ten_c h9 h21).mpr z.2.2)
    · refine g_iload_n (i := 0) (j := 0) dX8_noTenths_24 rfl rfl ?_
      refine g_iload_n (i := 1) (j := 1) dX8_noTenths_25 rfl rfl ?_
      refine g_iadd dX8_noTenths_26 ?_
      refine g_bipush (v := nI 10) dX8_noTenths_27 (by decide) ?_
      refine g_icmp_le (tgt := 36) dX8_noTenths_29 (by decide) (fun h29 => ?_) (fun h29 => ?_)
      · refine g_iconst (v := nI 0) dX8_noTenths_36 (by decide) ?_
        refine g_iret rfl (by decide) dX8_noTenths_37 ?_
        refine gE_n (bN_f ?_).symm rfl
        exact fun z => z ⟨h9, h21, (ten_c h9 h21).mp h29⟩
      · refine g_iconst (v := nI 1) dX8_noTenths_32 (by decide) ?_
        refine g_goto (tgt := 37) dX8_noTenths_33 (by decide) ?_
        refine g_iret rfl (by decide) dX8_noTenths_37 ?_
        refine gE_n (bN_t ?_).symm rfl
        intro z
        first | exact h9 z.1 | exact h21 z.2.1 | exact h29 ((ten_c h9 h21).mpr z.2.2)

theorem ctX8_water {e1 e2 e3 e4 e5 e6 e7 e8 e9 e10 e11 e12 e13 e14 e15 e16 e17 : va_E} {ts pl lo ri la wk tw sf : Nat} {rl rr re : Int32} {rw rt rs ac : Nat} {sd : Int64} {ce sa ti : Nat} {s at0 : Nat} (h1 : la ≤ 9) (h2 : ri ≤ 3) (h3 : s ≤ 41) (h4 : at0 ≤ 41) : Ct mX8_water 0 [.ref 0, .int (nI s), .int (nI at0)] (wM (kM 0 ts pl lo ri la wk tw sf rl rr re rw rt rs ac sd ce sa ti) e1 e2 e3 e4 e5 e6 e7 e8 e9 e10 e11 e12 e13 e14 e15 e16 e17) (gE (some (.int (nI (sWater la ri s at0)))) (wM (kM 0 ts pl lo ri la wk tw sf rl rr re rw rt rs ac sd ce sa ti) e1 e2 e3 e4 e5 e6 e7 e8 e9 e10 e11 e12 e13 e14 e15 e16 e17)) := by
  refine Ct.of (by decide) (by exact Nat.le_of_ble_eq_true rfl) ?_
  show Go mX8_water 0 0 [(0, .ref 0), (1, .int (nI s)), (2, .int (nI at0))] [] (wM (kM 0 ts pl lo ri la wk tw sf rl rr re rw rt rs ac sd ce sa ti) e1 e2 e3 e4 e5 e6 e7 e8 e9 e10 e11 e12 e13 e14 e15 e16 e17) (gE (some (.int (nI (sWater la ri s at0)))) (wM (kM 0 ts pl lo ri la wk tw sf rl rr re rw rt rs ac sd ce sa ti) e1 e2 e3 e4 e5 e6 e7 e8 e9 e10 e11 e12 e13 e14 e15 e16 e17))
  refine g_aload_n (i := 0) (j := 0) dX8_water_0 rfl rfl ?_
  refine g_get fX8_142 rfl rfl dX8_water_1 ?_
  refine g_aload_n (i := 0) (j := 0) dX8_water_4 rfl rfl ?_
  refine g_get fX8_16 rfl rfl dX8_water_5 ?_
  refine g_iload_n (i := 1) (j := 1) dX8_water_8 rfl rfl ?_
  refine g_iload_n (i := 2) (j := 2) dX8_water_9 rfl rfl ?_
  refine n_icmp_ge (tgt := 19) (by omega) (by omega) dX8_water_10 (by decide) (fun h10 => ?_) (fun h10 => ?_)
  · have hq : ri * (s - at0) ≤ 3 * 41 := Nat.mul_le_mul h2 (by omega)
    refine g_iload_n (i := 1) (j := 1) dX8_water_19 rfl rfl ?_
    refine g_iload_n (i := 2) (j := 2) dX8_water_20 rfl rfl ?_
    refine n_isub (a := s) (b := at0) (by omega) dX8_water_21 ?_
    refine n_imul (a := ri) (b := (s - at0)) dX8_water_22 ?_
    refine n_iadd (a := la) (b := (ri * (s - at0))) dX8_water_23 ?_
    refine g_istore_n (i := 3) (lv' := [(3, .int (nI (la + (ri * (s - at0))))), (0, .ref 0), (1, .int (nI s)), (2, .int (nI at0))]) dX8_water_24 rfl (by decide) rfl ?_
    refine g_iload_n (i := 3) (j := 0) dX8_water_25 rfl rfl ?_
    refine g_bipush (v := nI 9) dX8_water_26 (by decide) ?_
    refine n_icmp_le (tgt := 36) (by omega) (rng_lit 9 rfl) dX8_water_28 (by decide) (fun h28 => ?_) (fun h28 => ?_)
    · refine g_iload_n (i := 3) (j := 0) dX8_water_36 rfl rfl ?_
      refine g_iret rfl rfl dX8_water_37 ?_
      refine gE_n ?_ rfl
      unfold sWater
      first | rw [if_pos h10] | rw [if_neg (by omega : ¬ s < at0)]
      split <;> omega
    · refine g_bipush (v := nI 9) dX8_water_31 (by decide) ?_
      refine g_goto (tgt := 37) dX8_water_33 (by decide) ?_
      refine g_iret rfl rfl dX8_water_37 ?_
      refine gE_n ?_ rfl
      unfold sWater
      first | rw [if_pos h10] | rw [if_neg (by omega : ¬ s < at0)]
      split <;> omega
  · have hq : ri * (at0 - s) ≤ 3 * 41 := Nat.mul_le_mul h2 (by omega)
    refine g_iload_n (i := 2) (j := 2) dX8_water_13 rfl rfl ?_
    refine g_iload_n (i := 1) (j := 1) dX8_water_14 rfl rfl ?_
    refine n_isub (a := at0) (b := s) (by omega) dX8_water_15 ?_
    refine g_goto (tgt := 22) dX8_water_16 (by decide) ?_
    refine n_imul (a := ri) (b := (at0 - s)) dX8_water_22 ?_
    refine n_iadd (a := la) (b := (ri * (at0 - s))) dX8_water_23 ?_
    refine g_istore_n (i := 3) (lv' := [(3, .int (nI (la + (ri * (at0 - s))))), (0, .ref 0), (1, .int (nI s)), (2, .int (nI at0))]) dX8_water_24 rfl (by decide) rfl ?_
    refine g_iload_n (i := 3) (j := 0) dX8_water_25 rfl rfl ?_
    refine g_bipush (v := nI 9) dX8_water_26 (by decide) ?_
    refine n_icmp_le (tgt := 36) (by omega) (rng_lit 9 rfl) dX8_water_28 (by decide) (fun h28 => ?_) (fun h28 => ?_)
    · refine g_iload_n (i := 3) (j := 0) dX8_water_36 rfl rfl ?_
      refine g_iret rfl rfl dX8_water_37 ?_
      refine gE_n ?_ rfl
      unfold sWater
      first | rw [if_pos h10] | rw [if_neg (by omega : ¬ s < at0)]
      split <;> omega
    · refine g_bipush (v := nI 9) dX8_water_31 (by decide) ?_
      refine g_goto (tgt := 37) dX8_water_33 (by decide) ?_
      refine g_iret rfl rfl dX8_water_37 ?_
      refine gE_n ?_ rfl
      unfold sWater
      first | rw [if_pos h10] | rw [if_neg (by omega : ¬ s < at0)]
      split <;> omega

theorem ctX8_deepBy {e1 e3 e4 e5 e6 e7 e8 e9 e10 e11 e12 e13 e14 e15 e16 e17 : va_E} {ts pl lo ri la wk tw sf : Nat} {rl rr re : Int32} {rw rt rs ac : Nat} {sd : Int64} {ce sa ti : Nat} {h : Nat → Nat} {c s at0 : Nat} (hH : ∀ k, h k ≤ 9) (hla : la ≤ 9) (hri : ri ≤ 3) (hc : c ≤ 9) (h3 : s ≤ 41) (h4 : at0 ≤ 41) : Ct mX8_deepBy 1 [.ref 0, .int (nI c), .int (nI s), .int (nI at0)] (wM (kM 0 ts pl lo ri la wk tw sf rl rr re rw rt rs ac sd ce sa ti) e1 (kI 10 h) e3 e4 e5 e6 e7 e8 e9 e10 e11 e12 e13 e14 e15 e16 e17) (gE (some (.int (nI (sDepth h c (sWater la ri s at0))))) (wM (kM 0 ts pl lo ri la wk tw sf rl rr re rw rt rs ac sd ce sa ti) e1 (kI 10 h) e3 e4 e5 e6 e7 e8 e9 e10 e11 e12 e13 e14 e15 e16 e17)) := by
  refine Ct.of (by decide) (by exact Nat.le_of_ble_eq_true rfl) ?_
  show Go mX8_deepBy 1 0 [(0, .ref 0), (1, .int (nI c)), (2, .int (nI s)), (3, .int (nI at0))] [] (wM (kM 0 ts pl lo ri la wk tw sf rl rr re rw rt rs ac sd ce sa ti) e1 (kI 10 h) e3 e4 e5 e6 e7 e8 e9 e10 e11 e12 e13 e14 e15 e16 e17) (gE (some (.int (nI (sDepth h c (sWater la ri s at0))))) (wM (kM 0 ts pl lo ri la wk tw sf rl rr re rw rt rs ac sd ce sa ti) e1 (kI 10 h) e3 e4 e5 e6 e7 e8 e9 e10 e11 e12 e13 e14 e15 e16 e17))
  have q1 := hH c
  have q2 := sWater_le la ri s at0
  refine g_aload_n (i := 0) (j := 0) dX8_deepBy_0 rfl rfl ?_
  refine g_iload_n (i := 2) (j := 2) dX8_deepBy_1 rfl rfl ?_
  refine g_iload_n (i := 3) (j := 3) dX8_deepBy_2 rfl rfl ?_
  refine c_V (st1 := [.int (nI (sWater la ri s at0))]) (ctX8_water (s := s) (at0 := at0) (by first | omega | exact hpa _ | exact hwa _ | exact hr1 _ (by omega) | exact hr6 _ (by omega) | exact hr11 _ (by omega) | exact hr _ | exact Nat.le_succ_of_le (hr _)) (by first | omega | exact hpa _ | exact hwa _ | exact hr1 _ (by omega) | exact hr6 _ (by omega) | exact hr11 _ (by omega) | exact hr _ | exact Nat.le_succ_of_le (hr _)) (by first | omega | exact hpa _ | exact hwa _ | exact hr1 _ (by omega) | exact hr6 _ (by omega) | exact hr11 _ (by omega) | exact hr _ | exact Nat.le_succ_of_le (hr _)) (by first | omega | exact hpa _ | exact hwa _ | exact hr1 _ (by omega) | exact hr6 _ (by omega) | exact hr11 _ (by omega) | exact hr _ | exact Nat.le_succ_of_le (hr _))) kX8_water lX8_154 (by decide) rfl rfl rfl rfl (by exact Nat.le_of_ble_eq_true rfl) dX8_deepBy_3 rfl rfl ?_
  refine g_aload_n (i := 0) (j := 0) dX8_deepBy_6 rfl rfl ?_
  refine g_get fX8_13 rfl rfl dX8_deepBy_7 ?_
  refine g_iload_n (i := 1) (j := 1) dX8_deepBy_10 rfl rfl ?_
  refine n_iald (x := c) rfl (by omega) (rng_lit 10 rfl) dX8_deepBy_11 ?_
  refine g_isub dX8_deepBy_12 ?_
  refine g_istore (lv' := [(4, .int ((nI (sWater la ri s at0)) - (nI (h c)))), (0, .ref 0), (1, .int (nI c)), (2, .int (nI s)), (3, .int (nI at0))]) dX8_deepBy_13 (by decide) rfl ?_
  refine g_iload_n (i := 1) (j := 2) dX8_deepBy_15 rfl rfl ?_
  refine n_if_eq (tgt := 30) (by omega) dX8_deepBy_16 (by decide) (fun h16 => ?_) (fun h16 => ?_)
  · refine g_iconst (v := nI 0) dX8_deepBy_30 (by decide) ?_
    refine g_goto (tgt := 36) dX8_deepBy_31 (by decide) ?_
    refine g_iret rfl rfl dX8_deepBy_36 ?_
    refine gE_n ?_ rfl
    unfold sDepth
    first | rw [if_pos (by omega)] | (rw [if_neg (by omega)]; omega)
  · refine g_iload_n (i := 1) (j := 2) dX8_deepBy_19 rfl rfl ?_
    refine g_bipush (v := nI 9) dX8_deepBy_20 (by decide) ?_
    refine n_icmp_eq (tgt := 30) (by omega) (rng_lit 9 rfl) dX8_deepBy_22 (by decide) (fun h22 => ?_) (fun h22 => ?_)
    · refine g_iconst (v := nI 0) dX8_deepBy_30 (by decide) ?_
      refine g_goto (tgt := 36) dX8_deepBy_31 (by decide) ?_
      refine g_iret rfl rfl dX8_deepBy_36 ?_
      refine gE_n ?_ rfl
      unfold sDepth
      first | rw [if_pos (by omega)] | (rw [if_neg (by omega)]; omega)
    · refine g_iload (j := 0) dX8_deepBy_25 rfl ?_
      refine g_if_ge (tgt := 34) dX8_deepBy_27 (by decide) (fun h27 => ?_) (fun h27 => ?_)
      · rw [Int32.le_iff_toInt_le, pk_sub_toInt (by omega) (by omega), t_z] at h27
        refine g_iload (j := 0) dX8_deepBy_34 rfl ?_
        refine g_iret rfl rfl dX8_deepBy_36 ?_
        refine gE_r ?_ rfl
        rw [pk_sub (by omega)]
        unfold sDepth
        rw [if_neg (by omega)]
      · rw [Int32.le_iff_toInt_le, pk_sub_toInt (by omega) (by omega), t_z] at h27
        refine g_iconst (v := nI 0) dX8_deepBy_30 (by decide) ?_
        refine g_goto (tgt := 36) dX8_deepBy_31 (by decide) ?_
        refine g_iret rfl rfl dX8_deepBy_36 ?_
        refine gE_n ?_ rfl
        unfold sDepth
        first | rw [if_pos (by omega)] | (rw [if_neg (by omega)]; omega)

