/-! part 15: numbers; safest, judged, shells -/
def sChN (n k : Nat) : Nat → Nat
  | 0 => 1
  | i + 1 => sChN n k i * (n - k + (i + 1)) / (i + 1)
theorem sChN_le : ∀ n, n ≤ 6 → ∀ k, k ≤ 6 → ∀ i, i ≤ 6 → sChN n k i ≤ 100000 := by decide +kernel
/-- Euclid's way, so many times at most -/
def sG : Nat → Nat → Nat → Nat
  | 0, a, _ => a
  | n + 1, a, b => if b = 0 then a else sG n b (a % b)
theorem sG_gcd : ∀ (j n a b : Nat), 2 * j + 1 ≤ n → b < 2 ^ j → sG n a b = Nat.gcd a b
  | 0, n, a, b, hn, hb => by
    obtain rfl : b = 0 := by simpa using hb
    cases n with
    | zero => omega
    | succ n => simp [sG]
  | j + 1, n, a, b, hn, hb => by
    match n, hn with
    | n + 2, hn =>
      by_cases h0 : b = 0
      · subst h0; simp [sG]
      · rw [sG, if_neg h0]
        by_cases h1 : a % b = 0
        · rw [sG, if_pos h1, Nat.gcd_comm, Nat.gcd_rec, h1, Nat.gcd_zero_left]
        · rw [sG, if_neg h1]
          have hlt : a % b < b := Nat.mod_lt _ (by omega)
          have h2 : b % (a % b) < 2 ^ j := by
            have e := Nat.div_add_mod b (a % b)
            have m := Nat.mod_lt b (show 0 < a % b by omega)
            have d : 1 ≤ b / (a % b) := Nat.div_pos (by omega) (by omega)
            have p : a % b * 1 ≤ a % b * (b / (a % b)) := Nat.mul_le_mul_left _ d
            have z : 2 ^ (j + 1) = 2 * 2 ^ j := by rw [Nat.pow_succ]; omega
            omega
          rw [sG_gcd j n (a % b) (b % (a % b)) (by omega) h2, Nat.gcd_comm a b, Nat.gcd_rec b a, Nat.gcd_rec (a % b) b]
          exact Nat.gcd_comm _ _
def sTold (a b u : Nat) : Nat := (if u = 1 then a else b) / Nat.gcd a b
theorem lp_power {e0 e1 e2 e3 e4 e5 e6 e7 e8 e9 e10 e11 e12 e13 e14 e16 e17 e19 e21 e22 e23 e25 e26 : va_E} {b n : Nat} (hn : n ≤ 9) : ∀ (j i : Nat), i + j = n → Go mX7_power 0 4 [(0, .int (nI b)), (1, .int (nI n)), (2, .int (nI (b ^ i))), (3, .int (nI i))] [] (wC e0 e1 e2 e3 e4 e5 e6 e7 e8 e9 e10 e11 e12 e13 e14 e16 e17 e19 e21 e22 e23 e25 e26) (gE (some (.int (nI (b ^ n)))) (wC e0 e1 e2 e3 e4 e5 e6 e7 e8 e9 e10 e11 e12 e13 e14 e16 e17 e19 e21 e22 e23 e25 e26)) := by
  intro j
  induction j with
  | zero =>
    intro i hi
    obtain rfl : i = n := by omega
    refine g_iload_n (i := 3) (j := 3) dX7_power_4 rfl rfl ?_
    refine g_iload_n (i := 1) (j := 1) dX7_power_5 rfl rfl ?_
    refine n_icmp_ge (tgt := 19) (by omega) (by omega) dX7_power_6 (by decide) (fun h6 => ?_) (fun h6 => ?_)
    · refine g_iload_n (i := 2) (j := 2) dX7_power_19 rfl rfl ?_
      refine g_iret rfl rfl dX7_power_20 ?_
      exact gE_i rfl rfl
    · exfalso; omega

  | succ j ih =>
    intro i hi
    refine g_iload_n (i := 3) (j := 3) dX7_power_4 rfl rfl ?_
    refine g_iload_n (i := 1) (j := 1) dX7_power_5 rfl rfl ?_
    refine n_icmp_ge (tgt := 19) (by omega) (by omega) dX7_power_6 (by decide) (fun h6 => ?_) (fun h6 => ?_)
    · exfalso; omega
    · refine g_iload_n (i := 2) (j := 2) dX7_power_9 rfl rfl ?_
      refine g_iload_n (i := 0) (j := 0) dX7_power_10 rfl rfl ?_
      refine n_imul (a := (b ^ i)) (b := b) dX7_power_11 ?_
      refine g_istore_n (i := 2) (lv' := [(2, .int (nI ((b ^ i) * b))), (0, .int (nI b)), (1, .int (nI n)), (3, .int (nI i))]) dX7_power_12 rfl (by decide) rfl ?_
      refine n_inc (x := i) (j := 3) (lv' := [(3, .int (nI (i + 1))), (2, .int (nI ((b ^ i) * b))), (0, .int (nI b)), (1, .int (nI n))]) dX7_power_13 rfl (by decide) rfl ?_
      refine g_goto (tgt := 4) dX7_power_16 (by decide) ?_
      refine g_lv [2, 3, 1, 0] rfl ?_
      exact ih (i + 1) (by omega)

theorem ctX7_power {e0 e1 e2 e3 e4 e5 e6 e7 e8 e9 e10 e11 e12 e13 e14 e16 e17 e19 e21 e22 e23 e25 e26 : va_E} {b n : Nat} (hn : n ≤ 9) : Ct mX7_power 0 [.int (nI b), .int (nI n)] (wC e0 e1 e2 e3 e4 e5 e6 e7 e8 e9 e10 e11 e12 e13 e14 e16 e17 e19 e21 e22 e23 e25 e26) (gE (some (.int (nI (b ^ n)))) (wC e0 e1 e2 e3 e4 e5 e6 e7 e8 e9 e10 e11 e12 e13 e14 e16 e17 e19 e21 e22 e23 e25 e26)) := by
  refine Ct.of (by decide) (by exact Nat.le_of_ble_eq_true rfl) ?_
  show Go mX7_power 0 0 [(0, .int (nI b)), (1, .int (nI n))] [] (wC e0 e1 e2 e3 e4 e5 e6 e7 e8 e9 e10 e11 e12 e13 e14 e16 e17 e19 e21 e22 e23 e25 e26) (gE (some (.int (nI (b ^ n)))) (wC e0 e1 e2 e3 e4 e5 e6 e7 e8 e9 e10 e11 e12 e13 e14 e16 e17 e19 e21 e22 e23 e25 e26))
  refine g_iconst (v := nI 1) dX7_power_0 (by decide) ?_
  refine g_istore_n (i := 2) (lv' := [(2, .int (nI 1)), (0, .int (nI b)), (1, .int (nI n))]) dX7_power_1 rfl (by decide) rfl ?_
  refine g_iconst (v := nI 0) dX7_power_2 (by decide) ?_
  refine g_istore_n (i := 3) (lv' := [(3, .int (nI 0)), (2, .int (nI 1)), (0, .int (nI b)), (1, .int (nI n))]) dX7_power_3 rfl (by decide) rfl ?_
  refine g_lv [2, 3, 1, 0] rfl ?_
  exact lp_power hn n 0 (by omega)

theorem lp_figureAt {e0 e1 e2 e3 e4 e5 e6 e7 e8 e9 e10 e11 e12 e13 e14 e16 e17 e19 e21 e22 e23 e25 e26 : va_E} {b n : Nat} (hn : n ≤ 9) (hb : b < 2 ^ 31) : ∀ (j i : Nat), i + j = n → Go mX7_figureAt 0 4 [(0, .int (nI b)), (1, .int (nI n)), (2, .int (nI (b / 10 ^ i))), (3, .int (nI i))] [] (wC e0 e1 e2 e3 e4 e5 e6 e7 e8 e9 e10 e11 e12 e13 e14 e16 e17 e19 e21 e22 e23 e25 e26) (gE (some (.int (nI (b / 10 ^ n % 10)))) (wC e0 e1 e2 e3 e4 e5 e6 e7 e8 e9 e10 e11 e12 e13 e14 e16 e17 e19 e21 e22 e23 e25 e26)) := by
  intro j
  induction j with
  | zero =>
    intro i hi
    obtain rfl : i = n := by omega
    have q := Nat.div_le_self b (10 ^ i)
    refine g_iload_n (i := 3) (j := 3) dX7_figureAt_4 rfl rfl ?_
    refine g_iload_n (i := 1) (j := 1) dX7_figureAt_5 rfl rfl ?_
    refine n_icmp_ge (tgt := 20) (by omega) (by omega) dX7_figureAt_6 (by decide) (fun h6 => ?_) (fun h6 => ?_)
    · refine g_iload_n (i := 2) (j := 2) dX7_figureAt_20 rfl rfl ?_
      refine g_bipush (v := nI 10) dX7_figureAt_21 (by decide) ?_
      refine n_irem (a := (b / 10 ^ i)) (b := 10) (by omega) (by decide) (rng_lit 10 rfl) dX7_figureAt_23 ?_
      refine g_iret rfl rfl dX7_figureAt_24 ?_
      exact gE_i rfl rfl
    · exfalso; omega

  | succ j ih =>
    intro i hi
    have q := Nat.div_le_self b (10 ^ i)
    refine g_iload_n (i := 3) (j := 3) dX7_figureAt_4 rfl rfl ?_
    refine g_iload_n (i := 1) (j := 1) dX7_figureAt_5 rfl rfl ?_
    refine n_icmp_ge (tgt := 20) (by omega) (by omega) dX7_figureAt_6 (by decide) (fun h6 => ?_) (fun h6 => ?_)
    · exfalso; omega
    · refine g_iload_n (i := 2) (j := 2) dX7_figureAt_9 rfl rfl ?_
      refine g_bipush (v := nI 10) dX7_figureAt_10 (by decide) ?_
      refine n_idiv (a := (b / 10 ^ i)) (b := 10) (by omega) (by decide) (rng_lit 10 rfl) dX7_figureAt_12 ?_
      refine g_istore_n (i := 2) (lv' := [(2, .int (nI ((b / 10 ^ i) / 10))), (0, .int (nI b)), (1, .int (nI n)), (3, .int (nI i))]) dX7_figureAt_13 rfl (by decide) rfl ?_
      refine n_inc (x := i) (j := 3) (lv' := [(3, .int (nI (i + 1))), (2, .int (nI ((b / 10 ^ i) / 10))), (0, .int (nI b)), (1, .int (nI n))]) dX7_figureAt_14 rfl (by decide) rfl ?_
      refine g_goto (tgt := 4) dX7_figureAt_17 (by decide) ?_
      refine g_lv [2, 3, 1, 0] rfl ?_
      refine g_lvE (lv' := [(0, .int (nI b)), (1, .int (nI n)), (2, .int (nI (b / 10 ^ (i + 1)))), (3, .int (nI (i + 1)))]) (by rw [Nat.pow_succ, ← Nat.div_div_eq_div_mul]; rfl) (ih (i + 1) (by omega))

theorem ctX7_figureAt {e0 e1 e2 e3 e4 e5 e6 e7 e8 e9 e10 e11 e12 e13 e14 e16 e17 e19 e21 e22 e23 e25 e26 : va_E} {b n : Nat} (hn : n ≤ 9) (hb : b < 2 ^ 31) : Ct mX7_figureAt 0 [.int (nI b), .int (nI n)] (wC e0 e1 e2 e3 e4 e5 e6 e7 e8 e9 e10 e11 e12 e13 e14 e16 e17 e19 e21 e22 e23 e25 e26) (gE (some (.int (nI (b / 10 ^ n % 10)))) (wC e0 e1 e2 e3 e4 e5 e6 e7 e8 e9 e10 e11 e12 e13 e14 e16 e17 e19 e21 e22 e23 e25 e26)) := by
  refine Ct.of (by decide) (by exact Nat.le_of_ble_eq_true rfl) ?_
  show Go mX7_figureAt 0 0 [(0, .int (nI b)), (1, .int (nI n))] [] (wC e0 e1 e2 e3 e4 e5 e6 e7 e8 e9 e10 e11 e12 e13 e14 e16 e17 e19 e21 e22 e23 e25 e26) (gE (some (.int (nI (b / 10 ^ n % 10)))) (wC e0 e1 e2 e3 e4 e5 e6 e7 e8 e9 e10 e11 e12 e13 e14 e16 e17 e19 e21 e22 e23 e25 e26))
  refine g_iload_n (i := 0) (j := 0) dX7_figureAt_0 rfl rfl ?_
  refine g_istore_n (i := 2) (lv' := [(2, .int (nI b)), (0, .int (nI b)), (1, .int (nI n))]) dX7_figureAt_1 rfl (by decide) rfl ?_
  refine g_iconst (v := nI 0) dX7_figureAt_2 (by decide) ?_
  refine g_istore_n (i := 3) (lv' := [(3, .int (nI 0)), (2, .int (nI b)), (0, .int (nI b)), (1, .int (nI n))]) dX7_figureAt_3 rfl (by decide) rfl ?_
  refine g_lv [2, 3, 1, 0] rfl ?_
  refine g_lvE (lv' := [(0, .int (nI b)), (1, .int (nI n)), (2, .int (nI (b / 10 ^ 0))), (3, .int (nI 0))]) (by rw [Nat.pow_zero, Nat.div_one]; rfl) (lp_figureAt hn hb n 0 (by omega))

theorem lp_choices {e0 e1 e2 e3 e4 e5 e6 e7 e8 e9 e10 e11 e12 e13 e14 e16 e17 e19 e21 e22 e23 e25 e26 : va_E} {n k : Nat} (hn : n ≤ 6) (hk : k ≤ n) : ∀ (j i : Nat), i + j = k → Go mX7_choices 0 4 [(0, .int (nI n)), (1, .int (nI k)), (2, .int (nI (sChN n k i))), (3, .int (nI (i + 1)))] [] (wC e0 e1 e2 e3 e4 e5 e6 e7 e8 e9 e10 e11 e12 e13 e14 e16 e17 e19 e21 e22 e23 e25 e26) (gE (some (.int (nI (sChN n k k)))) (wC e0 e1 e2 e3 e4 e5 e6 e7 e8 e9 e10 e11 e12 e13 e14 e16 e17 e19 e21 e22 e23 e25 e26)) := by
  intro j
  induction j with
  | zero =>
    intro i hi
    obtain rfl : i = k := by omega
    refine g_iload_n (i := 3) (j := 3) dX7_choices_4 rfl rfl ?_
    refine g_iload_n (i := 1) (j := 1) dX7_choices_5 rfl rfl ?_
    refine n_icmp_gt (tgt := 25) (by omega) (by omega) dX7_choices_6 (by decide) (fun h6 => ?_) (fun h6 => ?_)
    · refine g_iload_n (i := 2) (j := 2) dX7_choices_25 rfl rfl ?_
      refine g_iret rfl rfl dX7_choices_26 ?_
      exact gE_i rfl rfl
    · exfalso; omega

  | succ j ih =>
    intro i hi
    have q := sChN_le n hn k (by omega) i (by omega)
    have q2 : sChN n k i * (n - k + (i + 1)) ≤ 100000 * 13 := Nat.mul_le_mul q (by omega)
    refine g_iload_n (i := 3) (j := 3) dX7_choices_4 rfl rfl ?_
    refine g_iload_n (i := 1) (j := 1) dX7_choices_5 rfl rfl ?_
    refine n_icmp_gt (tgt := 25) (by omega) (by omega) dX7_choices_6 (by decide) (fun h6 => ?_) (fun h6 => ?_)
    · exfalso; omega
    · refine g_iload_n (i := 2) (j := 2) dX7_choices_9 rfl rfl ?_
      refine g_iload_n (i := 0) (j := 0) dX7_choices_10 rfl rfl ?_
      refine g_iload_n (i := 1) (j := 1) dX7_choices_11 rfl rfl ?_
      refine n_isub (a := n) (b := k) (by omega) dX7_choices_12 ?_
      refine g_iload_n (i := 3) (j := 3) dX7_choices_13 rfl rfl ?_
      refine n_iadd (a := (n - k)) (b := (i + 1)) dX7_choices_14 ?_
      refine n_imul (a := (sChN n k i)) (b := ((n - k) + (i + 1))) dX7_choices_15 ?_
      refine g_iload_n (i := 3) (j := 3) dX7_choices_16 rfl rfl ?_
      refine n_idiv (a := ((sChN n k i) * ((n - k) + (i + 1)))) (b := (i + 1)) (by omega) (by omega) (by omega) dX7_choices_17 ?_
      refine g_istore_n (i := 2) (lv' := [(2, .int (nI (((sChN n k i) * ((n - k) + (i + 1))) / (i + 1)))), (0, .int (nI n)), (1, .int (nI k)), (3, .int (nI (i + 1)))]) dX7_choices_18 rfl (by decide) rfl ?_
      refine n_inc (x := (i + 1)) (j := 3) (lv' := [(3, .int (nI ((i + 1) + 1))), (2, .int (nI (((sChN n k i) * ((n - k) + (i + 1))) / (i + 1)))), (0, .int (nI n)), (1, .int (nI k))]) dX7_choices_19 rfl (by decide) rfl ?_
      refine g_goto (tgt := 4) dX7_choices_22 (by decide) ?_
      refine g_lv [2, 3, 1, 0] rfl ?_
      exact ih (i + 1) (by omega)

theorem ctX7_choices {e0 e1 e2 e3 e4 e5 e6 e7 e8 e9 e10 e11 e12 e13 e14 e16 e17 e19 e21 e22 e23 e25 e26 : va_E} {n k : Nat} (hn : n ≤ 6) (hk : k ≤ n) : Ct mX7_choices 0 [.int (nI n), .int (nI k)] (wC e0 e1 e2 e3 e4 e5 e6 e7 e8 e9 e10 e11 e12 e13 e14 e16 e17 e19 e21 e22 e23 e25 e26) (gE (some (.int (nI (sChN n k k)))) (wC e0 e1 e2 e3 e4 e5 e6 e7 e8 e9 e10 e11 e12 e13 e14 e16 e17 e19 e21 e22 e23 e25 e26)) := by
  refine Ct.of (by decide) (by exact Nat.le_of_ble_eq_true rfl) ?_
  show Go mX7_choices 0 0 [(0, .int (nI n)), (1, .int (nI k))] [] (wC e0 e1 e2 e3 e4 e5 e6 e7 e8 e9 e10 e11 e12 e13 e14 e16 e17 e19 e21 e22 e23 e25 e26) (gE (some (.int (nI (sChN n k k)))) (wC e0 e1 e2 e3 e4 e5 e6 e7 e8 e9 e10 e11 e12 e13 e14 e16 e17 e19 e21 e22 e23 e25 e26))
  refine g_iconst (v := nI 1) dX7_choices_0 (by decide) ?_
  refine g_istore_n (i := 2) (lv' := [(2, .int (nI 1)), (0, .int (nI n)), (1, .int (nI k))]) dX7_choices_1 rfl (by decide) rfl ?_
  refine g_iconst (v := nI 1) dX7_choices_2 (by decide) ?_
  refine g_istore_n (i := 3) (lv' := [(3, .int (nI 1)), (2, .int (nI 1)), (0, .int (nI n)), (1, .int (nI k))]) dX7_choices_3 rfl (by decide) rfl ?_
  refine g_lv [2, 3, 1, 0] rfl ?_
  exact lp_choices hn hk k 0 (by omega)

theorem lp_common {e0 e1 e2 e3 e4 e5 e6 e7 e8 e9 e10 e11 e12 e13 e14 e16 e17 e19 e21 e22 e23 e25 e26 : va_E} {a0 b0 : Nat} : ∀ (j i a b : Nat), i + j = 64 → a < 2 ^ 31 → b < 2 ^ 31 → Go mX7_commonPart 0 7 [(0, .int (nI a0)), (1, .int (nI b0)), (2, .int (nI a)), (3, .int (nI b)), (4, .int (nI i))] [] (wC e0 e1 e2 e3 e4 e5 e6 e7 e8 e9 e10 e11 e12 e13 e14 e16 e17 e19 e21 e22 e23 e25 e26) (gE (some (.int (nI (sG j a b)))) (wC e0 e1 e2 e3 e4 e5 e6 e7 e8 e9 e10 e11 e12 e13 e14 e16 e17 e19 e21 e22 e23 e25 e26)) := by
  intro j
  induction j with
  | zero =>
    intro i a b hi ha hb
    obtain rfl : i = 64 := by omega
    refine g_iload (j := 4) dX7_commonPart_7 rfl ?_
    refine g_bipush (v := nI 64) dX7_commonPart_9 (by decide) ?_
    refine n_icmp_ge (tgt := 34) (rng_lit 64 rfl) (rng_lit 64 rfl) dX7_commonPart_11 (by decide) (fun h11 => ?_) (fun h11 => ?_)
    · refine g_iload_n (i := 2) (j := 2) dX7_commonPart_34 rfl rfl ?_
      refine g_iret rfl rfl dX7_commonPart_35 ?_
      exact gE_i rfl rfl
    · exact absurd h11 (by decide)

  | succ j ih =>
    intro i a b hi ha hb
    refine g_iload (j := 4) dX7_commonPart_7 rfl ?_
    refine g_bipush (v := nI 64) dX7_commonPart_9 (by decide) ?_
    refine n_icmp_ge (tgt := 34) (by omega) (rng_lit 64 rfl) dX7_commonPart_11 (by decide) (fun h11 => ?_) (fun h11 => ?_)
    · exfalso; omega
    · refine g_iload_n (i := 3) (j := 3) dX7_commonPart_14 rfl rfl ?_
      refine n_if_eq (tgt := 34) (by omega) dX7_commonPart_15 (by decide) (fun h15 => ?_) (fun h15 => ?_)
      · refine g_iload_n (i := 2) (j := 2) dX7_commonPart_34 rfl rfl ?_
        refine g_iret rfl rfl dX7_commonPart_35 ?_
        exact gE_n (by rw [sG, if_pos h15]) rfl
      · refine g_iload_n (i := 2) (j := 2) dX7_commonPart_18 rfl rfl ?_
        refine g_iload_n (i := 3) (j := 3) dX7_commonPart_19 rfl rfl ?_
        refine n_irem (a := a) (b := b) (by omega) (by omega) (by omega) dX7_commonPart_20 ?_
        refine g_istore (lv' := [(5, .int (nI (a % b))), (0, .int (nI a0)), (1, .int (nI b0)), (2, .int (nI a)), (3, .int (nI b)), (4, .int (nI i))]) dX7_commonPart_21 (by decide) rfl ?_
        refine g_iload_n (i := 3) (j := 4) dX7_commonPart_23 rfl rfl ?_
        refine g_istore_n (i := 2) (lv' := [(2, .int (nI b)), (5, .int (nI (a % b))), (0, .int (nI a0)), (1, .int (nI b0)), (3, .int (nI b)), (4, .int (nI i))]) dX7_commonPart_24 rfl (by decide) rfl ?_
        refine g_iload (j := 1) dX7_commonPart_25 rfl ?_
        refine g_istore_n (i := 3) (lv' := [(3, .int (nI (a % b))), (2, .int (nI b)), (5, .int (nI (a % b))), (0, .int (nI a0)), (1, .int (nI b0)), (4, .int (nI i))]) dX7_commonPart_27 rfl (by decide) rfl ?_
        refine n_inc (x := i) (j := 5) (lv' := [(4, .int (nI (i + 1))), (3, .int (nI (a % b))), (2, .int (nI b)), (5, .int (nI (a % b))), (0, .int (nI a0)), (1, .int (nI b0))]) dX7_commonPart_28 rfl (by decide) rfl ?_
        refine g_goto (tgt := 7) dX7_commonPart_31 (by decide) ?_
        refine g_lv [4, 5, 2, 1, 0] rfl ?_
        rw [show sG (j + 1) a b = sG j b (a % b) by rw [sG, if_neg h15]]
        exact ih (i + 1) b (a % b) (by omega) hb (Nat.lt_of_lt_of_le (Nat.mod_lt a (by omega)) (by omega))

theorem ctX7_commonPart {e0 e1 e2 e3 e4 e5 e6 e7 e8 e9 e10 e11 e12 e13 e14 e16 e17 e19 e21 e22 e23 e25 e26 : va_E} {a b : Nat} (ha : a < 2 ^ 31) (hb : b < 2 ^ 31) : Ct mX7_commonPart 0 [.int (nI a), .int (nI b)] (wC e0 e1 e2 e3 e4 e5 e6 e7 e8 e9 e10 e11 e12 e13 e14 e16 e17 e19 e21 e22 e23 e25 e26) (gE (some (.int (nI (Nat.gcd a b)))) (wC e0 e1 e2 e3 e4 e5 e6 e7 e8 e9 e10 e11 e12 e13 e14 e16 e17 e19 e21 e22 e23 e25 e26)) := by
  refine Ct.of (by decide) (by exact Nat.le_of_ble_eq_true rfl) ?_
  show Go mX7_commonPart 0 0 [(0, .int (nI a)), (1, .int (nI b))] [] (wC e0 e1 e2 e3 e4 e5 e6 e7 e8 e9 e10 e11 e12 e13 e14 e16 e17 e19 e21 e22 e23 e25 e26) (gE (some (.int (nI (Nat.gcd a b)))) (wC e0 e1 e2 e3 e4 e5 e6 e7 e8 e9 e10 e11 e12 e13 e14 e16 e17 e19 e21 e22 e23 e25 e26))
  refine g_iload_n (i := 0) (j := 0) dX7_commonPart_0 rfl rfl ?_
  refine g_istore_n (i := 2) (lv' := [(2, .int (nI a)), (0, .int (nI a)), (1, .int (nI b))]) dX7_commonPart_1 rfl (by decide) rfl ?_
  refine g_iload_n (i := 1) (j := 2) dX7_commonPart_2 rfl rfl ?_
  refine g_istore_n (i := 3) (lv' := [(3, .int (nI b)), (2, .int (nI a)), (0, .int (nI a)), (1, .int (nI b))]) dX7_commonPart_3 rfl (by decide) rfl ?_
  refine g_iconst (v := nI 0) dX7_commonPart_4 (by decide) ?_
  refine g_istore (lv' := [(4, .int (nI 0)), (3, .int (nI b)), (2, .int (nI a)), (0, .int (nI a)), (1, .int (nI b))]) dX7_commonPart_5 (by decide) rfl ?_
  refine g_lv [3, 4, 2, 1, 0] rfl ?_
  rw [← sG_gcd 31 64 a b (by omega) hb]
  exact lp_common 64 0 a b (by omega) ha hb

theorem ctX7_told {e0 e1 e2 e3 e4 e5 e6 e7 e8 e9 e10 e11 e12 e13 e14 e16 e17 e19 e21 e22 e23 e25 e26 : va_E} {a b u : Nat} (ha : a < 2 ^ 31) (hb : b < 2 ^ 31) (hb0 : 0 < b) (hu : u ≤ 1) : Ct mX7_told 1 [.int (nI a), .int (nI b), .int (nI u)] (wC e0 e1 e2 e3 e4 e5 e6 e7 e8 e9 e10 e11 e12 e13 e14 e16 e17 e19 e21 e22 e23 e25 e26) (gE (some (.int (nI (sTold a b u)))) (wC e0 e1 e2 e3 e4 e5 e6 e7 e8 e9 e10 e11 e12 e13 e14 e16 e17 e19 e21 e22 e23 e25 e26)) := by
  refine Ct.of (by decide) (by exact Nat.le_of_ble_eq_true rfl) ?_
  show Go mX7_told 1 0 [(0, .int (nI a)), (1, .int (nI b)), (2, .int (nI u))] [] (wC e0 e1 e2 e3 e4 e5 e6 e7 e8 e9 e10 e11 e12 e13 e14 e16 e17 e19 e21 e22 e23 e25 e26) (gE (some (.int (nI (sTold a b u)))) (wC e0 e1 e2 e3 e4 e5 e6 e7 e8 e9 e10 e11 e12 e13 e14 e16 e17 e19 e21 e22 e23 e25 e26))
  have g0 : 0 < Nat.gcd a b := Nat.gcd_pos_of_pos_right a hb0
  have g1 : Nat.gcd a b ≤ b := Nat.le_of_dvd hb0 (Nat.gcd_dvd_right a b)
  refine g_iload_n (i := 0) (j := 0) dX7_told_0 rfl rfl ?_
  refine g_iload_n (i := 1) (j := 1) dX7_told_1 rfl rfl ?_
  refine c_S (st1 := [.int (nI (Nat.gcd a b))]) (ctX7_commonPart (a := a) (b := b) (by omega) (by omega)) kX7_commonPart lX7_297 (by decide) rfl (by exact Nat.le_of_ble_eq_true rfl) dX7_told_2 rfl rfl ?_
  refine g_istore_n (i := 3) (lv' := [(3, .int (nI (Nat.gcd a b))), (0, .int (nI a)), (1, .int (nI b)), (2, .int (nI u))]) dX7_told_5 rfl (by decide) rfl ?_
  refine g_iload_n (i := 3) (j := 0) dX7_told_6 rfl rfl ?_
  refine n_if_ne (tgt := 12) (by omega) dX7_told_7 (by decide) (fun h7 => ?_) (fun h7 => ?_)
  · refine g_iload_n (i := 2) (j := 3) dX7_told_12 rfl rfl ?_
    refine n_if_eq (tgt := 20) (by omega) dX7_told_13 (by decide) (fun h13 => ?_) (fun h13 => ?_)
    · refine g_iload_n (i := 1) (j := 2) dX7_told_20 rfl rfl ?_
      refine g_iload_n (i := 3) (j := 0) dX7_told_21 rfl rfl ?_
      refine n_idiv (a := b) (b := (Nat.gcd a b)) (by omega) (by omega) (by omega) dX7_told_22 ?_
      refine g_iret rfl rfl dX7_told_23 ?_
      refine gE_n ?_ rfl
      unfold sTold
      first | rw [if_pos (by omega)] | rw [if_neg (by omega)]
    · refine g_iload_n (i := 0) (j := 1) dX7_told_16 rfl rfl ?_
      refine g_goto (tgt := 21) dX7_told_17 (by decide) ?_
      refine g_iload_n (i := 3) (j := 0) dX7_told_21 rfl rfl ?_
      refine n_idiv (a := a) (b := (Nat.gcd a b)) (by omega) (by omega) (by omega) dX7_told_22 ?_
      refine g_iret rfl rfl dX7_told_23 ?_
      refine gE_n ?_ rfl
      unfold sTold
      first | rw [if_pos (by omega)] | rw [if_neg (by omega)]
  · exfalso; omega

def sW3 (oa ob ot : Option Nat) : Int32 := match oa, ob, ot with
  | none, none, none => -9
  | none, none, some _ => nI 2
  | some _, none, none => nI 0
  | some a, none, some z => if z < a then nI 2 else nI 0
  | none, some _, none => nI 1
  | none, some b, some z => if z < b then nI 2 else nI 1
  | some a, some b, none => if b < a then nI 1 else nI 0
  | some a, some b, some z => if b < a then (if z < b then nI 2 else nI 1) else (if z < a then nI 2 else nI 0)
theorem sW3_eq (oa ob : Option Nat) (up : Bool) (tm : Nat) : sW3 oa ob (sTow up tm) = sWhich oa ob up tm := by
  cases oa <;> cases ob <;> cases up <;> simp [sW3, sWhich, sTow]
theorem ctX7_safeBits {e0 e1 e2 e3 e4 e5 e6 e7 e8 e9 e10 e11 e12 e13 e14 e16 e17 e19 e21 e22 e23 e25 e26 : va_E} {oa ob ot : Option Nat} (ha : ∀ s, oa = some s → s ≤ 40) (hb : ∀ s, ob = some s → s ≤ 40) (ht : ∀ s, ot = some s → s ≤ 40) : Ct mX7_safeBits 0 [.int (rO oa), .int (rO ob), .int (rO ot)] (wC e0 e1 e2 e3 e4 e5 e6 e7 e8 e9 e10 e11 e12 e13 e14 e16 e17 e19 e21 e22 e23 e25 e26) (gE (some (.int (nI (sBits oa ob ot.isSome)))) (wC e0 e1 e2 e3 e4 e5 e6 e7 e8 e9 e10 e11 e12 e13 e14 e16 e17 e19 e21 e22 e23 e25 e26)) := by
  refine Ct.of (by decide) (by exact Nat.le_of_ble_eq_true rfl) ?_
  show Go mX7_safeBits 0 0 [(0, .int (rO oa)), (1, .int (rO ob)), (2, .int (rO ot))] [] (wC e0 e1 e2 e3 e4 e5 e6 e7 e8 e9 e10 e11 e12 e13 e14 e16 e17 e19 e21 e22 e23 e25 e26) (gE (some (.int (nI (sBits oa ob ot.isSome)))) (wC e0 e1 e2 e3 e4 e5 e6 e7 e8 e9 e10 e11 e12 e13 e14 e16 e17 e19 e21 e22 e23 e25 e26))
  rcases oa with _ | x <;> rcases ob with _ | y <;> rcases ot with _ | z
  · refine g_lvE (lv' := [(0, .int (-9)), (1, .int (-9)), (2, .int (-9))]) rfl ?_
    refine g_iconst (v := nI 0) dX7_safeBits_0 (by decide) ?_
    refine g_istore_n (i := 3) (lv' := [(3, .int (nI 0)), (0, .int (-9)), (1, .int (-9)), (2, .int (-9))]) dX7_safeBits_1 rfl (by decide) rfl ?_
    refine g_iload_n (i := 0) (j := 1) dX7_safeBits_2 rfl rfl ?_
    refine g_bipush (v := (-9)) dX7_safeBits_3 (by decide) ?_
    refine g_icmp_eq (tgt := 12) dX7_safeBits_5 (by decide) (fun h5 => ?_) (fun h5 => ?_)
    · refine g_iload_n (i := 1) (j := 2) dX7_safeBits_12 rfl rfl ?_
      refine g_bipush (v := (-9)) dX7_safeBits_13 (by decide) ?_
      refine g_icmp_eq (tgt := 22) dX7_safeBits_15 (by decide) (fun h15 => ?_) (fun h15 => ?_)
      · refine g_iload_n (i := 2) (j := 3) dX7_safeBits_22 rfl rfl ?_
        refine g_bipush (v := (-9)) dX7_safeBits_23 (by decide) ?_
        refine g_icmp_eq (tgt := 32) dX7_safeBits_25 (by decide) (fun h25 => ?_) (fun h25 => ?_)
        · refine g_iload_n (i := 3) (j := 0) dX7_safeBits_32 rfl rfl ?_
          refine g_iret rfl rfl dX7_safeBits_33 ?_
          exact gE_n rfl rfl
        · exact absurd rfl h25
      · exact absurd rfl h15
    · exact absurd rfl h5
  · have hz_ := ht z rfl
    refine g_lvE (lv' := [(0, .int (-9)), (1, .int (-9)), (2, .int (nI z))]) rfl ?_
    refine g_iconst (v := nI 0) dX7_safeBits_0 (by decide) ?_
    refine g_istore_n (i := 3) (lv' := [(3, .int (nI 0)), (0, .int (-9)), (1, .int (-9)), (2, .int (nI z))]) dX7_safeBits_1 rfl (by decide) rfl ?_
    refine g_iload_n (i := 0) (j := 1) dX7_safeBits_2 rfl rfl ?_
    refine g_bipush (v := (-9)) dX7_safeBits_3 (by decide) ?_
    refine g_icmp_eq (tgt := 12) dX7_safeBits_5 (by decide) (fun h5 => ?_) (fun h5 => ?_)
    · refine g_iload_n (i := 1) (j := 2) dX7_safeBits_12 rfl rfl ?_
      refine g_bipush (v := (-9)) dX7_safeBits_13 (by decide) ?_
      refine g_icmp_eq (tgt := 22) dX7_safeBits_15 (by decide) (fun h15 => ?_) (fun h15 => ?_)
      · refine g_iload_n (i := 2) (j := 3) dX7_safeBits_22 rfl rfl ?_
        refine g_bipush (v := (-9)) dX7_safeBits_23 (by decide) ?_
        refine g_icmp_eq (tgt := 32) dX7_safeBits_25 (by decide) (fun h25 => ?_) (fun h25 => ?_)
        · exact absurd h25 (nI_n9 (by omega))
        · refine g_iload_n (i := 3) (j := 0) dX7_safeBits_28 rfl rfl ?_
          refine g_iconst (v := nI 4) dX7_safeBits_29 (by decide) ?_
          refine g_ior dX7_safeBits_30 ?_
          refine g_topi (y := nI 4) (by decide) ?_
          refine g_istore_n (i := 3) (lv' := [(3, .int (nI 4)), (0, .int (-9)), (1, .int (-9)), (2, .int (nI z))]) dX7_safeBits_31 rfl (by decide) rfl ?_
          refine g_iload_n (i := 3) (j := 0) dX7_safeBits_32 rfl rfl ?_
          refine g_iret rfl rfl dX7_safeBits_33 ?_
          exact gE_n rfl rfl
      · exact absurd rfl h15
    · exact absurd rfl h5
  · have hy_ := hb y rfl
    refine g_lvE (lv' := [(0, .int (-9)), (1, .int (nI y)), (2, .int (-9))]) rfl ?_
    refine g_iconst (v := nI 0) dX7_safeBits_0 (by decide) ?_
    refine g_istore_n (i := 3) (lv' := [(3, .int (nI 0)), (0, .int (-9)), (1, .int (nI y)), (2, .int (-9))]) dX7_safeBits_1 rfl (by decide) rfl ?_
    refine g_iload_n (i := 0) (j := 1) dX7_safeBits_2 rfl rfl ?_
    refine g_bipush (v := (-9)) dX7_safeBits_3 (by decide) ?_
    refine g_icmp_eq (tgt := 12) dX7_safeBits_5 (by decide) (fun h5 => ?_) (fun h5 => ?_)
    · refine g_iload_n (i := 1) (j := 2) dX7_safeBits_12 rfl rfl ?_
      refine g_bipush (v := (-9)) dX7_safeBits_13 (by decide) ?_
      refine g_icmp_eq (tgt := 22) dX7_safeBits_15 (by decide) (fun h15 => ?_) (fun h15 => ?_)
      · exact absurd h15 (nI_n9 (by omega))
      · refine g_iload_n (i := 3) (j := 0) dX7_safeBits_18 rfl rfl ?_
        refine g_iconst (v := nI 2) dX7_safeBits_19 (by decide) ?_
        refine g_ior dX7_safeBits_20 ?_
        refine g_topi (y := nI 2) (by decide) ?_
        refine g_istore_n (i := 3) (lv' := [(3, .int (nI 2)), (0, .int (-9)), (1, .int (nI y)), (2, .int (-9))]) dX7_safeBits_21 rfl (by decide) rfl ?_
        refine g_iload_n (i := 2) (j := 3) dX7_safeBits_22 rfl rfl ?_
        refine g_bipush (v := (-9)) dX7_safeBits_23 (by decide) ?_
        refine g_icmp_eq (tgt := 32) dX7_safeBits_25 (by decide) (fun h25 => ?_) (fun h25 => ?_)
        · refine g_iload_n (i := 3) (j := 0) dX7_safeBits_32 rfl rfl ?_
          refine g_iret rfl rfl dX7_safeBits_33 ?_
          exact gE_n rfl rfl
        · exact absurd rfl h25
    · exact absurd rfl h5
  · have hy_ := hb y rfl
    have hz_ := ht z rfl
    refine g_lvE (lv' := [(0, .int (-9)), (1, .int (nI y)), (2, .int (nI z))]) rfl ?_
    refine g_iconst (v := nI 0) dX7_safeBits_0 (by decide) ?_
    refine g_istore_n (i := 3) (lv' := [(3, .int (nI 0)), (0, .int (-9)), (1, .int (nI y)), (2, .int (nI z))]) dX7_safeBits_1 rfl (by decide) rfl ?_
    refine g_iload_n (i := 0) (j := 1) dX7_safeBits_2 rfl rfl ?_
    refine g_bipush (v := (-9)) dX7_safeBits_3 (by decide) ?_
    refine g_icmp_eq (tgt := 12) dX7_safeBits_5 (by decide) (fun h5 => ?_) (fun h5 => ?_)
    · refine g_iload_n (i := 1) (j := 2) dX7_safeBits_12 rfl rfl ?_
      refine g_bipush (v := (-9)) dX7_safeBits_13 (by decide) ?_
      refine g_icmp_eq (tgt := 22) dX7_safeBits_15 (by decide) (fun h15 => ?_) (fun h15 => ?_)
      · exact absurd h15 (nI_n9 (by omega))
      · refine g_iload_n (i := 3) (j := 0) dX7_safeBits_18 rfl rfl ?_
        refine g_iconst (v := nI 2) dX7_safeBits_19 (by decide) ?_
        refine g_ior dX7_safeBits_20 ?_
        refine g_topi (y := nI 2) (by decide) ?_
        refine g_istore_n (i := 3) (lv' := [(3, .int (nI 2)), (0, .int (-9)), (1, .int (nI y)), (2, .int (nI z))]) dX7_safeBits_21 rfl (by decide) rfl ?_
        refine g_iload_n (i := 2) (j := 3) dX7_safeBits_22 rfl rfl ?_
        refine g_bipush (v := (-9)) dX7_safeBits_23 (by decide) ?_
        refine g_icmp_eq (tgt := 32) dX7_safeBits_25 (by decide) (fun h25 => ?_) (fun h25 => ?_)
        · exact absurd h25 (nI_n9 (by omega))
        · refine g_iload_n (i := 3) (j := 0) dX7_safeBits_28 rfl rfl ?_
          refine g_iconst (v := nI 4) dX7_safeBits_29 (by decide) ?_
          refine g_ior dX7_safeBits_30 ?_
          refine g_topi (y := nI 6) (by decide) ?_
          refine g_istore_n (i := 3) (lv' := [(3, .int (nI 6)), (0, .int (-9)), (1, .int (nI y)), (2, .int (nI z))]) dX7_safeBits_31 rfl (by decide) rfl ?_
          refine g_iload_n (i := 3) (j := 0) dX7_safeBits_32 rfl rfl ?_
          refine g_iret rfl rfl dX7_safeBits_33 ?_
          exact gE_n rfl rfl
    · exact absurd rfl h5
  · have hx_ := ha x rfl
    refine g_lvE (lv' := [(0, .int (nI x)), (1, .int (-9)), (2, .int (-9))]) rfl ?_
    refine g_iconst (v := nI 0) dX7_safeBits_0 (by decide) ?_
    refine g_istore_n (i := 3) (lv' := [(3, .int (nI 0)), (0, .int (nI x)), (1, .int (-9)), (2, .int (-9))]) dX7_safeBits_1 rfl (by decide) rfl ?_
    refine g_iload_n (i := 0) (j := 1) dX7_safeBits_2 rfl rfl ?_
    refine g_bipush (v := (-9)) dX7_safeBits_3 (by decide) ?_
    refine g_icmp_eq (tgt := 12) dX7_safeBits_5 (by decide) (fun h5 => ?_) (fun h5 => ?_)
    · exact absurd h5 (nI_n9 (by omega))
    · refine g_iload_n (i := 3) (j := 0) dX7_safeBits_8 rfl rfl ?_
      refine g_iconst (v := nI 1) dX7_safeBits_9 (by decide) ?_
      refine g_ior dX7_safeBits_10 ?_
      refine g_topi (y := nI 1) (by decide) ?_
      refine g_istore_n (i := 3) (lv' := [(3, .int (nI 1)), (0, .int (nI x)), (1, .int (-9)), (2, .int (-9))]) dX7_safeBits_11 rfl (by decide) rfl ?_
      refine g_iload_n (i := 1) (j := 2) dX7_safeBits_12 rfl rfl ?_
      refine g_bipush (v := (-9)) dX7_safeBits_13 (by decide) ?_
      refine g_icmp_eq (tgt := 22) dX7_safeBits_15 (by decide) (fun h15 => ?_) (fun h15 => ?_)
      · refine g_iload_n (i := 2) (j := 3) dX7_safeBits_22 rfl rfl ?_
        refine g_bipush (v := (-9)) dX7_safeBits_23 (by decide) ?_
        refine g_icmp_eq (tgt := 32) dX7_safeBits_25 (by decide) (fun h25 => ?_) (fun h25 => ?_)
        · refine g_iload_n (i := 3) (j := 0) dX7_safeBits_32 rfl rfl ?_
          refine g_iret rfl rfl dX7_safeBits_33 ?_
          exact gE_n rfl rfl
        · exact absurd rfl h25
      · exact absurd rfl h15
  · have hx_ := ha x rfl
    have hz_ := ht z rfl
    refine g_lvE (lv' := [(0, .int (nI x)), (1, .int (-9)), (2, .int (nI z))]) rfl ?_
    refine g_iconst (v := nI 0) dX7_safeBits_0 (by decide) ?_
    refine g_istore_n (i := 3) (lv' := [(3, .int (nI 0)), (0, .int (nI x)), (1, .int (-9)), (2, .int (nI z))]) dX7_safeBits_1 rfl (by decide) rfl ?_
    refine g_iload_n (i := 0) (j := 1) dX7_safeBits_2 rfl rfl ?_
    refine g_bipush (v := (-9)) dX7_safeBits_3 (by decide) ?_
    refine g_icmp_eq (tgt := 12) dX7_safeBits_5 (by decide) (fun h5 => ?_) (fun h5 => ?_)
    · exact absurd h5 (nI_n9 (by omega))
    · refine g_iload_n (i := 3) (j := 0) dX7_safeBits_8 rfl rfl ?_
      refine g_iconst (v := nI 1) dX7_safeBits_9 (by decide) ?_
      refine g_ior dX7_safeBits_10 ?_
      refine g_topi (y := nI 1) (by decide) ?_
      refine g_istore_n (i := 3) (lv' := [(3, .int (nI 1)), (0, .int (nI x)), (1, .int (-9)), (2, .int (nI z))]) dX7_safeBits_11 rfl (by decide) rfl ?_
      refine g_iload_n (i := 1) (j := 2) dX7_safeBits_12 rfl rfl ?_
      refine g_bipush (v := (-9)) dX7_safeBits_13 (by decide) ?_
      refine g_icmp_eq (tgt := 22) dX7_safeBits_15 (by decide) (fun h15 => ?_) (fun h15 => ?_)
      · refine g_iload_n (i := 2) (j := 3) dX7_safeBits_22 rfl rfl ?_
        refine g_bipush (v := (-9)) dX7_safeBits_23 (by decide) ?_
        refine g_icmp_eq (tgt := 32) dX7_safeBits_25 (by decide) (fun h25 => ?_) (fun h25 => ?_)
        · exact absurd h25 (nI_n9 (by omega))
        · refine g_iload_n (i := 3) (j := 0) dX7_safeBits_28 rfl rfl ?_
          refine g_iconst (v := nI 4) dX7_safeBits_29 (by decide) ?_
          refine g_ior dX7_safeBits_30 ?_
          refine g_topi (y := nI 5) (by decide) ?_
          refine g_istore_n (i := 3) (lv' := [(3, .int (nI 5)), (0, .int (nI x)), (1, .int (-9)), (2, .int (nI z))]) dX7_safeBits_31 rfl (by decide) rfl ?_
          refine g_iload_n (i := 3) (j := 0) dX7_safeBits_32 rfl rfl ?_
          refine g_iret rfl rfl dX7_safeBits_33 ?_
          exact gE_n rfl rfl
      · exact absurd rfl h15
  · have hx_ := ha x rfl
    have hy_ := hb y rfl
    refine g_lvE (lv' := [(0, .int (nI x)), (1, .int (nI y)), (2, .int (-9))]) rfl ?_
    refine g_iconst (v := nI 0) dX7_safeBits_0 (by decide) ?_
    refine g_istore_n (i := 3) (lv' := [(3, .int (nI 0)), (0, .int (nI x)), (1, .int (nI y)), (2, .int (-9))]) dX7_safeBits_1 rfl (by decide) rfl ?_
    refine g_iload_n (i := 0) (j := 1) dX7_safeBits_2 rfl rfl ?_
    refine g_bipush (v := (-9)) dX7_safeBits_3 (by decide) ?_
    refine g_icmp_eq (tgt := 12) dX7_safeBits_5 (by decide) (fun h5 => ?_) (fun h5 => ?_)
    · exact absurd h5 (nI_n9 (by omega))
    · refine g_iload_n (i := 3) (j := 0) dX7_safeBits_8 rfl rfl ?_
      refine g_iconst (v := nI 1) dX7_safeBits_9 (by decide) ?_
      refine g_ior dX7_safeBits_10 ?_
      refine g_topi (y := nI 1) (by decide) ?_
      refine g_istore_n (i := 3) (lv' := [(3, .int (nI 1)), (0, .int (nI x)), (1, .int (nI y)), (2, .int (-9))]) dX7_safeBits_11 rfl (by decide) rfl ?_
      refine g_iload_n (i := 1) (j := 2) dX7_safeBits_12 rfl rfl ?_
      refine g_bipush (v := (-9)) dX7_safeBits_13 (by decide) ?_
      refine g_icmp_eq (tgt := 22) dX7_safeBits_15 (by decide) (fun h15 => ?_) (fun h15 => ?_)
      · exact absurd h15 (nI_n9 (by omega))
      · refine g_iload_n (i := 3) (j := 0) dX7_safeBits_18 rfl rfl ?_
        refine g_iconst (v := nI 2) dX7_safeBits_19 (by decide) ?_
        refine g_ior dX7_safeBits_20 ?_
        refine g_topi (y := nI 3) (by decide) ?_
        refine g_istore_n (i := 3) (lv' := [(3, .int (nI 3)), (0, .int (nI x)), (1, .int (nI y)), (2, .int (-9))]) dX7_safeBits_21 rfl (by decide) rfl ?_
        refine g_iload_n (i := 2) (j := 3) dX7_safeBits_22 rfl rfl ?_
        refine g_bipush (v := (-9)) dX7_safeBits_23 (by decide) ?_
        refine g_icmp_eq (tgt := 32) dX7_safeBits_25 (by decide) (fun h25 => ?_) (fun h25 => ?_)
        · refine g_iload_n (i := 3) (j := 0) dX7_safeBits_32 rfl rfl ?_
          refine g_iret rfl rfl dX7_safeBits_33 ?_
          exact gE_n rfl rfl
        · exact absurd rfl h25
  · have hx_ := ha x rfl
    have hy_ := hb y rfl
    have hz_ := ht z rfl
    refine g_lvE (lv' := [(0, .int (nI x)), (1, .int (nI y)), (2, .int (nI z))]) rfl ?_
    refine g_iconst (v := nI 0) dX7_safeBits_0 (by decide) ?_
    refine g_istore_n (i := 3) (lv' := [(3, .int (nI 0)), (0, .int (nI x)), (1, .int (nI y)), (2, .int (nI z))]) dX7_safeBits_1 rfl (by decide) rfl ?_
    refine g_iload_n (i := 0) (j := 1) dX7_safeBits_2 rfl rfl ?_
    refine g_bipush (v := (-9)) dX7_safeBits_3 (by decide) ?_
    refine g_icmp_eq (tgt := 12) dX7_safeBits_5 (by decide) (fun h5 => ?_) (fun h5 => ?_)
    · exact absurd h5 (nI_n9 (by omega))
    · refine g_iload_n (i := 3) (j := 0) dX7_safeBits_8 rfl rfl ?_
      refine g_iconst (v := nI 1) dX7_safeBits_9 (by decide) ?_
      refine g_ior dX7_safeBits_10 ?_
      refine g_topi (y := nI 1) (by decide) ?_
      refine g_istore_n (i := 3) (lv' := [(3, .int (nI 1)), (0, .int (nI x)), (1, .int (nI y)), (2, .int (nI z))]) dX7_safeBits_11 rfl (by decide) rfl ?_
      refine g_iload_n (i := 1) (j := 2) dX7_safeBits_12 rfl rfl ?_
      refine g_bipush (v := (-9)) dX7_safeBits_13 (by decide) ?_
      refine g_icmp_eq (tgt := 22) dX7_safeBits_15 (by decide) (fun h15 => ?_) (fun h15 => ?_)
      · exact absurd h15 (nI_n9 (by omega))
      · refine g_iload_n (i := 3) (j := 0) dX7_safeBits_18 rfl rfl ?_
        refine g_iconst (v := nI 2) dX7_safeBits_19 (by decide) ?_
        refine g_ior dX7_safeBits_20 ?_
        refine g_topi (y := nI 3) (by decide) ?_
        refine g_istore_n (i := 3) (lv' := [(3, .int (nI 3)), (0, .int (nI x)), (1, .int (nI y)), (2, .int (nI z))]) dX7_safeBits_21 rfl (by decide) rfl ?_
        refine g_iload_n (i := 2) (j := 3) dX7_safeBits_22 rfl rfl ?_
        refine g_bipush (v := (-9)) dX7_safeBits_23 (by decide) ?_
        refine g_icmp_eq (tgt := 32) dX7_safeBits_25 (by decide) (fun h25 => ?_) (fun h25 => ?_)
        · exact absurd h25 (nI_n9 (by omega))
        · refine g_iload_n (i := 3) (j := 0) dX7_safeBits_28 rfl rfl ?_
          refine g_iconst (v := nI 4) dX7_safeBits_29 (by decide) ?_
          refine g_ior dX7_safeBits_30 ?_
          refine g_topi (y := nI 7) (by decide) ?_
          refine g_istore_n (i := 3) (lv' := [(3, .int (nI 7)), (0, .int (nI x)), (1, .int (nI y)), (2, .int (nI z))]) dX7_safeBits_31 rfl (by decide) rfl ?_
          refine g_iload_n (i := 3) (j := 0) dX7_safeBits_32 rfl rfl ?_
          refine g_iret rfl rfl dX7_safeBits_33 ?_
          exact gE_n rfl rfl

theorem ctX7_soonest {e0 e1 e2 e3 e4 e5 e6 e7 e8 e9 e10 e11 e12 e13 e14 e16 e17 e19 e21 e22 e23 e25 e26 : va_E} {oa ob ot : Option Nat} (ha : ∀ s, oa = some s → s ≤ 40) (hb : ∀ s, ob = some s → s ≤ 40) (ht : ∀ s, ot = some s → s ≤ 40) : Ct mX7_soonest 0 [.int (rO oa), .int (rO ob), .int (rO ot)] (wC e0 e1 e2 e3 e4 e5 e6 e7 e8 e9 e10 e11 e12 e13 e14 e16 e17 e19 e21 e22 e23 e25 e26) (gE (some (.int (sW3 oa ob ot))) (wC e0 e1 e2 e3 e4 e5 e6 e7 e8 e9 e10 e11 e12 e13 e14 e16 e17 e19 e21 e22 e23 e25 e26)) := by
  refine Ct.of (by decide) (by exact Nat.le_of_ble_eq_true rfl) ?_
  show Go mX7_soonest 0 0 [(0, .int (rO oa)), (1, .int (rO ob)), (2, .int (rO ot))] [] (wC e0 e1 e2 e3 e4 e5 e6 e7 e8 e9 e10 e11 e12 e13 e14 e16 e17 e19 e21 e22 e23 e25 e26) (gE (some (.int (sW3 oa ob ot))) (wC e0 e1 e2 e3 e4 e5 e6 e7 e8 e9 e10 e11 e12 e13 e14 e16 e17 e19 e21 e22 e23 e25 e26))
  rcases oa with _ | x <;> rcases ob with _ | y <;> rcases ot with _ | z
  · refine g_lvE (lv' := [(0, .int (-9)), (1, .int (-9)), (2, .int (-9))]) rfl ?_
    refine g_bipush (v := (-9)) dX7_soonest_0 (by decide) ?_
    refine g_istore_n (i := 3) (lv' := [(3, .int (-9)), (0, .int (-9)), (1, .int (-9)), (2, .int (-9))]) dX7_soonest_2 rfl (by decide) rfl ?_
    refine g_bipush (v := nI 41) dX7_soonest_3 (by decide) ?_
    refine g_istore (lv' := [(4, .int (nI 41)), (3, .int (-9)), (0, .int (-9)), (1, .int (-9)), (2, .int (-9))]) dX7_soonest_5 (by decide) rfl ?_
    refine g_iload_n (i := 0) (j := 2) dX7_soonest_7 rfl rfl ?_
    refine g_bipush (v := (-9)) dX7_soonest_8 (by decide) ?_
    refine g_icmp_eq (tgt := 18) dX7_soonest_10 (by decide) (fun h10 => ?_) (fun h10 => ?_)
    · refine g_iload_n (i := 1) (j := 3) dX7_soonest_18 rfl rfl ?_
      refine g_bipush (v := (-9)) dX7_soonest_19 (by decide) ?_
      refine g_icmp_eq (tgt := 35) dX7_soonest_21 (by decide) (fun h21 => ?_) (fun h21 => ?_)
      · refine g_iload_n (i := 2) (j := 4) dX7_soonest_35 rfl rfl ?_
        refine g_bipush (v := (-9)) dX7_soonest_36 (by decide) ?_
        refine g_icmp_eq (tgt := 49) dX7_soonest_38 (by decide) (fun h38 => ?_) (fun h38 => ?_)
        · refine g_iload_n (i := 3) (j := 1) dX7_soonest_49 rfl rfl ?_
          refine g_iret rfl rfl dX7_soonest_50 ?_
          refine gE_r ?_ rfl
          first | rfl | (simp only [sW3]; (repeat' split) <;> first | rfl | (exfalso; omega))
        · exact absurd rfl h38
      · exact absurd rfl h21
    · exact absurd rfl h10
  · have hz_ := ht z rfl
    refine g_lvE (lv' := [(0, .int (-9)), (1, .int (-9)), (2, .int (nI z))]) rfl ?_
    refine g_bipush (v := (-9)) dX7_soonest_0 (by decide) ?_
    refine g_istore_n (i := 3) (lv' := [(3, .int (-9)), (0, .int (-9)), (1, .int (-9)), (2, .int (nI z))]) dX7_soonest_2 rfl (by decide) rfl ?_
    refine g_bipush (v := nI 41) dX7_soonest_3 (by decide) ?_
    refine g_istore (lv' := [(4, .int (nI 41)), (3, .int (-9)), (0, .int (-9)), (1, .int (-9)), (2, .int (nI z))]) dX7_soonest_5 (by decide) rfl ?_
    refine g_iload_n (i := 0) (j := 2) dX7_soonest_7 rfl rfl ?_
    refine g_bipush (v := (-9)) dX7_soonest_8 (by decide) ?_
    refine g_icmp_eq (tgt := 18) dX7_soonest_10 (by decide) (fun h10 => ?_) (fun h10 => ?_)
    · refine g_iload_n (i := 1) (j := 3) dX7_soonest_18 rfl rfl ?_
      refine g_bipush (v := (-9)) dX7_soonest_19 (by decide) ?_
      refine g_icmp_eq (tgt := 35) dX7_soonest_21 (by decide) (fun h21 => ?_) (fun h21 => ?_)
      · refine g_iload_n (i := 2) (j := 4) dX7_soonest_35 rfl rfl ?_
        refine g_bipush (v := (-9)) dX7_soonest_36 (by decide) ?_
        refine g_icmp_eq (tgt := 49) dX7_soonest_38 (by decide) (fun h38 => ?_) (fun h38 => ?_)
        · exact absurd h38 (nI_n9 (by omega))
        · refine g_iload_n (i := 2) (j := 4) dX7_soonest_41 rfl rfl ?_
          refine g_iload (j := 0) dX7_soonest_42 rfl ?_
          refine n_icmp_ge (tgt := 49) (by omega) (rng_lit 41 rfl) dX7_soonest_44 (by decide) (fun h44 => ?_) (fun h44 => ?_)
          · refine g_iload_n (i := 3) (j := 1) dX7_soonest_49 rfl rfl ?_
            refine g_iret rfl rfl dX7_soonest_50 ?_
            refine gE_r ?_ rfl
            first | rfl | (simp only [sW3]; (repeat' split) <;> first | rfl | (exfalso; omega))
          · refine g_iconst (v := nI 2) dX7_soonest_47 (by decide) ?_
            refine g_istore_n (i := 3) (lv' := [(3, .int (nI 2)), (4, .int (nI 41)), (0, .int (-9)), (1, .int (-9)), (2, .int (nI z))]) dX7_soonest_48 rfl (by decide) rfl ?_
            refine g_iload_n (i := 3) (j := 0) dX7_soonest_49 rfl rfl ?_
            refine g_iret rfl rfl dX7_soonest_50 ?_
            refine gE_r ?_ rfl
            first | rfl | (simp only [sW3]; (repeat' split) <;> first | rfl | (exfalso; omega))
      · exact absurd rfl h21
    · exact absurd rfl h10
  · have hy_ := hb y rfl
    refine g_lvE (lv' := [(0, .int (-9)), (1, .int (nI y)), (2, .int (-9))]) rfl ?_
    refine g_bipush (v := (-9)) dX7_soonest_0 (by decide) ?_
    refine g_istore_n (i := 3) (lv' := [(3, .int (-9)), (0, .int (-9)), (1, .int (nI y)), (2, .int (-9))]) dX7_soonest_2 rfl (by decide) rfl ?_
    refine g_bipush (v := nI 41) dX7_soonest_3 (by decide) ?_
    refine g_istore (lv' := [(4, .int (nI 41)), (3, .int (-9)), (0, .int (-9)), (1, .int (nI y)), (2, .int (-9))]) dX7_soonest_5 (by decide) rfl ?_
    refine g_iload_n (i := 0) (j := 2) dX7_soonest_7 rfl rfl ?_
    refine g_bipush (v := (-9)) dX7_soonest_8 (by decide) ?_
    refine g_icmp_eq (tgt := 18) dX7_soonest_10 (by decide) (fun h10 => ?_) (fun h10 => ?_)
    · refine g_iload_n (i := 1) (j := 3) dX7_soonest_18 rfl rfl ?_
      refine g_bipush (v := (-9)) dX7_soonest_19 (by decide) ?_
      refine g_icmp_eq (tgt := 35) dX7_soonest_21 (by decide) (fun h21 => ?_) (fun h21 => ?_)
      · exact absurd h21 (nI_n9 (by omega))
      · refine g_iload_n (i := 1) (j := 3) dX7_soonest_24 rfl rfl ?_
        refine g_iload (j := 0) dX7_soonest_25 rfl ?_
        refine n_icmp_ge (tgt := 35) (by omega) (rng_lit 41 rfl) dX7_soonest_27 (by decide) (fun h27 => ?_) (fun h27 => ?_)
        · refine g_iload_n (i := 2) (j := 4) dX7_soonest_35 rfl rfl ?_
          refine g_bipush (v := (-9)) dX7_soonest_36 (by decide) ?_
          refine g_icmp_eq (tgt := 49) dX7_soonest_38 (by decide) (fun h38 => ?_) (fun h38 => ?_)
          · refine g_iload_n (i := 3) (j := 1) dX7_soonest_49 rfl rfl ?_
            refine g_iret rfl rfl dX7_soonest_50 ?_
            refine gE_r ?_ rfl
            first | rfl | (simp only [sW3]; (repeat' split) <;> first | rfl | (exfalso; omega))
          · exact absurd rfl h38
        · refine g_iconst (v := nI 1) dX7_soonest_30 (by decide) ?_
          refine g_istore_n (i := 3) (lv' := [(3, .int (nI 1)), (4, .int (nI 41)), (0, .int (-9)), (1, .int (nI y)), (2, .int (-9))]) dX7_soonest_31 rfl (by decide) rfl ?_
          refine g_iload_n (i := 1) (j := 3) dX7_soonest_32 rfl rfl ?_
          refine g_istore (lv' := [(4, .int (nI y)), (3, .int (nI 1)), (0, .int (-9)), (1, .int (nI y)), (2, .int (-9))]) dX7_soonest_33 (by decide) rfl ?_
          refine g_iload_n (i := 2) (j := 4) dX7_soonest_35 rfl rfl ?_
          refine g_bipush (v := (-9)) dX7_soonest_36 (by decide) ?_
          refine g_icmp_eq (tgt := 49) dX7_soonest_38 (by decide) (fun h38 => ?_) (fun h38 => ?_)
          · refine g_iload_n (i := 3) (j := 1) dX7_soonest_49 rfl rfl ?_
            refine g_iret rfl rfl dX7_soonest_50 ?_
            refine gE_r ?_ rfl
            first | rfl | (simp only [sW3]; (repeat' split) <;> first | rfl | (exfalso; omega))
          · exact absurd rfl h38
    · exact absurd rfl h10
  · have hy_ := hb y rfl
    have hz_ := ht z rfl
    refine g_lvE (lv' := [(0, .int (-9)), (1, .int (nI y)), (2, .int (nI z))]) rfl ?_
    refine g_bipush (v := (-9)) dX7_soonest_0 (by decide) ?_
    refine g_istore_n (i := 3) (lv' := [(3, .int (-9)), (0, .int (-9)), (1, .int (nI y)), (2, .int (nI z))]) dX7_soonest_2 rfl (by decide) rfl ?_
    refine g_bipush (v := nI 41) dX7_soonest_3 (by decide) ?_
    refine g_istore (lv' := [(4, .int (nI 41)), (3, .int (-9)), (0, .int (-9)), (1, .int (nI y)), (2, .int (nI z))]) dX7_soonest_5 (by decide) rfl ?_
    refine g_iload_n (i := 0) (j := 2) dX7_soonest_7 rfl rfl ?_
    refine g_bipush (v := (-9)) dX7_soonest_8 (by decide) ?_
    refine g_icmp_eq (tgt := 18) dX7_soonest_10 (by decide) (fun h10 => ?_) (fun h10 => ?_)
    · refine g_iload_n (i := 1) (j := 3) dX7_soonest_18 rfl rfl ?_
      refine g_bipush (v := (-9)) dX7_soonest_19 (by decide) ?_
      refine g_icmp_eq (tgt := 35) dX7_soonest_21 (by decide) (fun h21 => ?_) (fun h21 => ?_)
      · exact absurd h21 (nI_n9 (by omega))
      · refine g_iload_n (i := 1) (j := 3) dX7_soonest_24 rfl rfl ?_
        refine g_iload (j := 0) dX7_soonest_25 rfl ?_
        refine n_icmp_ge (tgt := 35) (by omega) (rng_lit 41 rfl) dX7_soonest_27 (by decide) (fun h27 => ?_) (fun h27 => ?_)
        · refine g_iload_n (i := 2) (j := 4) dX7_soonest_35 rfl rfl ?_
          refine g_bipush (v := (-9)) dX7_soonest_36 (by decide) ?_
          refine g_icmp_eq (tgt := 49) dX7_soonest_38 (by decide) (fun h38 => ?_) (fun h38 => ?_)
          · exact absurd h38 (nI_n9 (by omega))
          · refine g_iload_n (i := 2) (j := 4) dX7_soonest_41 rfl rfl ?_
            refine g_iload (j := 0) dX7_soonest_42 rfl ?_
            refine n_icmp_ge (tgt := 49) (by omega) (rng_lit 41 rfl) dX7_soonest_44 (by decide) (fun h44 => ?_) (fun h44 => ?_)
            · refine g_iload_n (i := 3) (j := 1) dX7_soonest_49 rfl rfl ?_
              refine g_iret rfl rfl dX7_soonest_50 ?_
              refine gE_r ?_ rfl
              first | rfl | (simp only [sW3]; (repeat' split) <;> first | rfl | (exfalso; omega))
            · refine g_iconst (v := nI 2) dX7_soonest_47 (by decide) ?_
              refine g_istore_n (i := 3) (lv' := [(3, .int (nI 2)), (4, .int (nI 41)), (0, .int (-9)), (1, .int (nI y)), (2, .int (nI z))]) dX7_soonest_48 rfl (by decide) rfl ?_
              refine g_iload_n (i := 3) (j := 0) dX7_soonest_49 rfl rfl ?_
              refine g_iret rfl rfl dX7_soonest_50 ?_
              refine gE_r ?_ rfl
              first | rfl | (simp only [sW3]; (repeat' split) <;> first | rfl | (exfalso; omega))
        · refine g_iconst (v := nI 1) dX7_soonest_30 (by decide) ?_
          refine g_istore_n (i := 3) (lv' := [(3, .int (nI 1)), (4, .int (nI 41)), (0, .int (-9)), (1, .int (nI y)), (2, .int (nI z))]) dX7_soonest_31 rfl (by decide) rfl ?_
          refine g_iload_n (i := 1) (j := 3) dX7_soonest_32 rfl rfl ?_
          refine g_istore (lv' := [(4, .int (nI y)), (3, .int (nI 1)), (0, .int (-9)), (1, .int (nI y)), (2, .int (nI z))]) dX7_soonest_33 (by decide) rfl ?_
          refine g_iload_n (i := 2) (j := 4) dX7_soonest_35 rfl rfl ?_
          refine g_bipush (v := (-9)) dX7_soonest_36 (by decide) ?_
          refine g_icmp_eq (tgt := 49) dX7_soonest_38 (by decide) (fun h38 => ?_) (fun h38 => ?_)
          · exact absurd h38 (nI_n9 (by omega))
          · refine g_iload_n (i := 2) (j := 4) dX7_soonest_41 rfl rfl ?_
            refine g_iload (j := 0) dX7_soonest_42 rfl ?_
            refine n_icmp_ge (tgt := 49) (by omega) (by omega) dX7_soonest_44 (by decide) (fun h44 => ?_) (fun h44 => ?_)
            · refine g_iload_n (i := 3) (j := 1) dX7_soonest_49 rfl rfl ?_
              refine g_iret rfl rfl dX7_soonest_50 ?_
              refine gE_r ?_ rfl
              first | rfl | (simp only [sW3]; (repeat' split) <;> first | rfl | (exfalso; omega))
            · refine g_iconst (v := nI 2) dX7_soonest_47 (by decide) ?_
              refine g_istore_n (i := 3) (lv' := [(3, .int (nI 2)), (4, .int (nI y)), (0, .int (-9)), (1, .int (nI y)), (2, .int (nI z))]) dX7_soonest_48 rfl (by decide) rfl ?_
              refine g_iload_n (i := 3) (j := 0) dX7_soonest_49 rfl rfl ?_
              refine g_iret rfl rfl dX7_soonest_50 ?_
              refine gE_r ?_ rfl
              first | rfl | (simp only [sW3]; (repeat' split) <;> first | rfl | (exfalso; omega))
    · exact absurd rfl h10
  · have hx_ := ha x rfl
    refine g_lvE (lv' := [(0, .int (nI x)), (1, .int (-9)), (2, .int (-9))]) rfl ?_
    refine g_bipush (v := (-9)) dX7_soonest_0 (by decide) ?_
    refine g_istore_n (i := 3) (lv' := [(3, .int (-9)), (0, .int (nI x)), (1, .int (-9)), (2, .int (-9))]) dX7_soonest_2 rfl (by decide) rfl ?_
    refine g_bipush (v := nI 41) dX7_soonest_3 (by decide) ?_
    refine g_istore (lv' := [(4, .int (nI 41)), (3, .int (-9)), (0, .int (nI x)), (1, .int (-9)), (2, .int (-9))]) dX7_soonest_5 (by decide) rfl ?_
    refine g_iload_n (i := 0) (j := 2) dX7_soonest_7 rfl rfl ?_
    refine g_bipush (v := (-9)) dX7_soonest_8 (by decide) ?_
    refine g_icmp_eq (tgt := 18) dX7_soonest_10 (by decide) (fun h10 => ?_) (fun h10 => ?_)
    · exact absurd h10 (nI_n9 (by omega))
    · refine g_iconst (v := nI 0) dX7_soonest_13 (by decide) ?_
      refine g_istore_n (i := 3) (lv' := [(3, .int (nI 0)), (4, .int (nI 41)), (0, .int (nI x)), (1, .int (-9)), (2, .int (-9))]) dX7_soonest_14 rfl (by decide) rfl ?_
      refine g_iload_n (i := 0) (j := 2) dX7_soonest_15 rfl rfl ?_
      refine g_istore (lv' := [(4, .int (nI x)), (3, .int (nI 0)), (0, .int (nI x)), (1, .int (-9)), (2, .int (-9))]) dX7_soonest_16 (by decide) rfl ?_
      refine g_iload_n (i := 1) (j := 3) dX7_soonest_18 rfl rfl ?_
      refine g_bipush (v := (-9)) dX7_soonest_19 (by decide) ?_
      refine g_icmp_eq (tgt := 35) dX7_soonest_21 (by decide) (fun h21 => ?_) (fun h21 => ?_)
      · refine g_iload_n (i := 2) (j := 4) dX7_soonest_35 rfl rfl ?_
        refine g_bipush (v := (-9)) dX7_soonest_36 (by decide) ?_
        refine g_icmp_eq (tgt := 49) dX7_soonest_38 (by decide) (fun h38 => ?_) (fun h38 => ?_)
        · refine g_iload_n (i := 3) (j := 1) dX7_soonest_49 rfl rfl ?_
          refine g_iret rfl rfl dX7_soonest_50 ?_
          refine gE_r ?_ rfl
          first | rfl | (simp only [sW3]; (repeat' split) <;> first | rfl | (exfalso; omega))
        · exact absurd rfl h38
      · exact absurd rfl h21
  · have hx_ := ha x rfl
    have hz_ := ht z rfl
    refine g_lvE (lv' := [(0, .int (nI x)), (1, .int (-9)), (2, .int (nI z))]) rfl ?_
    refine g_bipush (v := (-9)) dX7_soonest_0 (by decide) ?_
    refine g_istore_n (i := 3) (lv' := [(3, .int (-9)), (0, .int (nI x)), (1, .int (-9)), (2, .int (nI z))]) dX7_soonest_2 rfl (by decide) rfl ?_
    refine g_bipush (v := nI 41) dX7_soonest_3 (by decide) ?_
    refine g_istore (lv' := [(4, .int (nI 41)), (3, .int (-9)), (0, .int (nI x)), (1, .int (-9)), (2, .int (nI z))]) dX7_soonest_5 (by decide) rfl ?_
    refine g_iload_n (i := 0) (j := 2) dX7_soonest_7 rfl rfl ?_
    refine g_bipush (v := (-9)) dX7_soonest_8 (by decide) ?_
    refine g_icmp_eq (tgt := 18) dX7_soonest_10 (by decide) (fun h10 => ?_) (fun h10 => ?_)
    · exact absurd h10 (nI_n9 (by omega))
    · refine g_iconst (v := nI 0) dX7_soonest_13 (by decide) ?_
      refine g_istore_n (i := 3) (lv' := [(3, .int (nI 0)), (4, .int (nI 41)), (0, .int (nI x)), (1, .int (-9)), (2, .int (nI z))]) dX7_soonest_14 rfl (by decide) rfl ?_
      refine g_iload_n (i := 0) (j := 2) dX7_soonest_15 rfl rfl ?_
      refine g_istore (lv' := [(4, .int (nI x)), (3, .int (nI 0)), (0, .int (nI x)), (1, .int (-9)), (2, .int (nI z))]) dX7_soonest_16 (by decide) rfl ?_
      refine g_iload_n (i := 1) (j := 3) dX7_soonest_18 rfl rfl ?_
      refine g_bipush (v := (-9)) dX7_soonest_19 (by decide) ?_
      refine g_icmp_eq (tgt := 35) dX7_soonest_21 (by decide) (fun h21 => ?_) (fun h21 => ?_)
      · refine g_iload_n (i := 2) (j := 4) dX7_soonest_35 rfl rfl ?_
        refine g_bipush (v := (-9)) dX7_soonest_36 (by decide) ?_
        refine g_icmp_eq (tgt := 49) dX7_soonest_38 (by decide) (fun h38 => ?_) (fun h38 => ?_)
        · exact absurd h38 (nI_n9 (by omega))
        · refine g_iload_n (i := 2) (j := 4) dX7_soonest_41 rfl rfl ?_
          refine g_iload (j := 0) dX7_soonest_42 rfl ?_
          refine n_icmp_ge (tgt := 49) (by omega) (by omega) dX7_soonest_44 (by decide) (fun h44 => ?_) (fun h44 => ?_)
          · refine g_iload_n (i := 3) (j := 1) dX7_soonest_49 rfl rfl ?_
            refine g_iret rfl rfl dX7_soonest_50 ?_
            refine gE_r ?_ rfl
            first | rfl | (simp only [sW3]; (repeat' split) <;> first | rfl | (exfalso; omega))
          · refine g_iconst (v := nI 2) dX7_soonest_47 (by decide) ?_
            refine g_istore_n (i := 3) (lv' := [(3, .int (nI 2)), (4, .int (nI x)), (0, .int (nI x)), (1, .int (-9)), (2, .int (nI z))]) dX7_soonest_48 rfl (by decide) rfl ?_
            refine g_iload_n (i := 3) (j := 0) dX7_soonest_49 rfl rfl ?_
            refine g_iret rfl rfl dX7_soonest_50 ?_
            refine gE_r ?_ rfl
            first | rfl | (simp only [sW3]; (repeat' split) <;> first | rfl | (exfalso; omega))
      · exact absurd rfl h21
  · have hx_ := ha x rfl
    have hy_ := hb y rfl
    refine g_lvE (lv' := [(0, .int (nI x)), (1, .int (nI y)), (2, .int (-9))]) rfl ?_
    refine g_bipush (v := (-9)) dX7_soonest_0 (by decide) ?_
    refine g_istore_n (i := 3) (lv' := [(3, .int (-9)), (0, .int (nI x)), (1, .int (nI y)), (2, .int (-9))]) dX7_soonest_2 rfl (by decide) rfl ?_
    refine g_bipush (v := nI 41) dX7_soonest_3 (by decide) ?_
    refine g_istore (lv' := [(4, .int (nI 41)), (3, .int (-9)), (0, .int (nI x)), (1, .int (nI y)), (2, .int (-9))]) dX7_soonest_5 (by decide) rfl ?_
    refine g_iload_n (i := 0) (j := 2) dX7_soonest_7 rfl rfl ?_
    refine g_bipush (v := (-9)) dX7_soonest_8 (by decide) ?_
    refine g_icmp_eq (tgt := 18) dX7_soonest_10 (by decide) (fun h10 => ?_) (fun h10 => ?_)
    · exact absurd h10 (nI_n9 (by omega))
    · refine g_iconst (v := nI 0) dX7_soonest_13 (by decide) ?_
      refine g_istore_n (i := 3) (lv' := [(3, .int (nI 0)), (4, .int (nI 41)), (0, .int (nI x)), (1, .int (nI y)), (2, .int (-9))]) dX7_soonest_14 rfl (by decide) rfl ?_
      refine g_iload_n (i := 0) (j := 2) dX7_soonest_15 rfl rfl ?_
      refine g_istore (lv' := [(4, .int (nI x)), (3, .int (nI 0)), (0, .int (nI x)), (1, .int (nI y)), (2, .int (-9))]) dX7_soonest_16 (by decide) rfl ?_
      refine g_iload_n (i := 1) (j := 3) dX7_soonest_18 rfl rfl ?_
      refine g_bipush (v := (-9)) dX7_soonest_19 (by decide) ?_
      refine g_icmp_eq (tgt := 35) dX7_soonest_21 (by decide) (fun h21 => ?_) (fun h21 => ?_)
      · exact absurd h21 (nI_n9 (by omega))
      · refine g_iload_n (i := 1) (j := 3) dX7_soonest_24 rfl rfl ?_
        refine g_iload (j := 0) dX7_soonest_25 rfl ?_
        refine n_icmp_ge (tgt := 35) (by omega) (by omega) dX7_soonest_27 (by decide) (fun h27 => ?_) (fun h27 => ?_)
        · refine g_iload_n (i := 2) (j := 4) dX7_soonest_35 rfl rfl ?_
          refine g_bipush (v := (-9)) dX7_soonest_36 (by decide) ?_
          refine g_icmp_eq (tgt := 49) dX7_soonest_38 (by decide) (fun h38 => ?_) (fun h38 => ?_)
          · refine g_iload_n (i := 3) (j := 1) dX7_soonest_49 rfl rfl ?_
            refine g_iret rfl rfl dX7_soonest_50 ?_
            refine gE_r ?_ rfl
            first | rfl | (simp only [sW3]; (repeat' split) <;> first | rfl | (exfalso; omega))
          · exact absurd rfl h38
        · refine g_iconst (v := nI 1) dX7_soonest_30 (by decide) ?_
          refine g_istore_n (i := 3) (lv' := [(3, .int (nI 1)), (4, .int (nI x)), (0, .int (nI x)), (1, .int (nI y)), (2, .int (-9))]) dX7_soonest_31 rfl (by decide) rfl ?_
          refine g_iload_n (i := 1) (j := 3) dX7_soonest_32 rfl rfl ?_
          refine g_istore (lv' := [(4, .int (nI y)), (3, .int (nI 1)), (0, .int (nI x)), (1, .int (nI y)), (2, .int (-9))]) dX7_soonest_33 (by decide) rfl ?_
          refine g_iload_n (i := 2) (j := 4) dX7_soonest_35 rfl rfl ?_
          refine g_bipush (v := (-9)) dX7_soonest_36 (by decide) ?_
          refine g_icmp_eq (tgt := 49) dX7_soonest_38 (by decide) (fun h38 => ?_) (fun h38 => ?_)
          · refine g_iload_n (i := 3) (j := 1) dX7_soonest_49 rfl rfl ?_
            refine g_iret rfl rfl dX7_soonest_50 ?_
            refine gE_r ?_ rfl
            first | rfl | (simp only [sW3]; (repeat' split) <;> first | rfl | (exfalso; omega))
          · exact absurd rfl h38
  · have hx_ := ha x rfl
    have hy_ := hb y rfl
    have hz_ := ht z rfl
    refine g_lvE (lv' := [(0, .int (nI x)), (1, .int (nI y)), (2, .int (nI z))]) rfl ?_
    refine g_bipush (v := (-9)) dX7_soonest_0 (by decide) ?_
    refine g_istore_n (i := 3) (lv' := [(3, .int (-9)), (0, .int (nI x)), (1, .int (nI y)), (2, .int (nI z))]) dX7_soonest_2 rfl (by decide) rfl ?_
    refine g_bipush (v := nI 41) dX7_soonest_3 (by decide) ?_
    refine g_istore (lv' := [(4, .int (nI 41)), (3, .int (-9)), (0, .int (nI x)), (1, .int (nI y)), (2, .int (nI z))]) dX7_soonest_5 (by decide) rfl ?_
    refine g_iload_n (i := 0) (j := 2) dX7_soonest_7 rfl rfl ?_
    refine g_bipush (v := (-9)) dX7_soonest_8 (by decide) ?_
    refine g_icmp_eq (tgt := 18) dX7_soonest_10 (by decide) (fun h10 => ?_) (fun h10 => ?_)
    · exact absurd h10 (nI_n9 (by omega))
    · refine g_iconst (v := nI 0) dX7_soonest_13 (by decide) ?_
      refine g_istore_n (i := 3) (lv' := [(3, .int (nI 0)), (4, .int (nI 41)), (0, .int (nI x)), (1, .int (nI y)), (2, .int (nI z))]) dX7_soonest_14 rfl (by decide) rfl ?_
      refine g_iload_n (i := 0) (j := 2) dX7_soonest_15 rfl rfl ?_
      refine g_istore (lv' := [(4, .int (nI x)), (3, .int (nI 0)), (0, .int (nI x)), (1, .int (nI y)), (2, .int (nI z))]) dX7_soonest_16 (by decide) rfl ?_
      refine g_iload_n (i := 1) (j := 3) dX7_soonest_18 rfl rfl ?_
      refine g_bipush (v := (-9)) dX7_soonest_19 (by decide) ?_
      refine g_icmp_eq (tgt := 35) dX7_soonest_21 (by decide) (fun h21 => ?_) (fun h21 => ?_)
      · exact absurd h21 (nI_n9 (by omega))
      · refine g_iload_n (i := 1) (j := 3) dX7_soonest_24 rfl rfl ?_
        refine g_iload (j := 0) dX7_soonest_25 rfl ?_
        refine n_icmp_ge (tgt := 35) (by omega) (by omega) dX7_soonest_27 (by decide) (fun h27 => ?_) (fun h27 => ?_)
        · refine g_iload_n (i := 2) (j := 4) dX7_soonest_35 rfl rfl ?_
          refine g_bipush (v := (-9)) dX7_soonest_36 (by decide) ?_
          refine g_icmp_eq (tgt := 49) dX7_soonest_38 (by decide) (fun h38 => ?_) (fun h38 => ?_)
          · exact absurd h38 (nI_n9 (by omega))
          · refine g_iload_n (i := 2) (j := 4) dX7_soonest_41 rfl rfl ?_
            refine g_iload (j := 0) dX7_soonest_42 rfl ?_
            refine n_icmp_ge (tgt := 49) (by omega) (by omega) dX7_soonest_44 (by decide) (fun h44 => ?_) (fun h44 => ?_)
            · refine g_iload_n (i := 3) (j := 1) dX7_soonest_49 rfl rfl ?_
              refine g_iret rfl rfl dX7_soonest_50 ?_
              refine gE_r ?_ rfl
              first | rfl | (simp only [sW3]; (repeat' split) <;> first | rfl | (exfalso; omega))
            · refine g_iconst (v := nI 2) dX7_soonest_47 (by decide) ?_
              refine g_istore_n (i := 3) (lv' := [(3, .int (nI 2)), (4, .int (nI x)), (0, .int (nI x)), (1, .int (nI y)), (2, .int (nI z))]) dX7_soonest_48 rfl (by decide) rfl ?_
              refine g_iload_n (i := 3) (j := 0) dX7_soonest_49 rfl rfl ?_
              refine g_iret rfl rfl dX7_soonest_50 ?_
              refine gE_r ?_ rfl
              first | rfl | (simp only [sW3]; (repeat' split) <;> first | rfl | (exfalso; omega))
        · refine g_iconst (v := nI 1) dX7_soonest_30 (by decide) ?_
          refine g_istore_n (i := 3) (lv' := [(3, .int (nI 1)), (4, .int (nI x)), (0, .int (nI x)), (1, .int (nI y)), (2, .int (nI z))]) dX7_soonest_31 rfl (by decide) rfl ?_
          refine g_iload_n (i := 1) (j := 3) dX7_soonest_32 rfl rfl ?_
          refine g_istore (lv' := [(4, .int (nI y)), (3, .int (nI 1)), (0, .int (nI x)), (1, .int (nI y)), (2, .int (nI z))]) dX7_soonest_33 (by decide) rfl ?_
          refine g_iload_n (i := 2) (j := 4) dX7_soonest_35 rfl rfl ?_
          refine g_bipush (v := (-9)) dX7_soonest_36 (by decide) ?_
          refine g_icmp_eq (tgt := 49) dX7_soonest_38 (by decide) (fun h38 => ?_) (fun h38 => ?_)
          · exact absurd h38 (nI_n9 (by omega))
          · refine g_iload_n (i := 2) (j := 4) dX7_soonest_41 rfl rfl ?_
            refine g_iload (j := 0) dX7_soonest_42 rfl ?_
            refine n_icmp_ge (tgt := 49) (by omega) (by omega) dX7_soonest_44 (by decide) (fun h44 => ?_) (fun h44 => ?_)
            · refine g_iload_n (i := 3) (j := 1) dX7_soonest_49 rfl rfl ?_
              refine g_iret rfl rfl dX7_soonest_50 ?_
              refine gE_r ?_ rfl
              first | rfl | (simp only [sW3]; (repeat' split) <;> first | rfl | (exfalso; omega))
            · refine g_iconst (v := nI 2) dX7_soonest_47 (by decide) ?_
              refine g_istore_n (i := 3) (lv' := [(3, .int (nI 2)), (4, .int (nI y)), (0, .int (nI x)), (1, .int (nI y)), (2, .int (nI z))]) dX7_soonest_48 rfl (by decide) rfl ?_
              refine g_iload_n (i := 3) (j := 0) dX7_soonest_49 rfl rfl ?_
              refine g_iret rfl rfl dX7_soonest_50 ?_
              refine gE_r ?_ rfl
              first | rfl | (simp only [sW3]; (repeat' split) <;> first | rfl | (exfalso; omega))

theorem ctX7_safest {e1 e2 e9 e10 e11 e12 e13 e14 e17 e19 e21 e22 e25 e26 : va_E} {sd : Int64} {h so ho pa wa : Nat → Nat} {wk tw sf lo ri la : Nat} {r : Nat → Nat} {t : t6} (hg : gOK h so ho pa wa wk tw lo ri la) (hrk : rOK r) {k0 x0 : Int32} : Ct mX7_safest 5 [.ref 0, .int k0, .int x0] (wC (kO sd) e1 e2 (kG3 wk tw sf lo ri la) (kI 10 h) (kZ 10 so) (kI 10 ho) (kI 5 pa) (kI 5 wa) e9 e10 e11 e12 e13 e14 (kI 16 r) e17 e19 e21 e22 (kPt t) e25 e26) (fun v u => v = some (.int (pSafest h so ho pa wa wk lo ri la r k0 x0)) ∧ ∃ t2 : t6, u = wC (kO sd) e1 e2 (kG3 wk tw sf lo ri la) (kI 10 h) (kZ 10 so) (kI 10 ho) (kI 5 pa) (kI 5 wa) e9 e10 e11 e12 e13 e14 (kI 16 r) e17 e19 e21 e22 (kPt t2) e25 e26) := by
  refine Ct.of (by decide) (by exact Nat.le_of_ble_eq_true rfl) ?_
  show Go mX7_safest 5 0 [(0, .ref 0), (1, .int k0), (2, .int x0)] [] (wC (kO sd) e1 e2 (kG3 wk tw sf lo ri la) (kI 10 h) (kZ 10 so) (kI 10 ho) (kI 5 pa) (kI 5 wa) e9 e10 e11 e12 e13 e14 (kI 16 r) e17 e19 e21 e22 (kPt t) e25 e26) (fun v u => v = some (.int (pSafest h so ho pa wa wk lo ri la r k0 x0)) ∧ ∃ t2 : t6, u = wC (kO sd) e1 e2 (kG3 wk tw sf lo ri la) (kI 10 h) (kZ 10 so) (kI 10 ho) (kI 5 pa) (kI 5 wa) e9 e10 e11 e12 e13 e14 (kI 16 r) e17 e19 e21 e22 (kPt t2) e25 e26)
  obtain ⟨hH, hso, hho, hpa, hwa, hwk, htw, hlo, hri, hla⟩ := hg
  obtain ⟨hr, hr1, hr6, hr11⟩ := hrk
  refine g_aload_n (i := 0) (j := 0) dX7_safest_0 rfl rfl ?_
  refine g_iload_n (i := 1) (j := 1) dX7_safest_1 rfl rfl ?_
  refine c_V (st1 := [.int (nI (bN (0 ≤ k0.toInt ∧ k0.toInt < wk)))]) (ctX7_isWalker (x := k0) (by omega)) kX7_isWalker lX7_138 (by decide) rfl rfl rfl rfl (by exact Nat.le_of_ble_eq_true rfl) dX7_safest_2 rfl rfl ?_
  refine b_if_ne (tgt := 10) dX7_safest_5 (by decide) (fun h5 => ?_) (fun h5 => ?_)
  · obtain ⟨k, hk, rfl⟩ := raw_lt h5
    have ek : cN (nI k) = k := cN_n (by omega)
    have q1 := hr1 k (by omega)
    have q2 := hho (r (1 + k))
    have q3 := sUp_le r wk (r (1 + k))
    have q0 := hr 0
    refine g_iload_n (i := 2) (j := 2) dX7_safest_10 rfl rfl ?_
    refine g_if_lt (tgt := 19) dX7_safest_11 (by decide) (fun h11 => ?_) (fun h11 => ?_)
    · refine g_bipush (v := (-2)) dX7_safest_19 (by decide) ?_
      refine g_iret rfl rfl dX7_safest_21 ?_
      simp only [Int32.lt_iff_toInt_lt, Int32.le_iff_toInt_le, t_z, t_0, t_1, t_2, t_3, t_5, t_6, t_8, t_9, t_10, t_20, t_40, t_56, t_255] at *
      refine ⟨?_, _, rfl⟩
      unfold pSafest
      rw [if_pos ((iW_n (by omega)).mpr hk), if_neg (by unfold iW; omega)]
    · refine g_iload_n (i := 2) (j := 2) dX7_safest_14 rfl rfl ?_
      refine g_iconst (v := nI 1) dX7_safest_15 (by decide) ?_
      refine g_icmp_le (tgt := 22) dX7_safest_16 (by decide) (fun h16 => ?_) (fun h16 => ?_)
      · obtain ⟨x, hx, rfl⟩ : ∃ j : Nat, j ≤ 1 ∧ x0 = nI j := nI_of2 (M := nI 1) (n := 1) (by decide) h11 h16
        refine g_aload_n (i := 0) (j := 0) dX7_safest_22 rfl rfl ?_
        refine g_iload_n (i := 1) (j := 1) dX7_safest_23 rfl rfl ?_
        refine c_V (st1 := [.int (nI (bN (r (11 + k) = 0)))]) (ctX7_isWalking (k := k) hr (by omega)) kX7_isWalking lX7_159 (by decide) rfl rfl rfl rfl (by exact Nat.le_of_ble_eq_true rfl) dX7_safest_24 rfl rfl ?_
        refine b_if_ne (tgt := 33) dX7_safest_27 (by decide) (fun h27 => ?_) (fun h27 => ?_)
        · refine g_aload_n (i := 0) (j := 0) dX7_safest_33 rfl rfl ?_
          refine g_get fX7_29 rfl rfl dX7_safest_34 ?_
          refine g_iload_n (i := 1) (j := 1) dX7_safest_37 rfl rfl ?_
          refine c_V (st1 := [.int (nI (r (1 + k)))]) (ctX2_cellOf (k := k) (by omega)) kX2_cellOf lX7_147 (by decide) rfl rfl rfl rfl (by exact Nat.le_of_ble_eq_true rfl) dX7_safest_38 rfl rfl ?_
          refine g_istore_n (i := 3) (lv' := [(3, .int (nI (r (1 + k)))), (0, .ref 0), (1, .int (nI k)), (2, .int (nI x))]) dX7_safest_41 rfl (by decide) rfl ?_
          refine g_aload_n (i := 0) (j := 1) dX7_safest_42 rfl rfl ?_
          refine g_iload_n (i := 1) (j := 2) dX7_safest_43 rfl rfl ?_
          refine g_iload_n (i := 3) (j := 0) dX7_safest_44 rfl rfl ?_
          refine g_aload_n (i := 0) (j := 1) dX7_safest_45 rfl rfl ?_
          refine g_get fX7_29 rfl rfl dX7_safest_46 ?_
          refine c_V (st1 := [.int (nI (r 0)), .int (nI (r (1 + k))), .int (nI k), .ref 0]) (ctX2_time  ) kX2_time lX7_95 (by decide) rfl rfl rfl rfl (by exact Nat.le_of_ble_eq_true rfl) dX7_safest_49 rfl rfl ?_
          refine g_iconst (v := nI 1) dX7_safest_52 (by decide) ?_
          refine g_callV (rest := []) (ctX7_arrival (k := k) (c := r (1 + k)) (s := r 0) (way := 1) ⟨hH, hso, hho, hpa, hwa, hwk, htw, hlo, hri, hla⟩ (by first | omega | exact hpa _ | exact hwa _ | exact hr1 _ (by omega) | exact hr6 _ (by omega) | exact hr11 _ (by omega) | exact hr _ | exact Nat.le_succ_of_le (hr _)) (by first | omega | exact hpa _ | exact hwa _ | exact hr1 _ (by omega) | exact hr6 _ (by omega) | exact hr11 _ (by omega) | exact hr _ | exact Nat.le_succ_of_le (hr _)) (by first | omega | exact hpa _ | exact hwa _ | exact hr1 _ (by omega) | exact hr6 _ (by omega) | exact hr11 _ (by omega) | exact hr _ | exact Nat.le_succ_of_le (hr _)) (by first | omega | exact hpa _ | exact hwa _ | exact hr1 _ (by omega) | exact hr6 _ (by omega) | exact hr11 _ (by omega) | exact hr _ | exact Nat.le_succ_of_le (hr _)) (by first | omega | exact hpa _ | exact hwa _ | exact hr1 _ (by omega) | exact hr6 _ (by omega) | exact hr11 _ (by omega) | exact hr _ | exact Nat.le_succ_of_le (hr _))) kX7_arrival lX7_185 (by decide) rfl rfl rfl rfl (by exact Nat.le_of_ble_eq_true rfl) dX7_safest_53 rfl (fun v u hvu => ?_)
          obtain ⟨rfl, t53, rfl⟩ := hvu
          refine g_st (st' := [.int (rO (sArr h so la ri (pa k) (wa k) lo 1 (r (1 + k)) (r 0)))]) rfl ?_
          refine g_istore (lv' := [(4, .int (rO (sArr h so la ri (pa k) (wa k) lo 1 (r (1 + k)) (r 0)))), (3, .int (nI (r (1 + k)))), (0, .ref 0), (1, .int (nI k)), (2, .int (nI x))]) dX7_safest_56 (by decide) rfl ?_
          refine g_aload_n (i := 0) (j := 2) dX7_safest_58 rfl rfl ?_
          refine g_iload_n (i := 1) (j := 3) dX7_safest_59 rfl rfl ?_
          refine g_iload_n (i := 3) (j := 1) dX7_safest_60 rfl rfl ?_
          refine g_aload_n (i := 0) (j := 2) dX7_safest_61 rfl rfl ?_
          refine g_get fX7_29 rfl rfl dX7_safest_62 ?_
          refine c_V (st1 := [.int (nI (r 0)), .int (nI (r (1 + k))), .int (nI k), .ref 0]) (ctX2_time  ) kX2_time lX7_95 (by decide) rfl rfl rfl rfl (by exact Nat.le_of_ble_eq_true rfl) dX7_safest_65 rfl rfl ?_
          refine g_iconst (v := nI 2) dX7_safest_68 (by decide) ?_
          refine g_callV (rest := []) (ctX7_arrival (k := k) (c := r (1 + k)) (s := r 0) (way := 2) ⟨hH, hso, hho, hpa, hwa, hwk, htw, hlo, hri, hla⟩ (by first | omega | exact hpa _ | exact hwa _ | exact hr1 _ (by omega) | exact hr6 _ (by omega) | exact hr11 _ (by omega) | exact hr _ | exact Nat.le_succ_of_le (hr _)) (by first | omega | exact hpa _ | exact hwa _ | exact hr1 _ (by omega) | exact hr6 _ (by omega) | exact hr11 _ (by omega) | exact hr _ | exact Nat.le_succ_of_le (hr _)) (by first | omega | exact hpa _ | exact hwa _ | exact hr1 _ (by omega) | exact hr6 _ (by omega) | exact hr11 _ (by omega) | exact hr _ | exact Nat.le_succ_of_le (hr _)) (by first | omega | exact hpa _ | exact hwa _ | exact hr1 _ (by omega) | exact hr6 _ (by omega) | exact hr11 _ (by omega) | exact hr _ | exact Nat.le_succ_of_le (hr _)) (by first | omega | exact hpa _ | exact hwa _ | exact hr1 _ (by omega) | exact hr6 _ (by omega) | exact hr11 _ (by omega) | exact hr _ | exact Nat.le_succ_of_le (hr _))) kX7_arrival lX7_185 (by decide) rfl rfl rfl rfl (by exact Nat.le_of_ble_eq_true rfl) dX7_safest_69 rfl (fun v u hvu => ?_)
          obtain ⟨rfl, t69, rfl⟩ := hvu
          refine g_st (st' := [.int (rO (sArr h so la ri (pa k) (wa k) lo 2 (r (1 + k)) (r 0)))]) rfl ?_
          refine g_istore (lv' := [(5, .int (rO (sArr h so la ri (pa k) (wa k) lo 2 (r (1 + k)) (r 0)))), (4, .int (rO (sArr h so la ri (pa k) (wa k) lo 1 (r (1 + k)) (r 0)))), (3, .int (nI (r (1 + k)))), (0, .ref 0), (1, .int (nI k)), (2, .int (nI x))]) dX7_safest_72 (by decide) rfl ?_
          refine g_aload_n (i := 0) (j := 3) dX7_safest_74 rfl rfl ?_
          refine g_iload_n (i := 3) (j := 2) dX7_safest_75 rfl rfl ?_
          refine c_V (st1 := [.int (nI (ho (r (1 + k))) - nI (sUp r wk (r (1 + k))))]) (ctX7_roomOn (c := r (1 + k)) hr (by omega) (by first | omega | exact hpa _ | exact hwa _ | exact hr1 _ (by omega) | exact hr6 _ (by omega) | exact hr11 _ (by omega) | exact hr _ | exact Nat.le_succ_of_le (hr _))) kX7_roomOn lX7_176 (by decide) rfl rfl rfl rfl (by exact Nat.le_of_ble_eq_true rfl) dX7_safest_76 rfl rfl ?_
          refine g_if_le (tgt := 92) dX7_safest_79 (by decide) (fun h79 => ?_) (fun h79 => ?_)
          · rw [← Int32.not_lt, room_gt (by omega) (by omega)] at h79
            refine g_bipush (v := (-9)) dX7_safest_92 (by decide) ?_
            refine g_topi (y := rO (sTow (decide (sUp r wk (r (1 + k)) < ho (r (1 + k)))) (r 0))) (by rw [show (decide (sUp r wk (r (1 + k)) < ho (r (1 + k)))) = false by simp; omega]; rfl) ?_
            refine g_istore (lv' := [(6, .int (rO (sTow (decide (sUp r wk (r (1 + k)) < ho (r (1 + k)))) (r 0)))), (5, .int (rO (sArr h so la ri (pa k) (wa k) lo 2 (r (1 + k)) (r 0)))), (4, .int (rO (sArr h so la ri (pa k) (wa k) lo 1 (r (1 + k)) (r 0)))), (3, .int (nI (r (1 + k)))), (0, .ref 0), (1, .int (nI k)), (2, .int (nI x))]) dX7_safest_94 (by decide) rfl ?_
            have hoa : ∀ s, sArr h so la ri (pa k) (wa k) lo 1 (r (1 + k)) (r 0) = some s → s ≤ 40 := fun s e => sGone_lt _ _ _ _ _ _ _ _ _ _ _ _ s q0 e
            have hob : ∀ s, sArr h so la ri (pa k) (wa k) lo 2 (r (1 + k)) (r 0) = some s → s ≤ 40 := fun s e => sGone_lt _ _ _ _ _ _ _ _ _ _ _ _ s q0 e
            have hot : ∀ s, sTow (decide (sUp r wk (r (1 + k)) < ho (r (1 + k)))) (r 0) = some s → s ≤ 40 := fun s e => by unfold sTow at e; split at e; cases e; exact q0; cases e
            refine g_iload_n (i := 2) (j := 6) dX7_safest_96 rfl rfl ?_
            refine n_if_ne (tgt := 112) (by omega) dX7_safest_97 (by decide) (fun h97 => ?_) (fun h97 => ?_)
            · refine g_iload (j := 2) dX7_safest_112 rfl ?_
              refine g_iload (j := 1) dX7_safest_114 rfl ?_
              refine g_iload (j := 0) dX7_safest_116 rfl ?_
              refine c_S (st1 := [.int (sW3 (sArr h so la ri (pa k) (wa k) lo 1 (r (1 + k)) (r 0)) (sArr h so la ri (pa k) (wa k) lo 2 (r (1 + k)) (r 0)) (sTow (decide (sUp r wk (r (1 + k)) < ho (r (1 + k)))) (r 0)))]) (ctX7_soonest (oa := (sArr h so la ri (pa k) (wa k) lo 1 (r (1 + k)) (r 0))) (ob := (sArr h so la ri (pa k) (wa k) lo 2 (r (1 + k)) (r 0))) (ot := (sTow (decide (sUp r wk (r (1 + k)) < ho (r (1 + k)))) (r 0))) hoa hob hot) kX7_soonest lX7_193 (by decide) rfl (by exact Nat.le_of_ble_eq_true rfl) dX7_safest_118 rfl rfl ?_
              refine g_iret rfl rfl dX7_safest_121 ?_
              refine ⟨?_, _, rfl⟩
              unfold pSafest
              rw [if_pos ((iW_n (by omega)).mpr hk), if_pos ((iW_n (by omega)).mpr (by omega)), ek, if_pos h27]
              rw [if_neg (by intro z; rw [← nI_0, nI_eq (by omega) (by omega)] at z; omega), sW3_eq]
            · refine g_iload (j := 2) dX7_safest_100 rfl ?_
              refine g_iload (j := 1) dX7_safest_102 rfl ?_
              refine g_iload (j := 0) dX7_safest_104 rfl ?_
              refine c_S (st1 := [.int (nI (sBits (sArr h so la ri (pa k) (wa k) lo 1 (r (1 + k)) (r 0)) (sArr h so la ri (pa k) (wa k) lo 2 (r (1 + k)) (r 0)) ((sTow (decide (sUp r wk (r (1 + k)) < ho (r (1 + k)))) (r 0))).isSome))]) (ctX7_safeBits (oa := (sArr h so la ri (pa k) (wa k) lo 1 (r (1 + k)) (r 0))) (ob := (sArr h so la ri (pa k) (wa k) lo 2 (r (1 + k)) (r 0))) (ot := (sTow (decide (sUp r wk (r (1 + k)) < ho (r (1 + k)))) (r 0))) hoa hob hot) kX7_safeBits lX7_189 (by decide) rfl (by exact Nat.le_of_ble_eq_true rfl) dX7_safest_106 rfl rfl ?_
              refine g_goto (tgt := 121) dX7_safest_109 (by decide) ?_
              refine g_iret rfl rfl dX7_safest_121 ?_
              refine ⟨?_, _, rfl⟩
              unfold pSafest
              rw [if_pos ((iW_n (by omega)).mpr hk), if_pos ((iW_n (by omega)).mpr (by omega)), ek, if_pos h27]
              rw [if_pos (by rw [h97]; rfl)]
              congr 3
              unfold sBits
              congr 2
              unfold sTow
              cases hup : (decide (sUp r wk (r (1 + k)) < ho (r (1 + k)))) <;> simp
          · rw [← Int32.not_lt, room_gt (by omega) (by omega), Classical.not_not] at h79
            refine g_aload_n (i := 0) (j := 3) dX7_safest_82 rfl rfl ?_
            refine g_get fX7_29 rfl rfl dX7_safest_83 ?_
            refine c_V (st1 := [.int (nI (r 0))]) (ctX2_time  ) kX2_time lX7_95 (by decide) rfl rfl rfl rfl (by exact Nat.le_of_ble_eq_true rfl) dX7_safest_86 rfl rfl ?_
            refine g_goto (tgt := 94) dX7_safest_89 (by decide) ?_
            refine g_topi (y := rO (sTow (decide (sUp r wk (r (1 + k)) < ho (r (1 + k)))) (r 0))) (by rw [show (decide (sUp r wk (r (1 + k)) < ho (r (1 + k)))) = true by simp; omega]; rfl) ?_
            refine g_istore (lv' := [(6, .int (rO (sTow (decide (sUp r wk (r (1 + k)) < ho (r (1 + k)))) (r 0)))), (5, .int (rO (sArr h so la ri (pa k) (wa k) lo 2 (r (1 + k)) (r 0)))), (4, .int (rO (sArr h so la ri (pa k) (wa k) lo 1 (r (1 + k)) (r 0)))), (3, .int (nI (r (1 + k)))), (0, .ref 0), (1, .int (nI k)), (2, .int (nI x))]) dX7_safest_94 (by decide) rfl ?_
            have hoa : ∀ s, sArr h so la ri (pa k) (wa k) lo 1 (r (1 + k)) (r 0) = some s → s ≤ 40 := fun s e => sGone_lt _ _ _ _ _ _ _ _ _ _ _ _ s q0 e
            have hob : ∀ s, sArr h so la ri (pa k) (wa k) lo 2 (r (1 + k)) (r 0) = some s → s ≤ 40 := fun s e => sGone_lt _ _ _ _ _ _ _ _ _ _ _ _ s q0 e
            have hot : ∀ s, sTow (decide (sUp r wk (r (1 + k)) < ho (r (1 + k)))) (r 0) = some s → s ≤ 40 := fun s e => by unfold sTow at e; split at e; cases e; exact q0; cases e
            refine g_iload_n (i := 2) (j := 6) dX7_safest_96 rfl rfl ?_
            refine n_if_ne (tgt := 112) (by omega) dX7_safest_97 (by decide) (fun h97 => ?_) (fun h97 => ?_)
            · refine g_iload (j := 2) dX7_safest_112 rfl ?_
              refine g_iload (j := 1) dX7_safest_114 rfl ?_
              refine g_iload (j := 0) dX7_safest_116 rfl ?_
              refine c_S (st1 := [.int (sW3 (sArr h so la ri (pa k) (wa k) lo 1 (r (1 + k)) (r 0)) (sArr h so la ri (pa k) (wa k) lo 2 (r (1 + k)) (r 0)) (sTow (decide (sUp r wk (r (1 + k)) < ho (r (1 + k)))) (r 0)))]) (ctX7_soonest (oa := (sArr h so la ri (pa k) (wa k) lo 1 (r (1 + k)) (r 0))) (ob := (sArr h so la ri (pa k) (wa k) lo 2 (r (1 + k)) (r 0))) (ot := (sTow (decide (sUp r wk (r (1 + k)) < ho (r (1 + k)))) (r 0))) hoa hob hot) kX7_soonest lX7_193 (by decide) rfl (by exact Nat.le_of_ble_eq_true rfl) dX7_safest_118 rfl rfl ?_
              refine g_iret rfl rfl dX7_safest_121 ?_
              refine ⟨?_, _, rfl⟩
              unfold pSafest
              rw [if_pos ((iW_n (by omega)).mpr hk), if_pos ((iW_n (by omega)).mpr (by omega)), ek, if_pos h27]
              rw [if_neg (by intro z; rw [← nI_0, nI_eq (by omega) (by omega)] at z; omega), sW3_eq]
            · refine g_iload (j := 2) dX7_safest_100 rfl ?_
              refine g_iload (j := 1) dX7_safest_102 rfl ?_
              refine g_iload (j := 0) dX7_safest_104 rfl ?_
              refine c_S (st1 := [.int (nI (sBits (sArr h so la ri (pa k) (wa k) lo 1 (r (1 + k)) (r 0)) (sArr h so la ri (pa k) (wa k) lo 2 (r (1 + k)) (r 0)) ((sTow (decide (sUp r wk (r (1 + k)) < ho (r (1 + k)))) (r 0))).isSome))]) (ctX7_safeBits (oa := (sArr h so la ri (pa k) (wa k) lo 1 (r (1 + k)) (r 0))) (ob := (sArr h so la ri (pa k) (wa k) lo 2 (r (1 + k)) (r 0))) (ot := (sTow (decide (sUp r wk (r (1 + k)) < ho (r (1 + k)))) (r 0))) hoa hob hot) kX7_safeBits lX7_189 (by decide) rfl (by exact Nat.le_of_ble_eq_true rfl) dX7_safest_106 rfl rfl ?_
              refine g_goto (tgt := 121) dX7_safest_109 (by decide) ?_
              refine g_iret rfl rfl dX7_safest_121 ?_
              refine ⟨?_, _, rfl⟩
              unfold pSafest
              rw [if_pos ((iW_n (by omega)).mpr hk), if_pos ((iW_n (by omega)).mpr (by omega)), ek, if_pos h27]
              rw [if_pos (by rw [h97]; rfl)]
              congr 3
              unfold sBits
              congr 2
              unfold sTow
              cases hup : (decide (sUp r wk (r (1 + k)) < ho (r (1 + k)))) <;> simp
        · refine g_bipush (v := (-3)) dX7_safest_30 (by decide) ?_
          refine g_iret rfl rfl dX7_safest_32 ?_
          refine ⟨?_, _, rfl⟩
          unfold pSafest
          rw [if_pos ((iW_n (by omega)).mpr hk), if_pos ((iW_n (by omega)).mpr (by omega)), ek, if_neg h27]
      · refine g_bipush (v := (-2)) dX7_safest_19 (by decide) ?_
        refine g_iret rfl rfl dX7_safest_21 ?_
        simp only [Int32.lt_iff_toInt_lt, Int32.le_iff_toInt_le, t_z, t_0, t_1, t_2, t_3, t_5, t_6, t_8, t_9, t_10, t_20, t_40, t_56, t_255] at *
        refine ⟨?_, _, rfl⟩
        unfold pSafest
        rw [if_pos ((iW_n (by omega)).mpr hk), if_neg (by unfold iW; omega)]
  · refine g_iconst (v := (-1)) dX7_safest_8 (by decide) ?_
    refine g_iret rfl rfl dX7_safest_9 ?_
    refine ⟨?_, _, rfl⟩
    unfold pSafest
    rw [if_neg h5]

/-- a told crossing: from so many places on, the place by which it is lost or can not be -/
def sJud (h so : Nat → Nat) (la ri pa wa lo n row : Nat) : Nat → Nat → Nat → Nat → Nat → Option Nat
  | 0, _, _, _, _ => none
  | m + 1, i, c, s, f => if 2 < row / 10 ^ (n - 1 - i) % 10 ∨ f ≠ 0 ∨ 40 ≤ s then some i else
      if sFate h so wa c (sTo h pa wa c (row / 10 ^ (n - 1 - i) % 10) (sWater la ri s lo)) (row / 10 ^ (n - 1 - i) % 10) (sWater la ri (s + 1) lo) 0 = 2 ∨ sFate h so wa c (sTo h pa wa c (row / 10 ^ (n - 1 - i) % 10) (sWater la ri s lo)) (row / 10 ^ (n - 1 - i) % 10) (sWater la ri (s + 1) lo) 0 = 3 then some i else
      sJud h so la ri pa wa lo n row m (i + 1) (sTo h pa wa c (row / 10 ^ (n - 1 - i) % 10) (sWater la ri s lo)) (s + 1) (sFate h so wa c (sTo h pa wa c (row / 10 ^ (n - 1 - i) % 10) (sWater la ri s lo)) (row / 10 ^ (n - 1 - i) % 10) (sWater la ri (s + 1) lo) 0)
def pJudged (h so pa wa : Nat → Nat) (wk lo ri la : Nat) (r : Nat → Nat) (k n row : Int32) : Int32 := if iW k wk then (if iW n 9 ∧ ¬ n = nI 0 ∧ iW row (10 ^ cN n) then rO (sJud h so la ri (pa (cN k)) (wa (cN k)) lo (cN n) (cN row) (cN n) 0 (r (1 + cN k)) (r 0) (r (11 + cN k))) else -2) else -1
theorem lp_judged {e1 e2 e9 e10 e11 e12 e13 e14 e17 e19 e21 e22 e25 e26 : va_E} {sd : Int64} {h so ho pa wa : Nat → Nat} {wk tw sf lo ri la : Nat} {r : Nat → Nat} (hg : gOK h so ho pa wa wk tw lo ri la) {k n row : Nat} (hk : k < 5) (hn : n ≤ 8) (hrow : row < 10 ^ 8) : ∀ (m i c s f : Nat), i + m = n → c ≤ 9 → s ≤ 40 → f ≤ 4 → Go mX7_judged 3 83 [(0, .ref 0), (1, .int (nI k)), (2, .int (nI n)), (3, .int (nI row)), (4, .int (nI i))] [] (wC (kO sd) e1 e2 (kG3 wk tw sf lo ri la) (kI 10 h) (kZ 10 so) (kI 10 ho) (kI 5 pa) (kI 5 wa) e9 e10 e11 e12 e13 e14 (kI 16 r) e17 e19 e21 e22 (kP (pa k) (wa k) lo c s f) e25 e26) (fun v u => v = some (.int (rO (sJud h so la ri (pa k) (wa k) lo n row m i c s f))) ∧ ∃ t2 : t6, u = wC (kO sd) e1 e2 (kG3 wk tw sf lo ri la) (kI 10 h) (kZ 10 so) (kI 10 ho) (kI 5 pa) (kI 5 wa) e9 e10 e11 e12 e13 e14 (kI 16 r) e17 e19 e21 e22 (kPt t2) e25 e26) := by
  obtain ⟨hH, hso, hho, hpa, hwa, hwk, htw, hlo, hri, hla⟩ := hg
  intro m
  induction m with
  | zero =>
    intro i c s f hi hc hs hf
    refine g_iload (j := 4) dX7_judged_83 rfl ?_
    refine g_iload_n (i := 2) (j := 2) dX7_judged_85 rfl rfl ?_
    refine n_icmp_ge (tgt := 164) (by omega) (by omega) dX7_judged_86 (by decide) (fun h86 => ?_) (fun h86 => ?_)
    · refine g_bipush (v := (-9)) dX7_judged_164 (by decide) ?_
      refine g_iret rfl rfl dX7_judged_166 ?_
      exact ⟨rfl, (pa k, wa k, lo, c, s, f), rfl⟩
    · exfalso; omega

  | succ m ih =>
    intro i c s f hi hc hs hf
    have qf : row / 10 ^ (n - 1 - i) % 10 < 10 := Nat.mod_lt _ (by decide)
    refine g_iload (j := 4) dX7_judged_83 rfl ?_
    refine g_iload_n (i := 2) (j := 2) dX7_judged_85 rfl rfl ?_
    refine n_icmp_ge (tgt := 164) (by omega) (by omega) dX7_judged_86 (by decide) (fun h86 => ?_) (fun h86 => ?_)
    · exfalso; omega
    · refine g_iload_n (i := 3) (j := 3) dX7_judged_89 rfl rfl ?_
      refine g_iload_n (i := 2) (j := 2) dX7_judged_90 rfl rfl ?_
      refine g_iconst (v := nI 1) dX7_judged_91 (by decide) ?_
      refine n_isub (a := n) (b := 1) (by omega) dX7_judged_92 ?_
      refine g_iload (j := 4) dX7_judged_93 rfl ?_
      refine n_isub (a := (n - 1)) (b := i) (by omega) dX7_judged_95 ?_
      refine c_S (st1 := [.int (nI (row / 10 ^ ((n - 1) - i) % 10))]) (ctX7_figureAt (b := row) (n := (n - 1) - i) (by omega) (by omega)) kX7_figureAt lX7_213 (by decide) rfl (by exact Nat.le_of_ble_eq_true rfl) dX7_judged_96 rfl rfl ?_
      refine g_istore (lv' := [(5, .int (nI (row / 10 ^ ((n - 1) - i) % 10))), (0, .ref 0), (1, .int (nI k)), (2, .int (nI n)), (3, .int (nI row)), (4, .int (nI i))]) dX7_judged_99 (by decide) rfl ?_
      refine g_iload (j := 0) dX7_judged_101 rfl ?_
      refine g_iconst (v := nI 2) dX7_judged_103 (by decide) ?_
      refine n_icmp_gt (tgt := 129) (by omega) (rng_lit 2 rfl) dX7_judged_104 (by decide) (fun h104 => ?_) (fun h104 => ?_)
      · refine g_iload (j := 5) dX7_judged_129 rfl ?_
        refine g_iret rfl rfl dX7_judged_131 ?_
        refine ⟨?_, ((pa k), (wa k), lo, c, s, f), rfl⟩
        rw [sJud, if_pos (by omega)]
        rfl
      · refine g_aload_n (i := 0) (j := 1) dX7_judged_107 rfl rfl ?_
        refine g_get fX7_56 rfl rfl dX7_judged_108 ?_
        refine g_get fX7_210 rfl rfl dX7_judged_111 ?_
        refine n_if_ne (tgt := 129) (by omega) dX7_judged_114 (by decide) (fun h114 => ?_) (fun h114 => ?_)
        · refine g_iload (j := 5) dX7_judged_129 rfl ?_
          refine g_iret rfl rfl dX7_judged_131 ?_
          refine ⟨?_, ((pa k), (wa k), lo, c, s, f), rfl⟩
          rw [sJud, if_pos (by omega)]
          rfl
        · refine g_aload_n (i := 0) (j := 1) dX7_judged_117 rfl rfl ?_
          refine g_get fX7_56 rfl rfl dX7_judged_118 ?_
          refine g_get fX7_216 rfl rfl dX7_judged_121 ?_
          refine g_bipush (v := nI 40) dX7_judged_124 (by decide) ?_
          refine n_icmp_lt (tgt := 132) (by omega) (rng_lit 40 rfl) dX7_judged_126 (by decide) (fun h126 => ?_) (fun h126 => ?_)
          · refine g_ws (ws' := wC (kO sd) e1 e2 (kG3 wk tw sf lo ri la) (kI 10 h) (kZ 10 so) (kI 10 ho) (kI 5 pa) (kI 5 wa) e9 e10 e11 e12 e13 e14 (kI 16 r) e17 e19 e21 e22 (kP (pa k) (wa k) lo c s 0) e25 e26) (by rw [h114]) ?_
            refine g_aload_n (i := 0) (j := 1) dX7_judged_132 rfl rfl ?_
            refine g_get fX7_56 rfl rfl dX7_judged_133 ?_
            refine g_aload_n (i := 0) (j := 1) dX7_judged_136 rfl rfl ?_
            refine g_get fX7_19 rfl rfl dX7_judged_137 ?_
            refine g_iload (j := 0) dX7_judged_140 rfl ?_
            refine c_V (st1 := []) (ctX5_move (way := row / 10 ^ ((n - 1) - i) % 10) hH hso hla hri (by first | omega | exact hpa _ | exact hwa _ | exact hr1 _ (by omega) | exact hr6 _ (by omega) | exact hr11 _ (by omega) | exact hr _ | exact Nat.le_succ_of_le (hr _)) (by first | omega | exact hpa _ | exact hwa _ | exact hr1 _ (by omega) | exact hr6 _ (by omega) | exact hr11 _ (by omega) | exact hr _ | exact Nat.le_succ_of_le (hr _)) (by first | omega | exact hpa _ | exact hwa _ | exact hr1 _ (by omega) | exact hr6 _ (by omega) | exact hr11 _ (by omega) | exact hr _ | exact Nat.le_succ_of_le (hr _)) (by first | omega | exact hpa _ | exact hwa _ | exact hr1 _ (by omega) | exact hr6 _ (by omega) | exact hr11 _ (by omega) | exact hr _ | exact Nat.le_succ_of_le (hr _)) (by first | omega | exact hpa _ | exact hwa _ | exact hr1 _ (by omega) | exact hr6 _ (by omega) | exact hr11 _ (by omega) | exact hr _ | exact Nat.le_succ_of_le (hr _)) (by first | omega | exact hpa _ | exact hwa _ | exact hr1 _ (by omega) | exact hr6 _ (by omega) | exact hr11 _ (by omega) | exact hr _ | exact Nat.le_succ_of_le (hr _)) (by first | omega | exact hpa _ | exact hwa _ | exact hr1 _ (by omega) | exact hr6 _ (by omega) | exact hr11 _ (by omega) | exact hr _ | exact Nat.le_succ_of_le (hr _))) kX5_move lX7_219 (by decide) rfl rfl rfl rfl (by exact Nat.le_of_ble_eq_true rfl) dX7_judged_142 rfl rfl ?_
            refine g_aload_n (i := 0) (j := 1) dX7_judged_145 rfl rfl ?_
            refine g_get fX7_56 rfl rfl dX7_judged_146 ?_
            refine c_V (st1 := [.int (nI (bN ((sFate h so (wa k) c (sTo h (pa k) (wa k) c (row / 10 ^ ((n - 1) - i) % 10) (sWater la ri s lo)) (row / 10 ^ ((n - 1) - i) % 10) (sWater la ri (s + 1) lo) 0) = 2 ∨ (sFate h so (wa k) c (sTo h (pa k) (wa k) c (row / 10 ^ ((n - 1) - i) % 10) (sWater la ri s lo)) (row / 10 ^ ((n - 1) - i) % 10) (sWater la ri (s + 1) lo) 0) = 3)))]) (ctX5_isLost  (sFate_le _ _ _ _ _ _ _ _ (by omega))) kX5_isLost lX7_223 (by decide) rfl rfl rfl rfl (by exact Nat.le_of_ble_eq_true rfl) dX7_judged_149 rfl rfl ?_
            refine b_if_eq (tgt := 158) dX7_judged_152 (by decide) (fun h152 => ?_) (fun h152 => ?_)
            · refine n_inc (x := i) (j := 5) (lv' := [(4, .int (nI (i + 1))), (5, .int (nI (row / 10 ^ ((n - 1) - i) % 10))), (0, .ref 0), (1, .int (nI k)), (2, .int (nI n)), (3, .int (nI row))]) dX7_judged_158 rfl (by decide) rfl ?_
              refine g_goto (tgt := 83) dX7_judged_161 (by decide) ?_
              refine g_lv [2, 3, 4, 5, 0] rfl ?_
              refine g_post ?_ (ih (i + 1) _ _ _ (by omega) (sTo_le _ _ _ _ _ _ hc) (by omega) (sFate_le _ _ _ _ _ _ _ _ (by omega)))
              intro v u hvu
              rw [sJud, if_neg (by omega), if_neg h152]
              exact hvu
            · refine g_iload (j := 5) dX7_judged_155 rfl ?_
              refine g_iret rfl rfl dX7_judged_157 ?_
              refine ⟨?_, ((pa k), (wa k), lo, sTo h (pa k) (wa k) c (row / 10 ^ ((n - 1) - i) % 10) (sWater la ri s lo), s + 1, sFate h so (wa k) c (sTo h (pa k) (wa k) c (row / 10 ^ ((n - 1) - i) % 10) (sWater la ri s lo)) (row / 10 ^ ((n - 1) - i) % 10) (sWater la ri (s + 1) lo) 0), rfl⟩
              rw [sJud, if_neg (by omega), if_pos h152]
              rfl
          · refine g_iload (j := 5) dX7_judged_129 rfl ?_
            refine g_iret rfl rfl dX7_judged_131 ?_
            refine ⟨?_, ((pa k), (wa k), lo, c, s, f), rfl⟩
            rw [sJud, if_pos (by omega)]
            rfl

theorem ctX7_judged {e1 e2 e9 e10 e11 e12 e13 e14 e17 e19 e21 e22 e25 e26 : va_E} {sd : Int64} {h so ho pa wa : Nat → Nat} {wk tw sf lo ri la : Nat} {r : Nat → Nat} {t : t6} (hg : gOK h so ho pa wa wk tw lo ri la) (hrk : rOK r) {k0 n0 row0 : Int32} : Ct mX7_judged 3 [.ref 0, .int k0, .int n0, .int row0] (wC (kO sd) e1 e2 (kG3 wk tw sf lo ri la) (kI 10 h) (kZ 10 so) (kI 10 ho) (kI 5 pa) (kI 5 wa) e9 e10 e11 e12 e13 e14 (kI 16 r) e17 e19 e21 e22 (kPt t) e25 e26) (fun v u => v = some (.int (pJudged h so pa wa wk lo ri la r k0 n0 row0)) ∧ ∃ t2 : t6, u = wC (kO sd) e1 e2 (kG3 wk tw sf lo ri la) (kI 10 h) (kZ 10 so) (kI 10 ho) (kI 5 pa) (kI 5 wa) e9 e10 e11 e12 e13 e14 (kI 16 r) e17 e19 e21 e22 (kPt t2) e25 e26) := by
  refine Ct.of (by decide) (by exact Nat.le_of_ble_eq_true rfl) ?_
  show Go mX7_judged 3 0 [(0, .ref 0), (1, .int k0), (2, .int n0), (3, .int row0)] [] (wC (kO sd) e1 e2 (kG3 wk tw sf lo ri la) (kI 10 h) (kZ 10 so) (kI 10 ho) (kI 5 pa) (kI 5 wa) e9 e10 e11 e12 e13 e14 (kI 16 r) e17 e19 e21 e22 (kPt t) e25 e26) (fun v u => v = some (.int (pJudged h so pa wa wk lo ri la r k0 n0 row0)) ∧ ∃ t2 : t6, u = wC (kO sd) e1 e2 (kG3 wk tw sf lo ri la) (kI 10 h) (kZ 10 so) (kI 10 ho) (kI 5 pa) (kI 5 wa) e9 e10 e11 e12 e13 e14 (kI 16 r) e17 e19 e21 e22 (kPt t2) e25 e26)
  obtain ⟨hH, hso, hho, hpa, hwa, hwk, htw, hlo, hri, hla⟩ := hg
  obtain ⟨hr, hr1, hr6, hr11⟩ := hrk
  refine g_aload_n (i := 0) (j := 0) dX7_judged_0 rfl rfl ?_
  refine g_iload_n (i := 1) (j := 1) dX7_judged_1 rfl rfl ?_
  refine c_V (st1 := [.int (nI (bN (0 ≤ k0.toInt ∧ k0.toInt < wk)))]) (ctX7_isWalker (x := k0) (by omega)) kX7_isWalker lX7_138 (by decide) rfl rfl rfl rfl (by exact Nat.le_of_ble_eq_true rfl) dX7_judged_2 rfl rfl ?_
  refine b_if_ne (tgt := 10) dX7_judged_5 (by decide) (fun h5 => ?_) (fun h5 => ?_)
  · obtain ⟨k, hk, rfl⟩ := raw_lt h5
    have ek : cN (nI k) = k := cN_n (by omega)
    have q1 := hr1 k (by omega)
    have q0 := hr 0
    have q11 := hr11 k (by omega)
    refine g_iload_n (i := 2) (j := 2) dX7_judged_10 rfl rfl ?_
    refine g_iconst (v := nI 1) dX7_judged_11 (by decide) ?_
    refine g_icmp_lt (tgt := 35) dX7_judged_12 (by decide) (fun h12 => ?_) (fun h12 => ?_)
    · refine g_bipush (v := (-2)) dX7_judged_35 (by decide) ?_
      refine g_iret rfl rfl dX7_judged_37 ?_
      refine ⟨?_, _, rfl⟩
      unfold pJudged
      rw [if_pos ((iW_n (by omega)).mpr hk), if_neg (fun z => by
        obtain ⟨z1, z2, z3⟩ := z
        have z4 : n0.toInt ≠ 0 := fun e => z2 (Int32.toInt_inj.mp (by rw [e, t_0]))
        simp only [Int32.lt_iff_toInt_lt, Int32.le_iff_toInt_le, t_z, t_0, t_1, t_2, t_3, t_5, t_6, t_8, t_9, t_10, t_20, t_40, t_56, t_255] at *
        unfold iW at z1
        omega)]
    · refine g_iload_n (i := 2) (j := 2) dX7_judged_15 rfl rfl ?_
      refine g_bipush (v := nI 8) dX7_judged_16 (by decide) ?_
      refine g_icmp_gt (tgt := 35) dX7_judged_18 (by decide) (fun h18 => ?_) (fun h18 => ?_)
      · refine g_bipush (v := (-2)) dX7_judged_35 (by decide) ?_
        refine g_iret rfl rfl dX7_judged_37 ?_
        refine ⟨?_, _, rfl⟩
        unfold pJudged
        rw [if_pos ((iW_n (by omega)).mpr hk), if_neg (fun z => by
          obtain ⟨z1, z2, z3⟩ := z
          have z4 : n0.toInt ≠ 0 := fun e => z2 (Int32.toInt_inj.mp (by rw [e, t_0]))
          simp only [Int32.lt_iff_toInt_lt, Int32.le_iff_toInt_le, t_z, t_0, t_1, t_2, t_3, t_5, t_6, t_8, t_9, t_10, t_20, t_40, t_56, t_255] at *
          unfold iW at z1
          omega)]
      · simp only [Int32.lt_iff_toInt_lt, Int32.le_iff_toInt_le, t_z, t_0, t_1, t_2, t_3, t_5, t_6, t_8, t_9, t_10, t_20, t_40, t_56, t_255] at h12 h18
        obtain ⟨n, hn, rfl⟩ := raw_lt (x := n0) (n := 9) (by omega)
        have qn := nI_toInt (n := n) (by omega)
        have en : cN (nI n) = n := cN_n (by omega)
        refine g_iload_n (i := 3) (j := 3) dX7_judged_21 rfl rfl ?_
        refine g_if_lt (tgt := 35) dX7_judged_22 (by decide) (fun h22 => ?_) (fun h22 => ?_)
        · refine g_bipush (v := (-2)) dX7_judged_35 (by decide) ?_
          refine g_iret rfl rfl dX7_judged_37 ?_
          refine ⟨?_, _, rfl⟩
          unfold pJudged
          rw [if_pos ((iW_n (by omega)).mpr hk), if_neg (fun z => by
            obtain ⟨z1, z2, z3⟩ := z
            simp only [Int32.lt_iff_toInt_lt, Int32.le_iff_toInt_le, t_z, t_0, t_1, t_2, t_3, t_5, t_6, t_8, t_9, t_10, t_20, t_40, t_56, t_255] at h22
            unfold iW at z3
            omega)]
        · obtain ⟨row, hrow, rfl⟩ := nI_of h22
          have er : cN (nI row) = row := cN_n hrow
          have hp : 10 ^ n ≤ 10 ^ 8 := Nat.pow_le_pow_right (by decide) (by omega)
          refine g_iload_n (i := 3) (j := 3) dX7_judged_25 rfl rfl ?_
          refine g_bipush (v := nI 10) dX7_judged_26 (by decide) ?_
          refine g_iload_n (i := 2) (j := 2) dX7_judged_28 rfl rfl ?_
          refine c_S (st1 := [.int (nI (10 ^ n)), .int (nI row)]) (ctX7_power (b := 10) (n := n) (by omega)) kX7_power lX7_203 (by decide) rfl (by exact Nat.le_of_ble_eq_true rfl) dX7_judged_29 rfl rfl ?_
          refine n_icmp_lt (tgt := 38) (by omega) (by omega) dX7_judged_32 (by decide) (fun h32 => ?_) (fun h32 => ?_)
          · refine g_aload_n (i := 0) (j := 0) dX7_judged_38 rfl rfl ?_
            refine g_get fX7_56 rfl rfl dX7_judged_39 ?_
            refine g_aload_n (i := 0) (j := 0) dX7_judged_42 rfl rfl ?_
            refine g_get fX7_19 rfl rfl dX7_judged_43 ?_
            refine g_iload_n (i := 1) (j := 1) dX7_judged_46 rfl rfl ?_
            refine g_aload_n (i := 0) (j := 0) dX7_judged_47 rfl rfl ?_
            refine g_get fX7_29 rfl rfl dX7_judged_48 ?_
            refine g_iload_n (i := 1) (j := 1) dX7_judged_51 rfl rfl ?_
            refine c_V (st1 := [.int (nI (r (1 + k))), .int (nI k), .ref 3, .ref 23]) (ctX2_cellOf (k := k) (by omega)) kX2_cellOf lX7_147 (by decide) rfl rfl rfl rfl (by exact Nat.le_of_ble_eq_true rfl) dX7_judged_52 rfl rfl ?_
            refine g_aload_n (i := 0) (j := 0) dX7_judged_55 rfl rfl ?_
            refine g_get fX7_29 rfl rfl dX7_judged_56 ?_
            refine c_V (st1 := [.int (nI (r 0)), .int (nI (r (1 + k))), .int (nI k), .ref 3, .ref 23]) (ctX2_time  ) kX2_time lX7_95 (by decide) rfl rfl rfl rfl (by exact Nat.le_of_ble_eq_true rfl) dX7_judged_59 rfl rfl ?_
            refine c_V (st1 := []) (ctX5_begin (k := k) (c := r (1 + k)) (s := r 0) (by omega)) kX5_begin lX7_206 (by decide) rfl rfl rfl rfl (by exact Nat.le_of_ble_eq_true rfl) dX7_judged_62 rfl rfl ?_
            refine g_aload_n (i := 0) (j := 0) dX7_judged_65 rfl rfl ?_
            refine g_get fX7_56 rfl rfl dX7_judged_66 ?_
            refine g_aload_n (i := 0) (j := 0) dX7_judged_69 rfl rfl ?_
            refine g_get fX7_29 rfl rfl dX7_judged_70 ?_
            refine g_iload_n (i := 1) (j := 1) dX7_judged_73 rfl rfl ?_
            refine c_V (st1 := [.int (nI (r (11 + k))), .ref 23]) (ctX2_fateOf (k := k) (by omega)) kX2_fateOf lX7_153 (by decide) rfl rfl rfl rfl (by exact Nat.le_of_ble_eq_true rfl) dX7_judged_74 rfl rfl ?_
            refine n_putI (ws' := wC (kO sd) e1 e2 (kG3 wk tw sf lo ri la) (kI 10 h) (kZ 10 so) (kI 10 ho) (kI 5 pa) (kI 5 wa) e9 e10 e11 e12 e13 e14 (kI 16 r) e17 e19 e21 e22 (kP (pa k) (wa k) lo (r (1 + k)) (r 0) (r (11 + k))) e25 e26) fX7_210 fp_X5_5 rfl (by exact Nat.le_of_ble_eq_true rfl) dX7_judged_77 rfl ?_
            refine g_iconst (v := nI 0) dX7_judged_80 (by decide) ?_
            refine g_istore (lv' := [(4, .int (nI 0)), (0, .ref 0), (1, .int (nI k)), (2, .int (nI n)), (3, .int (nI row))]) dX7_judged_81 (by decide) rfl ?_
            refine g_lv [1, 2, 3, 4, 0] rfl ?_
            refine g_post ?_ (lp_judged ⟨hH, hso, hho, hpa, hwa, hwk, htw, hlo, hri, hla⟩ (by omega) (by omega) (by omega) n 0 (r (1 + k)) (r 0) (r (11 + k)) (by omega) q1 q0 q11)
            intro v u hvu
            unfold pJudged
            rw [if_pos ((iW_n (by omega)).mpr hk), en, if_pos ⟨(iW_n (by omega)).mpr (by omega), fun z => by rw [nI_eq (by omega) (by omega)] at z; omega, (iW_n hrow).mpr h32⟩, ek, er]
            exact hvu
          · refine g_bipush (v := (-2)) dX7_judged_35 (by decide) ?_
            refine g_iret rfl rfl dX7_judged_37 ?_
            refine ⟨?_, _, rfl⟩
            unfold pJudged
            rw [if_pos ((iW_n (by omega)).mpr hk), if_neg (fun z => by
              obtain ⟨z1, z2, z3⟩ := z
              rw [en, iW_n hrow] at z3
              omega)]
  · refine g_iconst (v := (-1)) dX7_judged_8 (by decide) ?_
    refine g_iret rfl rfl dX7_judged_9 ?_
    refine ⟨?_, _, rfl⟩
    unfold pJudged
    rw [if_neg h5]

