/-! part 25: the model: undo keep again gone latest safest shells cut -/
theorem lp_undo {e1 e2 e3 e4 e5 e6 e7 e8 e9 e10 e11 e14 e15 e16 e17 : va_E} {ts pl lo ri la wk tw sf : Nat} {rl rr re : Int32} {rw rt rs ac : Nat} {sd : Int64} {ce sa ti : Nat} {pg bk : Nat → Nat} (hac : ac ≤ 15) : ∀ (n k : Nat), k + n = 16 → Go mX8_undo 0 27 [(0, .ref 0), (1, .int (nI k))] [] (wM (kM 0 ts pl lo ri la wk tw sf rl rr re rw rt rs ac sd ce sa ti) e1 e2 e3 e4 e5 e6 e7 e8 e9 e10 e11 (kI 16 (cpf k (fun j => bk (16 * ac + j)) pg)) (kI 256 bk) e14 e15 e16 e17) (gE (some (.int (nI ac))) (wM (kM 0 ts pl lo ri la wk tw sf rl rr re rw rt rs ac sd ce sa ti) e1 e2 e3 e4 e5 e6 e7 e8 e9 e10 e11 (kI 16 (cpf 16 (fun j => bk (16 * ac + j)) pg)) (kI 256 bk) e14 e15 e16 e17)) := by
  intro n
  induction n with
  | zero =>
    intro k hk
    obtain rfl : k = 16 := by omega
    refine g_iload_n (i := 1) (j := 1) dX8_undo_27 rfl rfl ?_
    refine g_bipush (v := nI 16) dX8_undo_28 (by decide) ?_
    refine n_icmp_ge (tgt := 59) (rng_lit 16 rfl) (rng_lit 16 rfl) dX8_undo_30 (by decide) (fun h30 => ?_) (fun h30 => ?_)
    · refine g_aload_n (i := 0) (j := 0) dX8_undo_59 rfl rfl ?_
      refine g_get fX8_151 rfl rfl dX8_undo_60 ?_
      refine g_iret rfl rfl dX8_undo_63 ?_
      exact gE_i rfl rfl
    · exact absurd h30 (by decide)

  | succ n ih =>
    intro k hk
    refine g_iload_n (i := 1) (j := 1) dX8_undo_27 rfl rfl ?_
    refine g_bipush (v := nI 16) dX8_undo_28 (by decide) ?_
    refine n_icmp_ge (tgt := 59) (by omega) (rng_lit 16 rfl) dX8_undo_30 (by decide) (fun h30 => ?_) (fun h30 => ?_)
    · exfalso; omega
    · refine g_aload_n (i := 0) (j := 0) dX8_undo_33 rfl rfl ?_
      refine g_get fX8_47 rfl rfl dX8_undo_34 ?_
      refine g_iload_n (i := 1) (j := 1) dX8_undo_37 rfl rfl ?_
      refine g_aload_n (i := 0) (j := 0) dX8_undo_38 rfl rfl ?_
      refine g_get fX8_50 rfl rfl dX8_undo_39 ?_
      refine g_bipush (v := nI 16) dX8_undo_42 (by decide) ?_
      refine g_aload_n (i := 0) (j := 0) dX8_undo_44 rfl rfl ?_
      refine g_get fX8_151 rfl rfl dX8_undo_45 ?_
      refine n_imul (a := 16) (b := ac) dX8_undo_48 ?_
      refine g_iload_n (i := 1) (j := 1) dX8_undo_49 rfl rfl ?_
      refine n_iadd (a := (16 * ac)) (b := k) dX8_undo_50 ?_
      refine n_iald (x := ((16 * ac) + k)) rfl (by omega) (rng_lit 256 rfl) dX8_undo_51 ?_
      refine n_iast (x := k) (ws' := wM (kM 0 ts pl lo ri la wk tw sf rl rr re rw rt rs ac sd ce sa ti) e1 e2 e3 e4 e5 e6 e7 e8 e9 e10 e11 (kI 16 (va_up (cpf k (fun j => bk (16 * ac + j)) pg) k (bk ((16 * ac) + k)))) (kI 256 bk) e14 e15 e16 e17) rfl (by omega) (rng_lit 16 rfl) dX8_undo_52 rfl ?_
      refine n_inc (x := k) (j := 1) (lv' := [(1, .int (nI (k + 1))), (0, .ref 0)]) dX8_undo_53 rfl (by decide) rfl ?_
      refine g_goto (tgt := 27) dX8_undo_56 (by decide) ?_
      refine g_lv [1, 0] rfl ?_
      rw [show va_up (cpf k (fun j => bk (16 * ac + j)) pg) k (bk ((16 * ac) + k)) = cpf (k + 1) (fun j => bk (16 * ac + j)) pg from cpf_s k (fun j => bk (16 * ac + j)) pg]
      exact ih (k + 1) (by omega)

theorem ctX8_undo {e1 e2 e3 e4 e5 e6 e7 e8 e9 e10 e11 e14 e15 e16 e17 : va_E} {ts pl lo ri la wk tw sf : Nat} {rl rr re : Int32} {rw rt rs ac : Nat} {sd : Int64} {ce sa ti : Nat} {r : Nat → Nat} {Q : Nat → Nat → Nat} (hac : ac ≤ 16) : Ct mX8_undo 0 [.ref 0] (wM (kM 0 ts pl lo ri la wk tw sf rl rr re rw rt rs ac sd ce sa ti) e1 e2 e3 e4 e5 e6 e7 e8 e9 e10 e11 (kI 16 (pgR r)) (kI 256 (bkR Q)) e14 e15 e16 e17) (gE (some (.int (if ac = 0 then -3 else nI (ac - 1)))) (if ac = 0 then wM (kM 0 ts pl lo ri la wk tw sf rl rr re rw rt rs ac sd ce sa ti) e1 e2 e3 e4 e5 e6 e7 e8 e9 e10 e11 (kI 16 (pgR r)) (kI 256 (bkR Q)) e14 e15 e16 e17 else wM (kM 0 ts pl lo ri la wk tw sf rl rr re rw rt rs (ac - 1) sd ce sa ti) e1 e2 e3 e4 e5 e6 e7 e8 e9 e10 e11 (kI 16 (pgR (Q (ac - 1)))) (kI 256 (bkR Q)) e14 e15 e16 e17)) := by
  refine Ct.of (by decide) (by exact Nat.le_of_ble_eq_true rfl) ?_
  show Go mX8_undo 0 0 [(0, .ref 0)] [] (wM (kM 0 ts pl lo ri la wk tw sf rl rr re rw rt rs ac sd ce sa ti) e1 e2 e3 e4 e5 e6 e7 e8 e9 e10 e11 (kI 16 (pgR r)) (kI 256 (bkR Q)) e14 e15 e16 e17) (gE (some (.int (if ac = 0 then -3 else nI (ac - 1)))) (if ac = 0 then wM (kM 0 ts pl lo ri la wk tw sf rl rr re rw rt rs ac sd ce sa ti) e1 e2 e3 e4 e5 e6 e7 e8 e9 e10 e11 (kI 16 (pgR r)) (kI 256 (bkR Q)) e14 e15 e16 e17 else wM (kM 0 ts pl lo ri la wk tw sf rl rr re rw rt rs (ac - 1) sd ce sa ti) e1 e2 e3 e4 e5 e6 e7 e8 e9 e10 e11 (kI 16 (pgR (Q (ac - 1)))) (kI 256 (bkR Q)) e14 e15 e16 e17))
  refine g_aload_n (i := 0) (j := 0) dX8_undo_0 rfl rfl ?_
  refine g_iconst (v := nI 0) dX8_undo_1 (by decide) ?_
  refine n_putI (ws' := wM (kM 0 ts pl lo ri la wk tw sf rl rr re rw rt rs ac sd ce sa ti) e1 e2 e3 e4 e5 e6 e7 e8 e9 e10 e11 (kI 16 (pgR r)) (kI 256 (bkR Q)) e14 e15 e16 e17) fX8_67 fp_X8_0 rfl (by exact Nat.le_of_ble_eq_true rfl) dX8_undo_2 rfl ?_
  refine g_aload_n (i := 0) (j := 0) dX8_undo_5 rfl rfl ?_
  refine g_get fX8_151 rfl rfl dX8_undo_6 ?_
  refine n_if_ne (tgt := 15) (by omega) dX8_undo_9 (by decide) (fun h9 => ?_) (fun h9 => ?_)
  · refine g_aload_n (i := 0) (j := 0) dX8_undo_15 rfl rfl ?_
    refine g_dup dX8_undo_16 rfl ?_
    refine g_get fX8_151 rfl rfl dX8_undo_17 ?_
    refine g_iconst (v := nI 1) dX8_undo_20 (by decide) ?_
    refine n_isub (a := ac) (b := 1) (by omega) dX8_undo_21 ?_
    refine n_putI (ws' := wM (kM 0 ts pl lo ri la wk tw sf rl rr re rw rt rs (ac - 1) sd ce sa ti) e1 e2 e3 e4 e5 e6 e7 e8 e9 e10 e11 (kI 16 (pgR r)) (kI 256 (bkR Q)) e14 e15 e16 e17) fX8_151 fp_X8_28 rfl (by exact Nat.le_of_ble_eq_true rfl) dX8_undo_22 rfl ?_
    refine g_iconst (v := nI 0) dX8_undo_25 (by decide) ?_
    refine g_istore_n (i := 1) (lv' := [(1, .int (nI 0)), (0, .ref 0)]) dX8_undo_26 rfl (by decide) rfl ?_
    refine g_lv [1, 0] rfl ?_
    rw [if_neg h9, if_neg h9, ← bk_take Q (ac - 1) r]
    have z := lp_undo (ac := ac - 1) (pg := pgR r) (bk := bkR Q) (ce := ce) (sa := sa) (ti := ti) (sd := sd) (ts := ts) (pl := pl) (lo := lo) (ri := ri) (la := la) (wk := wk) (tw := tw) (sf := sf) (rl := rl) (rr := rr) (re := re) (rw := rw) (rt := rt) (rs := rs) (e1 := e1) (e2 := e2) (e3 := e3) (e4 := e4) (e5 := e5) (e6 := e6) (e7 := e7) (e8 := e8) (e9 := e9) (e10 := e10) (e11 := e11) (e14 := e14) (e15 := e15) (e16 := e16) (e17 := e17) (by omega) 16 0 (by omega)
    rw [cpf_0] at z
    exact z
  · refine g_bipush (v := (-3)) dX8_undo_12 (by decide) ?_
    refine g_iret rfl rfl dX8_undo_14 ?_
    exact gE_r (if_pos h9).symm (if_pos h9).symm

theorem lp_keep {e1 e2 e3 e4 e5 e6 e7 e8 e9 e10 e11 e13 e15 e16 e17 : va_E} {ts pl lo ri la wk tw sf : Nat} {rl rr re : Int32} {rw rt rs ac : Nat} {sd : Int64} {ce sa ti : Nat} {r kt : Nat → Nat} {a : Nat} (ha : a ≤ 1) : ∀ (n k : Nat), k + n = 16 → Go mX8_keep 1 26 [(0, .ref 0), (1, .int (nI a)), (2, .int (nI k))] [] (wM (kM 0 ts pl lo ri la wk tw sf rl rr re rw rt rs ac sd ce sa ti) e1 e2 e3 e4 e5 e6 e7 e8 e9 e10 e11 (kI 16 (pgR r)) e13 (kI 32 (va_cpy (pgR r) kt 0 (16 * a) k)) e15 e16 e17) (gE (some (.int (nI (r 0)))) (wM (kM 0 ts pl lo ri la wk tw sf rl rr re rw rt rs ac sd ce sa ti) e1 e2 e3 e4 e5 e6 e7 e8 e9 e10 e11 (kI 16 (pgR r)) e13 (kI 32 (va_cpy (pgR r) kt 0 (16 * a) 16)) e15 e16 e17)) := by
  intro n
  induction n with
  | zero =>
    intro k hk
    obtain rfl : k = 16 := by omega
    refine g_iload_n (i := 2) (j := 2) dX8_keep_26 rfl rfl ?_
    refine g_bipush (v := nI 16) dX8_keep_27 (by decide) ?_
    refine n_icmp_ge (tgt := 55) (rng_lit 16 rfl) (rng_lit 16 rfl) dX8_keep_29 (by decide) (fun h29 => ?_) (fun h29 => ?_)
    · refine g_aload_n (i := 0) (j := 0) dX8_keep_55 rfl rfl ?_
      refine g_get fX8_47 rfl rfl dX8_keep_56 ?_
      refine g_bipush (v := nI 15) dX8_keep_59 (by decide) ?_
      refine n_iald (x := 15) rfl (by omega) (rng_lit 16 rfl) dX8_keep_61 ?_
      refine g_topi (y := nI (r 0)) (by rw [pg_t]) ?_
      refine g_iret rfl rfl dX8_keep_62 ?_
      exact gE_i rfl rfl
    · exact absurd h29 (by decide)

  | succ n ih =>
    intro k hk
    refine g_iload_n (i := 2) (j := 2) dX8_keep_26 rfl rfl ?_
    refine g_bipush (v := nI 16) dX8_keep_27 (by decide) ?_
    refine n_icmp_ge (tgt := 55) (by omega) (rng_lit 16 rfl) dX8_keep_29 (by decide) (fun h29 => ?_) (fun h29 => ?_)
    · exfalso; omega
    · refine g_aload_n (i := 0) (j := 0) dX8_keep_32 rfl rfl ?_
      refine g_get fX8_53 rfl rfl dX8_keep_33 ?_
      refine g_bipush (v := nI 16) dX8_keep_36 (by decide) ?_
      refine g_iload_n (i := 1) (j := 1) dX8_keep_38 rfl rfl ?_
      refine n_imul (a := 16) (b := a) dX8_keep_39 ?_
      refine g_iload_n (i := 2) (j := 2) dX8_keep_40 rfl rfl ?_
      refine n_iadd (a := (16 * a)) (b := k) dX8_keep_41 ?_
      refine g_aload_n (i := 0) (j := 0) dX8_keep_42 rfl rfl ?_
      refine g_get fX8_47 rfl rfl dX8_keep_43 ?_
      refine g_iload_n (i := 2) (j := 2) dX8_keep_46 rfl rfl ?_
      refine n_iald (x := k) rfl (by omega) (rng_lit 16 rfl) dX8_keep_47 ?_
      refine n_iast (x := ((16 * a) + k)) (ws' := wM (kM 0 ts pl lo ri la wk tw sf rl rr re rw rt rs ac sd ce sa ti) e1 e2 e3 e4 e5 e6 e7 e8 e9 e10 e11 (kI 16 (pgR r)) e13 (kI 32 (va_up (va_cpy (pgR r) kt 0 (16 * a) k) ((16 * a) + k) ((pgR r) k))) e15 e16 e17) rfl (by omega) (rng_lit 32 rfl) dX8_keep_48 rfl ?_
      refine n_inc (x := k) (j := 2) (lv' := [(2, .int (nI (k + 1))), (0, .ref 0), (1, .int (nI a))]) dX8_keep_49 rfl (by decide) rfl ?_
      refine g_goto (tgt := 26) dX8_keep_52 (by decide) ?_
      refine g_lv [1, 2, 0] rfl ?_
      rw [show va_up (va_cpy (pgR r) kt 0 (16 * a) k) ((16 * a) + k) (pgR r k) = va_cpy (pgR r) kt 0 (16 * a) (k + 1) from cpy_s _ _ _ _]
      exact ih (k + 1) (by omega)

theorem ctX8_keep {e1 e2 e3 e4 e5 e6 e7 e8 e9 e10 e11 e13 e16 e17 : va_E} {ts pl lo ri la wk tw sf : Nat} {rl rr re : Int32} {rw rt rs ac : Nat} {sd : Int64} {ce sa ti : Nat} {r kp : Nat → Nat} {Z : Nat → Nat → Nat} {x : Int32} : Ct mX8_keep 1 [.ref 0, .int x] (wM (kM 0 ts pl lo ri la wk tw sf rl rr re rw rt rs ac sd ce sa ti) e1 e2 e3 e4 e5 e6 e7 e8 e9 e10 e11 (kI 16 (pgR r)) e13 (kI 32 (bkR Z)) (kZ 2 kp) e16 e17) (gE (some (.int (if iW x 2 then nI (r 0) else -1))) (if iW x 2 then wM (kM 0 ts pl lo ri la wk tw sf rl rr re rw rt rs ac sd ce sa ti) e1 e2 e3 e4 e5 e6 e7 e8 e9 e10 e11 (kI 16 (pgR r)) e13 (kI 32 (bkR (fun i => if i = cN x then r else Z i))) (kZ 2 (va_up kp (cN x) 1)) e16 e17 else wM (kM 0 ts pl lo ri la wk tw sf rl rr re rw rt rs ac sd ce sa ti) e1 e2 e3 e4 e5 e6 e7 e8 e9 e10 e11 (kI 16 (pgR r)) e13 (kI 32 (bkR Z)) (kZ 2 kp) e16 e17)) := by
  refine Ct.of (by decide) (by exact Nat.le_of_ble_eq_true rfl) ?_
  show Go mX8_keep 1 0 [(0, .ref 0), (1, .int x)] [] (wM (kM 0 ts pl lo ri la wk tw sf rl rr re rw rt rs ac sd ce sa ti) e1 e2 e3 e4 e5 e6 e7 e8 e9 e10 e11 (kI 16 (pgR r)) e13 (kI 32 (bkR Z)) (kZ 2 kp) e16 e17) (gE (some (.int (if iW x 2 then nI (r 0) else -1))) (if iW x 2 then wM (kM 0 ts pl lo ri la wk tw sf rl rr re rw rt rs ac sd ce sa ti) e1 e2 e3 e4 e5 e6 e7 e8 e9 e10 e11 (kI 16 (pgR r)) e13 (kI 32 (bkR (fun i => if i = cN x then r else Z i))) (kZ 2 (va_up kp (cN x) 1)) e16 e17 else wM (kM 0 ts pl lo ri la wk tw sf rl rr re rw rt rs ac sd ce sa ti) e1 e2 e3 e4 e5 e6 e7 e8 e9 e10 e11 (kI 16 (pgR r)) e13 (kI 32 (bkR Z)) (kZ 2 kp) e16 e17))
  refine g_aload_n (i := 0) (j := 0) dX8_keep_0 rfl rfl ?_
  refine g_iconst (v := nI 0) dX8_keep_1 (by decide) ?_
  refine n_putI (ws' := wM (kM 0 ts pl lo ri la wk tw sf rl rr re rw rt rs ac sd ce sa ti) e1 e2 e3 e4 e5 e6 e7 e8 e9 e10 e11 (kI 16 (pgR r)) e13 (kI 32 (bkR Z)) (kZ 2 kp) e16 e17) fX8_67 fp_X8_0 rfl (by exact Nat.le_of_ble_eq_true rfl) dX8_keep_2 rfl ?_
  refine g_iload_n (i := 1) (j := 1) dX8_keep_5 rfl rfl ?_
  refine g_i2l dX8_keep_6 rfl ?_
  refine g_lconst (v := lN 0) dX8_keep_7 (by decide) ?_
  refine g_lconst (v := lN 1) dX8_keep_8 (by decide) ?_
  refine c_S (st1 := [.int (nI (bN (iW x 2)))]) (ctX8_in (P := iW x 2) (in_0 (rng_lit _ rfl) rfl)) kX8_in lX8_73 (by decide) rfl (by exact Nat.le_of_ble_eq_true rfl) dX8_keep_9 rfl rfl ?_
  refine b_if_ne (tgt := 17) dX8_keep_12 (by decide) (fun h12 => ?_) (fun h12 => ?_)
  · obtain ⟨a, ha, rfl⟩ := raw_lt h12
    have ea : cN (nI a) = a := cN_n (by omega)
    rw [if_pos h12, if_pos h12, ea, ← bk_put Z a r]
    refine g_aload_n (i := 0) (j := 0) dX8_keep_17 rfl rfl ?_
    refine g_get fX8_56 rfl rfl dX8_keep_18 ?_
    refine g_iload_n (i := 1) (j := 1) dX8_keep_21 rfl rfl ?_
    refine g_iconst (v := nI 1) dX8_keep_22 (by decide) ?_
    refine n_zast (x := a) (ws' := wM (kM 0 ts pl lo ri la wk tw sf rl rr re rw rt rs ac sd ce sa ti) e1 e2 e3 e4 e5 e6 e7 e8 e9 e10 e11 (kI 16 (pgR r)) e13 (kI 32 (bkR Z)) (kZ 2 (va_up kp a 1)) e16 e17) rfl (by omega) (rng_lit 2 rfl) (by omega) dX8_keep_23 rfl ?_
    refine g_iconst (v := nI 0) dX8_keep_24 (by decide) ?_
    refine g_istore_n (i := 2) (lv' := [(2, .int (nI 0)), (0, .ref 0), (1, .int (nI a))]) dX8_keep_25 rfl (by decide) rfl ?_
    refine g_lv [1, 2, 0] rfl ?_
    have z := lp_keep (ac := ac) (r := r) (kt := bkR Z) (a := a) (ce := ce) (sa := sa) (ti := ti) (sd := sd) (ts := ts) (pl := pl) (lo := lo) (ri := ri) (la := la) (wk := wk) (tw := tw) (sf := sf) (rl := rl) (rr := rr) (re := re) (rw := rw) (rt := rt) (rs := rs) (e1 := e1) (e2 := e2) (e3 := e3) (e4 := e4) (e5 := e5) (e6 := e6) (e7 := e7) (e8 := e8) (e9 := e9) (e10 := e10) (e11 := e11) (e13 := e13) (e16 := e16) (e17 := e17) (e15 := kZ 2 (va_up kp a 1)) (by omega) 16 0 (by omega)
    rw [cpy_0] at z
    exact z
  · refine g_iconst (v := (-1)) dX8_keep_15 (by decide) ?_
    refine g_iret rfl rfl dX8_keep_16 ?_
    exact gE_r (if_neg h12).symm (if_neg h12).symm

theorem lp_again {e1 e2 e3 e4 e5 e6 e7 e8 e9 e10 e11 e13 e15 e16 e17 : va_E} {ts pl lo ri la wk tw sf : Nat} {rl rr re : Int32} {rw rt rs ac : Nat} {sd : Int64} {ce sa ti : Nat} {pg kt : Nat → Nat} {a : Nat} (ha : a ≤ 1) : ∀ (n k : Nat), k + n = 16 → Go mX8_again 1 31 [(0, .ref 0), (1, .int (nI a)), (2, .int (nI k))] [] (wM (kM 0 ts pl lo ri la wk tw sf rl rr re rw rt rs ac sd ce sa ti) e1 e2 e3 e4 e5 e6 e7 e8 e9 e10 e11 (kI 16 (cpf k (fun j => kt (16 * a + j)) pg)) e13 (kI 32 kt) e15 e16 e17) (gE (some (.int (nI (kt (16 * a + 15))))) (wM (kM 0 ts pl lo ri la wk tw sf rl rr re rw rt rs 0 sd ce sa ti) e1 e2 e3 e4 e5 e6 e7 e8 e9 e10 e11 (kI 16 (cpf 16 (fun j => kt (16 * a + j)) pg)) e13 (kI 32 kt) e15 e16 e17)) := by
  intro n
  induction n with
  | zero =>
    intro k hk
    obtain rfl : k = 16 := by omega
    refine g_iload_n (i := 2) (j := 2) dX8_again_31 rfl rfl ?_
    refine g_bipush (v := nI 16) dX8_again_32 (by decide) ?_
    refine n_icmp_ge (tgt := 60) (rng_lit 16 rfl) (rng_lit 16 rfl) dX8_again_34 (by decide) (fun h34 => ?_) (fun h34 => ?_)
    · refine g_aload_n (i := 0) (j := 0) dX8_again_60 rfl rfl ?_
      refine g_iconst (v := nI 0) dX8_again_61 (by decide) ?_
      refine n_putI (ws' := wM (kM 0 ts pl lo ri la wk tw sf rl rr re rw rt rs 0 sd ce sa ti) e1 e2 e3 e4 e5 e6 e7 e8 e9 e10 e11 (kI 16 (cpf 16 (fun j => kt (16 * a + j)) pg)) e13 (kI 32 kt) e15 e16 e17) fX8_151 fp_X8_28 rfl (by exact Nat.le_of_ble_eq_true rfl) dX8_again_62 rfl ?_
      refine g_aload_n (i := 0) (j := 0) dX8_again_65 rfl rfl ?_
      refine g_get fX8_47 rfl rfl dX8_again_66 ?_
      refine g_bipush (v := nI 15) dX8_again_69 (by decide) ?_
      refine n_iald (x := 15) rfl (by omega) (rng_lit 16 rfl) dX8_again_71 ?_
      refine g_iret rfl rfl dX8_again_72 ?_
      exact gE_i rfl rfl
    · exact absurd h34 (by decide)

  | succ n ih =>
    intro k hk
    refine g_iload_n (i := 2) (j := 2) dX8_again_31 rfl rfl ?_
    refine g_bipush (v := nI 16) dX8_again_32 (by decide) ?_
    refine n_icmp_ge (tgt := 60) (by omega) (rng_lit 16 rfl) dX8_again_34 (by decide) (fun h34 => ?_) (fun h34 => ?_)
    · exfalso; omega
    · refine g_aload_n (i := 0) (j := 0) dX8_again_37 rfl rfl ?_
      refine g_get fX8_47 rfl rfl dX8_again_38 ?_
      refine g_iload_n (i := 2) (j := 2) dX8_again_41 rfl rfl ?_
      refine g_aload_n (i := 0) (j := 0) dX8_again_42 rfl rfl ?_
      refine g_get fX8_53 rfl rfl dX8_again_43 ?_
      refine g_bipush (v := nI 16) dX8_again_46 (by decide) ?_
      refine g_iload_n (i := 1) (j := 1) dX8_again_48 rfl rfl ?_
      refine n_imul (a := 16) (b := a) dX8_again_49 ?_
      refine g_iload_n (i := 2) (j := 2) dX8_again_50 rfl rfl ?_
      refine n_iadd (a := (16 * a)) (b := k) dX8_again_51 ?_
      refine n_iald (x := ((16 * a) + k)) rfl (by omega) (rng_lit 32 rfl) dX8_again_52 ?_
      refine n_iast (x := k) (ws' := wM (kM 0 ts pl lo ri la wk tw sf rl rr re rw rt rs ac sd ce sa ti) e1 e2 e3 e4 e5 e6 e7 e8 e9 e10 e11 (kI 16 (va_up (cpf k (fun j => kt (16 * a + j)) pg) k (kt ((16 * a) + k)))) e13 (kI 32 kt) e15 e16 e17) rfl (by omega) (rng_lit 16 rfl) dX8_again_53 rfl ?_
      refine n_inc (x := k) (j := 2) (lv' := [(2, .int (nI (k + 1))), (0, .ref 0), (1, .int (nI a))]) dX8_again_54 rfl (by decide) rfl ?_
      refine g_goto (tgt := 31) dX8_again_57 (by decide) ?_
      refine g_lv [1, 2, 0] rfl ?_
      rw [show va_up (cpf k (fun j => kt (16 * a + j)) pg) k (kt ((16 * a) + k)) = cpf (k + 1) (fun j => kt (16 * a + j)) pg from cpf_s k (fun j => kt (16 * a + j)) pg]
      exact ih (k + 1) (by omega)

def pAgainM (kp : Nat → Nat) (Z : Nat → Nat → Nat) (x : Int32) : Int32 := if iW x 2 then (if kp (cN x) = 0 then -3 else nI (Z (cN x) 0)) else -1
theorem ctX8_again {e1 e2 e3 e4 e5 e6 e7 e8 e9 e10 e11 e13 e16 e17 : va_E} {ts pl lo ri la wk tw sf : Nat} {rl rr re : Int32} {rw rt rs ac : Nat} {sd : Int64} {ce sa ti : Nat} {r kp : Nat → Nat} {Z : Nat → Nat → Nat} (hkp : ∀ k, kp k ≤ 1) {x : Int32} : Ct mX8_again 1 [.ref 0, .int x] (wM (kM 0 ts pl lo ri la wk tw sf rl rr re rw rt rs ac sd ce sa ti) e1 e2 e3 e4 e5 e6 e7 e8 e9 e10 e11 (kI 16 (pgR r)) e13 (kI 32 (bkR Z)) (kZ 2 kp) e16 e17) (gE (some (.int (pAgainM kp Z x))) (if iW x 2 ∧ kp (cN x) ≠ 0 then wM (kM 0 ts pl lo ri la wk tw sf rl rr re rw rt rs 0 sd ce sa ti) e1 e2 e3 e4 e5 e6 e7 e8 e9 e10 e11 (kI 16 (pgR (Z (cN x)))) e13 (kI 32 (bkR Z)) (kZ 2 kp) e16 e17 else wM (kM 0 ts pl lo ri la wk tw sf rl rr re rw rt rs ac sd ce sa ti) e1 e2 e3 e4 e5 e6 e7 e8 e9 e10 e11 (kI 16 (pgR r)) e13 (kI 32 (bkR Z)) (kZ 2 kp) e16 e17)) := by
  refine Ct.of (by decide) (by exact Nat.le_of_ble_eq_true rfl) ?_
  show Go mX8_again 1 0 [(0, .ref 0), (1, .int x)] [] (wM (kM 0 ts pl lo ri la wk tw sf rl rr re rw rt rs ac sd ce sa ti) e1 e2 e3 e4 e5 e6 e7 e8 e9 e10 e11 (kI 16 (pgR r)) e13 (kI 32 (bkR Z)) (kZ 2 kp) e16 e17) (gE (some (.int (pAgainM kp Z x))) (if iW x 2 ∧ kp (cN x) ≠ 0 then wM (kM 0 ts pl lo ri la wk tw sf rl rr re rw rt rs 0 sd ce sa ti) e1 e2 e3 e4 e5 e6 e7 e8 e9 e10 e11 (kI 16 (pgR (Z (cN x)))) e13 (kI 32 (bkR Z)) (kZ 2 kp) e16 e17 else wM (kM 0 ts pl lo ri la wk tw sf rl rr re rw rt rs ac sd ce sa ti) e1 e2 e3 e4 e5 e6 e7 e8 e9 e10 e11 (kI 16 (pgR r)) e13 (kI 32 (bkR Z)) (kZ 2 kp) e16 e17))
  refine g_aload_n (i := 0) (j := 0) dX8_again_0 rfl rfl ?_
  refine g_iconst (v := nI 0) dX8_again_1 (by decide) ?_
  refine n_putI (ws' := wM (kM 0 ts pl lo ri la wk tw sf rl rr re rw rt rs ac sd ce sa ti) e1 e2 e3 e4 e5 e6 e7 e8 e9 e10 e11 (kI 16 (pgR r)) e13 (kI 32 (bkR Z)) (kZ 2 kp) e16 e17) fX8_67 fp_X8_0 rfl (by exact Nat.le_of_ble_eq_true rfl) dX8_again_2 rfl ?_
  refine g_iload_n (i := 1) (j := 1) dX8_again_5 rfl rfl ?_
  refine g_i2l dX8_again_6 rfl ?_
  refine g_lconst (v := lN 0) dX8_again_7 (by decide) ?_
  refine g_lconst (v := lN 1) dX8_again_8 (by decide) ?_
  refine c_S (st1 := [.int (nI (bN (iW x 2)))]) (ctX8_in (P := iW x 2) (in_0 (rng_lit _ rfl) rfl)) kX8_in lX8_73 (by decide) rfl (by exact Nat.le_of_ble_eq_true rfl) dX8_again_9 rfl rfl ?_
  refine b_if_ne (tgt := 17) dX8_again_12 (by decide) (fun h12 => ?_) (fun h12 => ?_)
  · obtain ⟨a, ha, rfl⟩ := raw_lt h12
    have ea : cN (nI a) = a := cN_n (by omega)
    refine g_aload_n (i := 0) (j := 0) dX8_again_17 rfl rfl ?_
    refine g_get fX8_56 rfl rfl dX8_again_18 ?_
    refine g_iload_n (i := 1) (j := 1) dX8_again_21 rfl rfl ?_
    refine n_zald (x := a) rfl (by omega) (rng_lit 2 rfl) dX8_again_22 ?_
    refine n_if_ne (tgt := 29) (by have := hkp a; omega) dX8_again_23 (by decide) (fun h23 => ?_) (fun h23 => ?_)
    · refine g_iconst (v := nI 0) dX8_again_29 (by decide) ?_
      refine g_istore_n (i := 2) (lv' := [(2, .int (nI 0)), (0, .ref 0), (1, .int (nI a))]) dX8_again_30 rfl (by decide) rfl ?_
      refine g_lv [1, 2, 0] rfl ?_
      rw [show pAgainM kp Z (nI a) = nI (bkR Z (16 * a + 15)) by unfold pAgainM; rw [if_pos h12, ea, if_neg h23, bk_at Z (by omega)]; rfl, if_pos (c := iW (nI a) 2 ∧ kp (cN (nI a)) ≠ 0) ⟨h12, by rw [ea]; exact h23⟩, ea, ← bk_take Z a r]
      have z := lp_again (ac := ac) (pg := pgR r) (kt := bkR Z) (a := a) (ce := ce) (sa := sa) (ti := ti) (sd := sd) (ts := ts) (pl := pl) (lo := lo) (ri := ri) (la := la) (wk := wk) (tw := tw) (sf := sf) (rl := rl) (rr := rr) (re := re) (rw := rw) (rt := rt) (rs := rs) (e1 := e1) (e2 := e2) (e3 := e3) (e4 := e4) (e5 := e5) (e6 := e6) (e7 := e7) (e8 := e8) (e9 := e9) (e10 := e10) (e11 := e11) (e13 := e13) (e16 := e16) (e17 := e17) (e15 := kZ 2 kp) (by omega) 16 0 (by omega)
      rw [cpf_0] at z
      exact z
    · refine g_bipush (v := (-3)) dX8_again_26 (by decide) ?_
      refine g_iret rfl rfl dX8_again_28 ?_
      refine gE_r ?_ (if_neg (fun z => z.2 (by rw [ea]; exact h23))).symm
      unfold pAgainM
      rw [if_pos h12, ea, if_pos h23]
  · refine g_iconst (v := (-1)) dX8_again_15 (by decide) ?_
    refine g_iret rfl rfl dX8_again_16 ?_
    refine gE_r ?_ (if_neg (fun z => h12 z.1)).symm
    unfold pAgainM
    rw [if_neg h12]

theorem ctX8_gone {e1 e7 e8 e9 e10 e11 e13 e14 e15 e16 e17 : va_E} {ts pl lo ri la wk tw sf : Nat} {rl rr re : Int32} {rw rt rs ac : Nat} {sd : Int64} {ce sa ti : Nat} {h so ho pa wa at_ fo r : Nat → Nat} (hg : gOK h so ho pa wa wk tw lo ri la) (hS : mSf sf so) (hT : tOK tw at_ fo ho) (hrk : rOK r) {k0 c0 s0 w0 : Int32} : Ct mX8_gone 5 [.ref 0, .int k0, .int c0, .int s0, .int w0] (wM (kM 0 ts pl lo ri la wk tw sf rl rr re rw rt rs ac sd ce sa ti) e1 (kI 10 h) (kI 5 pa) (kI 5 wa) (kI 2 at_) (kI 2 fo) e7 e8 e9 e10 e11 (kI 16 (pgR r)) e13 e14 e15 e16 e17) (fun v u => v = some (.int (pGone h so pa wa wk lo ri la k0 c0 s0 w0)) ∧ ∃ ce2 sa2 ti2 : Nat, u = wM (kM 0 ts pl lo ri la wk tw sf rl rr re rw rt rs ac sd ce2 sa2 ti2) e1 (kI 10 h) (kI 5 pa) (kI 5 wa) (kI 2 at_) (kI 2 fo) e7 e8 e9 e10 e11 (kI 16 (pgR r)) e13 e14 e15 e16 e17) := by
  refine Ct.of (by decide) (by exact Nat.le_of_ble_eq_true rfl) ?_
  show Go mX8_gone 5 0 [(0, .ref 0), (1, .int k0), (2, .int c0), (3, .int s0), (4, .int w0)] [] (wM (kM 0 ts pl lo ri la wk tw sf rl rr re rw rt rs ac sd ce sa ti) e1 (kI 10 h) (kI 5 pa) (kI 5 wa) (kI 2 at_) (kI 2 fo) e7 e8 e9 e10 e11 (kI 16 (pgR r)) e13 e14 e15 e16 e17) (fun v u => v = some (.int (pGone h so pa wa wk lo ri la k0 c0 s0 w0)) ∧ ∃ ce2 sa2 ti2 : Nat, u = wM (kM 0 ts pl lo ri la wk tw sf rl rr re rw rt rs ac sd ce2 sa2 ti2) e1 (kI 10 h) (kI 5 pa) (kI 5 wa) (kI 2 at_) (kI 2 fo) e7 e8 e9 e10 e11 (kI 16 (pgR r)) e13 e14 e15 e16 e17)
  obtain ⟨hH, hso, hho, hpa, hwa, hwk, htw, hlo, hri, hla⟩ := hg
  have hrk0 := hrk
  obtain ⟨hr, hr1, hr6, hr11⟩ := hrk0
  refine g_aload_n (i := 0) (j := 0) dX8_gone_0 rfl rfl ?_
  refine g_iconst (v := nI 0) dX8_gone_1 (by decide) ?_
  refine n_putI (ws' := wM (kM 0 ts pl lo ri la wk tw sf rl rr re rw rt rs ac sd ce sa ti) e1 (kI 10 h) (kI 5 pa) (kI 5 wa) (kI 2 at_) (kI 2 fo) e7 e8 e9 e10 e11 (kI 16 (pgR r)) e13 e14 e15 e16 e17) fX8_67 fp_X8_0 rfl (by exact Nat.le_of_ble_eq_true rfl) dX8_gone_2 rfl ?_
  refine g_aload_n (i := 0) (j := 0) dX8_gone_5 rfl rfl ?_
  refine g_iload_n (i := 1) (j := 1) dX8_gone_6 rfl rfl ?_
  refine c_V (st1 := [.int (nI (bN (¬ iW k0 wk)))]) (ctX8_noOne  (by omega)) kX8_noOne lX8_174 (by decide) rfl rfl rfl rfl (by exact Nat.le_of_ble_eq_true rfl) dX8_gone_7 rfl rfl ?_
  refine b_if_ne (tgt := 20) dX8_gone_10 (by decide) (fun h10 => ?_) (fun h10 => ?_)
  · refine g_iconst (v := (-1)) dX8_gone_20 (by decide) ?_
    refine g_iret rfl rfl dX8_gone_21 ?_
    refine ⟨?_, _, _, _, rfl⟩
    unfold pGone
    rw [if_neg (fun z => by first | exact h10 z.1 | exact h17 z.2)]
  · refine g_iload_n (i := 2) (j := 2) dX8_gone_13 rfl rfl ?_
    refine c_S (st1 := [.int (nI (bN (¬ iW c0 10)))]) (ctX8_noCell (x := c0) ) kX8_noCell lX8_160 (by decide) rfl (by exact Nat.le_of_ble_eq_true rfl) dX8_gone_14 rfl rfl ?_
    refine b_if_eq (tgt := 22) dX8_gone_17 (by decide) (fun h17 => ?_) (fun h17 => ?_)
    · obtain ⟨k, hk, rfl⟩ := raw_lt (Decidable.not_not.mp h10)
      have ek : cN (nI k) = k := cN_n (by omega)
      have ik : iW (nI k) wk := (iW_n (by omega)).mpr hk
      have q1 := hr1 k (by omega)
      have q6 := hr6 k (by omega)
      have q11 := hr11 k (by omega)
      have q0 := hr 0
      obtain ⟨c, hc, rfl⟩ := raw_lt (Decidable.not_not.mp h17)
      have ic : iW (nI c) 10 := (iW_n (by omega)).mpr hc
      refine g_iload (j := 4) dX8_gone_22 rfl ?_
      refine g_i2l dX8_gone_24 rfl ?_
      refine g_lconst (v := lN 1) dX8_gone_25 (by decide) ?_
      refine g_ldc2 clX8_196 dX8_gone_26 ?_
      refine g_st (st' := [.long (lN 2), .long (lN 1), .long w0.toInt64]) rfl ?_
      refine c_S (st1 := [.int (nI (bN (iW w0 3 ∧ ¬ w0 = nI 0)))]) (ctX8_in (P := iW w0 3 ∧ ¬ w0 = nI 0) (in_1 (rng_lit _ rfl) rfl)) kX8_in lX8_73 (by decide) rfl (by exact Nat.le_of_ble_eq_true rfl) dX8_gone_29 rfl rfl ?_
      refine b_if_eq (tgt := 63) dX8_gone_32 (by decide) (fun h32 => ?_) (fun h32 => ?_)
      · refine g_bipush (v := (-2)) dX8_gone_63 (by decide) ?_
        refine g_iret rfl rfl dX8_gone_65 ?_
        refine ⟨?_, _, _, _, rfl⟩
        unfold pGone
        rw [if_pos ⟨ik, ic⟩, if_neg (fun z => by first | exact h32 ⟨z.1, z.2.1⟩ | exact h44 z.2.2)]
      · refine g_iload_n (i := 3) (j := 3) dX8_gone_35 rfl rfl ?_
        refine g_i2l dX8_gone_36 rfl ?_
        refine g_lconst (v := lN 0) dX8_gone_37 (by decide) ?_
        refine g_ldc2 clX8_177 dX8_gone_38 ?_
        refine g_st (st' := [.long (lN 40), .long (lN 0), .long s0.toInt64]) rfl ?_
        refine c_S (st1 := [.int (nI (bN (iW s0 41)))]) (ctX8_in (P := iW s0 41) (in_0 (rng_lit _ rfl) rfl)) kX8_in lX8_73 (by decide) rfl (by exact Nat.le_of_ble_eq_true rfl) dX8_gone_41 rfl rfl ?_
        refine b_if_eq (tgt := 63) dX8_gone_44 (by decide) (fun h44 => ?_) (fun h44 => ?_)
        · refine g_bipush (v := (-2)) dX8_gone_63 (by decide) ?_
          refine g_iret rfl rfl dX8_gone_65 ?_
          refine ⟨?_, _, _, _, rfl⟩
          unfold pGone
          rw [if_pos ⟨ik, ic⟩, if_neg (fun z => by first | exact h32 ⟨z.1, z.2.1⟩ | exact h44 z.2.2)]
        · obtain ⟨w, hw, rfl⟩ := raw_lt h32.1
          have hw1 : 1 ≤ w := by
            rcases Nat.eq_zero_or_pos w with rfl | hp
            · exact absurd rfl h32.2
            · exact hp
          obtain ⟨s, hs, rfl⟩ := raw_lt h44
          refine g_aload_n (i := 0) (j := 0) dX8_gone_47 rfl rfl ?_
          refine g_iload_n (i := 1) (j := 1) dX8_gone_48 rfl rfl ?_
          refine g_iload_n (i := 2) (j := 2) dX8_gone_49 rfl rfl ?_
          refine g_iload_n (i := 3) (j := 3) dX8_gone_50 rfl rfl ?_
          refine g_iload (j := 4) dX8_gone_51 rfl ?_
          refine g_aload_n (i := 0) (j := 0) dX8_gone_53 rfl rfl ?_
          refine g_get fX8_139 rfl rfl dX8_gone_54 ?_
          refine g_callV (rest := []) (ctX8_goneOf (w := k) (c := c) (s := s) (way := w) (at0 := lo) hH hpa hwa (by omega) (by omega) hS (by first | omega | assumption | exact hpa _ | exact hwa _ | exact hr1 _ (by omega) | exact hr6 _ (by omega) | exact hr11 _ (by omega) | exact hr _ | exact Nat.le_succ_of_le (hr _) | (apply sTo_le; first | omega | exact hr1 _ (by omega))) (by first | omega | assumption | exact hpa _ | exact hwa _ | exact hr1 _ (by omega) | exact hr6 _ (by omega) | exact hr11 _ (by omega) | exact hr _ | exact Nat.le_succ_of_le (hr _) | (apply sTo_le; first | omega | exact hr1 _ (by omega))) (by first | omega | assumption | exact hpa _ | exact hwa _ | exact hr1 _ (by omega) | exact hr6 _ (by omega) | exact hr11 _ (by omega) | exact hr _ | exact Nat.le_succ_of_le (hr _) | (apply sTo_le; first | omega | exact hr1 _ (by omega))) (by first | omega | assumption | exact hpa _ | exact hwa _ | exact hr1 _ (by omega) | exact hr6 _ (by omega) | exact hr11 _ (by omega) | exact hr _ | exact Nat.le_succ_of_le (hr _) | (apply sTo_le; first | omega | exact hr1 _ (by omega))) (by first | omega | assumption | exact hpa _ | exact hwa _ | exact hr1 _ (by omega) | exact hr6 _ (by omega) | exact hr11 _ (by omega) | exact hr _ | exact Nat.le_succ_of_le (hr _) | (apply sTo_le; first | omega | exact hr1 _ (by omega))) (by first | omega | assumption | exact hpa _ | exact hwa _ | exact hr1 _ (by omega) | exact hr6 _ (by omega) | exact hr11 _ (by omega) | exact hr _ | exact Nat.le_succ_of_le (hr _) | (apply sTo_le; first | omega | exact hr1 _ (by omega)))) kX8_goneOf lX8_205 (by decide) rfl rfl rfl rfl (by exact Nat.le_of_ble_eq_true rfl) dX8_gone_57 rfl (fun v u hvu => ?_)
          obtain ⟨rfl, ce57, sa57, ti57, rfl⟩ := hvu
          refine g_st (st' := [.int (rO (sArr h so la ri (pa k) (wa k) lo w c s))]) rfl ?_
          refine g_goto (tgt := 65) dX8_gone_60 (by decide) ?_
          refine g_iret rfl rfl dX8_gone_65 ?_
          refine ⟨?_, _, _, _, rfl⟩
          unfold pGone
          rw [if_pos ⟨ik, ic⟩, if_pos ⟨h32.1, h32.2, h44⟩, ek, cN_n (k := c) (by omega), cN_n (k := w) (by omega), cN_n (k := s) (by omega)]
    · refine g_iconst (v := (-1)) dX8_gone_20 (by decide) ?_
      refine g_iret rfl rfl dX8_gone_21 ?_
      refine ⟨?_, _, _, _, rfl⟩
      unfold pGone
      rw [if_neg (fun z => by first | exact h10 z.1 | exact h17 z.2)]

theorem lp_mlatest {e1 e7 e8 e9 e10 e11 e13 e14 e15 e16 e17 : va_E} {ts pl lo ri la wk tw sf : Nat} {rl rr re : Int32} {rw rt rs ac : Nat} {sd : Int64} {h so ho pa wa at_ fo r : Nat → Nat} (hg : gOK h so ho pa wa wk tw lo ri la) (hS : mSf sf so) (hT : tOK tw at_ fo ho) (hrk : rOK r) {k : Nat} (hk : k < 5) : ∀ (n t ce sa ti : Nat), t + n = 41 → Go mX8_latest 5 20 [(0, .ref 0), (1, .int (nI k)), (2, .int (rO (sLast (fun s => (sArr h so la ri (pa k) (wa k) lo 1 0 s).isSome) t))), (3, .int (nI t))] [] (wM (kM 0 ts pl lo ri la wk tw sf rl rr re rw rt rs ac sd ce sa ti) e1 (kI 10 h) (kI 5 pa) (kI 5 wa) (kI 2 at_) (kI 2 fo) e7 e8 e9 e10 e11 (kI 16 (pgR r)) e13 e14 e15 e16 e17) (fun v u => v = some (.int (rO (sLast (fun s => (sArr h so la ri (pa k) (wa k) lo 1 0 s).isSome) 41))) ∧ ∃ ce2 sa2 ti2 : Nat, u = wM (kM 0 ts pl lo ri la wk tw sf rl rr re rw rt rs ac sd ce2 sa2 ti2) e1 (kI 10 h) (kI 5 pa) (kI 5 wa) (kI 2 at_) (kI 2 fo) e7 e8 e9 e10 e11 (kI 16 (pgR r)) e13 e14 e15 e16 e17) := by
  intro n
  obtain ⟨hH, hso, hho, hpa, hwa, hwk, htw, hlo, hri, hla⟩ := hg
  induction n with
  | zero =>
    intro t ce sa ti ht
    obtain rfl : t = 41 := by omega
    refine g_iload_n (i := 3) (j := 3) dX8_latest_20 rfl rfl ?_
    refine g_bipush (v := nI 40) dX8_latest_21 (by decide) ?_
    refine n_icmp_gt (tgt := 55) (rng_lit 41 rfl) (rng_lit 40 rfl) dX8_latest_23 (by decide) (fun h23 => ?_) (fun h23 => ?_)
    · refine g_iload_n (i := 2) (j := 2) dX8_latest_55 rfl rfl ?_
      refine g_iret rfl rfl dX8_latest_56 ?_
      exact ⟨rfl, _, _, _, rfl⟩
    · exact absurd h23 (by decide)

  | succ n ih =>
    intro t ce sa ti ht
    refine g_iload_n (i := 3) (j := 3) dX8_latest_20 rfl rfl ?_
    refine g_bipush (v := nI 40) dX8_latest_21 (by decide) ?_
    refine n_icmp_gt (tgt := 55) (by omega) (rng_lit 40 rfl) dX8_latest_23 (by decide) (fun h23 => ?_) (fun h23 => ?_)
    · exfalso; omega
    · refine g_aload_n (i := 0) (j := 0) dX8_latest_26 rfl rfl ?_
      refine g_iload_n (i := 1) (j := 1) dX8_latest_27 rfl rfl ?_
      refine g_iconst (v := nI 0) dX8_latest_28 (by decide) ?_
      refine g_iload_n (i := 3) (j := 3) dX8_latest_29 rfl rfl ?_
      refine g_iconst (v := nI 1) dX8_latest_30 (by decide) ?_
      refine g_aload_n (i := 0) (j := 0) dX8_latest_31 rfl rfl ?_
      refine g_get fX8_139 rfl rfl dX8_latest_32 ?_
      refine g_callV (rest := []) (ctX8_goneOf (w := k) (c := 0) (s := t) (way := 1) (at0 := lo) hH hpa hwa (by omega) (by omega) hS (by first | omega | assumption | exact hpa _ | exact hwa _ | exact hr1 _ (by omega) | exact hr6 _ (by omega) | exact hr11 _ (by omega) | exact hr _ | exact Nat.le_succ_of_le (hr _) | (apply sTo_le; first | omega | exact hr1 _ (by omega))) (by first | omega | assumption | exact hpa _ | exact hwa _ | exact hr1 _ (by omega) | exact hr6 _ (by omega) | exact hr11 _ (by omega) | exact hr _ | exact Nat.le_succ_of_le (hr _) | (apply sTo_le; first | omega | exact hr1 _ (by omega))) (by first | omega | assumption | exact hpa _ | exact hwa _ | exact hr1 _ (by omega) | exact hr6 _ (by omega) | exact hr11 _ (by omega) | exact hr _ | exact Nat.le_succ_of_le (hr _) | (apply sTo_le; first | omega | exact hr1 _ (by omega))) (by first | omega | assumption | exact hpa _ | exact hwa _ | exact hr1 _ (by omega) | exact hr6 _ (by omega) | exact hr11 _ (by omega) | exact hr _ | exact Nat.le_succ_of_le (hr _) | (apply sTo_le; first | omega | exact hr1 _ (by omega))) (by first | omega | assumption | exact hpa _ | exact hwa _ | exact hr1 _ (by omega) | exact hr6 _ (by omega) | exact hr11 _ (by omega) | exact hr _ | exact Nat.le_succ_of_le (hr _) | (apply sTo_le; first | omega | exact hr1 _ (by omega))) (by first | omega | assumption | exact hpa _ | exact hwa _ | exact hr1 _ (by omega) | exact hr6 _ (by omega) | exact hr11 _ (by omega) | exact hr _ | exact Nat.le_succ_of_le (hr _) | (apply sTo_le; first | omega | exact hr1 _ (by omega)))) kX8_goneOf lX8_205 (by decide) rfl rfl rfl rfl (by exact Nat.le_of_ble_eq_true rfl) dX8_latest_35 rfl (fun v u hvu => ?_)
      obtain ⟨rfl, ce35, sa35, ti35, rfl⟩ := hvu
      refine g_st (st' := [.int (rO (sArr h so la ri (pa k) (wa k) lo 1 0 t))]) rfl ?_
      refine g_bipush (v := (-9)) dX8_latest_38 (by decide) ?_
      refine g_icmp_ne (tgt := 47) dX8_latest_40 (by decide) (fun h40 => ?_) (fun h40 => ?_)
      · replace h40 := fun z => h40 ((sArr_ne (by omega)).mpr z)
        refine g_iload_n (i := 3) (j := 3) dX8_latest_47 rfl rfl ?_
        refine g_istore_n (i := 2) (lv' := [(2, .int (nI t)), (0, .ref 0), (1, .int (nI k)), (3, .int (nI t))]) dX8_latest_48 rfl (by decide) rfl ?_
        refine n_inc (x := t) (j := 3) (lv' := [(3, .int (nI (t + 1))), (2, .int (nI t)), (0, .ref 0), (1, .int (nI k))]) dX8_latest_49 rfl (by decide) rfl ?_
        refine g_goto (tgt := 20) dX8_latest_52 (by decide) ?_
        refine g_lv [2, 3, 1, 0] rfl ?_
        have e : (nI t) = rO (sLast (fun s => (sArr h so la ri (pa k) (wa k) lo 1 0 s).isSome) (t + 1)) := by
          rw [sLast]
          first | (rw [if_pos (isSome_t h40)]; rfl) | rw [if_neg (by rw [isSome_f h40]; simp)]
        rw [e]
        exact ih (t + 1) _ _ _ (by omega)
      · replace h40 := (sArr_ne (by omega)).mp h40
        refine g_iload_n (i := 2) (j := 2) dX8_latest_43 rfl rfl ?_
        refine g_goto (tgt := 48) dX8_latest_44 (by decide) ?_
        refine g_istore_n (i := 2) (lv' := [(2, .int (rO (sLast (fun s => (sArr h so la ri (pa k) (wa k) lo 1 0 s).isSome) t))), (0, .ref 0), (1, .int (nI k)), (3, .int (nI t))]) dX8_latest_48 rfl (by decide) rfl ?_
        refine n_inc (x := t) (j := 3) (lv' := [(3, .int (nI (t + 1))), (2, .int (rO (sLast (fun s => (sArr h so la ri (pa k) (wa k) lo 1 0 s).isSome) t))), (0, .ref 0), (1, .int (nI k))]) dX8_latest_49 rfl (by decide) rfl ?_
        refine g_goto (tgt := 20) dX8_latest_52 (by decide) ?_
        refine g_lv [2, 3, 1, 0] rfl ?_
        have e : (rO (sLast (fun s => (sArr h so la ri (pa k) (wa k) lo 1 0 s).isSome) t)) = rO (sLast (fun s => (sArr h so la ri (pa k) (wa k) lo 1 0 s).isSome) (t + 1)) := by
          rw [sLast]
          first | (rw [if_pos (isSome_t h40)]; rfl) | rw [if_neg (by rw [isSome_f h40]; simp)]
        rw [e]
        exact ih (t + 1) _ _ _ (by omega)

theorem ctX8_latest {e1 e7 e8 e9 e10 e11 e13 e14 e15 e16 e17 : va_E} {ts pl lo ri la wk tw sf : Nat} {rl rr re : Int32} {rw rt rs ac : Nat} {sd : Int64} {ce sa ti : Nat} {h so ho pa wa at_ fo r : Nat → Nat} (hg : gOK h so ho pa wa wk tw lo ri la) (hS : mSf sf so) (hT : tOK tw at_ fo ho) (hrk : rOK r) {k0 : Int32} : Ct mX8_latest 5 [.ref 0, .int k0] (wM (kM 0 ts pl lo ri la wk tw sf rl rr re rw rt rs ac sd ce sa ti) e1 (kI 10 h) (kI 5 pa) (kI 5 wa) (kI 2 at_) (kI 2 fo) e7 e8 e9 e10 e11 (kI 16 (pgR r)) e13 e14 e15 e16 e17) (fun v u => v = some (.int (pLatest h so pa wa wk lo ri la k0)) ∧ ∃ ce2 sa2 ti2 : Nat, u = wM (kM 0 ts pl lo ri la wk tw sf rl rr re rw rt rs ac sd ce2 sa2 ti2) e1 (kI 10 h) (kI 5 pa) (kI 5 wa) (kI 2 at_) (kI 2 fo) e7 e8 e9 e10 e11 (kI 16 (pgR r)) e13 e14 e15 e16 e17) := by
  refine Ct.of (by decide) (by exact Nat.le_of_ble_eq_true rfl) ?_
  show Go mX8_latest 5 0 [(0, .ref 0), (1, .int k0)] [] (wM (kM 0 ts pl lo ri la wk tw sf rl rr re rw rt rs ac sd ce sa ti) e1 (kI 10 h) (kI 5 pa) (kI 5 wa) (kI 2 at_) (kI 2 fo) e7 e8 e9 e10 e11 (kI 16 (pgR r)) e13 e14 e15 e16 e17) (fun v u => v = some (.int (pLatest h so pa wa wk lo ri la k0)) ∧ ∃ ce2 sa2 ti2 : Nat, u = wM (kM 0 ts pl lo ri la wk tw sf rl rr re rw rt rs ac sd ce2 sa2 ti2) e1 (kI 10 h) (kI 5 pa) (kI 5 wa) (kI 2 at_) (kI 2 fo) e7 e8 e9 e10 e11 (kI 16 (pgR r)) e13 e14 e15 e16 e17)
  have hg0 := hg
  obtain ⟨hH, hso, hho, hpa, hwa, hwk, htw, hlo, hri, hla⟩ := hg
  have hrk0 := hrk
  obtain ⟨hr, hr1, hr6, hr11⟩ := hrk0
  refine g_aload_n (i := 0) (j := 0) dX8_latest_0 rfl rfl ?_
  refine g_iconst (v := nI 0) dX8_latest_1 (by decide) ?_
  refine n_putI (ws' := wM (kM 0 ts pl lo ri la wk tw sf rl rr re rw rt rs ac sd ce sa ti) e1 (kI 10 h) (kI 5 pa) (kI 5 wa) (kI 2 at_) (kI 2 fo) e7 e8 e9 e10 e11 (kI 16 (pgR r)) e13 e14 e15 e16 e17) fX8_67 fp_X8_0 rfl (by exact Nat.le_of_ble_eq_true rfl) dX8_latest_2 rfl ?_
  refine g_aload_n (i := 0) (j := 0) dX8_latest_5 rfl rfl ?_
  refine g_iload_n (i := 1) (j := 1) dX8_latest_6 rfl rfl ?_
  refine c_V (st1 := [.int (nI (bN (¬ iW k0 wk)))]) (ctX8_noOne  (by omega)) kX8_noOne lX8_174 (by decide) rfl rfl rfl rfl (by exact Nat.le_of_ble_eq_true rfl) dX8_latest_7 rfl rfl ?_
  refine b_if_eq (tgt := 15) dX8_latest_10 (by decide) (fun h10 => ?_) (fun h10 => ?_)
  · obtain ⟨k, hk, rfl⟩ := raw_lt (Decidable.not_not.mp h10)
    have ek : cN (nI k) = k := cN_n (by omega)
    have ik : iW (nI k) wk := (iW_n (by omega)).mpr hk
    have q1 := hr1 k (by omega)
    have q6 := hr6 k (by omega)
    have q11 := hr11 k (by omega)
    have q0 := hr 0
    refine g_bipush (v := (-9)) dX8_latest_15 (by decide) ?_
    refine g_istore_n (i := 2) (lv' := [(2, .int (-9)), (0, .ref 0), (1, .int (nI k))]) dX8_latest_17 rfl (by decide) rfl ?_
    refine g_iconst (v := nI 0) dX8_latest_18 (by decide) ?_
    refine g_istore_n (i := 3) (lv' := [(3, .int (nI 0)), (2, .int (-9)), (0, .ref 0), (1, .int (nI k))]) dX8_latest_19 rfl (by decide) rfl ?_
    refine g_lv [2, 3, 1, 0] rfl ?_
    unfold pLatest
    rw [if_pos ik, ek]
    exact lp_mlatest hg0 hS hT hrk (by omega) 41 0 _ _ _ (by omega)
  · refine g_iconst (v := (-1)) dX8_latest_13 (by decide) ?_
    refine g_iret rfl rfl dX8_latest_14 ?_
    refine ⟨?_, _, _, _, rfl⟩
    unfold pLatest
    rw [if_neg h10]

theorem ctX8_noWalk_1 {e1 e2 e3 e4 e5 e6 e7 e8 e9 e10 e11 e13 e14 e15 e16 e17 : va_E} {ts pl lo ri la wk tw sf : Nat} {rl rr re : Int32} {rw rt rs ac : Nat} {sd : Int64} {ce sa ti : Nat} {r : Nat → Nat} {x : Int32} (hwk : wk ≤ 5) (hx : ¬ iW x wk) : Ct mX8_noWalk 2 [.ref 0, .int x] (wM (kM 0 ts pl lo ri la wk tw sf rl rr re rw rt rs ac sd ce sa ti) e1 e2 e3 e4 e5 e6 e7 e8 e9 e10 e11 (kI 16 (pgR r)) e13 e14 e15 e16 e17) (gE (some (.int (-1))) (wM (kM 0 ts pl lo ri la wk tw sf rl rr re rw rt rs ac sd ce sa ti) e1 e2 e3 e4 e5 e6 e7 e8 e9 e10 e11 (kI 16 (pgR r)) e13 e14 e15 e16 e17)) := by
  refine Ct.of (by decide) (by exact Nat.le_of_ble_eq_true rfl) ?_
  show Go mX8_noWalk 2 0 [(0, .ref 0), (1, .int x)] [] (wM (kM 0 ts pl lo ri la wk tw sf rl rr re rw rt rs ac sd ce sa ti) e1 e2 e3 e4 e5 e6 e7 e8 e9 e10 e11 (kI 16 (pgR r)) e13 e14 e15 e16 e17) (gE (some (.int (-1))) (wM (kM 0 ts pl lo ri la wk tw sf rl rr re rw rt rs ac sd ce sa ti) e1 e2 e3 e4 e5 e6 e7 e8 e9 e10 e11 (kI 16 (pgR r)) e13 e14 e15 e16 e17))
  refine g_aload_n (i := 0) (j := 0) dX8_noWalk_0 rfl rfl ?_
  refine g_iload_n (i := 1) (j := 1) dX8_noWalk_1 rfl rfl ?_
  refine c_V (st1 := [.int (nI (bN (¬ iW x wk)))]) (ctX8_noOne  (by omega)) kX8_noOne lX8_174 (by decide) rfl rfl rfl rfl (by exact Nat.le_of_ble_eq_true rfl) dX8_noWalk_2 rfl rfl ?_
  refine b_if_eq (tgt := 12) dX8_noWalk_5 (by decide) (fun h5 => ?_) (fun h5 => ?_)
  · exact absurd hx h5
  · refine g_iconst (v := (-1)) dX8_noWalk_8 (by decide) ?_
    refine g_goto (tgt := 31) dX8_noWalk_9 (by decide) ?_
    refine g_iret rfl rfl dX8_noWalk_31 ?_
    exact gE_i rfl rfl

theorem ctX8_noWalk_3 {e1 e2 e3 e4 e5 e6 e7 e8 e9 e10 e11 e13 e14 e15 e16 e17 : va_E} {ts pl lo ri la wk tw sf : Nat} {rl rr re : Int32} {rw rt rs ac : Nat} {sd : Int64} {ce sa ti : Nat} {r : Nat → Nat} {k : Nat} (hwk : wk ≤ 5) (hk : k < wk) (hr1 : r (11 + k) ≤ 4) (hz : r (11 + k) ≠ 0) : Ct mX8_noWalk 2 [.ref 0, .int (nI k)] (wM (kM 0 ts pl lo ri la wk tw sf rl rr re rw rt rs ac sd ce sa ti) e1 e2 e3 e4 e5 e6 e7 e8 e9 e10 e11 (kI 16 (pgR r)) e13 e14 e15 e16 e17) (gE (some (.int (-3))) (wM (kM 0 ts pl lo ri la wk tw sf rl rr re rw rt rs ac sd ce sa ti) e1 e2 e3 e4 e5 e6 e7 e8 e9 e10 e11 (kI 16 (pgR r)) e13 e14 e15 e16 e17)) := by
  refine Ct.of (by decide) (by exact Nat.le_of_ble_eq_true rfl) ?_
  show Go mX8_noWalk 2 0 [(0, .ref 0), (1, .int (nI k))] [] (wM (kM 0 ts pl lo ri la wk tw sf rl rr re rw rt rs ac sd ce sa ti) e1 e2 e3 e4 e5 e6 e7 e8 e9 e10 e11 (kI 16 (pgR r)) e13 e14 e15 e16 e17) (gE (some (.int (-3))) (wM (kM 0 ts pl lo ri la wk tw sf rl rr re rw rt rs ac sd ce sa ti) e1 e2 e3 e4 e5 e6 e7 e8 e9 e10 e11 (kI 16 (pgR r)) e13 e14 e15 e16 e17))
  refine g_aload_n (i := 0) (j := 0) dX8_noWalk_0 rfl rfl ?_
  refine g_iload_n (i := 1) (j := 1) dX8_noWalk_1 rfl rfl ?_
  refine c_V (st1 := [.int (nI (bN (¬ iW (nI k) wk)))]) (ctX8_noOne  (by omega)) kX8_noOne lX8_174 (by decide) rfl rfl rfl rfl (by exact Nat.le_of_ble_eq_true rfl) dX8_noWalk_2 rfl rfl ?_
  refine b_if_eq (tgt := 12) dX8_noWalk_5 (by decide) (fun h5 => ?_) (fun h5 => ?_)
  · refine g_aload_n (i := 0) (j := 0) dX8_noWalk_12 rfl rfl ?_
    refine g_get fX8_47 rfl rfl dX8_noWalk_13 ?_
    refine g_iconst (v := nI 3) dX8_noWalk_16 (by decide) ?_
    refine g_iload_n (i := 1) (j := 1) dX8_noWalk_17 rfl rfl ?_
    refine n_imul (a := 3) (b := k) dX8_noWalk_18 ?_
    refine g_iconst (v := nI 2) dX8_noWalk_19 (by decide) ?_
    refine n_iadd (a := (3 * k)) (b := 2) dX8_noWalk_20 ?_
    refine n_iald (x := ((3 * k) + 2)) rfl (by omega) (rng_lit 16 rfl) dX8_noWalk_21 ?_
    refine g_topi (y := nI (r (11 + k))) (by rw [pg_2 (by omega)]) ?_
    refine n_if_ne (tgt := 29) (by omega) dX8_noWalk_22 (by decide) (fun h22 => ?_) (fun h22 => ?_)
    · refine g_bipush (v := (-3)) dX8_noWalk_29 (by decide) ?_
      refine g_iret rfl rfl dX8_noWalk_31 ?_
      exact gE_i rfl rfl
    · exact absurd h22 hz
  · exact absurd ((iW_n (by omega)).mpr hk) h5

theorem ctX8_noWalk_0 {e1 e2 e3 e4 e5 e6 e7 e8 e9 e10 e11 e13 e14 e15 e16 e17 : va_E} {ts pl lo ri la wk tw sf : Nat} {rl rr re : Int32} {rw rt rs ac : Nat} {sd : Int64} {ce sa ti : Nat} {r : Nat → Nat} {k : Nat} (hwk : wk ≤ 5) (hk : k < wk) (hr1 : r (11 + k) ≤ 4) (hz : r (11 + k) = 0) : Ct mX8_noWalk 2 [.ref 0, .int (nI k)] (wM (kM 0 ts pl lo ri la wk tw sf rl rr re rw rt rs ac sd ce sa ti) e1 e2 e3 e4 e5 e6 e7 e8 e9 e10 e11 (kI 16 (pgR r)) e13 e14 e15 e16 e17) (gE (some (.int (nI 0))) (wM (kM 0 ts pl lo ri la wk tw sf rl rr re rw rt rs ac sd ce sa ti) e1 e2 e3 e4 e5 e6 e7 e8 e9 e10 e11 (kI 16 (pgR r)) e13 e14 e15 e16 e17)) := by
  refine Ct.of (by decide) (by exact Nat.le_of_ble_eq_true rfl) ?_
  show Go mX8_noWalk 2 0 [(0, .ref 0), (1, .int (nI k))] [] (wM (kM 0 ts pl lo ri la wk tw sf rl rr re rw rt rs ac sd ce sa ti) e1 e2 e3 e4 e5 e6 e7 e8 e9 e10 e11 (kI 16 (pgR r)) e13 e14 e15 e16 e17) (gE (some (.int (nI 0))) (wM (kM 0 ts pl lo ri la wk tw sf rl rr re rw rt rs ac sd ce sa ti) e1 e2 e3 e4 e5 e6 e7 e8 e9 e10 e11 (kI 16 (pgR r)) e13 e14 e15 e16 e17))
  refine g_aload_n (i := 0) (j := 0) dX8_noWalk_0 rfl rfl ?_
  refine g_iload_n (i := 1) (j := 1) dX8_noWalk_1 rfl rfl ?_
  refine c_V (st1 := [.int (nI (bN (¬ iW (nI k) wk)))]) (ctX8_noOne  (by omega)) kX8_noOne lX8_174 (by decide) rfl rfl rfl rfl (by exact Nat.le_of_ble_eq_true rfl) dX8_noWalk_2 rfl rfl ?_
  refine b_if_eq (tgt := 12) dX8_noWalk_5 (by decide) (fun h5 => ?_) (fun h5 => ?_)
  · refine g_aload_n (i := 0) (j := 0) dX8_noWalk_12 rfl rfl ?_
    refine g_get fX8_47 rfl rfl dX8_noWalk_13 ?_
    refine g_iconst (v := nI 3) dX8_noWalk_16 (by decide) ?_
    refine g_iload_n (i := 1) (j := 1) dX8_noWalk_17 rfl rfl ?_
    refine n_imul (a := 3) (b := k) dX8_noWalk_18 ?_
    refine g_iconst (v := nI 2) dX8_noWalk_19 (by decide) ?_
    refine n_iadd (a := (3 * k)) (b := 2) dX8_noWalk_20 ?_
    refine n_iald (x := ((3 * k) + 2)) rfl (by omega) (rng_lit 16 rfl) dX8_noWalk_21 ?_
    refine g_topi (y := nI (r (11 + k))) (by rw [pg_2 (by omega)]) ?_
    refine n_if_ne (tgt := 29) (by omega) dX8_noWalk_22 (by decide) (fun h22 => ?_) (fun h22 => ?_)
    · exact absurd hz h22
    · refine g_iconst (v := nI 0) dX8_noWalk_25 (by decide) ?_
      refine g_goto (tgt := 31) dX8_noWalk_26 (by decide) ?_
      refine g_iret rfl rfl dX8_noWalk_31 ?_
      exact gE_i rfl rfl
  · exact absurd ((iW_n (by omega)).mpr hk) h5

theorem ctX8_safest {e1 e7 e8 e9 e10 e11 e13 e14 e15 e16 e17 : va_E} {ts pl lo ri la wk tw sf : Nat} {rl rr re : Int32} {rw rt rs ac : Nat} {sd : Int64} {ce sa ti : Nat} {h so ho pa wa at_ fo r : Nat → Nat} (hg : gOK h so ho pa wa wk tw lo ri la) (hS : mSf sf so) (hT : tOK tw at_ fo ho) (hrk : rOK r) {k0 x0 : Int32} : Ct mX8_safest 5 [.ref 0, .int k0, .int x0] (wM (kM 0 ts pl lo ri la wk tw sf rl rr re rw rt rs ac sd ce sa ti) e1 (kI 10 h) (kI 5 pa) (kI 5 wa) (kI 2 at_) (kI 2 fo) e7 e8 e9 e10 e11 (kI 16 (pgR r)) e13 e14 e15 e16 e17) (fun v u => v = some (.int (pSafest h so ho pa wa wk lo ri la r k0 x0)) ∧ ∃ ce2 sa2 ti2 : Nat, u = wM (kM 0 ts pl lo ri la wk tw sf rl rr re rw rt rs ac sd ce2 sa2 ti2) e1 (kI 10 h) (kI 5 pa) (kI 5 wa) (kI 2 at_) (kI 2 fo) e7 e8 e9 e10 e11 (kI 16 (pgR r)) e13 e14 e15 e16 e17) := by
  refine Ct.of (by decide) (by exact Nat.le_of_ble_eq_true rfl) ?_
  show Go mX8_safest 5 0 [(0, .ref 0), (1, .int k0), (2, .int x0)] [] (wM (kM 0 ts pl lo ri la wk tw sf rl rr re rw rt rs ac sd ce sa ti) e1 (kI 10 h) (kI 5 pa) (kI 5 wa) (kI 2 at_) (kI 2 fo) e7 e8 e9 e10 e11 (kI 16 (pgR r)) e13 e14 e15 e16 e17) (fun v u => v = some (.int (pSafest h so ho pa wa wk lo ri la r k0 x0)) ∧ ∃ ce2 sa2 ti2 : Nat, u = wM (kM 0 ts pl lo ri la wk tw sf rl rr re rw rt rs ac sd ce2 sa2 ti2) e1 (kI 10 h) (kI 5 pa) (kI 5 wa) (kI 2 at_) (kI 2 fo) e7 e8 e9 e10 e11 (kI 16 (pgR r)) e13 e14 e15 e16 e17)
  obtain ⟨hH, hso, hho, hpa, hwa, hwk, htw, hlo, hri, hla⟩ := hg
  have hrk0 := hrk
  obtain ⟨hr, hr1, hr6, hr11⟩ := hrk0
  refine g_aload_n (i := 0) (j := 0) dX8_safest_0 rfl rfl ?_
  refine g_iconst (v := nI 0) dX8_safest_1 (by decide) ?_
  refine n_putI (ws' := wM (kM 0 ts pl lo ri la wk tw sf rl rr re rw rt rs ac sd ce sa ti) e1 (kI 10 h) (kI 5 pa) (kI 5 wa) (kI 2 at_) (kI 2 fo) e7 e8 e9 e10 e11 (kI 16 (pgR r)) e13 e14 e15 e16 e17) fX8_67 fp_X8_0 rfl (by exact Nat.le_of_ble_eq_true rfl) dX8_safest_2 rfl ?_
  refine g_aload_n (i := 0) (j := 0) dX8_safest_5 rfl rfl ?_
  refine g_iload_n (i := 1) (j := 1) dX8_safest_6 rfl rfl ?_
  refine c_V (st1 := [.int (nI (bN (¬ iW k0 wk)))]) (ctX8_noOne  (by omega)) kX8_noOne lX8_174 (by decide) rfl rfl rfl rfl (by exact Nat.le_of_ble_eq_true rfl) dX8_safest_7 rfl rfl ?_
  refine b_if_eq (tgt := 15) dX8_safest_10 (by decide) (fun h10 => ?_) (fun h10 => ?_)
  · obtain ⟨k, hk, rfl⟩ := raw_lt (Decidable.not_not.mp h10)
    have ek : cN (nI k) = k := cN_n (by omega)
    have ik : iW (nI k) wk := (iW_n (by omega)).mpr hk
    have q1 := hr1 k (by omega)
    have q6 := hr6 k (by omega)
    have q11 := hr11 k (by omega)
    have q0 := hr 0
    have q3 := sUp_le r wk (r (1 + k))
    have q4 := hho (r (1 + k))
    refine g_iload_n (i := 2) (j := 2) dX8_safest_15 rfl rfl ?_
    refine g_i2l dX8_safest_16 rfl ?_
    refine g_lconst (v := lN 0) dX8_safest_17 (by decide) ?_
    refine g_lconst (v := lN 1) dX8_safest_18 (by decide) ?_
    refine c_S (st1 := [.int (nI (bN (iW x0 2)))]) (ctX8_in (P := iW x0 2) (in_0 (rng_lit _ rfl) rfl)) kX8_in lX8_73 (by decide) rfl (by exact Nat.le_of_ble_eq_true rfl) dX8_safest_19 rfl rfl ?_
    refine b_if_ne (tgt := 28) dX8_safest_22 (by decide) (fun h22 => ?_) (fun h22 => ?_)
    · obtain ⟨x, hx, rfl⟩ := raw_lt h22
      have ix := h22
      rcases (show x = 0 ∨ x = 1 by omega) with rfl | rfl
      · skip
        by_cases hz : r (11 + k) = 0
        · skip
          refine g_aload_n (i := 0) (j := 0) dX8_safest_28 rfl rfl ?_
          refine g_iload_n (i := 1) (j := 1) dX8_safest_29 rfl rfl ?_
          refine c_V (st1 := [.int (nI 0)]) (ctX8_noWalk_0 (k := k) (by omega) hk q11 hz) kX8_noWalk lX8_208 (by decide) rfl rfl rfl rfl (by exact Nat.le_of_ble_eq_true rfl) dX8_safest_30 rfl rfl ?_
          refine n_if_eq (tgt := 39) (rng_lit 0 rfl) dX8_safest_33 (by decide) (fun h33 => ?_) (fun h33 => ?_)
          · refine g_aload_n (i := 0) (j := 0) dX8_safest_39 rfl rfl ?_
            refine g_get fX8_47 rfl rfl dX8_safest_40 ?_
            refine g_iconst (v := nI 3) dX8_safest_43 (by decide) ?_
            refine g_iload_n (i := 1) (j := 1) dX8_safest_44 rfl rfl ?_
            refine n_imul (a := 3) (b := k) dX8_safest_45 ?_
            refine n_iald (x := (3 * k)) rfl (by omega) (rng_lit 16 rfl) dX8_safest_46 ?_
            refine g_topi (y := nI (r (1 + k))) (by rw [pg_0 (by omega)]) ?_
            refine g_istore_n (i := 3) (lv' := [(3, .int (nI (r (1 + k)))), (0, .ref 0), (1, .int (nI k)), (2, .int (nI 0))]) dX8_safest_47 rfl (by decide) rfl ?_
            refine g_aload_n (i := 0) (j := 1) dX8_safest_48 rfl rfl ?_
            refine g_iload_n (i := 1) (j := 2) dX8_safest_49 rfl rfl ?_
            refine g_iload_n (i := 3) (j := 0) dX8_safest_50 rfl rfl ?_
            refine g_aload_n (i := 0) (j := 1) dX8_safest_51 rfl rfl ?_
            refine g_get fX8_47 rfl rfl dX8_safest_52 ?_
            refine g_bipush (v := nI 15) dX8_safest_55 (by decide) ?_
            refine n_iald (x := 15) rfl (by omega) (rng_lit 16 rfl) dX8_safest_57 ?_
            refine g_topi (y := nI (r 0)) (by rw [pg_t]) ?_
            refine g_iconst (v := nI 1) dX8_safest_58 (by decide) ?_
            refine g_aload_n (i := 0) (j := 1) dX8_safest_59 rfl rfl ?_
            refine g_get fX8_139 rfl rfl dX8_safest_60 ?_
            refine g_callV (rest := []) (ctX8_goneOf (w := k) (c := r (1 + k)) (s := r 0) (way := 1) (at0 := lo) hH hpa hwa (by omega) (by omega) hS (by first | omega | assumption | exact hpa _ | exact hwa _ | exact hr1 _ (by omega) | exact hr6 _ (by omega) | exact hr11 _ (by omega) | exact hr _ | exact Nat.le_succ_of_le (hr _) | (apply sTo_le; first | omega | exact hr1 _ (by omega))) (by first | omega | assumption | exact hpa _ | exact hwa _ | exact hr1 _ (by omega) | exact hr6 _ (by omega) | exact hr11 _ (by omega) | exact hr _ | exact Nat.le_succ_of_le (hr _) | (apply sTo_le; first | omega | exact hr1 _ (by omega))) (by first | omega | assumption | exact hpa _ | exact hwa _ | exact hr1 _ (by omega) | exact hr6 _ (by omega) | exact hr11 _ (by omega) | exact hr _ | exact Nat.le_succ_of_le (hr _) | (apply sTo_le; first | omega | exact hr1 _ (by omega))) (by first | omega | assumption | exact hpa _ | exact hwa _ | exact hr1 _ (by omega) | exact hr6 _ (by omega) | exact hr11 _ (by omega) | exact hr _ | exact Nat.le_succ_of_le (hr _) | (apply sTo_le; first | omega | exact hr1 _ (by omega))) (by first | omega | assumption | exact hpa _ | exact hwa _ | exact hr1 _ (by omega) | exact hr6 _ (by omega) | exact hr11 _ (by omega) | exact hr _ | exact Nat.le_succ_of_le (hr _) | (apply sTo_le; first | omega | exact hr1 _ (by omega))) (by first | omega | assumption | exact hpa _ | exact hwa _ | exact hr1 _ (by omega) | exact hr6 _ (by omega) | exact hr11 _ (by omega) | exact hr _ | exact Nat.le_succ_of_le (hr _) | (apply sTo_le; first | omega | exact hr1 _ (by omega)))) kX8_goneOf lX8_205 (by decide) rfl rfl rfl rfl (by exact Nat.le_of_ble_eq_true rfl) dX8_safest_63 rfl (fun v u hvu => ?_)
            obtain ⟨rfl, ce63, sa63, ti63, rfl⟩ := hvu
            refine g_st (st' := [.int (rO (sArr h so la ri (pa k) (wa k) lo 1 (r (1 + k)) (r 0)))]) rfl ?_
            refine g_istore (lv' := [(4, .int (rO (sArr h so la ri (pa k) (wa k) lo 1 (r (1 + k)) (r 0)))), (3, .int (nI (r (1 + k)))), (0, .ref 0), (1, .int (nI k)), (2, .int (nI 0))]) dX8_safest_66 (by decide) rfl ?_
            refine g_aload_n (i := 0) (j := 2) dX8_safest_68 rfl rfl ?_
            refine g_iload_n (i := 1) (j := 3) dX8_safest_69 rfl rfl ?_
            refine g_iload_n (i := 3) (j := 1) dX8_safest_70 rfl rfl ?_
            refine g_aload_n (i := 0) (j := 2) dX8_safest_71 rfl rfl ?_
            refine g_get fX8_47 rfl rfl dX8_safest_72 ?_
            refine g_bipush (v := nI 15) dX8_safest_75 (by decide) ?_
            refine n_iald (x := 15) rfl (by omega) (rng_lit 16 rfl) dX8_safest_77 ?_
            refine g_topi (y := nI (r 0)) (by rw [pg_t]) ?_
            refine g_iconst (v := nI 2) dX8_safest_78 (by decide) ?_
            refine g_aload_n (i := 0) (j := 2) dX8_safest_79 rfl rfl ?_
            refine g_get fX8_139 rfl rfl dX8_safest_80 ?_
            refine g_callV (rest := []) (ctX8_goneOf (w := k) (c := r (1 + k)) (s := r 0) (way := 2) (at0 := lo) hH hpa hwa (by omega) (by omega) hS (by first | omega | assumption | exact hpa _ | exact hwa _ | exact hr1 _ (by omega) | exact hr6 _ (by omega) | exact hr11 _ (by omega) | exact hr _ | exact Nat.le_succ_of_le (hr _) | (apply sTo_le; first | omega | exact hr1 _ (by omega))) (by first | omega | assumption | exact hpa _ | exact hwa _ | exact hr1 _ (by omega) | exact hr6 _ (by omega) | exact hr11 _ (by omega) | exact hr _ | exact Nat.le_succ_of_le (hr _) | (apply sTo_le; first | omega | exact hr1 _ (by omega))) (by first | omega | assumption | exact hpa _ | exact hwa _ | exact hr1 _ (by omega) | exact hr6 _ (by omega) | exact hr11 _ (by omega) | exact hr _ | exact Nat.le_succ_of_le (hr _) | (apply sTo_le; first | omega | exact hr1 _ (by omega))) (by first | omega | assumption | exact hpa _ | exact hwa _ | exact hr1 _ (by omega) | exact hr6 _ (by omega) | exact hr11 _ (by omega) | exact hr _ | exact Nat.le_succ_of_le (hr _) | (apply sTo_le; first | omega | exact hr1 _ (by omega))) (by first | omega | assumption | exact hpa _ | exact hwa _ | exact hr1 _ (by omega) | exact hr6 _ (by omega) | exact hr11 _ (by omega) | exact hr _ | exact Nat.le_succ_of_le (hr _) | (apply sTo_le; first | omega | exact hr1 _ (by omega))) (by first | omega | assumption | exact hpa _ | exact hwa _ | exact hr1 _ (by omega) | exact hr6 _ (by omega) | exact hr11 _ (by omega) | exact hr _ | exact Nat.le_succ_of_le (hr _) | (apply sTo_le; first | omega | exact hr1 _ (by omega)))) kX8_goneOf lX8_205 (by decide) rfl rfl rfl rfl (by exact Nat.le_of_ble_eq_true rfl) dX8_safest_83 rfl (fun v u hvu => ?_)
            obtain ⟨rfl, ce83, sa83, ti83, rfl⟩ := hvu
            refine g_st (st' := [.int (rO (sArr h so la ri (pa k) (wa k) lo 2 (r (1 + k)) (r 0)))]) rfl ?_
            refine g_istore (lv' := [(5, .int (rO (sArr h so la ri (pa k) (wa k) lo 2 (r (1 + k)) (r 0)))), (4, .int (rO (sArr h so la ri (pa k) (wa k) lo 1 (r (1 + k)) (r 0)))), (3, .int (nI (r (1 + k)))), (0, .ref 0), (1, .int (nI k)), (2, .int (nI 0))]) dX8_safest_86 (by decide) rfl ?_
            refine g_aload_n (i := 0) (j := 3) dX8_safest_88 rfl rfl ?_
            refine g_iload_n (i := 3) (j := 2) dX8_safest_89 rfl rfl ?_
            refine c_V (st1 := [.int (rO (tI tw at_ (r (1 + k))))]) (ctX8_towerOf (c := r (1 + k)) (by omega) (fun t ht => (hT.2.1 t ht).1) (by first | omega | assumption | exact hpa _ | exact hwa _ | exact hr1 _ (by omega) | exact hr6 _ (by omega) | exact hr11 _ (by omega) | exact hr _ | exact Nat.le_succ_of_le (hr _) | (apply sTo_le; first | omega | exact hr1 _ (by omega)))) kX8_towerOf lX8_164 (by decide) rfl rfl rfl rfl (by exact Nat.le_of_ble_eq_true rfl) dX8_safest_90 rfl rfl ?_
            refine g_istore (lv' := [(6, .int (rO (tI tw at_ (r (1 + k))))), (5, .int (rO (sArr h so la ri (pa k) (wa k) lo 2 (r (1 + k)) (r 0)))), (4, .int (rO (sArr h so la ri (pa k) (wa k) lo 1 (r (1 + k)) (r 0)))), (3, .int (nI (r (1 + k)))), (0, .ref 0), (1, .int (nI k)), (2, .int (nI 0))]) dX8_safest_93 (by decide) rfl ?_
            rcases ht : tI tw at_ (r (1 + k)) with _ | t
            · skip
              refine g_iload (j := 0) dX8_safest_95 rfl ?_
              refine g_bipush (v := (-9)) dX8_safest_97 (by decide) ?_
              refine g_icmp_eq (tgt := 121) dX8_safest_99 (by decide) (fun h99 => ?_) (fun h99 => ?_)
              · refine g_iconst (v := nI 0) dX8_safest_121 (by decide) ?_
                refine g_istore (lv' := [(7, .int (nI 0)), (6, .int (-9)), (5, .int (rO (sArr h so la ri (pa k) (wa k) lo 2 (r (1 + k)) (r 0)))), (4, .int (rO (sArr h so la ri (pa k) (wa k) lo 1 (r (1 + k)) (r 0)))), (3, .int (nI (r (1 + k)))), (0, .ref 0), (1, .int (nI k)), (2, .int (nI 0))]) dX8_safest_122 (by decide) rfl ?_
                rcases hon : sArr h so la ri (pa k) (wa k) lo 1 (r (1 + k)) (r 0) with _ | a
                · skip
                  rcases hbk : sArr h so la ri (pa k) (wa k) lo 2 (r (1 + k)) (r 0) with _ | b
                  · skip
                    refine g_iload (j := 3) dX8_safest_124 rfl ?_
                    refine g_istore (lv' := [(8, .int (-9)), (7, .int (nI 0)), (6, .int (-9)), (5, .int (-9)), (4, .int (-9)), (3, .int (nI (r (1 + k)))), (0, .ref 0), (1, .int (nI k)), (2, .int (nI 0))]) dX8_safest_126 (by decide) rfl ?_
                    refine g_iload (j := 4) dX8_safest_128 rfl ?_
                    refine g_bipush (v := (-9)) dX8_safest_130 (by decide) ?_
                    refine g_icmp_ne (tgt := 140) dX8_safest_132 (by decide) (fun h132 => ?_) (fun h132 => ?_)
                    · exact absurd rfl h132
                    · refine g_bipush (v := (-9)) dX8_safest_135 (by decide) ?_
                      refine g_goto (tgt := 141) dX8_safest_137 (by decide) ?_
                      refine g_istore (lv' := [(9, .int (-9)), (8, .int (-9)), (7, .int (nI 0)), (6, .int (-9)), (5, .int (-9)), (4, .int (-9)), (3, .int (nI (r (1 + k)))), (0, .ref 0), (1, .int (nI k)), (2, .int (nI 0))]) dX8_safest_141 (by decide) rfl ?_
                      refine g_iload (j := 4) dX8_safest_143 rfl ?_
                      refine g_bipush (v := (-9)) dX8_safest_145 (by decide) ?_
                      refine g_icmp_eq (tgt := 171) dX8_safest_147 (by decide) (fun h147 => ?_) (fun h147 => ?_)
                      · refine g_iload (j := 2) dX8_safest_171 rfl ?_
                        refine n_if_eq (tgt := 198) (rng_lit 0 rfl) dX8_safest_173 (by decide) (fun h173 => ?_) (fun h173 => ?_)
                        · refine g_iload_n (i := 2) (j := 9) dX8_safest_198 rfl rfl ?_
                          refine g_iconst (v := nI 1) dX8_safest_199 (by decide) ?_
                          refine n_icmp_ne (tgt := 208) (rng_lit 0 rfl) (rng_lit 1 rfl) dX8_safest_200 (by decide) (fun h200 => ?_) (fun h200 => ?_)
                          · refine g_iload (j := 5) dX8_safest_208 rfl ?_
                            refine g_bipush (v := (-9)) dX8_safest_210 (by decide) ?_
                            refine g_icmp_ne (tgt := 219) dX8_safest_212 (by decide) (fun h212 => ?_) (fun h212 => ?_)
                            · exact absurd rfl h212
                            · refine g_iconst (v := nI 0) dX8_safest_215 (by decide) ?_
                              refine g_goto (tgt := 220) dX8_safest_216 (by decide) ?_
                              refine g_iload (j := 4) dX8_safest_220 rfl ?_
                              refine g_bipush (v := (-9)) dX8_safest_222 (by decide) ?_
                              refine g_icmp_ne (tgt := 231) dX8_safest_224 (by decide) (fun h224 => ?_) (fun h224 => ?_)
                              · exact absurd rfl h224
                              · refine g_iconst (v := nI 0) dX8_safest_227 (by decide) ?_
                                refine g_goto (tgt := 232) dX8_safest_228 (by decide) ?_
                                refine n_iadd (a := 0) (b := 0) dX8_safest_232 ?_
                                refine g_iload (j := 2) dX8_safest_233 rfl ?_
                                refine n_if_eq (tgt := 242) (rng_lit 0 rfl) dX8_safest_235 (by decide) (fun h235 => ?_) (fun h235 => ?_)
                                · refine g_iconst (v := nI 0) dX8_safest_242 (by decide) ?_
                                  refine n_iadd (a := (0 + 0)) (b := 0) dX8_safest_243 ?_
                                  refine g_iret rfl rfl dX8_safest_244 ?_
                                  refine ⟨?_, _, _, _, rfl⟩
                                  unfold pSafest
                                  rw [if_pos ik, if_pos ix, ek, if_pos hz, if_pos (by decide : nI 0 = 0), hon, hbk, show decide (sUp r wk (r (1 + k)) < ho (r (1 + k))) = false from decide_eq_false (by first | omega | (have := tI_none hT ht; omega))]
                                  rfl
                                · exact absurd h235 (by decide)
                          · exact absurd h200 (by decide)
                        · exact absurd h173 (by decide)
                      · exact absurd rfl h147
                  · have qb := sGone_lt _ _ _ _ _ _ _ _ _ _ _ _ b q0 hbk
                    refine g_iload (j := 3) dX8_safest_124 rfl ?_
                    refine g_istore (lv' := [(8, .int (-9)), (7, .int (nI 0)), (6, .int (-9)), (5, .int (nI b)), (4, .int (-9)), (3, .int (nI (r (1 + k)))), (0, .ref 0), (1, .int (nI k)), (2, .int (nI 0))]) dX8_safest_126 (by decide) rfl ?_
                    refine g_iload (j := 4) dX8_safest_128 rfl ?_
                    refine g_bipush (v := (-9)) dX8_safest_130 (by decide) ?_
                    refine g_icmp_ne (tgt := 140) dX8_safest_132 (by decide) (fun h132 => ?_) (fun h132 => ?_)
                    · exact absurd rfl h132
                    · refine g_bipush (v := (-9)) dX8_safest_135 (by decide) ?_
                      refine g_goto (tgt := 141) dX8_safest_137 (by decide) ?_
                      refine g_istore (lv' := [(9, .int (-9)), (8, .int (-9)), (7, .int (nI 0)), (6, .int (-9)), (5, .int (nI b)), (4, .int (-9)), (3, .int (nI (r (1 + k)))), (0, .ref 0), (1, .int (nI k)), (2, .int (nI 0))]) dX8_safest_141 (by decide) rfl ?_
                      refine g_iload (j := 4) dX8_safest_143 rfl ?_
                      refine g_bipush (v := (-9)) dX8_safest_145 (by decide) ?_
                      refine g_icmp_eq (tgt := 171) dX8_safest_147 (by decide) (fun h147 => ?_) (fun h147 => ?_)
                      · exact absurd h147 (nI_n9 (by omega))
                      · refine g_iload (j := 0) dX8_safest_150 rfl ?_
                        refine g_bipush (v := (-9)) dX8_safest_152 (by decide) ?_
                        refine g_icmp_eq (tgt := 164) dX8_safest_154 (by decide) (fun h154 => ?_) (fun h154 => ?_)
                        · refine g_iload (j := 4) dX8_safest_164 rfl ?_
                          refine g_istore (lv' := [(8, .int (nI b)), (9, .int (-9)), (7, .int (nI 0)), (6, .int (-9)), (5, .int (nI b)), (4, .int (-9)), (3, .int (nI (r (1 + k)))), (0, .ref 0), (1, .int (nI k)), (2, .int (nI 0))]) dX8_safest_166 (by decide) rfl ?_
                          refine g_iconst (v := nI 1) dX8_safest_168 (by decide) ?_
                          refine g_istore (lv' := [(9, .int (nI 1)), (8, .int (nI b)), (7, .int (nI 0)), (6, .int (-9)), (5, .int (nI b)), (4, .int (-9)), (3, .int (nI (r (1 + k)))), (0, .ref 0), (1, .int (nI k)), (2, .int (nI 0))]) dX8_safest_169 (by decide) rfl ?_
                          refine g_iload (j := 2) dX8_safest_171 rfl ?_
                          refine n_if_eq (tgt := 198) (rng_lit 0 rfl) dX8_safest_173 (by decide) (fun h173 => ?_) (fun h173 => ?_)
                          · refine g_iload_n (i := 2) (j := 9) dX8_safest_198 rfl rfl ?_
                            refine g_iconst (v := nI 1) dX8_safest_199 (by decide) ?_
                            refine n_icmp_ne (tgt := 208) (rng_lit 0 rfl) (rng_lit 1 rfl) dX8_safest_200 (by decide) (fun h200 => ?_) (fun h200 => ?_)
                            · refine g_iload (j := 5) dX8_safest_208 rfl ?_
                              refine g_bipush (v := (-9)) dX8_safest_210 (by decide) ?_
                              refine g_icmp_ne (tgt := 219) dX8_safest_212 (by decide) (fun h212 => ?_) (fun h212 => ?_)
                              · exact absurd rfl h212
                              · refine g_iconst (v := nI 0) dX8_safest_215 (by decide) ?_
                                refine g_goto (tgt := 220) dX8_safest_216 (by decide) ?_
                                refine g_iload (j := 4) dX8_safest_220 rfl ?_
                                refine g_bipush (v := (-9)) dX8_safest_222 (by decide) ?_
                                refine g_icmp_ne (tgt := 231) dX8_safest_224 (by decide) (fun h224 => ?_) (fun h224 => ?_)
                                · refine g_iconst (v := nI 2) dX8_safest_231 (by decide) ?_
                                  refine n_iadd (a := 0) (b := 2) dX8_safest_232 ?_
                                  refine g_iload (j := 2) dX8_safest_233 rfl ?_
                                  refine n_if_eq (tgt := 242) (rng_lit 0 rfl) dX8_safest_235 (by decide) (fun h235 => ?_) (fun h235 => ?_)
                                  · refine g_iconst (v := nI 0) dX8_safest_242 (by decide) ?_
                                    refine n_iadd (a := (0 + 2)) (b := 0) dX8_safest_243 ?_
                                    refine g_iret rfl rfl dX8_safest_244 ?_
                                    refine ⟨?_, _, _, _, rfl⟩
                                    unfold pSafest
                                    rw [if_pos ik, if_pos ix, ek, if_pos hz, if_pos (by decide : nI 0 = 0), hon, hbk, show decide (sUp r wk (r (1 + k)) < ho (r (1 + k))) = false from decide_eq_false (by first | omega | (have := tI_none hT ht; omega))]
                                    rfl
                                  · exact absurd h235 (by decide)
                                · exact absurd h224 (nI_n9 (by omega))
                            · exact absurd h200 (by decide)
                          · exact absurd h173 (by decide)
                        · exact absurd rfl h154
                · have qa := sGone_lt _ _ _ _ _ _ _ _ _ _ _ _ a q0 hon
                  rcases hbk : sArr h so la ri (pa k) (wa k) lo 2 (r (1 + k)) (r 0) with _ | b
                  · skip
                    refine g_iload (j := 3) dX8_safest_124 rfl ?_
                    refine g_istore (lv' := [(8, .int (nI a)), (7, .int (nI 0)), (6, .int (-9)), (5, .int (-9)), (4, .int (nI a)), (3, .int (nI (r (1 + k)))), (0, .ref 0), (1, .int (nI k)), (2, .int (nI 0))]) dX8_safest_126 (by decide) rfl ?_
                    refine g_iload (j := 4) dX8_safest_128 rfl ?_
                    refine g_bipush (v := (-9)) dX8_safest_130 (by decide) ?_
                    refine g_icmp_ne (tgt := 140) dX8_safest_132 (by decide) (fun h132 => ?_) (fun h132 => ?_)
                    · refine g_iconst (v := nI 0) dX8_safest_140 (by decide) ?_
                      refine g_istore (lv' := [(9, .int (nI 0)), (8, .int (nI a)), (7, .int (nI 0)), (6, .int (-9)), (5, .int (-9)), (4, .int (nI a)), (3, .int (nI (r (1 + k)))), (0, .ref 0), (1, .int (nI k)), (2, .int (nI 0))]) dX8_safest_141 (by decide) rfl ?_
                      refine g_iload (j := 4) dX8_safest_143 rfl ?_
                      refine g_bipush (v := (-9)) dX8_safest_145 (by decide) ?_
                      refine g_icmp_eq (tgt := 171) dX8_safest_147 (by decide) (fun h147 => ?_) (fun h147 => ?_)
                      · refine g_iload (j := 2) dX8_safest_171 rfl ?_
                        refine n_if_eq (tgt := 198) (rng_lit 0 rfl) dX8_safest_173 (by decide) (fun h173 => ?_) (fun h173 => ?_)
                        · refine g_iload_n (i := 2) (j := 9) dX8_safest_198 rfl rfl ?_
                          refine g_iconst (v := nI 1) dX8_safest_199 (by decide) ?_
                          refine n_icmp_ne (tgt := 208) (rng_lit 0 rfl) (rng_lit 1 rfl) dX8_safest_200 (by decide) (fun h200 => ?_) (fun h200 => ?_)
                          · refine g_iload (j := 5) dX8_safest_208 rfl ?_
                            refine g_bipush (v := (-9)) dX8_safest_210 (by decide) ?_
                            refine g_icmp_ne (tgt := 219) dX8_safest_212 (by decide) (fun h212 => ?_) (fun h212 => ?_)
                            · refine g_iconst (v := nI 1) dX8_safest_219 (by decide) ?_
                              refine g_iload (j := 4) dX8_safest_220 rfl ?_
                              refine g_bipush (v := (-9)) dX8_safest_222 (by decide) ?_
                              refine g_icmp_ne (tgt := 231) dX8_safest_224 (by decide) (fun h224 => ?_) (fun h224 => ?_)
                              · exact absurd rfl h224
                              · refine g_iconst (v := nI 0) dX8_safest_227 (by decide) ?_
                                refine g_goto (tgt := 232) dX8_safest_228 (by decide) ?_
                                refine n_iadd (a := 1) (b := 0) dX8_safest_232 ?_
                                refine g_iload (j := 2) dX8_safest_233 rfl ?_
                                refine n_if_eq (tgt := 242) (rng_lit 0 rfl) dX8_safest_235 (by decide) (fun h235 => ?_) (fun h235 => ?_)
                                · refine g_iconst (v := nI 0) dX8_safest_242 (by decide) ?_
                                  refine n_iadd (a := (1 + 0)) (b := 0) dX8_safest_243 ?_
                                  refine g_iret rfl rfl dX8_safest_244 ?_
                                  refine ⟨?_, _, _, _, rfl⟩
                                  unfold pSafest
                                  rw [if_pos ik, if_pos ix, ek, if_pos hz, if_pos (by decide : nI 0 = 0), hon, hbk, show decide (sUp r wk (r (1 + k)) < ho (r (1 + k))) = false from decide_eq_false (by first | omega | (have := tI_none hT ht; omega))]
                                  rfl
                                · exact absurd h235 (by decide)
                            · exact absurd h212 (nI_n9 (by omega))
                          · exact absurd h200 (by decide)
                        · exact absurd h173 (by decide)
                      · exact absurd rfl h147
                    · exact absurd h132 (nI_n9 (by omega))
                  · have qb := sGone_lt _ _ _ _ _ _ _ _ _ _ _ _ b q0 hbk
                    refine g_iload (j := 3) dX8_safest_124 rfl ?_
                    refine g_istore (lv' := [(8, .int (nI a)), (7, .int (nI 0)), (6, .int (-9)), (5, .int (nI b)), (4, .int (nI a)), (3, .int (nI (r (1 + k)))), (0, .ref 0), (1, .int (nI k)), (2, .int (nI 0))]) dX8_safest_126 (by decide) rfl ?_
                    refine g_iload (j := 4) dX8_safest_128 rfl ?_
                    refine g_bipush (v := (-9)) dX8_safest_130 (by decide) ?_
                    refine g_icmp_ne (tgt := 140) dX8_safest_132 (by decide) (fun h132 => ?_) (fun h132 => ?_)
                    · refine g_iconst (v := nI 0) dX8_safest_140 (by decide) ?_
                      refine g_istore (lv' := [(9, .int (nI 0)), (8, .int (nI a)), (7, .int (nI 0)), (6, .int (-9)), (5, .int (nI b)), (4, .int (nI a)), (3, .int (nI (r (1 + k)))), (0, .ref 0), (1, .int (nI k)), (2, .int (nI 0))]) dX8_safest_141 (by decide) rfl ?_
                      refine g_iload (j := 4) dX8_safest_143 rfl ?_
                      refine g_bipush (v := (-9)) dX8_safest_145 (by decide) ?_
                      refine g_icmp_eq (tgt := 171) dX8_safest_147 (by decide) (fun h147 => ?_) (fun h147 => ?_)
                      · exact absurd h147 (nI_n9 (by omega))
                      · refine g_iload (j := 0) dX8_safest_150 rfl ?_
                        refine g_bipush (v := (-9)) dX8_safest_152 (by decide) ?_
                        refine g_icmp_eq (tgt := 164) dX8_safest_154 (by decide) (fun h154 => ?_) (fun h154 => ?_)
                        · exact absurd h154 (nI_n9 (by omega))
                        · refine g_iload (j := 4) dX8_safest_157 rfl ?_
                          refine g_iload (j := 1) dX8_safest_159 rfl ?_
                          refine n_icmp_ge (tgt := 171) (by omega) (by omega) dX8_safest_161 (by decide) (fun h161 => ?_) (fun h161 => ?_)
                          · refine g_iload (j := 2) dX8_safest_171 rfl ?_
                            refine n_if_eq (tgt := 198) (rng_lit 0 rfl) dX8_safest_173 (by decide) (fun h173 => ?_) (fun h173 => ?_)
                            · refine g_iload_n (i := 2) (j := 9) dX8_safest_198 rfl rfl ?_
                              refine g_iconst (v := nI 1) dX8_safest_199 (by decide) ?_
                              refine n_icmp_ne (tgt := 208) (rng_lit 0 rfl) (rng_lit 1 rfl) dX8_safest_200 (by decide) (fun h200 => ?_) (fun h200 => ?_)
                              · refine g_iload (j := 5) dX8_safest_208 rfl ?_
                                refine g_bipush (v := (-9)) dX8_safest_210 (by decide) ?_
                                refine g_icmp_ne (tgt := 219) dX8_safest_212 (by decide) (fun h212 => ?_) (fun h212 => ?_)
                                · refine g_iconst (v := nI 1) dX8_safest_219 (by decide) ?_
                                  refine g_iload (j := 4) dX8_safest_220 rfl ?_
                                  refine g_bipush (v := (-9)) dX8_safest_222 (by decide) ?_
                                  refine g_icmp_ne (tgt := 231) dX8_safest_224 (by decide) (fun h224 => ?_) (fun h224 => ?_)
                                  · refine g_iconst (v := nI 2) dX8_safest_231 (by decide) ?_
                                    refine n_iadd (a := 1) (b := 2) dX8_safest_232 ?_
                                    refine g_iload (j := 2) dX8_safest_233 rfl ?_
                                    refine n_if_eq (tgt := 242) (rng_lit 0 rfl) dX8_safest_235 (by decide) (fun h235 => ?_) (fun h235 => ?_)
                                    · refine g_iconst (v := nI 0) dX8_safest_242 (by decide) ?_
                                      refine n_iadd (a := (1 + 2)) (b := 0) dX8_safest_243 ?_
                                      refine g_iret rfl rfl dX8_safest_244 ?_
                                      refine ⟨?_, _, _, _, rfl⟩
                                      unfold pSafest
                                      rw [if_pos ik, if_pos ix, ek, if_pos hz, if_pos (by decide : nI 0 = 0), hon, hbk, show decide (sUp r wk (r (1 + k)) < ho (r (1 + k))) = false from decide_eq_false (by first | omega | (have := tI_none hT ht; omega))]
                                      rfl
                                    · exact absurd h235 (by decide)
                                  · exact absurd h224 (nI_n9 (by omega))
                                · exact absurd h212 (nI_n9 (by omega))
                              · exact absurd h200 (by decide)
                            · exact absurd h173 (by decide)
                          · refine g_iload (j := 4) dX8_safest_164 rfl ?_
                            refine g_istore (lv' := [(8, .int (nI b)), (9, .int (nI 0)), (7, .int (nI 0)), (6, .int (-9)), (5, .int (nI b)), (4, .int (nI a)), (3, .int (nI (r (1 + k)))), (0, .ref 0), (1, .int (nI k)), (2, .int (nI 0))]) dX8_safest_166 (by decide) rfl ?_
                            refine g_iconst (v := nI 1) dX8_safest_168 (by decide) ?_
                            refine g_istore (lv' := [(9, .int (nI 1)), (8, .int (nI b)), (7, .int (nI 0)), (6, .int (-9)), (5, .int (nI b)), (4, .int (nI a)), (3, .int (nI (r (1 + k)))), (0, .ref 0), (1, .int (nI k)), (2, .int (nI 0))]) dX8_safest_169 (by decide) rfl ?_
                            refine g_iload (j := 2) dX8_safest_171 rfl ?_
                            refine n_if_eq (tgt := 198) (rng_lit 0 rfl) dX8_safest_173 (by decide) (fun h173 => ?_) (fun h173 => ?_)
                            · refine g_iload_n (i := 2) (j := 9) dX8_safest_198 rfl rfl ?_
                              refine g_iconst (v := nI 1) dX8_safest_199 (by decide) ?_
                              refine n_icmp_ne (tgt := 208) (rng_lit 0 rfl) (rng_lit 1 rfl) dX8_safest_200 (by decide) (fun h200 => ?_) (fun h200 => ?_)
                              · refine g_iload (j := 5) dX8_safest_208 rfl ?_
                                refine g_bipush (v := (-9)) dX8_safest_210 (by decide) ?_
                                refine g_icmp_ne (tgt := 219) dX8_safest_212 (by decide) (fun h212 => ?_) (fun h212 => ?_)
                                · refine g_iconst (v := nI 1) dX8_safest_219 (by decide) ?_
                                  refine g_iload (j := 4) dX8_safest_220 rfl ?_
                                  refine g_bipush (v := (-9)) dX8_safest_222 (by decide) ?_
                                  refine g_icmp_ne (tgt := 231) dX8_safest_224 (by decide) (fun h224 => ?_) (fun h224 => ?_)
                                  · refine g_iconst (v := nI 2) dX8_safest_231 (by decide) ?_
                                    refine n_iadd (a := 1) (b := 2) dX8_safest_232 ?_
                                    refine g_iload (j := 2) dX8_safest_233 rfl ?_
                                    refine n_if_eq (tgt := 242) (rng_lit 0 rfl) dX8_safest_235 (by decide) (fun h235 => ?_) (fun h235 => ?_)
                                    · refine g_iconst (v := nI 0) dX8_safest_242 (by decide) ?_
                                      refine n_iadd (a := (1 + 2)) (b := 0) dX8_safest_243 ?_
                                      refine g_iret rfl rfl dX8_safest_244 ?_
                                      refine ⟨?_, _, _, _, rfl⟩
                                      unfold pSafest
                                      rw [if_pos ik, if_pos ix, ek, if_pos hz, if_pos (by decide : nI 0 = 0), hon, hbk, show decide (sUp r wk (r (1 + k)) < ho (r (1 + k))) = false from decide_eq_false (by first | omega | (have := tI_none hT ht; omega))]
                                      rfl
                                    · exact absurd h235 (by decide)
                                  · exact absurd h224 (nI_n9 (by omega))
                                · exact absurd h212 (nI_n9 (by omega))
                              · exact absurd h200 (by decide)
                            · exact absurd h173 (by decide)
                    · exact absurd h132 (nI_n9 (by omega))
              · exact absurd rfl h99
            · have hts := tI_some hT ht
              refine g_iload (j := 0) dX8_safest_95 rfl ?_
              refine g_bipush (v := (-9)) dX8_safest_97 (by decide) ?_
              refine g_icmp_eq (tgt := 121) dX8_safest_99 (by decide) (fun h99 => ?_) (fun h99 => ?_)
              · exact absurd h99 (nI_n9 (by omega))
              · refine g_aload_n (i := 0) (j := 4) dX8_safest_102 rfl rfl ?_
                refine g_iload_n (i := 3) (j := 3) dX8_safest_103 rfl rfl ?_
                refine c_V (st1 := [.int (nI (sUp r wk (r (1 + k))))]) (ctX8_upAt (c := r (1 + k)) hrk (by omega) (by first | omega | assumption | exact hpa _ | exact hwa _ | exact hr1 _ (by omega) | exact hr6 _ (by omega) | exact hr11 _ (by omega) | exact hr _ | exact Nat.le_succ_of_le (hr _) | (apply sTo_le; first | omega | exact hr1 _ (by omega)))) kX8_upAt lX8_171 (by decide) rfl rfl rfl rfl (by exact Nat.le_of_ble_eq_true rfl) dX8_safest_104 rfl rfl ?_
                refine g_aload_n (i := 0) (j := 4) dX8_safest_107 rfl rfl ?_
                refine g_get fX8_29 rfl rfl dX8_safest_108 ?_
                refine g_iload (j := 0) dX8_safest_111 rfl ?_
                refine n_iald (x := t) rfl (by omega) (rng_lit 2 rfl) dX8_safest_113 ?_
                rw [hts.2.2.2.1]
                refine n_icmp_ge (tgt := 121) (by omega) (by omega) dX8_safest_114 (by decide) (fun h114 => ?_) (fun h114 => ?_)
                · refine g_iconst (v := nI 0) dX8_safest_121 (by decide) ?_
                  refine g_istore (lv' := [(7, .int (nI 0)), (6, .int (nI t)), (5, .int (rO (sArr h so la ri (pa k) (wa k) lo 2 (r (1 + k)) (r 0)))), (4, .int (rO (sArr h so la ri (pa k) (wa k) lo 1 (r (1 + k)) (r 0)))), (3, .int (nI (r (1 + k)))), (0, .ref 0), (1, .int (nI k)), (2, .int (nI 0))]) dX8_safest_122 (by decide) rfl ?_
                  rcases hon : sArr h so la ri (pa k) (wa k) lo 1 (r (1 + k)) (r 0) with _ | a
                  · skip
                    rcases hbk : sArr h so la ri (pa k) (wa k) lo 2 (r (1 + k)) (r 0) with _ | b
                    · skip
                      refine g_iload (j := 3) dX8_safest_124 rfl ?_
                      refine g_istore (lv' := [(8, .int (-9)), (7, .int (nI 0)), (6, .int (nI t)), (5, .int (-9)), (4, .int (-9)), (3, .int (nI (r (1 + k)))), (0, .ref 0), (1, .int (nI k)), (2, .int (nI 0))]) dX8_safest_126 (by decide) rfl ?_
                      refine g_iload (j := 4) dX8_safest_128 rfl ?_
                      refine g_bipush (v := (-9)) dX8_safest_130 (by decide) ?_
                      refine g_icmp_ne (tgt := 140) dX8_safest_132 (by decide) (fun h132 => ?_) (fun h132 => ?_)
                      · exact absurd rfl h132
                      · refine g_bipush (v := (-9)) dX8_safest_135 (by decide) ?_
                        refine g_goto (tgt := 141) dX8_safest_137 (by decide) ?_
                        refine g_istore (lv' := [(9, .int (-9)), (8, .int (-9)), (7, .int (nI 0)), (6, .int (nI t)), (5, .int (-9)), (4, .int (-9)), (3, .int (nI (r (1 + k)))), (0, .ref 0), (1, .int (nI k)), (2, .int (nI 0))]) dX8_safest_141 (by decide) rfl ?_
                        refine g_iload (j := 4) dX8_safest_143 rfl ?_
                        refine g_bipush (v := (-9)) dX8_safest_145 (by decide) ?_
                        refine g_icmp_eq (tgt := 171) dX8_safest_147 (by decide) (fun h147 => ?_) (fun h147 => ?_)
                        · refine g_iload (j := 2) dX8_safest_171 rfl ?_
                          refine n_if_eq (tgt := 198) (rng_lit 0 rfl) dX8_safest_173 (by decide) (fun h173 => ?_) (fun h173 => ?_)
                          · refine g_iload_n (i := 2) (j := 9) dX8_safest_198 rfl rfl ?_
                            refine g_iconst (v := nI 1) dX8_safest_199 (by decide) ?_
                            refine n_icmp_ne (tgt := 208) (rng_lit 0 rfl) (rng_lit 1 rfl) dX8_safest_200 (by decide) (fun h200 => ?_) (fun h200 => ?_)
                            · refine g_iload (j := 5) dX8_safest_208 rfl ?_
                              refine g_bipush (v := (-9)) dX8_safest_210 (by decide) ?_
                              refine g_icmp_ne (tgt := 219) dX8_safest_212 (by decide) (fun h212 => ?_) (fun h212 => ?_)
                              · exact absurd rfl h212
                              · refine g_iconst (v := nI 0) dX8_safest_215 (by decide) ?_
                                refine g_goto (tgt := 220) dX8_safest_216 (by decide) ?_
                                refine g_iload (j := 4) dX8_safest_220 rfl ?_
                                refine g_bipush (v := (-9)) dX8_safest_222 (by decide) ?_
                                refine g_icmp_ne (tgt := 231) dX8_safest_224 (by decide) (fun h224 => ?_) (fun h224 => ?_)
                                · exact absurd rfl h224
                                · refine g_iconst (v := nI 0) dX8_safest_227 (by decide) ?_
                                  refine g_goto (tgt := 232) dX8_safest_228 (by decide) ?_
                                  refine n_iadd (a := 0) (b := 0) dX8_safest_232 ?_
                                  refine g_iload (j := 2) dX8_safest_233 rfl ?_
                                  refine n_if_eq (tgt := 242) (rng_lit 0 rfl) dX8_safest_235 (by decide) (fun h235 => ?_) (fun h235 => ?_)
                                  · refine g_iconst (v := nI 0) dX8_safest_242 (by decide) ?_
                                    refine n_iadd (a := (0 + 0)) (b := 0) dX8_safest_243 ?_
                                    refine g_iret rfl rfl dX8_safest_244 ?_
                                    refine ⟨?_, _, _, _, rfl⟩
                                    unfold pSafest
                                    rw [if_pos ik, if_pos ix, ek, if_pos hz, if_pos (by decide : nI 0 = 0), hon, hbk, show decide (sUp r wk (r (1 + k)) < ho (r (1 + k))) = false from decide_eq_false (by first | omega | (have := tI_none hT ht; omega))]
                                    rfl
                                  · exact absurd h235 (by decide)
                            · exact absurd h200 (by decide)
                          · exact absurd h173 (by decide)
                        · exact absurd rfl h147
                    · have qb := sGone_lt _ _ _ _ _ _ _ _ _ _ _ _ b q0 hbk
                      refine g_iload (j := 3) dX8_safest_124 rfl ?_
                      refine g_istore (lv' := [(8, .int (-9)), (7, .int (nI 0)), (6, .int (nI t)), (5, .int (nI b)), (4, .int (-9)), (3, .int (nI (r (1 + k)))), (0, .ref 0), (1, .int (nI k)), (2, .int (nI 0))]) dX8_safest_126 (by decide) rfl ?_
                      refine g_iload (j := 4) dX8_safest_128 rfl ?_
                      refine g_bipush (v := (-9)) dX8_safest_130 (by decide) ?_
                      refine g_icmp_ne (tgt := 140) dX8_safest_132 (by decide) (fun h132 => ?_) (fun h132 => ?_)
                      · exact absurd rfl h132
                      · refine g_bipush (v := (-9)) dX8_safest_135 (by decide) ?_
                        refine g_goto (tgt := 141) dX8_safest_137 (by decide) ?_
                        refine g_istore (lv' := [(9, .int (-9)), (8, .int (-9)), (7, .int (nI 0)), (6, .int (nI t)), (5, .int (nI b)), (4, .int (-9)), (3, .int (nI (r (1 + k)))), (0, .ref 0), (1, .int (nI k)), (2, .int (nI 0))]) dX8_safest_141 (by decide) rfl ?_
                        refine g_iload (j := 4) dX8_safest_143 rfl ?_
                        refine g_bipush (v := (-9)) dX8_safest_145 (by decide) ?_
                        refine g_icmp_eq (tgt := 171) dX8_safest_147 (by decide) (fun h147 => ?_) (fun h147 => ?_)
                        · exact absurd h147 (nI_n9 (by omega))
                        · refine g_iload (j := 0) dX8_safest_150 rfl ?_
                          refine g_bipush (v := (-9)) dX8_safest_152 (by decide) ?_
                          refine g_icmp_eq (tgt := 164) dX8_safest_154 (by decide) (fun h154 => ?_) (fun h154 => ?_)
                          · refine g_iload (j := 4) dX8_safest_164 rfl ?_
                            refine g_istore (lv' := [(8, .int (nI b)), (9, .int (-9)), (7, .int (nI 0)), (6, .int (nI t)), (5, .int (nI b)), (4, .int (-9)), (3, .int (nI (r (1 + k)))), (0, .ref 0), (1, .int (nI k)), (2, .int (nI 0))]) dX8_safest_166 (by decide) rfl ?_
                            refine g_iconst (v := nI 1) dX8_safest_168 (by decide) ?_
                            refine g_istore (lv' := [(9, .int (nI 1)), (8, .int (nI b)), (7, .int (nI 0)), (6, .int (nI t)), (5, .int (nI b)), (4, .int (-9)), (3, .int (nI (r (1 + k)))), (0, .ref 0), (1, .int (nI k)), (2, .int (nI 0))]) dX8_safest_169 (by decide) rfl ?_
                            refine g_iload (j := 2) dX8_safest_171 rfl ?_
                            refine n_if_eq (tgt := 198) (rng_lit 0 rfl) dX8_safest_173 (by decide) (fun h173 => ?_) (fun h173 => ?_)
                            · refine g_iload_n (i := 2) (j := 9) dX8_safest_198 rfl rfl ?_
                              refine g_iconst (v := nI 1) dX8_safest_199 (by decide) ?_
                              refine n_icmp_ne (tgt := 208) (rng_lit 0 rfl) (rng_lit 1 rfl) dX8_safest_200 (by decide) (fun h200 => ?_) (fun h200 => ?_)
                              · refine g_iload (j := 5) dX8_safest_208 rfl ?_
                                refine g_bipush (v := (-9)) dX8_safest_210 (by decide) ?_
                                refine g_icmp_ne (tgt := 219) dX8_safest_212 (by decide) (fun h212 => ?_) (fun h212 => ?_)
                                · exact absurd rfl h212
                                · refine g_iconst (v := nI 0) dX8_safest_215 (by decide) ?_
                                  refine g_goto (tgt := 220) dX8_safest_216 (by decide) ?_
                                  refine g_iload (j := 4) dX8_safest_220 rfl ?_
                                  refine g_bipush (v := (-9)) dX8_safest_222 (by decide) ?_
                                  refine g_icmp_ne (tgt := 231) dX8_safest_224 (by decide) (fun h224 => ?_) (fun h224 => ?_)
                                  · refine g_iconst (v := nI 2) dX8_safest_231 (by decide) ?_
                                    refine n_iadd (a := 0) (b := 2) dX8_safest_232 ?_
                                    refine g_iload (j := 2) dX8_safest_233 rfl ?_
                                    refine n_if_eq (tgt := 242) (rng_lit 0 rfl) dX8_safest_235 (by decide) (fun h235 => ?_) (fun h235 => ?_)
                                    · refine g_iconst (v := nI 0) dX8_safest_242 (by decide) ?_
                                      refine n_iadd (a := (0 + 2)) (b := 0) dX8_safest_243 ?_
                                      refine g_iret rfl rfl dX8_safest_244 ?_
                                      refine ⟨?_, _, _, _, rfl⟩
                                      unfold pSafest
                                      rw [if_pos ik, if_pos ix, ek, if_pos hz, if_pos (by decide : nI 0 = 0), hon, hbk, show decide (sUp r wk (r (1 + k)) < ho (r (1 + k))) = false from decide_eq_false (by first | omega | (have := tI_none hT ht; omega))]
                                      rfl
                                    · exact absurd h235 (by decide)
                                  · exact absurd h224 (nI_n9 (by omega))
                              · exact absurd h200 (by decide)
                            · exact absurd h173 (by decide)
                          · exact absurd rfl h154
                  · have qa := sGone_lt _ _ _ _ _ _ _ _ _ _ _ _ a q0 hon
                    rcases hbk : sArr h so la ri (pa k) (wa k) lo 2 (r (1 + k)) (r 0) with _ | b
                    · skip
                      refine g_iload (j := 3) dX8_safest_124 rfl ?_
                      refine g_istore (lv' := [(8, .int (nI a)), (7, .int (nI 0)), (6, .int (nI t)), (5, .int (-9)), (4, .int (nI a)), (3, .int (nI (r (1 + k)))), (0, .ref 0), (1, .int (nI k)), (2, .int (nI 0))]) dX8_safest_126 (by decide) rfl ?_
                      refine g_iload (j := 4) dX8_safest_128 rfl ?_
                      refine g_bipush (v := (-9)) dX8_safest_130 (by decide) ?_
                      refine g_icmp_ne (tgt := 140) dX8_safest_132 (by decide) (fun h132 => ?_) (fun h132 => ?_)
                      · refine g_iconst (v := nI 0) dX8_safest_140 (by decide) ?_
                        refine g_istore (lv' := [(9, .int (nI 0)), (8, .int (nI a)), (7, .int (nI 0)), (6, .int (nI t)), (5, .int (-9)), (4, .int (nI a)), (3, .int (nI (r (1 + k)))), (0, .ref 0), (1, .int (nI k)), (2, .int (nI 0))]) dX8_safest_141 (by decide) rfl ?_
                        refine g_iload (j := 4) dX8_safest_143 rfl ?_
                        refine g_bipush (v := (-9)) dX8_safest_145 (by decide) ?_
                        refine g_icmp_eq (tgt := 171) dX8_safest_147 (by decide) (fun h147 => ?_) (fun h147 => ?_)
                        · refine g_iload (j := 2) dX8_safest_171 rfl ?_
                          refine n_if_eq (tgt := 198) (rng_lit 0 rfl) dX8_safest_173 (by decide) (fun h173 => ?_) (fun h173 => ?_)
                          · refine g_iload_n (i := 2) (j := 9) dX8_safest_198 rfl rfl ?_
                            refine g_iconst (v := nI 1) dX8_safest_199 (by decide) ?_
                            refine n_icmp_ne (tgt := 208) (rng_lit 0 rfl) (rng_lit 1 rfl) dX8_safest_200 (by decide) (fun h200 => ?_) (fun h200 => ?_)
                            · refine g_iload (j := 5) dX8_safest_208 rfl ?_
                              refine g_bipush (v := (-9)) dX8_safest_210 (by decide) ?_
                              refine g_icmp_ne (tgt := 219) dX8_safest_212 (by decide) (fun h212 => ?_) (fun h212 => ?_)
                              · refine g_iconst (v := nI 1) dX8_safest_219 (by decide) ?_
                                refine g_iload (j := 4) dX8_safest_220 rfl ?_
                                refine g_bipush (v := (-9)) dX8_safest_222 (by decide) ?_
                                refine g_icmp_ne (tgt := 231) dX8_safest_224 (by decide) (fun h224 => ?_) (fun h224 => ?_)
                                · exact absurd rfl h224
                                · refine g_iconst (v := nI 0) dX8_safest_227 (by decide) ?_
                                  refine g_goto (tgt := 232) dX8_safest_228 (by decide) ?_
                                  refine n_iadd (a := 1) (b := 0) dX8_safest_232 ?_
                                  refine g_iload (j := 2) dX8_safest_233 rfl ?_
                                  refine n_if_eq (tgt := 242) (rng_lit 0 rfl) dX8_safest_235 (by decide) (fun h235 => ?_) (fun h235 => ?_)
                                  · refine g_iconst (v := nI 0) dX8_safest_242 (by decide) ?_
                                    refine n_iadd (a := (1 + 0)) (b := 0) dX8_safest_243 ?_
                                    refine g_iret rfl rfl dX8_safest_244 ?_
                                    refine ⟨?_, _, _, _, rfl⟩
                                    unfold pSafest
                                    rw [if_pos ik, if_pos ix, ek, if_pos hz, if_pos (by decide : nI 0 = 0), hon, hbk, show decide (sUp r wk (r (1 + k)) < ho (r (1 + k))) = false from decide_eq_false (by first | omega | (have := tI_none hT ht; omega))]
                                    rfl
                                  · exact absurd h235 (by decide)
                              · exact absurd h212 (nI_n9 (by omega))
                            · exact absurd h200 (by decide)
                          · exact absurd h173 (by decide)
                        · exact absurd rfl h147
                      · exact absurd h132 (nI_n9 (by omega))
                    · have qb := sGone_lt _ _ _ _ _ _ _ _ _ _ _ _ b q0 hbk
                      refine g_iload (j := 3) dX8_safest_124 rfl ?_
                      refine g_istore (lv' := [(8, .int (nI a)), (7, .int (nI 0)), (6, .int (nI t)), (5, .int (nI b)), (4, .int (nI a)), (3, .int (nI (r (1 + k)))), (0, .ref 0), (1, .int (nI k)), (2, .int (nI 0))]) dX8_safest_126 (by decide) rfl ?_
                      refine g_iload (j := 4) dX8_safest_128 rfl ?_
                      refine g_bipush (v := (-9)) dX8_safest_130 (by decide) ?_
                      refine g_icmp_ne (tgt := 140) dX8_safest_132 (by decide) (fun h132 => ?_) (fun h132 => ?_)
                      · refine g_iconst (v := nI 0) dX8_safest_140 (by decide) ?_
                        refine g_istore (lv' := [(9, .int (nI 0)), (8, .int (nI a)), (7, .int (nI 0)), (6, .int (nI t)), (5, .int (nI b)), (4, .int (nI a)), (3, .int (nI (r (1 + k)))), (0, .ref 0), (1, .int (nI k)), (2, .int (nI 0))]) dX8_safest_141 (by decide) rfl ?_
                        refine g_iload (j := 4) dX8_safest_143 rfl ?_
                        refine g_bipush (v := (-9)) dX8_safest_145 (by decide) ?_
                        refine g_icmp_eq (tgt := 171) dX8_safest_147 (by decide) (fun h147 => ?_) (fun h147 => ?_)
                        · exact absurd h147 (nI_n9 (by omega))
                        · refine g_iload (j := 0) dX8_safest_150 rfl ?_
                          refine g_bipush (v := (-9)) dX8_safest_152 (by decide) ?_
                          refine g_icmp_eq (tgt := 164) dX8_safest_154 (by decide) (fun h154 => ?_) (fun h154 => ?_)
                          · exact absurd h154 (nI_n9 (by omega))
                          · refine g_iload (j := 4) dX8_safest_157 rfl ?_
                            refine g_iload (j := 1) dX8_safest_159 rfl ?_
                            refine n_icmp_ge (tgt := 171) (by omega) (by omega) dX8_safest_161 (by decide) (fun h161 => ?_) (fun h161 => ?_)
                            · refine g_iload (j := 2) dX8_safest_171 rfl ?_
                              refine n_if_eq (tgt := 198) (rng_lit 0 rfl) dX8_safest_173 (by decide) (fun h173 => ?_) (fun h173 => ?_)
                              · refine g_iload_n (i := 2) (j := 9) dX8_safest_198 rfl rfl ?_
                                refine g_iconst (v := nI 1) dX8_safest_199 (by decide) ?_
                                refine n_icmp_ne (tgt := 208) (rng_lit 0 rfl) (rng_lit 1 rfl) dX8_safest_200 (by decide) (fun h200 => ?_) (fun h200 => ?_)
                                · refine g_iload (j := 5) dX8_safest_208 rfl ?_
                                  refine g_bipush (v := (-9)) dX8_safest_210 (by decide) ?_
                                  refine g_icmp_ne (tgt := 219) dX8_safest_212 (by decide) (fun h212 => ?_) (fun h212 => ?_)
                                  · refine g_iconst (v := nI 1) dX8_safest_219 (by decide) ?_
                                    refine g_iload (j := 4) dX8_safest_220 rfl ?_
                                    refine g_bipush (v := (-9)) dX8_safest_222 (by decide) ?_
                                    refine g_icmp_ne (tgt := 231) dX8_safest_224 (by decide) (fun h224 => ?_) (fun h224 => ?_)
                                    · refine g_iconst (v := nI 2) dX8_safest_231 (by decide) ?_
                                      refine n_iadd (a := 1) (b := 2) dX8_safest_232 ?_
                                      refine g_iload (j := 2) dX8_safest_233 rfl ?_
                                      refine n_if_eq (tgt := 242) (rng_lit 0 rfl) dX8_safest_235 (by decide) (fun h235 => ?_) (fun h235 => ?_)
                                      · refine g_iconst (v := nI 0) dX8_safest_242 (by decide) ?_
                                        refine n_iadd (a := (1 + 2)) (b := 0) dX8_safest_243 ?_
                                        refine g_iret rfl rfl dX8_safest_244 ?_
                                        refine ⟨?_, _, _, _, rfl⟩
                                        unfold pSafest
                                        rw [if_pos ik, if_pos ix, ek, if_pos hz, if_pos (by decide : nI 0 = 0), hon, hbk, show decide (sUp r wk (r (1 + k)) < ho (r (1 + k))) = false from decide_eq_false (by first | omega | (have := tI_none hT ht; omega))]
                                        rfl
                                      · exact absurd h235 (by decide)
                                    · exact absurd h224 (nI_n9 (by omega))
                                  · exact absurd h212 (nI_n9 (by omega))
                                · exact absurd h200 (by decide)
                              · exact absurd h173 (by decide)
                            · refine g_iload (j := 4) dX8_safest_164 rfl ?_
                              refine g_istore (lv' := [(8, .int (nI b)), (9, .int (nI 0)), (7, .int (nI 0)), (6, .int (nI t)), (5, .int (nI b)), (4, .int (nI a)), (3, .int (nI (r (1 + k)))), (0, .ref 0), (1, .int (nI k)), (2, .int (nI 0))]) dX8_safest_166 (by decide) rfl ?_
                              refine g_iconst (v := nI 1) dX8_safest_168 (by decide) ?_
                              refine g_istore (lv' := [(9, .int (nI 1)), (8, .int (nI b)), (7, .int (nI 0)), (6, .int (nI t)), (5, .int (nI b)), (4, .int (nI a)), (3, .int (nI (r (1 + k)))), (0, .ref 0), (1, .int (nI k)), (2, .int (nI 0))]) dX8_safest_169 (by decide) rfl ?_
                              refine g_iload (j := 2) dX8_safest_171 rfl ?_
                              refine n_if_eq (tgt := 198) (rng_lit 0 rfl) dX8_safest_173 (by decide) (fun h173 => ?_) (fun h173 => ?_)
                              · refine g_iload_n (i := 2) (j := 9) dX8_safest_198 rfl rfl ?_
                                refine g_iconst (v := nI 1) dX8_safest_199 (by decide) ?_
                                refine n_icmp_ne (tgt := 208) (rng_lit 0 rfl) (rng_lit 1 rfl) dX8_safest_200 (by decide) (fun h200 => ?_) (fun h200 => ?_)
                                · refine g_iload (j := 5) dX8_safest_208 rfl ?_
                                  refine g_bipush (v := (-9)) dX8_safest_210 (by decide) ?_
                                  refine g_icmp_ne (tgt := 219) dX8_safest_212 (by decide) (fun h212 => ?_) (fun h212 => ?_)
                                  · refine g_iconst (v := nI 1) dX8_safest_219 (by decide) ?_
                                    refine g_iload (j := 4) dX8_safest_220 rfl ?_
                                    refine g_bipush (v := (-9)) dX8_safest_222 (by decide) ?_
                                    refine g_icmp_ne (tgt := 231) dX8_safest_224 (by decide) (fun h224 => ?_) (fun h224 => ?_)
                                    · refine g_iconst (v := nI 2) dX8_safest_231 (by decide) ?_
                                      refine n_iadd (a := 1) (b := 2) dX8_safest_232 ?_
                                      refine g_iload (j := 2) dX8_safest_233 rfl ?_
                                      refine n_if_eq (tgt := 242) (rng_lit 0 rfl) dX8_safest_235 (by decide) (fun h235 => ?_) (fun h235 => ?_)
                                      · refine g_iconst (v := nI 0) dX8_safest_242 (by decide) ?_
                                        refine n_iadd (a := (1 + 2)) (b := 0) dX8_safest_243 ?_
                                        refine g_iret rfl rfl dX8_safest_244 ?_
                                        refine ⟨?_, _, _, _, rfl⟩
                                        unfold pSafest
                                        rw [if_pos ik, if_pos ix, ek, if_pos hz, if_pos (by decide : nI 0 = 0), hon, hbk, show decide (sUp r wk (r (1 + k)) < ho (r (1 + k))) = false from decide_eq_false (by first | omega | (have := tI_none hT ht; omega))]
                                        rfl
                                      · exact absurd h235 (by decide)
                                    · exact absurd h224 (nI_n9 (by omega))
                                  · exact absurd h212 (nI_n9 (by omega))
                                · exact absurd h200 (by decide)
                              · exact absurd h173 (by decide)
                      · exact absurd h132 (nI_n9 (by omega))
                · refine g_iconst (v := nI 1) dX8_safest_117 (by decide) ?_
                  refine g_goto (tgt := 122) dX8_safest_118 (by decide) ?_
                  refine g_istore (lv' := [(7, .int (nI 1)), (6, .int (nI t)), (5, .int (rO (sArr h so la ri (pa k) (wa k) lo 2 (r (1 + k)) (r 0)))), (4, .int (rO (sArr h so la ri (pa k) (wa k) lo 1 (r (1 + k)) (r 0)))), (3, .int (nI (r (1 + k)))), (0, .ref 0), (1, .int (nI k)), (2, .int (nI 0))]) dX8_safest_122 (by decide) rfl ?_
                  rcases hon : sArr h so la ri (pa k) (wa k) lo 1 (r (1 + k)) (r 0) with _ | a
                  · skip
                    rcases hbk : sArr h so la ri (pa k) (wa k) lo 2 (r (1 + k)) (r 0) with _ | b
                    · skip
                      refine g_iload (j := 3) dX8_safest_124 rfl ?_
                      refine g_istore (lv' := [(8, .int (-9)), (7, .int (nI 1)), (6, .int (nI t)), (5, .int (-9)), (4, .int (-9)), (3, .int (nI (r (1 + k)))), (0, .ref 0), (1, .int (nI k)), (2, .int (nI 0))]) dX8_safest_126 (by decide) rfl ?_
                      refine g_iload (j := 4) dX8_safest_128 rfl ?_
                      refine g_bipush (v := (-9)) dX8_safest_130 (by decide) ?_
                      refine g_icmp_ne (tgt := 140) dX8_safest_132 (by decide) (fun h132 => ?_) (fun h132 => ?_)
                      · exact absurd rfl h132
                      · refine g_bipush (v := (-9)) dX8_safest_135 (by decide) ?_
                        refine g_goto (tgt := 141) dX8_safest_137 (by decide) ?_
                        refine g_istore (lv' := [(9, .int (-9)), (8, .int (-9)), (7, .int (nI 1)), (6, .int (nI t)), (5, .int (-9)), (4, .int (-9)), (3, .int (nI (r (1 + k)))), (0, .ref 0), (1, .int (nI k)), (2, .int (nI 0))]) dX8_safest_141 (by decide) rfl ?_
                        refine g_iload (j := 4) dX8_safest_143 rfl ?_
                        refine g_bipush (v := (-9)) dX8_safest_145 (by decide) ?_
                        refine g_icmp_eq (tgt := 171) dX8_safest_147 (by decide) (fun h147 => ?_) (fun h147 => ?_)
                        · refine g_iload (j := 2) dX8_safest_171 rfl ?_
                          refine n_if_eq (tgt := 198) (rng_lit 1 rfl) dX8_safest_173 (by decide) (fun h173 => ?_) (fun h173 => ?_)
                          · exact absurd h173 (by decide)
                          · refine g_iload (j := 0) dX8_safest_176 rfl ?_
                            refine g_bipush (v := (-9)) dX8_safest_178 (by decide) ?_
                            refine g_icmp_eq (tgt := 195) dX8_safest_180 (by decide) (fun h180 => ?_) (fun h180 => ?_)
                            · refine g_iconst (v := nI 2) dX8_safest_195 (by decide) ?_
                              refine g_istore (lv' := [(9, .int (nI 2)), (8, .int (-9)), (7, .int (nI 1)), (6, .int (nI t)), (5, .int (-9)), (4, .int (-9)), (3, .int (nI (r (1 + k)))), (0, .ref 0), (1, .int (nI k)), (2, .int (nI 0))]) dX8_safest_196 (by decide) rfl ?_
                              refine g_iload_n (i := 2) (j := 9) dX8_safest_198 rfl rfl ?_
                              refine g_iconst (v := nI 1) dX8_safest_199 (by decide) ?_
                              refine n_icmp_ne (tgt := 208) (rng_lit 0 rfl) (rng_lit 1 rfl) dX8_safest_200 (by decide) (fun h200 => ?_) (fun h200 => ?_)
                              · refine g_iload (j := 5) dX8_safest_208 rfl ?_
                                refine g_bipush (v := (-9)) dX8_safest_210 (by decide) ?_
                                refine g_icmp_ne (tgt := 219) dX8_safest_212 (by decide) (fun h212 => ?_) (fun h212 => ?_)
                                · exact absurd rfl h212
                                · refine g_iconst (v := nI 0) dX8_safest_215 (by decide) ?_
                                  refine g_goto (tgt := 220) dX8_safest_216 (by decide) ?_
                                  refine g_iload (j := 4) dX8_safest_220 rfl ?_
                                  refine g_bipush (v := (-9)) dX8_safest_222 (by decide) ?_
                                  refine g_icmp_ne (tgt := 231) dX8_safest_224 (by decide) (fun h224 => ?_) (fun h224 => ?_)
                                  · exact absurd rfl h224
                                  · refine g_iconst (v := nI 0) dX8_safest_227 (by decide) ?_
                                    refine g_goto (tgt := 232) dX8_safest_228 (by decide) ?_
                                    refine n_iadd (a := 0) (b := 0) dX8_safest_232 ?_
                                    refine g_iload (j := 2) dX8_safest_233 rfl ?_
                                    refine n_if_eq (tgt := 242) (rng_lit 1 rfl) dX8_safest_235 (by decide) (fun h235 => ?_) (fun h235 => ?_)
                                    · exact absurd h235 (by decide)
                                    · refine g_iconst (v := nI 4) dX8_safest_238 (by decide) ?_
                                      refine g_goto (tgt := 243) dX8_safest_239 (by decide) ?_
                                      refine n_iadd (a := (0 + 0)) (b := 4) dX8_safest_243 ?_
                                      refine g_iret rfl rfl dX8_safest_244 ?_
                                      refine ⟨?_, _, _, _, rfl⟩
                                      unfold pSafest
                                      rw [if_pos ik, if_pos ix, ek, if_pos hz, if_pos (by decide : nI 0 = 0), hon, hbk, show decide (sUp r wk (r (1 + k)) < ho (r (1 + k))) = true from decide_eq_true (by first | omega | (have := tI_none hT ht; omega))]
                                      rfl
                              · exact absurd h200 (by decide)
                            · exact absurd rfl h180
                        · exact absurd rfl h147
                    · have qb := sGone_lt _ _ _ _ _ _ _ _ _ _ _ _ b q0 hbk
                      refine g_iload (j := 3) dX8_safest_124 rfl ?_
                      refine g_istore (lv' := [(8, .int (-9)), (7, .int (nI 1)), (6, .int (nI t)), (5, .int (nI b)), (4, .int (-9)), (3, .int (nI (r (1 + k)))), (0, .ref 0), (1, .int (nI k)), (2, .int (nI 0))]) dX8_safest_126 (by decide) rfl ?_
                      refine g_iload (j := 4) dX8_safest_128 rfl ?_
                      refine g_bipush (v := (-9)) dX8_safest_130 (by decide) ?_
                      refine g_icmp_ne (tgt := 140) dX8_safest_132 (by decide) (fun h132 => ?_) (fun h132 => ?_)
                      · exact absurd rfl h132
                      · refine g_bipush (v := (-9)) dX8_safest_135 (by decide) ?_
                        refine g_goto (tgt := 141) dX8_safest_137 (by decide) ?_
                        refine g_istore (lv' := [(9, .int (-9)), (8, .int (-9)), (7, .int (nI 1)), (6, .int (nI t)), (5, .int (nI b)), (4, .int (-9)), (3, .int (nI (r (1 + k)))), (0, .ref 0), (1, .int (nI k)), (2, .int (nI 0))]) dX8_safest_141 (by decide) rfl ?_
                        refine g_iload (j := 4) dX8_safest_143 rfl ?_
                        refine g_bipush (v := (-9)) dX8_safest_145 (by decide) ?_
                        refine g_icmp_eq (tgt := 171) dX8_safest_147 (by decide) (fun h147 => ?_) (fun h147 => ?_)
                        · exact absurd h147 (nI_n9 (by omega))
                        · refine g_iload (j := 0) dX8_safest_150 rfl ?_
                          refine g_bipush (v := (-9)) dX8_safest_152 (by decide) ?_
                          refine g_icmp_eq (tgt := 164) dX8_safest_154 (by decide) (fun h154 => ?_) (fun h154 => ?_)
                          · refine g_iload (j := 4) dX8_safest_164 rfl ?_
                            refine g_istore (lv' := [(8, .int (nI b)), (9, .int (-9)), (7, .int (nI 1)), (6, .int (nI t)), (5, .int (nI b)), (4, .int (-9)), (3, .int (nI (r (1 + k)))), (0, .ref 0), (1, .int (nI k)), (2, .int (nI 0))]) dX8_safest_166 (by decide) rfl ?_
                            refine g_iconst (v := nI 1) dX8_safest_168 (by decide) ?_
                            refine g_istore (lv' := [(9, .int (nI 1)), (8, .int (nI b)), (7, .int (nI 1)), (6, .int (nI t)), (5, .int (nI b)), (4, .int (-9)), (3, .int (nI (r (1 + k)))), (0, .ref 0), (1, .int (nI k)), (2, .int (nI 0))]) dX8_safest_169 (by decide) rfl ?_
                            refine g_iload (j := 2) dX8_safest_171 rfl ?_
                            refine n_if_eq (tgt := 198) (rng_lit 1 rfl) dX8_safest_173 (by decide) (fun h173 => ?_) (fun h173 => ?_)
                            · exact absurd h173 (by decide)
                            · refine g_iload (j := 0) dX8_safest_176 rfl ?_
                              refine g_bipush (v := (-9)) dX8_safest_178 (by decide) ?_
                              refine g_icmp_eq (tgt := 195) dX8_safest_180 (by decide) (fun h180 => ?_) (fun h180 => ?_)
                              · exact absurd h180 (nI_n9 (by omega))
                              · refine g_aload_n (i := 0) (j := 7) dX8_safest_183 rfl rfl ?_
                                refine g_get fX8_47 rfl rfl dX8_safest_184 ?_
                                refine g_bipush (v := nI 15) dX8_safest_187 (by decide) ?_
                                refine n_iald (x := 15) rfl (by omega) (rng_lit 16 rfl) dX8_safest_189 ?_
                                refine g_topi (y := nI (r 0)) (by rw [pg_t]) ?_
                                refine g_iload (j := 1) dX8_safest_190 rfl ?_
                                refine n_icmp_ge (tgt := 198) (by omega) (by omega) dX8_safest_192 (by decide) (fun h192 => ?_) (fun h192 => ?_)
                                · refine g_iload_n (i := 2) (j := 9) dX8_safest_198 rfl rfl ?_
                                  refine g_iconst (v := nI 1) dX8_safest_199 (by decide) ?_
                                  refine n_icmp_ne (tgt := 208) (rng_lit 0 rfl) (rng_lit 1 rfl) dX8_safest_200 (by decide) (fun h200 => ?_) (fun h200 => ?_)
                                  · refine g_iload (j := 5) dX8_safest_208 rfl ?_
                                    refine g_bipush (v := (-9)) dX8_safest_210 (by decide) ?_
                                    refine g_icmp_ne (tgt := 219) dX8_safest_212 (by decide) (fun h212 => ?_) (fun h212 => ?_)
                                    · exact absurd rfl h212
                                    · refine g_iconst (v := nI 0) dX8_safest_215 (by decide) ?_
                                      refine g_goto (tgt := 220) dX8_safest_216 (by decide) ?_
                                      refine g_iload (j := 4) dX8_safest_220 rfl ?_
                                      refine g_bipush (v := (-9)) dX8_safest_222 (by decide) ?_
                                      refine g_icmp_ne (tgt := 231) dX8_safest_224 (by decide) (fun h224 => ?_) (fun h224 => ?_)
                                      · refine g_iconst (v := nI 2) dX8_safest_231 (by decide) ?_
                                        refine n_iadd (a := 0) (b := 2) dX8_safest_232 ?_
                                        refine g_iload (j := 2) dX8_safest_233 rfl ?_
                                        refine n_if_eq (tgt := 242) (rng_lit 1 rfl) dX8_safest_235 (by decide) (fun h235 => ?_) (fun h235 => ?_)
                                        · exact absurd h235 (by decide)
                                        · refine g_iconst (v := nI 4) dX8_safest_238 (by decide) ?_
                                          refine g_goto (tgt := 243) dX8_safest_239 (by decide) ?_
                                          refine n_iadd (a := (0 + 2)) (b := 4) dX8_safest_243 ?_
                                          refine g_iret rfl rfl dX8_safest_244 ?_
                                          refine ⟨?_, _, _, _, rfl⟩
                                          unfold pSafest
                                          rw [if_pos ik, if_pos ix, ek, if_pos hz, if_pos (by decide : nI 0 = 0), hon, hbk, show decide (sUp r wk (r (1 + k)) < ho (r (1 + k))) = true from decide_eq_true (by first | omega | (have := tI_none hT ht; omega))]
                                          rfl
                                      · exact absurd h224 (nI_n9 (by omega))
                                  · exact absurd h200 (by decide)
                                · refine g_iconst (v := nI 2) dX8_safest_195 (by decide) ?_
                                  refine g_istore (lv' := [(9, .int (nI 2)), (8, .int (nI b)), (7, .int (nI 1)), (6, .int (nI t)), (5, .int (nI b)), (4, .int (-9)), (3, .int (nI (r (1 + k)))), (0, .ref 0), (1, .int (nI k)), (2, .int (nI 0))]) dX8_safest_196 (by decide) rfl ?_
                                  refine g_iload_n (i := 2) (j := 9) dX8_safest_198 rfl rfl ?_
                                  refine g_iconst (v := nI 1) dX8_safest_199 (by decide) ?_
                                  refine n_icmp_ne (tgt := 208) (rng_lit 0 rfl) (rng_lit 1 rfl) dX8_safest_200 (by decide) (fun h200 => ?_) (fun h200 => ?_)
                                  · refine g_iload (j := 5) dX8_safest_208 rfl ?_
                                    refine g_bipush (v := (-9)) dX8_safest_210 (by decide) ?_
                                    refine g_icmp_ne (tgt := 219) dX8_safest_212 (by decide) (fun h212 => ?_) (fun h212 => ?_)
                                    · exact absurd rfl h212
                                    · refine g_iconst (v := nI 0) dX8_safest_215 (by decide) ?_
                                      refine g_goto (tgt := 220) dX8_safest_216 (by decide) ?_
                                      refine g_iload (j := 4) dX8_safest_220 rfl ?_
                                      refine g_bipush (v := (-9)) dX8_safest_222 (by decide) ?_
                                      refine g_icmp_ne (tgt := 231) dX8_safest_224 (by decide) (fun h224 => ?_) (fun h224 => ?_)
                                      · refine g_iconst (v := nI 2) dX8_safest_231 (by decide) ?_
                                        refine n_iadd (a := 0) (b := 2) dX8_safest_232 ?_
                                        refine g_iload (j := 2) dX8_safest_233 rfl ?_
                                        refine n_if_eq (tgt := 242) (rng_lit 1 rfl) dX8_safest_235 (by decide) (fun h235 => ?_) (fun h235 => ?_)
                                        · exact absurd h235 (by decide)
                                        · refine g_iconst (v := nI 4) dX8_safest_238 (by decide) ?_
                                          refine g_goto (tgt := 243) dX8_safest_239 (by decide) ?_
                                          refine n_iadd (a := (0 + 2)) (b := 4) dX8_safest_243 ?_
                                          refine g_iret rfl rfl dX8_safest_244 ?_
                                          refine ⟨?_, _, _, _, rfl⟩
                                          unfold pSafest
                                          rw [if_pos ik, if_pos ix, ek, if_pos hz, if_pos (by decide : nI 0 = 0), hon, hbk, show decide (sUp r wk (r (1 + k)) < ho (r (1 + k))) = true from decide_eq_true (by first | omega | (have := tI_none hT ht; omega))]
                                          rfl
                                      · exact absurd h224 (nI_n9 (by omega))
                                  · exact absurd h200 (by decide)
                          · exact absurd rfl h154
                  · have qa := sGone_lt _ _ _ _ _ _ _ _ _ _ _ _ a q0 hon
                    rcases hbk : sArr h so la ri (pa k) (wa k) lo 2 (r (1 + k)) (r 0) with _ | b
                    · skip
                      refine g_iload (j := 3) dX8_safest_124 rfl ?_
                      refine g_istore (lv' := [(8, .int (nI a)), (7, .int (nI 1)), (6, .int (nI t)), (5, .int (-9)), (4, .int (nI a)), (3, .int (nI (r (1 + k)))), (0, .ref 0), (1, .int (nI k)), (2, .int (nI 0))]) dX8_safest_126 (by decide) rfl ?_
                      refine g_iload (j := 4) dX8_safest_128 rfl ?_
                      refine g_bipush (v := (-9)) dX8_safest_130 (by decide) ?_
                      refine g_icmp_ne (tgt := 140) dX8_safest_132 (by decide) (fun h132 => ?_) (fun h132 => ?_)
                      · refine g_iconst (v := nI 0) dX8_safest_140 (by decide) ?_
                        refine g_istore (lv' := [(9, .int (nI 0)), (8, .int (nI a)), (7, .int (nI 1)), (6, .int (nI t)), (5, .int (-9)), (4, .int (nI a)), (3, .int (nI (r (1 + k)))), (0, .ref 0), (1, .int (nI k)), (2, .int (nI 0))]) dX8_safest_141 (by decide) rfl ?_
                        refine g_iload (j := 4) dX8_safest_143 rfl ?_
                        refine g_bipush (v := (-9)) dX8_safest_145 (by decide) ?_
                        refine g_icmp_eq (tgt := 171) dX8_safest_147 (by decide) (fun h147 => ?_) (fun h147 => ?_)
                        · refine g_iload (j := 2) dX8_safest_171 rfl ?_
                          refine n_if_eq (tgt := 198) (rng_lit 1 rfl) dX8_safest_173 (by decide) (fun h173 => ?_) (fun h173 => ?_)
                          · exact absurd h173 (by decide)
                          · refine g_iload (j := 0) dX8_safest_176 rfl ?_
                            refine g_bipush (v := (-9)) dX8_safest_178 (by decide) ?_
                            refine g_icmp_eq (tgt := 195) dX8_safest_180 (by decide) (fun h180 => ?_) (fun h180 => ?_)
                            · exact absurd h180 (nI_n9 (by omega))
                            · refine g_aload_n (i := 0) (j := 7) dX8_safest_183 rfl rfl ?_
                              refine g_get fX8_47 rfl rfl dX8_safest_184 ?_
                              refine g_bipush (v := nI 15) dX8_safest_187 (by decide) ?_
                              refine n_iald (x := 15) rfl (by omega) (rng_lit 16 rfl) dX8_safest_189 ?_
                              refine g_topi (y := nI (r 0)) (by rw [pg_t]) ?_
                              refine g_iload (j := 1) dX8_safest_190 rfl ?_
                              refine n_icmp_ge (tgt := 198) (by omega) (by omega) dX8_safest_192 (by decide) (fun h192 => ?_) (fun h192 => ?_)
                              · refine g_iload_n (i := 2) (j := 9) dX8_safest_198 rfl rfl ?_
                                refine g_iconst (v := nI 1) dX8_safest_199 (by decide) ?_
                                refine n_icmp_ne (tgt := 208) (rng_lit 0 rfl) (rng_lit 1 rfl) dX8_safest_200 (by decide) (fun h200 => ?_) (fun h200 => ?_)
                                · refine g_iload (j := 5) dX8_safest_208 rfl ?_
                                  refine g_bipush (v := (-9)) dX8_safest_210 (by decide) ?_
                                  refine g_icmp_ne (tgt := 219) dX8_safest_212 (by decide) (fun h212 => ?_) (fun h212 => ?_)
                                  · refine g_iconst (v := nI 1) dX8_safest_219 (by decide) ?_
                                    refine g_iload (j := 4) dX8_safest_220 rfl ?_
                                    refine g_bipush (v := (-9)) dX8_safest_222 (by decide) ?_
                                    refine g_icmp_ne (tgt := 231) dX8_safest_224 (by decide) (fun h224 => ?_) (fun h224 => ?_)
                                    · exact absurd rfl h224
                                    · refine g_iconst (v := nI 0) dX8_safest_227 (by decide) ?_
                                      refine g_goto (tgt := 232) dX8_safest_228 (by decide) ?_
                                      refine n_iadd (a := 1) (b := 0) dX8_safest_232 ?_
                                      refine g_iload (j := 2) dX8_safest_233 rfl ?_
                                      refine n_if_eq (tgt := 242) (rng_lit 1 rfl) dX8_safest_235 (by decide) (fun h235 => ?_) (fun h235 => ?_)
                                      · exact absurd h235 (by decide)
                                      · refine g_iconst (v := nI 4) dX8_safest_238 (by decide) ?_
                                        refine g_goto (tgt := 243) dX8_safest_239 (by decide) ?_
                                        refine n_iadd (a := (1 + 0)) (b := 4) dX8_safest_243 ?_
                                        refine g_iret rfl rfl dX8_safest_244 ?_
                                        refine ⟨?_, _, _, _, rfl⟩
                                        unfold pSafest
                                        rw [if_pos ik, if_pos ix, ek, if_pos hz, if_pos (by decide : nI 0 = 0), hon, hbk, show decide (sUp r wk (r (1 + k)) < ho (r (1 + k))) = true from decide_eq_true (by first | omega | (have := tI_none hT ht; omega))]
                                        rfl
                                  · exact absurd h212 (nI_n9 (by omega))
                                · exact absurd h200 (by decide)
                              · refine g_iconst (v := nI 2) dX8_safest_195 (by decide) ?_
                                refine g_istore (lv' := [(9, .int (nI 2)), (8, .int (nI a)), (7, .int (nI 1)), (6, .int (nI t)), (5, .int (-9)), (4, .int (nI a)), (3, .int (nI (r (1 + k)))), (0, .ref 0), (1, .int (nI k)), (2, .int (nI 0))]) dX8_safest_196 (by decide) rfl ?_
                                refine g_iload_n (i := 2) (j := 9) dX8_safest_198 rfl rfl ?_
                                refine g_iconst (v := nI 1) dX8_safest_199 (by decide) ?_
                                refine n_icmp_ne (tgt := 208) (rng_lit 0 rfl) (rng_lit 1 rfl) dX8_safest_200 (by decide) (fun h200 => ?_) (fun h200 => ?_)
                                · refine g_iload (j := 5) dX8_safest_208 rfl ?_
                                  refine g_bipush (v := (-9)) dX8_safest_210 (by decide) ?_
                                  refine g_icmp_ne (tgt := 219) dX8_safest_212 (by decide) (fun h212 => ?_) (fun h212 => ?_)
                                  · refine g_iconst (v := nI 1) dX8_safest_219 (by decide) ?_
                                    refine g_iload (j := 4) dX8_safest_220 rfl ?_
                                    refine g_bipush (v := (-9)) dX8_safest_222 (by decide) ?_
                                    refine g_icmp_ne (tgt := 231) dX8_safest_224 (by decide) (fun h224 => ?_) (fun h224 => ?_)
                                    · exact absurd rfl h224
                                    · refine g_iconst (v := nI 0) dX8_safest_227 (by decide) ?_
                                      refine g_goto (tgt := 232) dX8_safest_228 (by decide) ?_
                                      refine n_iadd (a := 1) (b := 0) dX8_safest_232 ?_
                                      refine g_iload (j := 2) dX8_safest_233 rfl ?_
                                      refine n_if_eq (tgt := 242) (rng_lit 1 rfl) dX8_safest_235 (by decide) (fun h235 => ?_) (fun h235 => ?_)
                                      · exact absurd h235 (by decide)
                                      · refine g_iconst (v := nI 4) dX8_safest_238 (by decide) ?_
                                        refine g_goto (tgt := 243) dX8_safest_239 (by decide) ?_
                                        refine n_iadd (a := (1 + 0)) (b := 4) dX8_safest_243 ?_
                                        refine g_iret rfl rfl dX8_safest_244 ?_
                                        refine ⟨?_, _, _, _, rfl⟩
                                        unfold pSafest
                                        rw [if_pos ik, if_pos ix, ek, if_pos hz, if_pos (by decide : nI 0 = 0), hon, hbk, show decide (sUp r wk (r (1 + k)) < ho (r (1 + k))) = true from decide_eq_true (by first | omega | (have := tI_none hT ht; omega))]
                                        rfl
                                  · exact absurd h212 (nI_n9 (by omega))
                                · exact absurd h200 (by decide)
                        · exact absurd rfl h147
                      · exact absurd h132 (nI_n9 (by omega))
                    · have qb := sGone_lt _ _ _ _ _ _ _ _ _ _ _ _ b q0 hbk
                      refine g_iload (j := 3) dX8_safest_124 rfl ?_
                      refine g_istore (lv' := [(8, .int (nI a)), (7, .int (nI 1)), (6, .int (nI t)), (5, .int (nI b)), (4, .int (nI a)), (3, .int (nI (r (1 + k)))), (0, .ref 0), (1, .int (nI k)), (2, .int (nI 0))]) dX8_safest_126 (by decide) rfl ?_
                      refine g_iload (j := 4) dX8_safest_128 rfl ?_
                      refine g_bipush (v := (-9)) dX8_safest_130 (by decide) ?_
                      refine g_icmp_ne (tgt := 140) dX8_safest_132 (by decide) (fun h132 => ?_) (fun h132 => ?_)
                      · refine g_iconst (v := nI 0) dX8_safest_140 (by decide) ?_
                        refine g_istore (lv' := [(9, .int (nI 0)), (8, .int (nI a)), (7, .int (nI 1)), (6, .int (nI t)), (5, .int (nI b)), (4, .int (nI a)), (3, .int (nI (r (1 + k)))), (0, .ref 0), (1, .int (nI k)), (2, .int (nI 0))]) dX8_safest_141 (by decide) rfl ?_
                        refine g_iload (j := 4) dX8_safest_143 rfl ?_
                        refine g_bipush (v := (-9)) dX8_safest_145 (by decide) ?_
                        refine g_icmp_eq (tgt := 171) dX8_safest_147 (by decide) (fun h147 => ?_) (fun h147 => ?_)
                        · exact absurd h147 (nI_n9 (by omega))
                        · refine g_iload (j := 0) dX8_safest_150 rfl ?_
                          refine g_bipush (v := (-9)) dX8_safest_152 (by decide) ?_
                          refine g_icmp_eq (tgt := 164) dX8_safest_154 (by decide) (fun h154 => ?_) (fun h154 => ?_)
                          · exact absurd h154 (nI_n9 (by omega))
                          · refine g_iload (j := 4) dX8_safest_157 rfl ?_
                            refine g_iload (j := 1) dX8_safest_159 rfl ?_
                            refine n_icmp_ge (tgt := 171) (by omega) (by omega) dX8_safest_161 (by decide) (fun h161 => ?_) (fun h161 => ?_)
                            · refine g_iload (j := 2) dX8_safest_171 rfl ?_
                              refine n_if_eq (tgt := 198) (rng_lit 1 rfl) dX8_safest_173 (by decide) (fun h173 => ?_) (fun h173 => ?_)
                              · exact absurd h173 (by decide)
                              · refine g_iload (j := 0) dX8_safest_176 rfl ?_
                                refine g_bipush (v := (-9)) dX8_safest_178 (by decide) ?_
                                refine g_icmp_eq (tgt := 195) dX8_safest_180 (by decide) (fun h180 => ?_) (fun h180 => ?_)
                                · exact absurd h180 (nI_n9 (by omega))
                                · refine g_aload_n (i := 0) (j := 7) dX8_safest_183 rfl rfl ?_
                                  refine g_get fX8_47 rfl rfl dX8_safest_184 ?_
                                  refine g_bipush (v := nI 15) dX8_safest_187 (by decide) ?_
                                  refine n_iald (x := 15) rfl (by omega) (rng_lit 16 rfl) dX8_safest_189 ?_
                                  refine g_topi (y := nI (r 0)) (by rw [pg_t]) ?_
                                  refine g_iload (j := 1) dX8_safest_190 rfl ?_
                                  refine n_icmp_ge (tgt := 198) (by omega) (by omega) dX8_safest_192 (by decide) (fun h192 => ?_) (fun h192 => ?_)
                                  · refine g_iload_n (i := 2) (j := 9) dX8_safest_198 rfl rfl ?_
                                    refine g_iconst (v := nI 1) dX8_safest_199 (by decide) ?_
                                    refine n_icmp_ne (tgt := 208) (rng_lit 0 rfl) (rng_lit 1 rfl) dX8_safest_200 (by decide) (fun h200 => ?_) (fun h200 => ?_)
                                    · refine g_iload (j := 5) dX8_safest_208 rfl ?_
                                      refine g_bipush (v := (-9)) dX8_safest_210 (by decide) ?_
                                      refine g_icmp_ne (tgt := 219) dX8_safest_212 (by decide) (fun h212 => ?_) (fun h212 => ?_)
                                      · refine g_iconst (v := nI 1) dX8_safest_219 (by decide) ?_
                                        refine g_iload (j := 4) dX8_safest_220 rfl ?_
                                        refine g_bipush (v := (-9)) dX8_safest_222 (by decide) ?_
                                        refine g_icmp_ne (tgt := 231) dX8_safest_224 (by decide) (fun h224 => ?_) (fun h224 => ?_)
                                        · refine g_iconst (v := nI 2) dX8_safest_231 (by decide) ?_
                                          refine n_iadd (a := 1) (b := 2) dX8_safest_232 ?_
                                          refine g_iload (j := 2) dX8_safest_233 rfl ?_
                                          refine n_if_eq (tgt := 242) (rng_lit 1 rfl) dX8_safest_235 (by decide) (fun h235 => ?_) (fun h235 => ?_)
                                          · exact absurd h235 (by decide)
                                          · refine g_iconst (v := nI 4) dX8_safest_238 (by decide) ?_
                                            refine g_goto (tgt := 243) dX8_safest_239 (by decide) ?_
                                            refine n_iadd (a := (1 + 2)) (b := 4) dX8_safest_243 ?_
                                            refine g_iret rfl rfl dX8_safest_244 ?_
                                            refine ⟨?_, _, _, _, rfl⟩
                                            unfold pSafest
                                            rw [if_pos ik, if_pos ix, ek, if_pos hz, if_pos (by decide : nI 0 = 0), hon, hbk, show decide (sUp r wk (r (1 + k)) < ho (r (1 + k))) = true from decide_eq_true (by first | omega | (have := tI_none hT ht; omega))]
                                            rfl
                                        · exact absurd h224 (nI_n9 (by omega))
                                      · exact absurd h212 (nI_n9 (by omega))
                                    · exact absurd h200 (by decide)
                                  · refine g_iconst (v := nI 2) dX8_safest_195 (by decide) ?_
                                    refine g_istore (lv' := [(9, .int (nI 2)), (8, .int (nI a)), (7, .int (nI 1)), (6, .int (nI t)), (5, .int (nI b)), (4, .int (nI a)), (3, .int (nI (r (1 + k)))), (0, .ref 0), (1, .int (nI k)), (2, .int (nI 0))]) dX8_safest_196 (by decide) rfl ?_
                                    refine g_iload_n (i := 2) (j := 9) dX8_safest_198 rfl rfl ?_
                                    refine g_iconst (v := nI 1) dX8_safest_199 (by decide) ?_
                                    refine n_icmp_ne (tgt := 208) (rng_lit 0 rfl) (rng_lit 1 rfl) dX8_safest_200 (by decide) (fun h200 => ?_) (fun h200 => ?_)
                                    · refine g_iload (j := 5) dX8_safest_208 rfl ?_
                                      refine g_bipush (v := (-9)) dX8_safest_210 (by decide) ?_
                                      refine g_icmp_ne (tgt := 219) dX8_safest_212 (by decide) (fun h212 => ?_) (fun h212 => ?_)
                                      · refine g_iconst (v := nI 1) dX8_safest_219 (by decide) ?_
                                        refine g_iload (j := 4) dX8_safest_220 rfl ?_
                                        refine g_bipush (v := (-9)) dX8_safest_222 (by decide) ?_
                                        refine g_icmp_ne (tgt := 231) dX8_safest_224 (by decide) (fun h224 => ?_) (fun h224 => ?_)
                                        · refine g_iconst (v := nI 2) dX8_safest_231 (by decide) ?_
                                          refine n_iadd (a := 1) (b := 2) dX8_safest_232 ?_
                                          refine g_iload (j := 2) dX8_safest_233 rfl ?_
                                          refine n_if_eq (tgt := 242) (rng_lit 1 rfl) dX8_safest_235 (by decide) (fun h235 => ?_) (fun h235 => ?_)
                                          · exact absurd h235 (by decide)
                                          · refine g_iconst (v := nI 4) dX8_safest_238 (by decide) ?_
                                            refine g_goto (tgt := 243) dX8_safest_239 (by decide) ?_
                                            refine n_iadd (a := (1 + 2)) (b := 4) dX8_safest_243 ?_
                                            refine g_iret rfl rfl dX8_safest_244 ?_
                                            refine ⟨?_, _, _, _, rfl⟩
                                            unfold pSafest
                                            rw [if_pos ik, if_pos ix, ek, if_pos hz, if_pos (by decide : nI 0 = 0), hon, hbk, show decide (sUp r wk (r (1 + k)) < ho (r (1 + k))) = true from decide_eq_true (by first | omega | (have := tI_none hT ht; omega))]
                                            rfl
                                        · exact absurd h224 (nI_n9 (by omega))
                                      · exact absurd h212 (nI_n9 (by omega))
                                    · exact absurd h200 (by decide)
                            · refine g_iload (j := 4) dX8_safest_164 rfl ?_
                              refine g_istore (lv' := [(8, .int (nI b)), (9, .int (nI 0)), (7, .int (nI 1)), (6, .int (nI t)), (5, .int (nI b)), (4, .int (nI a)), (3, .int (nI (r (1 + k)))), (0, .ref 0), (1, .int (nI k)), (2, .int (nI 0))]) dX8_safest_166 (by decide) rfl ?_
                              refine g_iconst (v := nI 1) dX8_safest_168 (by decide) ?_
                              refine g_istore (lv' := [(9, .int (nI 1)), (8, .int (nI b)), (7, .int (nI 1)), (6, .int (nI t)), (5, .int (nI b)), (4, .int (nI a)), (3, .int (nI (r (1 + k)))), (0, .ref 0), (1, .int (nI k)), (2, .int (nI 0))]) dX8_safest_169 (by decide) rfl ?_
                              refine g_iload (j := 2) dX8_safest_171 rfl ?_
                              refine n_if_eq (tgt := 198) (rng_lit 1 rfl) dX8_safest_173 (by decide) (fun h173 => ?_) (fun h173 => ?_)
                              · exact absurd h173 (by decide)
                              · refine g_iload (j := 0) dX8_safest_176 rfl ?_
                                refine g_bipush (v := (-9)) dX8_safest_178 (by decide) ?_
                                refine g_icmp_eq (tgt := 195) dX8_safest_180 (by decide) (fun h180 => ?_) (fun h180 => ?_)
                                · exact absurd h180 (nI_n9 (by omega))
                                · refine g_aload_n (i := 0) (j := 7) dX8_safest_183 rfl rfl ?_
                                  refine g_get fX8_47 rfl rfl dX8_safest_184 ?_
                                  refine g_bipush (v := nI 15) dX8_safest_187 (by decide) ?_
                                  refine n_iald (x := 15) rfl (by omega) (rng_lit 16 rfl) dX8_safest_189 ?_
                                  refine g_topi (y := nI (r 0)) (by rw [pg_t]) ?_
                                  refine g_iload (j := 1) dX8_safest_190 rfl ?_
                                  refine n_icmp_ge (tgt := 198) (by omega) (by omega) dX8_safest_192 (by decide) (fun h192 => ?_) (fun h192 => ?_)
                                  · refine g_iload_n (i := 2) (j := 9) dX8_safest_198 rfl rfl ?_
                                    refine g_iconst (v := nI 1) dX8_safest_199 (by decide) ?_
                                    refine n_icmp_ne (tgt := 208) (rng_lit 0 rfl) (rng_lit 1 rfl) dX8_safest_200 (by decide) (fun h200 => ?_) (fun h200 => ?_)
                                    · refine g_iload (j := 5) dX8_safest_208 rfl ?_
                                      refine g_bipush (v := (-9)) dX8_safest_210 (by decide) ?_
                                      refine g_icmp_ne (tgt := 219) dX8_safest_212 (by decide) (fun h212 => ?_) (fun h212 => ?_)
                                      · refine g_iconst (v := nI 1) dX8_safest_219 (by decide) ?_
                                        refine g_iload (j := 4) dX8_safest_220 rfl ?_
                                        refine g_bipush (v := (-9)) dX8_safest_222 (by decide) ?_
                                        refine g_icmp_ne (tgt := 231) dX8_safest_224 (by decide) (fun h224 => ?_) (fun h224 => ?_)
                                        · refine g_iconst (v := nI 2) dX8_safest_231 (by decide) ?_
                                          refine n_iadd (a := 1) (b := 2) dX8_safest_232 ?_
                                          refine g_iload (j := 2) dX8_safest_233 rfl ?_
                                          refine n_if_eq (tgt := 242) (rng_lit 1 rfl) dX8_safest_235 (by decide) (fun h235 => ?_) (fun h235 => ?_)
                                          · exact absurd h235 (by decide)
                                          · refine g_iconst (v := nI 4) dX8_safest_238 (by decide) ?_
                                            refine g_goto (tgt := 243) dX8_safest_239 (by decide) ?_
                                            refine n_iadd (a := (1 + 2)) (b := 4) dX8_safest_243 ?_
                                            refine g_iret rfl rfl dX8_safest_244 ?_
                                            refine ⟨?_, _, _, _, rfl⟩
                                            unfold pSafest
                                            rw [if_pos ik, if_pos ix, ek, if_pos hz, if_pos (by decide : nI 0 = 0), hon, hbk, show decide (sUp r wk (r (1 + k)) < ho (r (1 + k))) = true from decide_eq_true (by first | omega | (have := tI_none hT ht; omega))]
                                            rfl
                                        · exact absurd h224 (nI_n9 (by omega))
                                      · exact absurd h212 (nI_n9 (by omega))
                                    · exact absurd h200 (by decide)
                                  · refine g_iconst (v := nI 2) dX8_safest_195 (by decide) ?_
                                    refine g_istore (lv' := [(9, .int (nI 2)), (8, .int (nI b)), (7, .int (nI 1)), (6, .int (nI t)), (5, .int (nI b)), (4, .int (nI a)), (3, .int (nI (r (1 + k)))), (0, .ref 0), (1, .int (nI k)), (2, .int (nI 0))]) dX8_safest_196 (by decide) rfl ?_
                                    refine g_iload_n (i := 2) (j := 9) dX8_safest_198 rfl rfl ?_
                                    refine g_iconst (v := nI 1) dX8_safest_199 (by decide) ?_
                                    refine n_icmp_ne (tgt := 208) (rng_lit 0 rfl) (rng_lit 1 rfl) dX8_safest_200 (by decide) (fun h200 => ?_) (fun h200 => ?_)
                                    · refine g_iload (j := 5) dX8_safest_208 rfl ?_
                                      refine g_bipush (v := (-9)) dX8_safest_210 (by decide) ?_
                                      refine g_icmp_ne (tgt := 219) dX8_safest_212 (by decide) (fun h212 => ?_) (fun h212 => ?_)
                                      · refine g_iconst (v := nI 1) dX8_safest_219 (by decide) ?_
                                        refine g_iload (j := 4) dX8_safest_220 rfl ?_
                                        refine g_bipush (v := (-9)) dX8_safest_222 (by decide) ?_
                                        refine g_icmp_ne (tgt := 231) dX8_safest_224 (by decide) (fun h224 => ?_) (fun h224 => ?_)
                                        · refine g_iconst (v := nI 2) dX8_safest_231 (by decide) ?_
                                          refine n_iadd (a := 1) (b := 2) dX8_safest_232 ?_
                                          refine g_iload (j := 2) dX8_safest_233 rfl ?_
                                          refine n_if_eq (tgt := 242) (rng_lit 1 rfl) dX8_safest_235 (by decide) (fun h235 => ?_) (fun h235 => ?_)
                                          · exact absurd h235 (by decide)
                                          · refine g_iconst (v := nI 4) dX8_safest_238 (by decide) ?_
                                            refine g_goto (tgt := 243) dX8_safest_239 (by decide) ?_
                                            refine n_iadd (a := (1 + 2)) (b := 4) dX8_safest_243 ?_
                                            refine g_iret rfl rfl dX8_safest_244 ?_
                                            refine ⟨?_, _, _, _, rfl⟩
                                            unfold pSafest
                                            rw [if_pos ik, if_pos ix, ek, if_pos hz, if_pos (by decide : nI 0 = 0), hon, hbk, show decide (sUp r wk (r (1 + k)) < ho (r (1 + k))) = true from decide_eq_true (by first | omega | (have := tI_none hT ht; omega))]
                                            rfl
                                        · exact absurd h224 (nI_n9 (by omega))
                                      · exact absurd h212 (nI_n9 (by omega))
                                    · exact absurd h200 (by decide)
                      · exact absurd h132 (nI_n9 (by omega))
          · exact absurd h33 (by decide)
        · skip
          refine g_aload_n (i := 0) (j := 0) dX8_safest_28 rfl rfl ?_
          refine g_iload_n (i := 1) (j := 1) dX8_safest_29 rfl rfl ?_
          refine c_V (st1 := [.int (-3)]) (ctX8_noWalk_3 (k := k) (by omega) hk q11 hz) kX8_noWalk lX8_208 (by decide) rfl rfl rfl rfl (by exact Nat.le_of_ble_eq_true rfl) dX8_safest_30 rfl rfl ?_
          refine g_if_eq (tgt := 39) dX8_safest_33 (by decide) (fun h33 => ?_) (fun h33 => ?_)
          · exact absurd h33 (by decide)
          · refine g_bipush (v := (-3)) dX8_safest_36 (by decide) ?_
            refine g_iret rfl rfl dX8_safest_38 ?_
            refine ⟨?_, _, _, _, rfl⟩
            unfold pSafest
            rw [if_pos ik, if_pos ix, ek, if_neg hz]
      · skip
        by_cases hz : r (11 + k) = 0
        · skip
          refine g_aload_n (i := 0) (j := 0) dX8_safest_28 rfl rfl ?_
          refine g_iload_n (i := 1) (j := 1) dX8_safest_29 rfl rfl ?_
          refine c_V (st1 := [.int (nI 0)]) (ctX8_noWalk_0 (k := k) (by omega) hk q11 hz) kX8_noWalk lX8_208 (by decide) rfl rfl rfl rfl (by exact Nat.le_of_ble_eq_true rfl) dX8_safest_30 rfl rfl ?_
          refine n_if_eq (tgt := 39) (rng_lit 0 rfl) dX8_safest_33 (by decide) (fun h33 => ?_) (fun h33 => ?_)
          · refine g_aload_n (i := 0) (j := 0) dX8_safest_39 rfl rfl ?_
            refine g_get fX8_47 rfl rfl dX8_safest_40 ?_
            refine g_iconst (v := nI 3) dX8_safest_43 (by decide) ?_
            refine g_iload_n (i := 1) (j := 1) dX8_safest_44 rfl rfl ?_
            refine n_imul (a := 3) (b := k) dX8_safest_45 ?_
            refine n_iald (x := (3 * k)) rfl (by omega) (rng_lit 16 rfl) dX8_safest_46 ?_
            refine g_topi (y := nI (r (1 + k))) (by rw [pg_0 (by omega)]) ?_
            refine g_istore_n (i := 3) (lv' := [(3, .int (nI (r (1 + k)))), (0, .ref 0), (1, .int (nI k)), (2, .int (nI 1))]) dX8_safest_47 rfl (by decide) rfl ?_
            refine g_aload_n (i := 0) (j := 1) dX8_safest_48 rfl rfl ?_
            refine g_iload_n (i := 1) (j := 2) dX8_safest_49 rfl rfl ?_
            refine g_iload_n (i := 3) (j := 0) dX8_safest_50 rfl rfl ?_
            refine g_aload_n (i := 0) (j := 1) dX8_safest_51 rfl rfl ?_
            refine g_get fX8_47 rfl rfl dX8_safest_52 ?_
            refine g_bipush (v := nI 15) dX8_safest_55 (by decide) ?_
            refine n_iald (x := 15) rfl (by omega) (rng_lit 16 rfl) dX8_safest_57 ?_
            refine g_topi (y := nI (r 0)) (by rw [pg_t]) ?_
            refine g_iconst (v := nI 1) dX8_safest_58 (by decide) ?_
            refine g_aload_n (i := 0) (j := 1) dX8_safest_59 rfl rfl ?_
            refine g_get fX8_139 rfl rfl dX8_safest_60 ?_
            refine g_callV (rest := []) (ctX8_goneOf (w := k) (c := r (1 + k)) (s := r 0) (way := 1) (at0 := lo) hH hpa hwa (by omega) (by omega) hS (by first | omega | assumption | exact hpa _ | exact hwa _ | exact hr1 _ (by omega) | exact hr6 _ (by omega) | exact hr11 _ (by omega) | exact hr _ | exact Nat.le_succ_of_le (hr _) | (apply sTo_le; first | omega | exact hr1 _ (by omega))) (by first | omega | assumption | exact hpa _ | exact hwa _ | exact hr1 _ (by omega) | exact hr6 _ (by omega) | exact hr11 _ (by omega) | exact hr _ | exact Nat.le_succ_of_le (hr _) | (apply sTo_le; first | omega | exact hr1 _ (by omega))) (by first | omega | assumption | exact hpa _ | exact hwa _ | exact hr1 _ (by omega) | exact hr6 _ (by omega) | exact hr11 _ (by omega) | exact hr _ | exact Nat.le_succ_of_le (hr _) | (apply sTo_le; first | omega | exact hr1 _ (by omega))) (by first | omega | assumption | exact hpa _ | exact hwa _ | exact hr1 _ (by omega) | exact hr6 _ (by omega) | exact hr11 _ (by omega) | exact hr _ | exact Nat.le_succ_of_le (hr _) | (apply sTo_le; first | omega | exact hr1 _ (by omega))) (by first | omega | assumption | exact hpa _ | exact hwa _ | exact hr1 _ (by omega) | exact hr6 _ (by omega) | exact hr11 _ (by omega) | exact hr _ | exact Nat.le_succ_of_le (hr _) | (apply sTo_le; first | omega | exact hr1 _ (by omega))) (by first | omega | assumption | exact hpa _ | exact hwa _ | exact hr1 _ (by omega) | exact hr6 _ (by omega) | exact hr11 _ (by omega) | exact hr _ | exact Nat.le_succ_of_le (hr _) | (apply sTo_le; first | omega | exact hr1 _ (by omega)))) kX8_goneOf lX8_205 (by decide) rfl rfl rfl rfl (by exact Nat.le_of_ble_eq_true rfl) dX8_safest_63 rfl (fun v u hvu => ?_)
            obtain ⟨rfl, ce63, sa63, ti63, rfl⟩ := hvu
            refine g_st (st' := [.int (rO (sArr h so la ri (pa k) (wa k) lo 1 (r (1 + k)) (r 0)))]) rfl ?_
            refine g_istore (lv' := [(4, .int (rO (sArr h so la ri (pa k) (wa k) lo 1 (r (1 + k)) (r 0)))), (3, .int (nI (r (1 + k)))), (0, .ref 0), (1, .int (nI k)), (2, .int (nI 1))]) dX8_safest_66 (by decide) rfl ?_
            refine g_aload_n (i := 0) (j := 2) dX8_safest_68 rfl rfl ?_
            refine g_iload_n (i := 1) (j := 3) dX8_safest_69 rfl rfl ?_
            refine g_iload_n (i := 3) (j := 1) dX8_safest_70 rfl rfl ?_
            refine g_aload_n (i := 0) (j := 2) dX8_safest_71 rfl rfl ?_
            refine g_get fX8_47 rfl rfl dX8_safest_72 ?_
            refine g_bipush (v := nI 15) dX8_safest_75 (by decide) ?_
            refine n_iald (x := 15) rfl (by omega) (rng_lit 16 rfl) dX8_safest_77 ?_
            refine g_topi (y := nI (r 0)) (by rw [pg_t]) ?_
            refine g_iconst (v := nI 2) dX8_safest_78 (by decide) ?_
            refine g_aload_n (i := 0) (j := 2) dX8_safest_79 rfl rfl ?_
            refine g_get fX8_139 rfl rfl dX8_safest_80 ?_
            refine g_callV (rest := []) (ctX8_goneOf (w := k) (c := r (1 + k)) (s := r 0) (way := 2) (at0 := lo) hH hpa hwa (by omega) (by omega) hS (by first | omega | assumption | exact hpa _ | exact hwa _ | exact hr1 _ (by omega) | exact hr6 _ (by omega) | exact hr11 _ (by omega) | exact hr _ | exact Nat.le_succ_of_le (hr _) | (apply sTo_le; first | omega | exact hr1 _ (by omega))) (by first | omega | assumption | exact hpa _ | exact hwa _ | exact hr1 _ (by omega) | exact hr6 _ (by omega) | exact hr11 _ (by omega) | exact hr _ | exact Nat.le_succ_of_le (hr _) | (apply sTo_le; first | omega | exact hr1 _ (by omega))) (by first | omega | assumption | exact hpa _ | exact hwa _ | exact hr1 _ (by omega) | exact hr6 _ (by omega) | exact hr11 _ (by omega) | exact hr _ | exact Nat.le_succ_of_le (hr _) | (apply sTo_le; first | omega | exact hr1 _ (by omega))) (by first | omega | assumption | exact hpa _ | exact hwa _ | exact hr1 _ (by omega) | exact hr6 _ (by omega) | exact hr11 _ (by omega) | exact hr _ | exact Nat.le_succ_of_le (hr _) | (apply sTo_le; first | omega | exact hr1 _ (by omega))) (by first | omega | assumption | exact hpa _ | exact hwa _ | exact hr1 _ (by omega) | exact hr6 _ (by omega) | exact hr11 _ (by omega) | exact hr _ | exact Nat.le_succ_of_le (hr _) | (apply sTo_le; first | omega | exact hr1 _ (by omega))) (by first | omega | assumption | exact hpa _ | exact hwa _ | exact hr1 _ (by omega) | exact hr6 _ (by omega) | exact hr11 _ (by omega) | exact hr _ | exact Nat.le_succ_of_le (hr _) | (apply sTo_le; first | omega | exact hr1 _ (by omega)))) kX8_goneOf lX8_205 (by decide) rfl rfl rfl rfl (by exact Nat.le_of_ble_eq_true rfl) dX8_safest_83 rfl (fun v u hvu => ?_)
            obtain ⟨rfl, ce83, sa83, ti83, rfl⟩ := hvu
            refine g_st (st' := [.int (rO (sArr h so la ri (pa k) (wa k) lo 2 (r (1 + k)) (r 0)))]) rfl ?_
            refine g_istore (lv' := [(5, .int (rO (sArr h so la ri (pa k) (wa k) lo 2 (r (1 + k)) (r 0)))), (4, .int (rO (sArr h so la ri (pa k) (wa k) lo 1 (r (1 + k)) (r 0)))), (3, .int (nI (r (1 + k)))), (0, .ref 0), (1, .int (nI k)), (2, .int (nI 1))]) dX8_safest_86 (by decide) rfl ?_
            refine g_aload_n (i := 0) (j := 3) dX8_safest_88 rfl rfl ?_
            refine g_iload_n (i := 3) (j := 2) dX8_safest_89 rfl rfl ?_
            refine c_V (st1 := [.int (rO (tI tw at_ (r (1 + k))))]) (ctX8_towerOf (c := r (1 + k)) (by omega) (fun t ht => (hT.2.1 t ht).1) (by first | omega | assumption | exact hpa _ | exact hwa _ | exact hr1 _ (by omega) | exact hr6 _ (by omega) | exact hr11 _ (by omega) | exact hr _ | exact Nat.le_succ_of_le (hr _) | (apply sTo_le; first | omega | exact hr1 _ (by omega)))) kX8_towerOf lX8_164 (by decide) rfl rfl rfl rfl (by exact Nat.le_of_ble_eq_true rfl) dX8_safest_90 rfl rfl ?_
            refine g_istore (lv' := [(6, .int (rO (tI tw at_ (r (1 + k))))), (5, .int (rO (sArr h so la ri (pa k) (wa k) lo 2 (r (1 + k)) (r 0)))), (4, .int (rO (sArr h so la ri (pa k) (wa k) lo 1 (r (1 + k)) (r 0)))), (3, .int (nI (r (1 + k)))), (0, .ref 0), (1, .int (nI k)), (2, .int (nI 1))]) dX8_safest_93 (by decide) rfl ?_
            rcases ht : tI tw at_ (r (1 + k)) with _ | t
            · skip
              refine g_iload (j := 0) dX8_safest_95 rfl ?_
              refine g_bipush (v := (-9)) dX8_safest_97 (by decide) ?_
              refine g_icmp_eq (tgt := 121) dX8_safest_99 (by decide) (fun h99 => ?_) (fun h99 => ?_)
              · refine g_iconst (v := nI 0) dX8_safest_121 (by decide) ?_
                refine g_istore (lv' := [(7, .int (nI 0)), (6, .int (-9)), (5, .int (rO (sArr h so la ri (pa k) (wa k) lo 2 (r (1 + k)) (r 0)))), (4, .int (rO (sArr h so la ri (pa k) (wa k) lo 1 (r (1 + k)) (r 0)))), (3, .int (nI (r (1 + k)))), (0, .ref 0), (1, .int (nI k)), (2, .int (nI 1))]) dX8_safest_122 (by decide) rfl ?_
                rcases hon : sArr h so la ri (pa k) (wa k) lo 1 (r (1 + k)) (r 0) with _ | a
                · skip
                  rcases hbk : sArr h so la ri (pa k) (wa k) lo 2 (r (1 + k)) (r 0) with _ | b
                  · skip
                    refine g_iload (j := 3) dX8_safest_124 rfl ?_
                    refine g_istore (lv' := [(8, .int (-9)), (7, .int (nI 0)), (6, .int (-9)), (5, .int (-9)), (4, .int (-9)), (3, .int (nI (r (1 + k)))), (0, .ref 0), (1, .int (nI k)), (2, .int (nI 1))]) dX8_safest_126 (by decide) rfl ?_
                    refine g_iload (j := 4) dX8_safest_128 rfl ?_
                    refine g_bipush (v := (-9)) dX8_safest_130 (by decide) ?_
                    refine g_icmp_ne (tgt := 140) dX8_safest_132 (by decide) (fun h132 => ?_) (fun h132 => ?_)
                    · exact absurd rfl h132
                    · refine g_bipush (v := (-9)) dX8_safest_135 (by decide) ?_
                      refine g_goto (tgt := 141) dX8_safest_137 (by decide) ?_
                      refine g_istore (lv' := [(9, .int (-9)), (8, .int (-9)), (7, .int (nI 0)), (6, .int (-9)), (5, .int (-9)), (4, .int (-9)), (3, .int (nI (r (1 + k)))), (0, .ref 0), (1, .int (nI k)), (2, .int (nI 1))]) dX8_safest_141 (by decide) rfl ?_
                      refine g_iload (j := 4) dX8_safest_143 rfl ?_
                      refine g_bipush (v := (-9)) dX8_safest_145 (by decide) ?_
                      refine g_icmp_eq (tgt := 171) dX8_safest_147 (by decide) (fun h147 => ?_) (fun h147 => ?_)
                      · refine g_iload (j := 2) dX8_safest_171 rfl ?_
                        refine n_if_eq (tgt := 198) (rng_lit 0 rfl) dX8_safest_173 (by decide) (fun h173 => ?_) (fun h173 => ?_)
                        · refine g_iload_n (i := 2) (j := 9) dX8_safest_198 rfl rfl ?_
                          refine g_iconst (v := nI 1) dX8_safest_199 (by decide) ?_
                          refine n_icmp_ne (tgt := 208) (rng_lit 1 rfl) (rng_lit 1 rfl) dX8_safest_200 (by decide) (fun h200 => ?_) (fun h200 => ?_)
                          · exact absurd h200 (by decide)
                          · refine g_iload (j := 0) dX8_safest_203 rfl ?_
                            refine g_goto (tgt := 244) dX8_safest_205 (by decide) ?_
                            refine g_iret rfl rfl dX8_safest_244 ?_
                            refine ⟨?_, _, _, _, rfl⟩
                            unfold pSafest
                            rw [if_pos ik, if_pos ix, ek, if_pos hz, if_neg (by decide : ¬ nI 1 = 0), hon, hbk, show decide (sUp r wk (r (1 + k)) < ho (r (1 + k))) = false from decide_eq_false (by first | omega | (have := tI_none hT ht; omega))]
                            simp only [sWhich, Bool.true_and, Bool.false_and, decide_eq_true_eq, Bool.false_eq_true, if_false, if_true] <;> (first | rfl | ((repeat' split) <;> first | rfl | (exfalso; omega)))
                        · exact absurd h173 (by decide)
                      · exact absurd rfl h147
                  · have qb := sGone_lt _ _ _ _ _ _ _ _ _ _ _ _ b q0 hbk
                    refine g_iload (j := 3) dX8_safest_124 rfl ?_
                    refine g_istore (lv' := [(8, .int (-9)), (7, .int (nI 0)), (6, .int (-9)), (5, .int (nI b)), (4, .int (-9)), (3, .int (nI (r (1 + k)))), (0, .ref 0), (1, .int (nI k)), (2, .int (nI 1))]) dX8_safest_126 (by decide) rfl ?_
                    refine g_iload (j := 4) dX8_safest_128 rfl ?_
                    refine g_bipush (v := (-9)) dX8_safest_130 (by decide) ?_
                    refine g_icmp_ne (tgt := 140) dX8_safest_132 (by decide) (fun h132 => ?_) (fun h132 => ?_)
                    · exact absurd rfl h132
                    · refine g_bipush (v := (-9)) dX8_safest_135 (by decide) ?_
                      refine g_goto (tgt := 141) dX8_safest_137 (by decide) ?_
                      refine g_istore (lv' := [(9, .int (-9)), (8, .int (-9)), (7, .int (nI 0)), (6, .int (-9)), (5, .int (nI b)), (4, .int (-9)), (3, .int (nI (r (1 + k)))), (0, .ref 0), (1, .int (nI k)), (2, .int (nI 1))]) dX8_safest_141 (by decide) rfl ?_
                      refine g_iload (j := 4) dX8_safest_143 rfl ?_
                      refine g_bipush (v := (-9)) dX8_safest_145 (by decide) ?_
                      refine g_icmp_eq (tgt := 171) dX8_safest_147 (by decide) (fun h147 => ?_) (fun h147 => ?_)
                      · exact absurd h147 (nI_n9 (by omega))
                      · refine g_iload (j := 0) dX8_safest_150 rfl ?_
                        refine g_bipush (v := (-9)) dX8_safest_152 (by decide) ?_
                        refine g_icmp_eq (tgt := 164) dX8_safest_154 (by decide) (fun h154 => ?_) (fun h154 => ?_)
                        · refine g_iload (j := 4) dX8_safest_164 rfl ?_
                          refine g_istore (lv' := [(8, .int (nI b)), (9, .int (-9)), (7, .int (nI 0)), (6, .int (-9)), (5, .int (nI b)), (4, .int (-9)), (3, .int (nI (r (1 + k)))), (0, .ref 0), (1, .int (nI k)), (2, .int (nI 1))]) dX8_safest_166 (by decide) rfl ?_
                          refine g_iconst (v := nI 1) dX8_safest_168 (by decide) ?_
                          refine g_istore (lv' := [(9, .int (nI 1)), (8, .int (nI b)), (7, .int (nI 0)), (6, .int (-9)), (5, .int (nI b)), (4, .int (-9)), (3, .int (nI (r (1 + k)))), (0, .ref 0), (1, .int (nI k)), (2, .int (nI 1))]) dX8_safest_169 (by decide) rfl ?_
                          refine g_iload (j := 2) dX8_safest_171 rfl ?_
                          refine n_if_eq (tgt := 198) (rng_lit 0 rfl) dX8_safest_173 (by decide) (fun h173 => ?_) (fun h173 => ?_)
                          · refine g_iload_n (i := 2) (j := 9) dX8_safest_198 rfl rfl ?_
                            refine g_iconst (v := nI 1) dX8_safest_199 (by decide) ?_
                            refine n_icmp_ne (tgt := 208) (rng_lit 1 rfl) (rng_lit 1 rfl) dX8_safest_200 (by decide) (fun h200 => ?_) (fun h200 => ?_)
                            · exact absurd h200 (by decide)
                            · refine g_iload (j := 0) dX8_safest_203 rfl ?_
                              refine g_goto (tgt := 244) dX8_safest_205 (by decide) ?_
                              refine g_iret rfl rfl dX8_safest_244 ?_
                              refine ⟨?_, _, _, _, rfl⟩
                              unfold pSafest
                              rw [if_pos ik, if_pos ix, ek, if_pos hz, if_neg (by decide : ¬ nI 1 = 0), hon, hbk, show decide (sUp r wk (r (1 + k)) < ho (r (1 + k))) = false from decide_eq_false (by first | omega | (have := tI_none hT ht; omega))]
                              simp only [sWhich, Bool.true_and, Bool.false_and, decide_eq_true_eq, Bool.false_eq_true, if_false, if_true] <;> (first | rfl | ((repeat' split) <;> first | rfl | (exfalso; omega)))
                          · exact absurd h173 (by decide)
                        · exact absurd rfl h154
                · have qa := sGone_lt _ _ _ _ _ _ _ _ _ _ _ _ a q0 hon
                  rcases hbk : sArr h so la ri (pa k) (wa k) lo 2 (r (1 + k)) (r 0) with _ | b
                  · skip
                    refine g_iload (j := 3) dX8_safest_124 rfl ?_
                    refine g_istore (lv' := [(8, .int (nI a)), (7, .int (nI 0)), (6, .int (-9)), (5, .int (-9)), (4, .int (nI a)), (3, .int (nI (r (1 + k)))), (0, .ref 0), (1, .int (nI k)), (2, .int (nI 1))]) dX8_safest_126 (by decide) rfl ?_
                    refine g_iload (j := 4) dX8_safest_128 rfl ?_
                    refine g_bipush (v := (-9)) dX8_safest_130 (by decide) ?_
                    refine g_icmp_ne (tgt := 140) dX8_safest_132 (by decide) (fun h132 => ?_) (fun h132 => ?_)
                    · refine g_iconst (v := nI 0) dX8_safest_140 (by decide) ?_
                      refine g_istore (lv' := [(9, .int (nI 0)), (8, .int (nI a)), (7, .int (nI 0)), (6, .int (-9)), (5, .int (-9)), (4, .int (nI a)), (3, .int (nI (r (1 + k)))), (0, .ref 0), (1, .int (nI k)), (2, .int (nI 1))]) dX8_safest_141 (by decide) rfl ?_
                      refine g_iload (j := 4) dX8_safest_143 rfl ?_
                      refine g_bipush (v := (-9)) dX8_safest_145 (by decide) ?_
                      refine g_icmp_eq (tgt := 171) dX8_safest_147 (by decide) (fun h147 => ?_) (fun h147 => ?_)
                      · refine g_iload (j := 2) dX8_safest_171 rfl ?_
                        refine n_if_eq (tgt := 198) (rng_lit 0 rfl) dX8_safest_173 (by decide) (fun h173 => ?_) (fun h173 => ?_)
                        · refine g_iload_n (i := 2) (j := 9) dX8_safest_198 rfl rfl ?_
                          refine g_iconst (v := nI 1) dX8_safest_199 (by decide) ?_
                          refine n_icmp_ne (tgt := 208) (rng_lit 1 rfl) (rng_lit 1 rfl) dX8_safest_200 (by decide) (fun h200 => ?_) (fun h200 => ?_)
                          · exact absurd h200 (by decide)
                          · refine g_iload (j := 0) dX8_safest_203 rfl ?_
                            refine g_goto (tgt := 244) dX8_safest_205 (by decide) ?_
                            refine g_iret rfl rfl dX8_safest_244 ?_
                            refine ⟨?_, _, _, _, rfl⟩
                            unfold pSafest
                            rw [if_pos ik, if_pos ix, ek, if_pos hz, if_neg (by decide : ¬ nI 1 = 0), hon, hbk, show decide (sUp r wk (r (1 + k)) < ho (r (1 + k))) = false from decide_eq_false (by first | omega | (have := tI_none hT ht; omega))]
                            simp only [sWhich, Bool.true_and, Bool.false_and, decide_eq_true_eq, Bool.false_eq_true, if_false, if_true] <;> (first | rfl | ((repeat' split) <;> first | rfl | (exfalso; omega)))
                        · exact absurd h173 (by decide)
                      · exact absurd rfl h147
                    · exact absurd h132 (nI_n9 (by omega))
                  · have qb := sGone_lt _ _ _ _ _ _ _ _ _ _ _ _ b q0 hbk
                    refine g_iload (j := 3) dX8_safest_124 rfl ?_
                    refine g_istore (lv' := [(8, .int (nI a)), (7, .int (nI 0)), (6, .int (-9)), (5, .int (nI b)), (4, .int (nI a)), (3, .int (nI (r (1 + k)))), (0, .ref 0), (1, .int (nI k)), (2, .int (nI 1))]) dX8_safest_126 (by decide) rfl ?_
                    refine g_iload (j := 4) dX8_safest_128 rfl ?_
                    refine g_bipush (v := (-9)) dX8_safest_130 (by decide) ?_
                    refine g_icmp_ne (tgt := 140) dX8_safest_132 (by decide) (fun h132 => ?_) (fun h132 => ?_)
                    · refine g_iconst (v := nI 0) dX8_safest_140 (by decide) ?_
                      refine g_istore (lv' := [(9, .int (nI 0)), (8, .int (nI a)), (7, .int (nI 0)), (6, .int (-9)), (5, .int (nI b)), (4, .int (nI a)), (3, .int (nI (r (1 + k)))), (0, .ref 0), (1, .int (nI k)), (2, .int (nI 1))]) dX8_safest_141 (by decide) rfl ?_
                      refine g_iload (j := 4) dX8_safest_143 rfl ?_
                      refine g_bipush (v := (-9)) dX8_safest_145 (by decide) ?_
                      refine g_icmp_eq (tgt := 171) dX8_safest_147 (by decide) (fun h147 => ?_) (fun h147 => ?_)
                      · exact absurd h147 (nI_n9 (by omega))
                      · refine g_iload (j := 0) dX8_safest_150 rfl ?_
                        refine g_bipush (v := (-9)) dX8_safest_152 (by decide) ?_
                        refine g_icmp_eq (tgt := 164) dX8_safest_154 (by decide) (fun h154 => ?_) (fun h154 => ?_)
                        · exact absurd h154 (nI_n9 (by omega))
                        · refine g_iload (j := 4) dX8_safest_157 rfl ?_
                          refine g_iload (j := 1) dX8_safest_159 rfl ?_
                          refine n_icmp_ge (tgt := 171) (by omega) (by omega) dX8_safest_161 (by decide) (fun h161 => ?_) (fun h161 => ?_)
                          · refine g_iload (j := 2) dX8_safest_171 rfl ?_
                            refine n_if_eq (tgt := 198) (rng_lit 0 rfl) dX8_safest_173 (by decide) (fun h173 => ?_) (fun h173 => ?_)
                            · refine g_iload_n (i := 2) (j := 9) dX8_safest_198 rfl rfl ?_
                              refine g_iconst (v := nI 1) dX8_safest_199 (by decide) ?_
                              refine n_icmp_ne (tgt := 208) (rng_lit 1 rfl) (rng_lit 1 rfl) dX8_safest_200 (by decide) (fun h200 => ?_) (fun h200 => ?_)
                              · exact absurd h200 (by decide)
                              · refine g_iload (j := 0) dX8_safest_203 rfl ?_
                                refine g_goto (tgt := 244) dX8_safest_205 (by decide) ?_
                                refine g_iret rfl rfl dX8_safest_244 ?_
                                refine ⟨?_, _, _, _, rfl⟩
                                unfold pSafest
                                rw [if_pos ik, if_pos ix, ek, if_pos hz, if_neg (by decide : ¬ nI 1 = 0), hon, hbk, show decide (sUp r wk (r (1 + k)) < ho (r (1 + k))) = false from decide_eq_false (by first | omega | (have := tI_none hT ht; omega))]
                                simp only [sWhich, Bool.true_and, Bool.false_and, decide_eq_true_eq, Bool.false_eq_true, if_false, if_true] <;> (first | rfl | ((repeat' split) <;> first | rfl | (exfalso; omega)))
                            · exact absurd h173 (by decide)
                          · refine g_iload (j := 4) dX8_safest_164 rfl ?_
                            refine g_istore (lv' := [(8, .int (nI b)), (9, .int (nI 0)), (7, .int (nI 0)), (6, .int (-9)), (5, .int (nI b)), (4, .int (nI a)), (3, .int (nI (r (1 + k)))), (0, .ref 0), (1, .int (nI k)), (2, .int (nI 1))]) dX8_safest_166 (by decide) rfl ?_
                            refine g_iconst (v := nI 1) dX8_safest_168 (by decide) ?_
                            refine g_istore (lv' := [(9, .int (nI 1)), (8, .int (nI b)), (7, .int (nI 0)), (6, .int (-9)), (5, .int (nI b)), (4, .int (nI a)), (3, .int (nI (r (1 + k)))), (0, .ref 0), (1, .int (nI k)), (2, .int (nI 1))]) dX8_safest_169 (by decide) rfl ?_
                            refine g_iload (j := 2) dX8_safest_171 rfl ?_
                            refine n_if_eq (tgt := 198) (rng_lit 0 rfl) dX8_safest_173 (by decide) (fun h173 => ?_) (fun h173 => ?_)
                            · refine g_iload_n (i := 2) (j := 9) dX8_safest_198 rfl rfl ?_
                              refine g_iconst (v := nI 1) dX8_safest_199 (by decide) ?_
                              refine n_icmp_ne (tgt := 208) (rng_lit 1 rfl) (rng_lit 1 rfl) dX8_safest_200 (by decide) (fun h200 => ?_) (fun h200 => ?_)
                              · exact absurd h200 (by decide)
                              · refine g_iload (j := 0) dX8_safest_203 rfl ?_
                                refine g_goto (tgt := 244) dX8_safest_205 (by decide) ?_
                                refine g_iret rfl rfl dX8_safest_244 ?_
                                refine ⟨?_, _, _, _, rfl⟩
                                unfold pSafest
                                rw [if_pos ik, if_pos ix, ek, if_pos hz, if_neg (by decide : ¬ nI 1 = 0), hon, hbk, show decide (sUp r wk (r (1 + k)) < ho (r (1 + k))) = false from decide_eq_false (by first | omega | (have := tI_none hT ht; omega))]
                                simp only [sWhich, Bool.true_and, Bool.false_and, decide_eq_true_eq, Bool.false_eq_true, if_false, if_true] <;> (first | rfl | ((repeat' split) <;> first | rfl | (exfalso; omega)))
                            · exact absurd h173 (by decide)
                    · exact absurd h132 (nI_n9 (by omega))
              · exact absurd rfl h99
            · have hts := tI_some hT ht
              refine g_iload (j := 0) dX8_safest_95 rfl ?_
              refine g_bipush (v := (-9)) dX8_safest_97 (by decide) ?_
              refine g_icmp_eq (tgt := 121) dX8_safest_99 (by decide) (fun h99 => ?_) (fun h99 => ?_)
              · exact absurd h99 (nI_n9 (by omega))
              · refine g_aload_n (i := 0) (j := 4) dX8_safest_102 rfl rfl ?_
                refine g_iload_n (i := 3) (j := 3) dX8_safest_103 rfl rfl ?_
                refine c_V (st1 := [.int (nI (sUp r wk (r (1 + k))))]) (ctX8_upAt (c := r (1 + k)) hrk (by omega) (by first | omega | assumption | exact hpa _ | exact hwa _ | exact hr1 _ (by omega) | exact hr6 _ (by omega) | exact hr11 _ (by omega) | exact hr _ | exact Nat.le_succ_of_le (hr _) | (apply sTo_le; first | omega | exact hr1 _ (by omega)))) kX8_upAt lX8_171 (by decide) rfl rfl rfl rfl (by exact Nat.le_of_ble_eq_true rfl) dX8_safest_104 rfl rfl ?_
                refine g_aload_n (i := 0) (j := 4) dX8_safest_107 rfl rfl ?_
                refine g_get fX8_29 rfl rfl dX8_safest_108 ?_
                refine g_iload (j := 0) dX8_safest_111 rfl ?_
                refine n_iald (x := t) rfl (by omega) (rng_lit 2 rfl) dX8_safest_113 ?_
                rw [hts.2.2.2.1]
                refine n_icmp_ge (tgt := 121) (by omega) (by omega) dX8_safest_114 (by decide) (fun h114 => ?_) (fun h114 => ?_)
                · refine g_iconst (v := nI 0) dX8_safest_121 (by decide) ?_
                  refine g_istore (lv' := [(7, .int (nI 0)), (6, .int (nI t)), (5, .int (rO (sArr h so la ri (pa k) (wa k) lo 2 (r (1 + k)) (r 0)))), (4, .int (rO (sArr h so la ri (pa k) (wa k) lo 1 (r (1 + k)) (r 0)))), (3, .int (nI (r (1 + k)))), (0, .ref 0), (1, .int (nI k)), (2, .int (nI 1))]) dX8_safest_122 (by decide) rfl ?_
                  rcases hon : sArr h so la ri (pa k) (wa k) lo 1 (r (1 + k)) (r 0) with _ | a
                  · skip
                    rcases hbk : sArr h so la ri (pa k) (wa k) lo 2 (r (1 + k)) (r 0) with _ | b
                    · skip
                      refine g_iload (j := 3) dX8_safest_124 rfl ?_
                      refine g_istore (lv' := [(8, .int (-9)), (7, .int (nI 0)), (6, .int (nI t)), (5, .int (-9)), (4, .int (-9)), (3, .int (nI (r (1 + k)))), (0, .ref 0), (1, .int (nI k)), (2, .int (nI 1))]) dX8_safest_126 (by decide) rfl ?_
                      refine g_iload (j := 4) dX8_safest_128 rfl ?_
                      refine g_bipush (v := (-9)) dX8_safest_130 (by decide) ?_
                      refine g_icmp_ne (tgt := 140) dX8_safest_132 (by decide) (fun h132 => ?_) (fun h132 => ?_)
                      · exact absurd rfl h132
                      · refine g_bipush (v := (-9)) dX8_safest_135 (by decide) ?_
                        refine g_goto (tgt := 141) dX8_safest_137 (by decide) ?_
                        refine g_istore (lv' := [(9, .int (-9)), (8, .int (-9)), (7, .int (nI 0)), (6, .int (nI t)), (5, .int (-9)), (4, .int (-9)), (3, .int (nI (r (1 + k)))), (0, .ref 0), (1, .int (nI k)), (2, .int (nI 1))]) dX8_safest_141 (by decide) rfl ?_
                        refine g_iload (j := 4) dX8_safest_143 rfl ?_
                        refine g_bipush (v := (-9)) dX8_safest_145 (by decide) ?_
                        refine g_icmp_eq (tgt := 171) dX8_safest_147 (by decide) (fun h147 => ?_) (fun h147 => ?_)
                        · refine g_iload (j := 2) dX8_safest_171 rfl ?_
                          refine n_if_eq (tgt := 198) (rng_lit 0 rfl) dX8_safest_173 (by decide) (fun h173 => ?_) (fun h173 => ?_)
                          · refine g_iload_n (i := 2) (j := 9) dX8_safest_198 rfl rfl ?_
                            refine g_iconst (v := nI 1) dX8_safest_199 (by decide) ?_
                            refine n_icmp_ne (tgt := 208) (rng_lit 1 rfl) (rng_lit 1 rfl) dX8_safest_200 (by decide) (fun h200 => ?_) (fun h200 => ?_)
                            · exact absurd h200 (by decide)
                            · refine g_iload (j := 0) dX8_safest_203 rfl ?_
                              refine g_goto (tgt := 244) dX8_safest_205 (by decide) ?_
                              refine g_iret rfl rfl dX8_safest_244 ?_
                              refine ⟨?_, _, _, _, rfl⟩
                              unfold pSafest
                              rw [if_pos ik, if_pos ix, ek, if_pos hz, if_neg (by decide : ¬ nI 1 = 0), hon, hbk, show decide (sUp r wk (r (1 + k)) < ho (r (1 + k))) = false from decide_eq_false (by first | omega | (have := tI_none hT ht; omega))]
                              simp only [sWhich, Bool.true_and, Bool.false_and, decide_eq_true_eq, Bool.false_eq_true, if_false, if_true] <;> (first | rfl | ((repeat' split) <;> first | rfl | (exfalso; omega)))
                          · exact absurd h173 (by decide)
                        · exact absurd rfl h147
                    · have qb := sGone_lt _ _ _ _ _ _ _ _ _ _ _ _ b q0 hbk
                      refine g_iload (j := 3) dX8_safest_124 rfl ?_
                      refine g_istore (lv' := [(8, .int (-9)), (7, .int (nI 0)), (6, .int (nI t)), (5, .int (nI b)), (4, .int (-9)), (3, .int (nI (r (1 + k)))), (0, .ref 0), (1, .int (nI k)), (2, .int (nI 1))]) dX8_safest_126 (by decide) rfl ?_
                      refine g_iload (j := 4) dX8_safest_128 rfl ?_
                      refine g_bipush (v := (-9)) dX8_safest_130 (by decide) ?_
                      refine g_icmp_ne (tgt := 140) dX8_safest_132 (by decide) (fun h132 => ?_) (fun h132 => ?_)
                      · exact absurd rfl h132
                      · refine g_bipush (v := (-9)) dX8_safest_135 (by decide) ?_
                        refine g_goto (tgt := 141) dX8_safest_137 (by decide) ?_
                        refine g_istore (lv' := [(9, .int (-9)), (8, .int (-9)), (7, .int (nI 0)), (6, .int (nI t)), (5, .int (nI b)), (4, .int (-9)), (3, .int (nI (r (1 + k)))), (0, .ref 0), (1, .int (nI k)), (2, .int (nI 1))]) dX8_safest_141 (by decide) rfl ?_
                        refine g_iload (j := 4) dX8_safest_143 rfl ?_
                        refine g_bipush (v := (-9)) dX8_safest_145 (by decide) ?_
                        refine g_icmp_eq (tgt := 171) dX8_safest_147 (by decide) (fun h147 => ?_) (fun h147 => ?_)
                        · exact absurd h147 (nI_n9 (by omega))
                        · refine g_iload (j := 0) dX8_safest_150 rfl ?_
                          refine g_bipush (v := (-9)) dX8_safest_152 (by decide) ?_
                          refine g_icmp_eq (tgt := 164) dX8_safest_154 (by decide) (fun h154 => ?_) (fun h154 => ?_)
                          · refine g_iload (j := 4) dX8_safest_164 rfl ?_
                            refine g_istore (lv' := [(8, .int (nI b)), (9, .int (-9)), (7, .int (nI 0)), (6, .int (nI t)), (5, .int (nI b)), (4, .int (-9)), (3, .int (nI (r (1 + k)))), (0, .ref 0), (1, .int (nI k)), (2, .int (nI 1))]) dX8_safest_166 (by decide) rfl ?_
                            refine g_iconst (v := nI 1) dX8_safest_168 (by decide) ?_
                            refine g_istore (lv' := [(9, .int (nI 1)), (8, .int (nI b)), (7, .int (nI 0)), (6, .int (nI t)), (5, .int (nI b)), (4, .int (-9)), (3, .int (nI (r (1 + k)))), (0, .ref 0), (1, .int (nI k)), (2, .int (nI 1))]) dX8_safest_169 (by decide) rfl ?_
                            refine g_iload (j := 2) dX8_safest_171 rfl ?_
                            refine n_if_eq (tgt := 198) (rng_lit 0 rfl) dX8_safest_173 (by decide) (fun h173 => ?_) (fun h173 => ?_)
                            · refine g_iload_n (i := 2) (j := 9) dX8_safest_198 rfl rfl ?_
                              refine g_iconst (v := nI 1) dX8_safest_199 (by decide) ?_
                              refine n_icmp_ne (tgt := 208) (rng_lit 1 rfl) (rng_lit 1 rfl) dX8_safest_200 (by decide) (fun h200 => ?_) (fun h200 => ?_)
                              · exact absurd h200 (by decide)
                              · refine g_iload (j := 0) dX8_safest_203 rfl ?_
                                refine g_goto (tgt := 244) dX8_safest_205 (by decide) ?_
                                refine g_iret rfl rfl dX8_safest_244 ?_
                                refine ⟨?_, _, _, _, rfl⟩
                                unfold pSafest
                                rw [if_pos ik, if_pos ix, ek, if_pos hz, if_neg (by decide : ¬ nI 1 = 0), hon, hbk, show decide (sUp r wk (r (1 + k)) < ho (r (1 + k))) = false from decide_eq_false (by first | omega | (have := tI_none hT ht; omega))]
                                simp only [sWhich, Bool.true_and, Bool.false_and, decide_eq_true_eq, Bool.false_eq_true, if_false, if_true] <;> (first | rfl | ((repeat' split) <;> first | rfl | (exfalso; omega)))
                            · exact absurd h173 (by decide)
                          · exact absurd rfl h154
                  · have qa := sGone_lt _ _ _ _ _ _ _ _ _ _ _ _ a q0 hon
                    rcases hbk : sArr h so la ri (pa k) (wa k) lo 2 (r (1 + k)) (r 0) with _ | b
                    · skip
                      refine g_iload (j := 3) dX8_safest_124 rfl ?_
                      refine g_istore (lv' := [(8, .int (nI a)), (7, .int (nI 0)), (6, .int (nI t)), (5, .int (-9)), (4, .int (nI a)), (3, .int (nI (r (1 + k)))), (0, .ref 0), (1, .int (nI k)), (2, .int (nI 1))]) dX8_safest_126 (by decide) rfl ?_
                      refine g_iload (j := 4) dX8_safest_128 rfl ?_
                      refine g_bipush (v := (-9)) dX8_safest_130 (by decide) ?_
                      refine g_icmp_ne (tgt := 140) dX8_safest_132 (by decide) (fun h132 => ?_) (fun h132 => ?_)
                      · refine g_iconst (v := nI 0) dX8_safest_140 (by decide) ?_
                        refine g_istore (lv' := [(9, .int (nI 0)), (8, .int (nI a)), (7, .int (nI 0)), (6, .int (nI t)), (5, .int (-9)), (4, .int (nI a)), (3, .int (nI (r (1 + k)))), (0, .ref 0), (1, .int (nI k)), (2, .int (nI 1))]) dX8_safest_141 (by decide) rfl ?_
                        refine g_iload (j := 4) dX8_safest_143 rfl ?_
                        refine g_bipush (v := (-9)) dX8_safest_145 (by decide) ?_
                        refine g_icmp_eq (tgt := 171) dX8_safest_147 (by decide) (fun h147 => ?_) (fun h147 => ?_)
                        · refine g_iload (j := 2) dX8_safest_171 rfl ?_
                          refine n_if_eq (tgt := 198) (rng_lit 0 rfl) dX8_safest_173 (by decide) (fun h173 => ?_) (fun h173 => ?_)
                          · refine g_iload_n (i := 2) (j := 9) dX8_safest_198 rfl rfl ?_
                            refine g_iconst (v := nI 1) dX8_safest_199 (by decide) ?_
                            refine n_icmp_ne (tgt := 208) (rng_lit 1 rfl) (rng_lit 1 rfl) dX8_safest_200 (by decide) (fun h200 => ?_) (fun h200 => ?_)
                            · exact absurd h200 (by decide)
                            · refine g_iload (j := 0) dX8_safest_203 rfl ?_
                              refine g_goto (tgt := 244) dX8_safest_205 (by decide) ?_
                              refine g_iret rfl rfl dX8_safest_244 ?_
                              refine ⟨?_, _, _, _, rfl⟩
                              unfold pSafest
                              rw [if_pos ik, if_pos ix, ek, if_pos hz, if_neg (by decide : ¬ nI 1 = 0), hon, hbk, show decide (sUp r wk (r (1 + k)) < ho (r (1 + k))) = false from decide_eq_false (by first | omega | (have := tI_none hT ht; omega))]
                              simp only [sWhich, Bool.true_and, Bool.false_and, decide_eq_true_eq, Bool.false_eq_true, if_false, if_true] <;> (first | rfl | ((repeat' split) <;> first | rfl | (exfalso; omega)))
                          · exact absurd h173 (by decide)
                        · exact absurd rfl h147
                      · exact absurd h132 (nI_n9 (by omega))
                    · have qb := sGone_lt _ _ _ _ _ _ _ _ _ _ _ _ b q0 hbk
                      refine g_iload (j := 3) dX8_safest_124 rfl ?_
                      refine g_istore (lv' := [(8, .int (nI a)), (7, .int (nI 0)), (6, .int (nI t)), (5, .int (nI b)), (4, .int (nI a)), (3, .int (nI (r (1 + k)))), (0, .ref 0), (1, .int (nI k)), (2, .int (nI 1))]) dX8_safest_126 (by decide) rfl ?_
                      refine g_iload (j := 4) dX8_safest_128 rfl ?_
                      refine g_bipush (v := (-9)) dX8_safest_130 (by decide) ?_
                      refine g_icmp_ne (tgt := 140) dX8_safest_132 (by decide) (fun h132 => ?_) (fun h132 => ?_)
                      · refine g_iconst (v := nI 0) dX8_safest_140 (by decide) ?_
                        refine g_istore (lv' := [(9, .int (nI 0)), (8, .int (nI a)), (7, .int (nI 0)), (6, .int (nI t)), (5, .int (nI b)), (4, .int (nI a)), (3, .int (nI (r (1 + k)))), (0, .ref 0), (1, .int (nI k)), (2, .int (nI 1))]) dX8_safest_141 (by decide) rfl ?_
                        refine g_iload (j := 4) dX8_safest_143 rfl ?_
                        refine g_bipush (v := (-9)) dX8_safest_145 (by decide) ?_
                        refine g_icmp_eq (tgt := 171) dX8_safest_147 (by decide) (fun h147 => ?_) (fun h147 => ?_)
                        · exact absurd h147 (nI_n9 (by omega))
                        · refine g_iload (j := 0) dX8_safest_150 rfl ?_
                          refine g_bipush (v := (-9)) dX8_safest_152 (by decide) ?_
                          refine g_icmp_eq (tgt := 164) dX8_safest_154 (by decide) (fun h154 => ?_) (fun h154 => ?_)
                          · exact absurd h154 (nI_n9 (by omega))
                          · refine g_iload (j := 4) dX8_safest_157 rfl ?_
                            refine g_iload (j := 1) dX8_safest_159 rfl ?_
                            refine n_icmp_ge (tgt := 171) (by omega) (by omega) dX8_safest_161 (by decide) (fun h161 => ?_) (fun h161 => ?_)
                            · refine g_iload (j := 2) dX8_safest_171 rfl ?_
                              refine n_if_eq (tgt := 198) (rng_lit 0 rfl) dX8_safest_173 (by decide) (fun h173 => ?_) (fun h173 => ?_)
                              · refine g_iload_n (i := 2) (j := 9) dX8_safest_198 rfl rfl ?_
                                refine g_iconst (v := nI 1) dX8_safest_199 (by decide) ?_
                                refine n_icmp_ne (tgt := 208) (rng_lit 1 rfl) (rng_lit 1 rfl) dX8_safest_200 (by decide) (fun h200 => ?_) (fun h200 => ?_)
                                · exact absurd h200 (by decide)
                                · refine g_iload (j := 0) dX8_safest_203 rfl ?_
                                  refine g_goto (tgt := 244) dX8_safest_205 (by decide) ?_
                                  refine g_iret rfl rfl dX8_safest_244 ?_
                                  refine ⟨?_, _, _, _, rfl⟩
                                  unfold pSafest
                                  rw [if_pos ik, if_pos ix, ek, if_pos hz, if_neg (by decide : ¬ nI 1 = 0), hon, hbk, show decide (sUp r wk (r (1 + k)) < ho (r (1 + k))) = false from decide_eq_false (by first | omega | (have := tI_none hT ht; omega))]
                                  simp only [sWhich, Bool.true_and, Bool.false_and, decide_eq_true_eq, Bool.false_eq_true, if_false, if_true] <;> (first | rfl | ((repeat' split) <;> first | rfl | (exfalso; omega)))
                              · exact absurd h173 (by decide)
                            · refine g_iload (j := 4) dX8_safest_164 rfl ?_
                              refine g_istore (lv' := [(8, .int (nI b)), (9, .int (nI 0)), (7, .int (nI 0)), (6, .int (nI t)), (5, .int (nI b)), (4, .int (nI a)), (3, .int (nI (r (1 + k)))), (0, .ref 0), (1, .int (nI k)), (2, .int (nI 1))]) dX8_safest_166 (by decide) rfl ?_
                              refine g_iconst (v := nI 1) dX8_safest_168 (by decide) ?_
                              refine g_istore (lv' := [(9, .int (nI 1)), (8, .int (nI b)), (7, .int (nI 0)), (6, .int (nI t)), (5, .int (nI b)), (4, .int (nI a)), (3, .int (nI (r (1 + k)))), (0, .ref 0), (1, .int (nI k)), (2, .int (nI 1))]) dX8_safest_169 (by decide) rfl ?_
                              refine g_iload (j := 2) dX8_safest_171 rfl ?_
                              refine n_if_eq (tgt := 198) (rng_lit 0 rfl) dX8_safest_173 (by decide) (fun h173 => ?_) (fun h173 => ?_)
                              · refine g_iload_n (i := 2) (j := 9) dX8_safest_198 rfl rfl ?_
                                refine g_iconst (v := nI 1) dX8_safest_199 (by decide) ?_
                                refine n_icmp_ne (tgt := 208) (rng_lit 1 rfl) (rng_lit 1 rfl) dX8_safest_200 (by decide) (fun h200 => ?_) (fun h200 => ?_)
                                · exact absurd h200 (by decide)
                                · refine g_iload (j := 0) dX8_safest_203 rfl ?_
                                  refine g_goto (tgt := 244) dX8_safest_205 (by decide) ?_
                                  refine g_iret rfl rfl dX8_safest_244 ?_
                                  refine ⟨?_, _, _, _, rfl⟩
                                  unfold pSafest
                                  rw [if_pos ik, if_pos ix, ek, if_pos hz, if_neg (by decide : ¬ nI 1 = 0), hon, hbk, show decide (sUp r wk (r (1 + k)) < ho (r (1 + k))) = false from decide_eq_false (by first | omega | (have := tI_none hT ht; omega))]
                                  simp only [sWhich, Bool.true_and, Bool.false_and, decide_eq_true_eq, Bool.false_eq_true, if_false, if_true] <;> (first | rfl | ((repeat' split) <;> first | rfl | (exfalso; omega)))
                              · exact absurd h173 (by decide)
                      · exact absurd h132 (nI_n9 (by omega))
                · refine g_iconst (v := nI 1) dX8_safest_117 (by decide) ?_
                  refine g_goto (tgt := 122) dX8_safest_118 (by decide) ?_
                  refine g_istore (lv' := [(7, .int (nI 1)), (6, .int (nI t)), (5, .int (rO (sArr h so la ri (pa k) (wa k) lo 2 (r (1 + k)) (r 0)))), (4, .int (rO (sArr h so la ri (pa k) (wa k) lo 1 (r (1 + k)) (r 0)))), (3, .int (nI (r (1 + k)))), (0, .ref 0), (1, .int (nI k)), (2, .int (nI 1))]) dX8_safest_122 (by decide) rfl ?_
                  rcases hon : sArr h so la ri (pa k) (wa k) lo 1 (r (1 + k)) (r 0) with _ | a
                  · skip
                    rcases hbk : sArr h so la ri (pa k) (wa k) lo 2 (r (1 + k)) (r 0) with _ | b
                    · skip
                      refine g_iload (j := 3) dX8_safest_124 rfl ?_
                      refine g_istore (lv' := [(8, .int (-9)), (7, .int (nI 1)), (6, .int (nI t)), (5, .int (-9)), (4, .int (-9)), (3, .int (nI (r (1 + k)))), (0, .ref 0), (1, .int (nI k)), (2, .int (nI 1))]) dX8_safest_126 (by decide) rfl ?_
                      refine g_iload (j := 4) dX8_safest_128 rfl ?_
                      refine g_bipush (v := (-9)) dX8_safest_130 (by decide) ?_
                      refine g_icmp_ne (tgt := 140) dX8_safest_132 (by decide) (fun h132 => ?_) (fun h132 => ?_)
                      · exact absurd rfl h132
                      · refine g_bipush (v := (-9)) dX8_safest_135 (by decide) ?_
                        refine g_goto (tgt := 141) dX8_safest_137 (by decide) ?_
                        refine g_istore (lv' := [(9, .int (-9)), (8, .int (-9)), (7, .int (nI 1)), (6, .int (nI t)), (5, .int (-9)), (4, .int (-9)), (3, .int (nI (r (1 + k)))), (0, .ref 0), (1, .int (nI k)), (2, .int (nI 1))]) dX8_safest_141 (by decide) rfl ?_
                        refine g_iload (j := 4) dX8_safest_143 rfl ?_
                        refine g_bipush (v := (-9)) dX8_safest_145 (by decide) ?_
                        refine g_icmp_eq (tgt := 171) dX8_safest_147 (by decide) (fun h147 => ?_) (fun h147 => ?_)
                        · refine g_iload (j := 2) dX8_safest_171 rfl ?_
                          refine n_if_eq (tgt := 198) (rng_lit 1 rfl) dX8_safest_173 (by decide) (fun h173 => ?_) (fun h173 => ?_)
                          · exact absurd h173 (by decide)
                          · refine g_iload (j := 0) dX8_safest_176 rfl ?_
                            refine g_bipush (v := (-9)) dX8_safest_178 (by decide) ?_
                            refine g_icmp_eq (tgt := 195) dX8_safest_180 (by decide) (fun h180 => ?_) (fun h180 => ?_)
                            · refine g_iconst (v := nI 2) dX8_safest_195 (by decide) ?_
                              refine g_istore (lv' := [(9, .int (nI 2)), (8, .int (-9)), (7, .int (nI 1)), (6, .int (nI t)), (5, .int (-9)), (4, .int (-9)), (3, .int (nI (r (1 + k)))), (0, .ref 0), (1, .int (nI k)), (2, .int (nI 1))]) dX8_safest_196 (by decide) rfl ?_
                              refine g_iload_n (i := 2) (j := 9) dX8_safest_198 rfl rfl ?_
                              refine g_iconst (v := nI 1) dX8_safest_199 (by decide) ?_
                              refine n_icmp_ne (tgt := 208) (rng_lit 1 rfl) (rng_lit 1 rfl) dX8_safest_200 (by decide) (fun h200 => ?_) (fun h200 => ?_)
                              · exact absurd h200 (by decide)
                              · refine g_iload (j := 0) dX8_safest_203 rfl ?_
                                refine g_goto (tgt := 244) dX8_safest_205 (by decide) ?_
                                refine g_iret rfl rfl dX8_safest_244 ?_
                                refine ⟨?_, _, _, _, rfl⟩
                                unfold pSafest
                                rw [if_pos ik, if_pos ix, ek, if_pos hz, if_neg (by decide : ¬ nI 1 = 0), hon, hbk, show decide (sUp r wk (r (1 + k)) < ho (r (1 + k))) = true from decide_eq_true (by first | omega | (have := tI_none hT ht; omega))]
                                simp only [sWhich, Bool.true_and, Bool.false_and, decide_eq_true_eq, Bool.false_eq_true, if_false, if_true] <;> (first | rfl | ((repeat' split) <;> first | rfl | (exfalso; omega)))
                            · exact absurd rfl h180
                        · exact absurd rfl h147
                    · have qb := sGone_lt _ _ _ _ _ _ _ _ _ _ _ _ b q0 hbk
                      refine g_iload (j := 3) dX8_safest_124 rfl ?_
                      refine g_istore (lv' := [(8, .int (-9)), (7, .int (nI 1)), (6, .int (nI t)), (5, .int (nI b)), (4, .int (-9)), (3, .int (nI (r (1 + k)))), (0, .ref 0), (1, .int (nI k)), (2, .int (nI 1))]) dX8_safest_126 (by decide) rfl ?_
                      refine g_iload (j := 4) dX8_safest_128 rfl ?_
                      refine g_bipush (v := (-9)) dX8_safest_130 (by decide) ?_
                      refine g_icmp_ne (tgt := 140) dX8_safest_132 (by decide) (fun h132 => ?_) (fun h132 => ?_)
                      · exact absurd rfl h132
                      · refine g_bipush (v := (-9)) dX8_safest_135 (by decide) ?_
                        refine g_goto (tgt := 141) dX8_safest_137 (by decide) ?_
                        refine g_istore (lv' := [(9, .int (-9)), (8, .int (-9)), (7, .int (nI 1)), (6, .int (nI t)), (5, .int (nI b)), (4, .int (-9)), (3, .int (nI (r (1 + k)))), (0, .ref 0), (1, .int (nI k)), (2, .int (nI 1))]) dX8_safest_141 (by decide) rfl ?_
                        refine g_iload (j := 4) dX8_safest_143 rfl ?_
                        refine g_bipush (v := (-9)) dX8_safest_145 (by decide) ?_
                        refine g_icmp_eq (tgt := 171) dX8_safest_147 (by decide) (fun h147 => ?_) (fun h147 => ?_)
                        · exact absurd h147 (nI_n9 (by omega))
                        · refine g_iload (j := 0) dX8_safest_150 rfl ?_
                          refine g_bipush (v := (-9)) dX8_safest_152 (by decide) ?_
                          refine g_icmp_eq (tgt := 164) dX8_safest_154 (by decide) (fun h154 => ?_) (fun h154 => ?_)
                          · refine g_iload (j := 4) dX8_safest_164 rfl ?_
                            refine g_istore (lv' := [(8, .int (nI b)), (9, .int (-9)), (7, .int (nI 1)), (6, .int (nI t)), (5, .int (nI b)), (4, .int (-9)), (3, .int (nI (r (1 + k)))), (0, .ref 0), (1, .int (nI k)), (2, .int (nI 1))]) dX8_safest_166 (by decide) rfl ?_
                            refine g_iconst (v := nI 1) dX8_safest_168 (by decide) ?_
                            refine g_istore (lv' := [(9, .int (nI 1)), (8, .int (nI b)), (7, .int (nI 1)), (6, .int (nI t)), (5, .int (nI b)), (4, .int (-9)), (3, .int (nI (r (1 + k)))), (0, .ref 0), (1, .int (nI k)), (2, .int (nI 1))]) dX8_safest_169 (by decide) rfl ?_
                            refine g_iload (j := 2) dX8_safest_171 rfl ?_
                            refine n_if_eq (tgt := 198) (rng_lit 1 rfl) dX8_safest_173 (by decide) (fun h173 => ?_) (fun h173 => ?_)
                            · exact absurd h173 (by decide)
                            · refine g_iload (j := 0) dX8_safest_176 rfl ?_
                              refine g_bipush (v := (-9)) dX8_safest_178 (by decide) ?_
                              refine g_icmp_eq (tgt := 195) dX8_safest_180 (by decide) (fun h180 => ?_) (fun h180 => ?_)
                              · exact absurd h180 (nI_n9 (by omega))
                              · refine g_aload_n (i := 0) (j := 7) dX8_safest_183 rfl rfl ?_
                                refine g_get fX8_47 rfl rfl dX8_safest_184 ?_
                                refine g_bipush (v := nI 15) dX8_safest_187 (by decide) ?_
                                refine n_iald (x := 15) rfl (by omega) (rng_lit 16 rfl) dX8_safest_189 ?_
                                refine g_topi (y := nI (r 0)) (by rw [pg_t]) ?_
                                refine g_iload (j := 1) dX8_safest_190 rfl ?_
                                refine n_icmp_ge (tgt := 198) (by omega) (by omega) dX8_safest_192 (by decide) (fun h192 => ?_) (fun h192 => ?_)
                                · refine g_iload_n (i := 2) (j := 9) dX8_safest_198 rfl rfl ?_
                                  refine g_iconst (v := nI 1) dX8_safest_199 (by decide) ?_
                                  refine n_icmp_ne (tgt := 208) (rng_lit 1 rfl) (rng_lit 1 rfl) dX8_safest_200 (by decide) (fun h200 => ?_) (fun h200 => ?_)
                                  · exact absurd h200 (by decide)
                                  · refine g_iload (j := 0) dX8_safest_203 rfl ?_
                                    refine g_goto (tgt := 244) dX8_safest_205 (by decide) ?_
                                    refine g_iret rfl rfl dX8_safest_244 ?_
                                    refine ⟨?_, _, _, _, rfl⟩
                                    unfold pSafest
                                    rw [if_pos ik, if_pos ix, ek, if_pos hz, if_neg (by decide : ¬ nI 1 = 0), hon, hbk, show decide (sUp r wk (r (1 + k)) < ho (r (1 + k))) = true from decide_eq_true (by first | omega | (have := tI_none hT ht; omega))]
                                    simp only [sWhich, Bool.true_and, Bool.false_and, decide_eq_true_eq, Bool.false_eq_true, if_false, if_true] <;> (first | rfl | ((repeat' split) <;> first | rfl | (exfalso; omega)))
                                · refine g_iconst (v := nI 2) dX8_safest_195 (by decide) ?_
                                  refine g_istore (lv' := [(9, .int (nI 2)), (8, .int (nI b)), (7, .int (nI 1)), (6, .int (nI t)), (5, .int (nI b)), (4, .int (-9)), (3, .int (nI (r (1 + k)))), (0, .ref 0), (1, .int (nI k)), (2, .int (nI 1))]) dX8_safest_196 (by decide) rfl ?_
                                  refine g_iload_n (i := 2) (j := 9) dX8_safest_198 rfl rfl ?_
                                  refine g_iconst (v := nI 1) dX8_safest_199 (by decide) ?_
                                  refine n_icmp_ne (tgt := 208) (rng_lit 1 rfl) (rng_lit 1 rfl) dX8_safest_200 (by decide) (fun h200 => ?_) (fun h200 => ?_)
                                  · exact absurd h200 (by decide)
                                  · refine g_iload (j := 0) dX8_safest_203 rfl ?_
                                    refine g_goto (tgt := 244) dX8_safest_205 (by decide) ?_
                                    refine g_iret rfl rfl dX8_safest_244 ?_
                                    refine ⟨?_, _, _, _, rfl⟩
                                    unfold pSafest
                                    rw [if_pos ik, if_pos ix, ek, if_pos hz, if_neg (by decide : ¬ nI 1 = 0), hon, hbk, show decide (sUp r wk (r (1 + k)) < ho (r (1 + k))) = true from decide_eq_true (by first | omega | (have := tI_none hT ht; omega))]
                                    simp only [sWhich, Bool.true_and, Bool.false_and, decide_eq_true_eq, Bool.false_eq_true, if_false, if_true] <;> (first | rfl | ((repeat' split) <;> first | rfl | (exfalso; omega)))
                          · exact absurd rfl h154
                  · have qa := sGone_lt _ _ _ _ _ _ _ _ _ _ _ _ a q0 hon
                    rcases hbk : sArr h so la ri (pa k) (wa k) lo 2 (r (1 + k)) (r 0) with _ | b
                    · skip
                      refine g_iload (j := 3) dX8_safest_124 rfl ?_
                      refine g_istore (lv' := [(8, .int (nI a)), (7, .int (nI 1)), (6, .int (nI t)), (5, .int (-9)), (4, .int (nI a)), (3, .int (nI (r (1 + k)))), (0, .ref 0), (1, .int (nI k)), (2, .int (nI 1))]) dX8_safest_126 (by decide) rfl ?_
                      refine g_iload (j := 4) dX8_safest_128 rfl ?_
                      refine g_bipush (v := (-9)) dX8_safest_130 (by decide) ?_
                      refine g_icmp_ne (tgt := 140) dX8_safest_132 (by decide) (fun h132 => ?_) (fun h132 => ?_)
                      · refine g_iconst (v := nI 0) dX8_safest_140 (by decide) ?_
                        refine g_istore (lv' := [(9, .int (nI 0)), (8, .int (nI a)), (7, .int (nI 1)), (6, .int (nI t)), (5, .int (-9)), (4, .int (nI a)), (3, .int (nI (r (1 + k)))), (0, .ref 0), (1, .int (nI k)), (2, .int (nI 1))]) dX8_safest_141 (by decide) rfl ?_
                        refine g_iload (j := 4) dX8_safest_143 rfl ?_
                        refine g_bipush (v := (-9)) dX8_safest_145 (by decide) ?_
                        refine g_icmp_eq (tgt := 171) dX8_safest_147 (by decide) (fun h147 => ?_) (fun h147 => ?_)
                        · refine g_iload (j := 2) dX8_safest_171 rfl ?_
                          refine n_if_eq (tgt := 198) (rng_lit 1 rfl) dX8_safest_173 (by decide) (fun h173 => ?_) (fun h173 => ?_)
                          · exact absurd h173 (by decide)
                          · refine g_iload (j := 0) dX8_safest_176 rfl ?_
                            refine g_bipush (v := (-9)) dX8_safest_178 (by decide) ?_
                            refine g_icmp_eq (tgt := 195) dX8_safest_180 (by decide) (fun h180 => ?_) (fun h180 => ?_)
                            · exact absurd h180 (nI_n9 (by omega))
                            · refine g_aload_n (i := 0) (j := 7) dX8_safest_183 rfl rfl ?_
                              refine g_get fX8_47 rfl rfl dX8_safest_184 ?_
                              refine g_bipush (v := nI 15) dX8_safest_187 (by decide) ?_
                              refine n_iald (x := 15) rfl (by omega) (rng_lit 16 rfl) dX8_safest_189 ?_
                              refine g_topi (y := nI (r 0)) (by rw [pg_t]) ?_
                              refine g_iload (j := 1) dX8_safest_190 rfl ?_
                              refine n_icmp_ge (tgt := 198) (by omega) (by omega) dX8_safest_192 (by decide) (fun h192 => ?_) (fun h192 => ?_)
                              · refine g_iload_n (i := 2) (j := 9) dX8_safest_198 rfl rfl ?_
                                refine g_iconst (v := nI 1) dX8_safest_199 (by decide) ?_
                                refine n_icmp_ne (tgt := 208) (rng_lit 1 rfl) (rng_lit 1 rfl) dX8_safest_200 (by decide) (fun h200 => ?_) (fun h200 => ?_)
                                · exact absurd h200 (by decide)
                                · refine g_iload (j := 0) dX8_safest_203 rfl ?_
                                  refine g_goto (tgt := 244) dX8_safest_205 (by decide) ?_
                                  refine g_iret rfl rfl dX8_safest_244 ?_
                                  refine ⟨?_, _, _, _, rfl⟩
                                  unfold pSafest
                                  rw [if_pos ik, if_pos ix, ek, if_pos hz, if_neg (by decide : ¬ nI 1 = 0), hon, hbk, show decide (sUp r wk (r (1 + k)) < ho (r (1 + k))) = true from decide_eq_true (by first | omega | (have := tI_none hT ht; omega))]
                                  simp only [sWhich, Bool.true_and, Bool.false_and, decide_eq_true_eq, Bool.false_eq_true, if_false, if_true] <;> (first | rfl | ((repeat' split) <;> first | rfl | (exfalso; omega)))
                              · refine g_iconst (v := nI 2) dX8_safest_195 (by decide) ?_
                                refine g_istore (lv' := [(9, .int (nI 2)), (8, .int (nI a)), (7, .int (nI 1)), (6, .int (nI t)), (5, .int (-9)), (4, .int (nI a)), (3, .int (nI (r (1 + k)))), (0, .ref 0), (1, .int (nI k)), (2, .int (nI 1))]) dX8_safest_196 (by decide) rfl ?_
                                refine g_iload_n (i := 2) (j := 9) dX8_safest_198 rfl rfl ?_
                                refine g_iconst (v := nI 1) dX8_safest_199 (by decide) ?_
                                refine n_icmp_ne (tgt := 208) (rng_lit 1 rfl) (rng_lit 1 rfl) dX8_safest_200 (by decide) (fun h200 => ?_) (fun h200 => ?_)
                                · exact absurd h200 (by decide)
                                · refine g_iload (j := 0) dX8_safest_203 rfl ?_
                                  refine g_goto (tgt := 244) dX8_safest_205 (by decide) ?_
                                  refine g_iret rfl rfl dX8_safest_244 ?_
                                  refine ⟨?_, _, _, _, rfl⟩
                                  unfold pSafest
                                  rw [if_pos ik, if_pos ix, ek, if_pos hz, if_neg (by decide : ¬ nI 1 = 0), hon, hbk, show decide (sUp r wk (r (1 + k)) < ho (r (1 + k))) = true from decide_eq_true (by first | omega | (have := tI_none hT ht; omega))]
                                  simp only [sWhich, Bool.true_and, Bool.false_and, decide_eq_true_eq, Bool.false_eq_true, if_false, if_true] <;> (first | rfl | ((repeat' split) <;> first | rfl | (exfalso; omega)))
                        · exact absurd rfl h147
                      · exact absurd h132 (nI_n9 (by omega))
                    · have qb := sGone_lt _ _ _ _ _ _ _ _ _ _ _ _ b q0 hbk
                      refine g_iload (j := 3) dX8_safest_124 rfl ?_
                      refine g_istore (lv' := [(8, .int (nI a)), (7, .int (nI 1)), (6, .int (nI t)), (5, .int (nI b)), (4, .int (nI a)), (3, .int (nI (r (1 + k)))), (0, .ref 0), (1, .int (nI k)), (2, .int (nI 1))]) dX8_safest_126 (by decide) rfl ?_
                      refine g_iload (j := 4) dX8_safest_128 rfl ?_
                      refine g_bipush (v := (-9)) dX8_safest_130 (by decide) ?_
                      refine g_icmp_ne (tgt := 140) dX8_safest_132 (by decide) (fun h132 => ?_) (fun h132 => ?_)
                      · refine g_iconst (v := nI 0) dX8_safest_140 (by decide) ?_
                        refine g_istore (lv' := [(9, .int (nI 0)), (8, .int (nI a)), (7, .int (nI 1)), (6, .int (nI t)), (5, .int (nI b)), (4, .int (nI a)), (3, .int (nI (r (1 + k)))), (0, .ref 0), (1, .int (nI k)), (2, .int (nI 1))]) dX8_safest_141 (by decide) rfl ?_
                        refine g_iload (j := 4) dX8_safest_143 rfl ?_
                        refine g_bipush (v := (-9)) dX8_safest_145 (by decide) ?_
                        refine g_icmp_eq (tgt := 171) dX8_safest_147 (by decide) (fun h147 => ?_) (fun h147 => ?_)
                        · exact absurd h147 (nI_n9 (by omega))
                        · refine g_iload (j := 0) dX8_safest_150 rfl ?_
                          refine g_bipush (v := (-9)) dX8_safest_152 (by decide) ?_
                          refine g_icmp_eq (tgt := 164) dX8_safest_154 (by decide) (fun h154 => ?_) (fun h154 => ?_)
                          · exact absurd h154 (nI_n9 (by omega))
                          · refine g_iload (j := 4) dX8_safest_157 rfl ?_
                            refine g_iload (j := 1) dX8_safest_159 rfl ?_
                            refine n_icmp_ge (tgt := 171) (by omega) (by omega) dX8_safest_161 (by decide) (fun h161 => ?_) (fun h161 => ?_)
                            · refine g_iload (j := 2) dX8_safest_171 rfl ?_
                              refine n_if_eq (tgt := 198) (rng_lit 1 rfl) dX8_safest_173 (by decide) (fun h173 => ?_) (fun h173 => ?_)
                              · exact absurd h173 (by decide)
                              · refine g_iload (j := 0) dX8_safest_176 rfl ?_
                                refine g_bipush (v := (-9)) dX8_safest_178 (by decide) ?_
                                refine g_icmp_eq (tgt := 195) dX8_safest_180 (by decide) (fun h180 => ?_) (fun h180 => ?_)
                                · exact absurd h180 (nI_n9 (by omega))
                                · refine g_aload_n (i := 0) (j := 7) dX8_safest_183 rfl rfl ?_
                                  refine g_get fX8_47 rfl rfl dX8_safest_184 ?_
                                  refine g_bipush (v := nI 15) dX8_safest_187 (by decide) ?_
                                  refine n_iald (x := 15) rfl (by omega) (rng_lit 16 rfl) dX8_safest_189 ?_
                                  refine g_topi (y := nI (r 0)) (by rw [pg_t]) ?_
                                  refine g_iload (j := 1) dX8_safest_190 rfl ?_
                                  refine n_icmp_ge (tgt := 198) (by omega) (by omega) dX8_safest_192 (by decide) (fun h192 => ?_) (fun h192 => ?_)
                                  · refine g_iload_n (i := 2) (j := 9) dX8_safest_198 rfl rfl ?_
                                    refine g_iconst (v := nI 1) dX8_safest_199 (by decide) ?_
                                    refine n_icmp_ne (tgt := 208) (rng_lit 1 rfl) (rng_lit 1 rfl) dX8_safest_200 (by decide) (fun h200 => ?_) (fun h200 => ?_)
                                    · exact absurd h200 (by decide)
                                    · refine g_iload (j := 0) dX8_safest_203 rfl ?_
                                      refine g_goto (tgt := 244) dX8_safest_205 (by decide) ?_
                                      refine g_iret rfl rfl dX8_safest_244 ?_
                                      refine ⟨?_, _, _, _, rfl⟩
                                      unfold pSafest
                                      rw [if_pos ik, if_pos ix, ek, if_pos hz, if_neg (by decide : ¬ nI 1 = 0), hon, hbk, show decide (sUp r wk (r (1 + k)) < ho (r (1 + k))) = true from decide_eq_true (by first | omega | (have := tI_none hT ht; omega))]
                                      simp only [sWhich, Bool.true_and, Bool.false_and, decide_eq_true_eq, Bool.false_eq_true, if_false, if_true] <;> (first | rfl | ((repeat' split) <;> first | rfl | (exfalso; omega)))
                                  · refine g_iconst (v := nI 2) dX8_safest_195 (by decide) ?_
                                    refine g_istore (lv' := [(9, .int (nI 2)), (8, .int (nI a)), (7, .int (nI 1)), (6, .int (nI t)), (5, .int (nI b)), (4, .int (nI a)), (3, .int (nI (r (1 + k)))), (0, .ref 0), (1, .int (nI k)), (2, .int (nI 1))]) dX8_safest_196 (by decide) rfl ?_
                                    refine g_iload_n (i := 2) (j := 9) dX8_safest_198 rfl rfl ?_
                                    refine g_iconst (v := nI 1) dX8_safest_199 (by decide) ?_
                                    refine n_icmp_ne (tgt := 208) (rng_lit 1 rfl) (rng_lit 1 rfl) dX8_safest_200 (by decide) (fun h200 => ?_) (fun h200 => ?_)
                                    · exact absurd h200 (by decide)
                                    · refine g_iload (j := 0) dX8_safest_203 rfl ?_
                                      refine g_goto (tgt := 244) dX8_safest_205 (by decide) ?_
                                      refine g_iret rfl rfl dX8_safest_244 ?_
                                      refine ⟨?_, _, _, _, rfl⟩
                                      unfold pSafest
                                      rw [if_pos ik, if_pos ix, ek, if_pos hz, if_neg (by decide : ¬ nI 1 = 0), hon, hbk, show decide (sUp r wk (r (1 + k)) < ho (r (1 + k))) = true from decide_eq_true (by first | omega | (have := tI_none hT ht; omega))]
                                      simp only [sWhich, Bool.true_and, Bool.false_and, decide_eq_true_eq, Bool.false_eq_true, if_false, if_true] <;> (first | rfl | ((repeat' split) <;> first | rfl | (exfalso; omega)))
                            · refine g_iload (j := 4) dX8_safest_164 rfl ?_
                              refine g_istore (lv' := [(8, .int (nI b)), (9, .int (nI 0)), (7, .int (nI 1)), (6, .int (nI t)), (5, .int (nI b)), (4, .int (nI a)), (3, .int (nI (r (1 + k)))), (0, .ref 0), (1, .int (nI k)), (2, .int (nI 1))]) dX8_safest_166 (by decide) rfl ?_
                              refine g_iconst (v := nI 1) dX8_safest_168 (by decide) ?_
                              refine g_istore (lv' := [(9, .int (nI 1)), (8, .int (nI b)), (7, .int (nI 1)), (6, .int (nI t)), (5, .int (nI b)), (4, .int (nI a)), (3, .int (nI (r (1 + k)))), (0, .ref 0), (1, .int (nI k)), (2, .int (nI 1))]) dX8_safest_169 (by decide) rfl ?_
                              refine g_iload (j := 2) dX8_safest_171 rfl ?_
                              refine n_if_eq (tgt := 198) (rng_lit 1 rfl) dX8_safest_173 (by decide) (fun h173 => ?_) (fun h173 => ?_)
                              · exact absurd h173 (by decide)
                              · refine g_iload (j := 0) dX8_safest_176 rfl ?_
                                refine g_bipush (v := (-9)) dX8_safest_178 (by decide) ?_
                                refine g_icmp_eq (tgt := 195) dX8_safest_180 (by decide) (fun h180 => ?_) (fun h180 => ?_)
                                · exact absurd h180 (nI_n9 (by omega))
                                · refine g_aload_n (i := 0) (j := 7) dX8_safest_183 rfl rfl ?_
                                  refine g_get fX8_47 rfl rfl dX8_safest_184 ?_
                                  refine g_bipush (v := nI 15) dX8_safest_187 (by decide) ?_
                                  refine n_iald (x := 15) rfl (by omega) (rng_lit 16 rfl) dX8_safest_189 ?_
                                  refine g_topi (y := nI (r 0)) (by rw [pg_t]) ?_
                                  refine g_iload (j := 1) dX8_safest_190 rfl ?_
                                  refine n_icmp_ge (tgt := 198) (by omega) (by omega) dX8_safest_192 (by decide) (fun h192 => ?_) (fun h192 => ?_)
                                  · refine g_iload_n (i := 2) (j := 9) dX8_safest_198 rfl rfl ?_
                                    refine g_iconst (v := nI 1) dX8_safest_199 (by decide) ?_
                                    refine n_icmp_ne (tgt := 208) (rng_lit 1 rfl) (rng_lit 1 rfl) dX8_safest_200 (by decide) (fun h200 => ?_) (fun h200 => ?_)
                                    · exact absurd h200 (by decide)
                                    · refine g_iload (j := 0) dX8_safest_203 rfl ?_
                                      refine g_goto (tgt := 244) dX8_safest_205 (by decide) ?_
                                      refine g_iret rfl rfl dX8_safest_244 ?_
                                      refine ⟨?_, _, _, _, rfl⟩
                                      unfold pSafest
                                      rw [if_pos ik, if_pos ix, ek, if_pos hz, if_neg (by decide : ¬ nI 1 = 0), hon, hbk, show decide (sUp r wk (r (1 + k)) < ho (r (1 + k))) = true from decide_eq_true (by first | omega | (have := tI_none hT ht; omega))]
                                      simp only [sWhich, Bool.true_and, Bool.false_and, decide_eq_true_eq, Bool.false_eq_true, if_false, if_true] <;> (first | rfl | ((repeat' split) <;> first | rfl | (exfalso; omega)))
                                  · refine g_iconst (v := nI 2) dX8_safest_195 (by decide) ?_
                                    refine g_istore (lv' := [(9, .int (nI 2)), (8, .int (nI b)), (7, .int (nI 1)), (6, .int (nI t)), (5, .int (nI b)), (4, .int (nI a)), (3, .int (nI (r (1 + k)))), (0, .ref 0), (1, .int (nI k)), (2, .int (nI 1))]) dX8_safest_196 (by decide) rfl ?_
                                    refine g_iload_n (i := 2) (j := 9) dX8_safest_198 rfl rfl ?_
                                    refine g_iconst (v := nI 1) dX8_safest_199 (by decide) ?_
                                    refine n_icmp_ne (tgt := 208) (rng_lit 1 rfl) (rng_lit 1 rfl) dX8_safest_200 (by decide) (fun h200 => ?_) (fun h200 => ?_)
                                    · exact absurd h200 (by decide)
                                    · refine g_iload (j := 0) dX8_safest_203 rfl ?_
                                      refine g_goto (tgt := 244) dX8_safest_205 (by decide) ?_
                                      refine g_iret rfl rfl dX8_safest_244 ?_
                                      refine ⟨?_, _, _, _, rfl⟩
                                      unfold pSafest
                                      rw [if_pos ik, if_pos ix, ek, if_pos hz, if_neg (by decide : ¬ nI 1 = 0), hon, hbk, show decide (sUp r wk (r (1 + k)) < ho (r (1 + k))) = true from decide_eq_true (by first | omega | (have := tI_none hT ht; omega))]
                                      simp only [sWhich, Bool.true_and, Bool.false_and, decide_eq_true_eq, Bool.false_eq_true, if_false, if_true] <;> (first | rfl | ((repeat' split) <;> first | rfl | (exfalso; omega)))
                      · exact absurd h132 (nI_n9 (by omega))
          · exact absurd h33 (by decide)
        · skip
          refine g_aload_n (i := 0) (j := 0) dX8_safest_28 rfl rfl ?_
          refine g_iload_n (i := 1) (j := 1) dX8_safest_29 rfl rfl ?_
          refine c_V (st1 := [.int (-3)]) (ctX8_noWalk_3 (k := k) (by omega) hk q11 hz) kX8_noWalk lX8_208 (by decide) rfl rfl rfl rfl (by exact Nat.le_of_ble_eq_true rfl) dX8_safest_30 rfl rfl ?_
          refine g_if_eq (tgt := 39) dX8_safest_33 (by decide) (fun h33 => ?_) (fun h33 => ?_)
          · exact absurd h33 (by decide)
          · refine g_bipush (v := (-3)) dX8_safest_36 (by decide) ?_
            refine g_iret rfl rfl dX8_safest_38 ?_
            refine ⟨?_, _, _, _, rfl⟩
            unfold pSafest
            rw [if_pos ik, if_pos ix, ek, if_neg hz]
    · refine g_bipush (v := (-2)) dX8_safest_25 (by decide) ?_
      refine g_iret rfl rfl dX8_safest_27 ?_
      refine ⟨?_, _, _, _, rfl⟩
      unfold pSafest
      rw [if_pos ik, if_neg h22]
  · refine g_iconst (v := (-1)) dX8_safest_13 (by decide) ?_
    refine g_iret rfl rfl dX8_safest_14 ?_
    refine ⟨?_, _, _, _, rfl⟩
    unfold pSafest
    rw [if_neg h10]

