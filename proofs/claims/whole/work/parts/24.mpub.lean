/-! part 24: the model: note, and the public methods about the page -/
/-- the model's book of moments -/
def bkR (Q : Nat → Nat → Nat) : Nat → Nat := fun j => pgR (Q (j / 16)) (j % 16)
def sNote (Q : Nat → Nat → Nat) (ac : Nat) (r : Nat → Nat) : Nat → Nat → Nat := if ac = 16 then (fun i => if i < 15 then Q (i + 1) else if i = 15 then r else Q i) else (fun i => if i = ac then r else Q i)
theorem bk_at (Q : Nat → Nat → Nat) {a j : Nat} (h : j < 16) : bkR Q (16 * a + j) = pgR (Q a) j := by
  unfold bkR; rw [show (16 * a + j) / 16 = a by omega, show (16 * a + j) % 16 = j by omega]
theorem bk_put (Q : Nat → Nat → Nat) (a : Nat) (r : Nat → Nat) : va_cpy (pgR r) (bkR Q) 0 (16 * a) 16 = bkR (fun i => if i = a then r else Q i) := by
  funext j; unfold va_cpy bkR
  dsimp only
  by_cases h : j / 16 = a
  · rw [if_pos (by omega), if_pos h]; congr 1; omega
  · rw [if_neg (by omega), if_neg h]
theorem bk_take (Q : Nat → Nat → Nat) (a : Nat) (r : Nat → Nat) : cpf 16 (fun j => bkR Q (16 * a + j)) (pgR r) = pgR (Q a) := by
  funext j; unfold cpf
  by_cases h : j < 16
  · rw [if_pos h]; exact bk_at Q h
  · rw [if_neg h]; unfold pgR; rw [if_neg (by omega), if_pos (by omega), if_neg (by omega), if_pos (by omega)]
theorem bk_full (Q : Nat → Nat → Nat) (r : Nat → Nat) : va_cpy (pgR r) (cpf 240 (fun j => bkR Q (j + 16)) (bkR Q)) 0 (16 * 15) 16 = bkR (sNote Q 16 r) := by
  funext j; unfold va_cpy cpf sNote
  rw [if_pos rfl]
  by_cases h : j < 240
  · rw [if_neg (by omega), if_pos h]; unfold bkR; dsimp only; rw [if_pos (by omega), show (j + 16) / 16 = j / 16 + 1 by omega, show (j + 16) % 16 = j % 16 by omega]
  · by_cases h2 : j < 256
    · rw [if_pos (by omega)]; unfold bkR; dsimp only; rw [if_neg (by omega), if_pos (by omega)]; exact congrArg (pgR r) (by omega)
    · rw [if_neg (by omega), if_neg h]; unfold bkR; dsimp only; rw [if_neg (by omega), if_neg (by omega)]
theorem cpy_s (f g : Nat → Nat) (a k : Nat) : va_up (va_cpy f g 0 a k) (a + k) (f k) = va_cpy f g 0 a (k + 1) := by
  funext j; simp only [va_up, va_cpy]
  by_cases h : j = a + k
  · subst h; rw [if_pos rfl, if_pos (by omega)]; congr 1; omega
  · rw [if_neg h]
    by_cases h2 : a ≤ j ∧ j < a + k
    · rw [if_pos h2, if_pos (by omega)]
    · rw [if_neg h2, if_neg (by omega)]
theorem cpy_0 (f g : Nat → Nat) (a : Nat) : va_cpy f g 0 a 0 = g := by funext j; unfold va_cpy; rw [if_neg (by omega)]
theorem lp_note2 {e1 e2 e3 e4 e5 e6 e7 e8 e9 e10 e11 e14 e15 e16 e17 : va_E} {ts pl lo ri la wk tw sf : Nat} {rl rr re : Int32} {rw rt rs ac : Nat} {sd : Int64} {ce sa ti : Nat} {pg bk : Nat → Nat} (hac : ac ≤ 15) : ∀ (n k : Nat), k + n = 16 → Go mX8_note 0 51 [(0, .ref 0), (1, .int (nI k))] [] (wM (kM 0 ts pl lo ri la wk tw sf rl rr re rw rt rs ac sd ce sa ti) e1 e2 e3 e4 e5 e6 e7 e8 e9 e10 e11 (kI 16 pg) (kI 256 (va_cpy pg bk 0 (16 * ac) k)) e14 e15 e16 e17) (gE none (wM (kM 0 ts pl lo ri la wk tw sf rl rr re rw rt rs (ac + 1) sd ce sa ti) e1 e2 e3 e4 e5 e6 e7 e8 e9 e10 e11 (kI 16 pg) (kI 256 (va_cpy pg bk 0 (16 * ac) 16)) e14 e15 e16 e17)) := by
  intro n
  induction n with
  | zero =>
    intro k hk
    obtain rfl : k = 16 := by omega
    refine g_iload_n (i := 1) (j := 1) dX8_note_51 rfl rfl ?_
    refine g_bipush (v := nI 16) dX8_note_52 (by decide) ?_
    refine n_icmp_ge (tgt := 83) (rng_lit 16 rfl) (rng_lit 16 rfl) dX8_note_54 (by decide) (fun h54 => ?_) (fun h54 => ?_)
    · refine g_aload_n (i := 0) (j := 0) dX8_note_83 rfl rfl ?_
      refine g_dup dX8_note_84 rfl ?_
      refine g_get fX8_151 rfl rfl dX8_note_85 ?_
      refine g_iconst (v := nI 1) dX8_note_88 (by decide) ?_
      refine n_iadd (a := ac) (b := 1) dX8_note_89 ?_
      refine n_putI (ws' := wM (kM 0 ts pl lo ri la wk tw sf rl rr re rw rt rs (ac + 1) sd ce sa ti) e1 e2 e3 e4 e5 e6 e7 e8 e9 e10 e11 (kI 16 pg) (kI 256 (va_cpy pg bk 0 (16 * ac) 16)) e14 e15 e16 e17) fX8_151 fp_X8_28 rfl (by exact Nat.le_of_ble_eq_true rfl) dX8_note_90 rfl ?_
      refine g_vret rfl dX8_note_93 ?_
      exact gE_i rfl rfl
    · exact absurd h54 (by decide)

  | succ n ih =>
    intro k hk
    refine g_iload_n (i := 1) (j := 1) dX8_note_51 rfl rfl ?_
    refine g_bipush (v := nI 16) dX8_note_52 (by decide) ?_
    refine n_icmp_ge (tgt := 83) (by omega) (rng_lit 16 rfl) dX8_note_54 (by decide) (fun h54 => ?_) (fun h54 => ?_)
    · exfalso; omega
    · refine g_aload_n (i := 0) (j := 0) dX8_note_57 rfl rfl ?_
      refine g_get fX8_50 rfl rfl dX8_note_58 ?_
      refine g_bipush (v := nI 16) dX8_note_61 (by decide) ?_
      refine g_aload_n (i := 0) (j := 0) dX8_note_63 rfl rfl ?_
      refine g_get fX8_151 rfl rfl dX8_note_64 ?_
      refine n_imul (a := 16) (b := ac) dX8_note_67 ?_
      refine g_iload_n (i := 1) (j := 1) dX8_note_68 rfl rfl ?_
      refine n_iadd (a := (16 * ac)) (b := k) dX8_note_69 ?_
      refine g_aload_n (i := 0) (j := 0) dX8_note_70 rfl rfl ?_
      refine g_get fX8_47 rfl rfl dX8_note_71 ?_
      refine g_iload_n (i := 1) (j := 1) dX8_note_74 rfl rfl ?_
      refine n_iald (x := k) rfl (by omega) (rng_lit 16 rfl) dX8_note_75 ?_
      refine n_iast (x := ((16 * ac) + k)) (ws' := wM (kM 0 ts pl lo ri la wk tw sf rl rr re rw rt rs ac sd ce sa ti) e1 e2 e3 e4 e5 e6 e7 e8 e9 e10 e11 (kI 16 pg) (kI 256 (va_up (va_cpy pg bk 0 (16 * ac) k) ((16 * ac) + k) (pg k))) e14 e15 e16 e17) rfl (by omega) (rng_lit 256 rfl) dX8_note_76 rfl ?_
      refine n_inc (x := k) (j := 1) (lv' := [(1, .int (nI (k + 1))), (0, .ref 0)]) dX8_note_77 rfl (by decide) rfl ?_
      refine g_goto (tgt := 51) dX8_note_80 (by decide) ?_
      refine g_lv [1, 0] rfl ?_
      rw [show va_up (va_cpy pg bk 0 (16 * ac) k) ((16 * ac) + k) (pg k) = va_cpy pg bk 0 (16 * ac) (k + 1) from cpy_s _ _ _ _]
      exact ih (k + 1) (by omega)

theorem lp_note1 {e1 e2 e3 e4 e5 e6 e7 e8 e9 e10 e11 e14 e15 e16 e17 : va_E} {ts pl lo ri la wk tw sf : Nat} {rl rr re : Int32} {rw rt rs ac : Nat} {sd : Int64} {ce sa ti : Nat} {pg bk : Nat → Nat} : ∀ (n k : Nat), k + n = 240 → Go mX8_note 0 11 [(0, .ref 0), (1, .int (nI k))] [] (wM (kM 0 ts pl lo ri la wk tw sf rl rr re rw rt rs 16 sd ce sa ti) e1 e2 e3 e4 e5 e6 e7 e8 e9 e10 e11 (kI 16 pg) (kI 256 (cpf k (fun j => bk (j + 16)) bk)) e14 e15 e16 e17) (gE none (wM (kM 0 ts pl lo ri la wk tw sf rl rr re rw rt rs 16 sd ce sa ti) e1 e2 e3 e4 e5 e6 e7 e8 e9 e10 e11 (kI 16 pg) (kI 256 (va_cpy pg (cpf 240 (fun j => bk (j + 16)) bk) 0 (16 * 15) 16)) e14 e15 e16 e17)) := by
  intro n
  induction n with
  | zero =>
    intro k hk
    obtain rfl : k = 240 := by omega
    refine g_iload_n (i := 1) (j := 1) dX8_note_11 rfl rfl ?_
    refine g_sipush (v := nI 240) dX8_note_12 (by decide) ?_
    refine n_icmp_ge (tgt := 39) (rng_lit 240 rfl) (rng_lit 240 rfl) dX8_note_15 (by decide) (fun h15 => ?_) (fun h15 => ?_)
    · refine g_aload_n (i := 0) (j := 0) dX8_note_39 rfl rfl ?_
      refine g_dup dX8_note_40 rfl ?_
      refine g_get fX8_151 rfl rfl dX8_note_41 ?_
      refine g_iconst (v := nI 1) dX8_note_44 (by decide) ?_
      refine n_isub (a := 16) (b := 1) (by omega) dX8_note_45 ?_
      refine n_putI (ws' := wM (kM 0 ts pl lo ri la wk tw sf rl rr re rw rt rs (16 - 1) sd ce sa ti) e1 e2 e3 e4 e5 e6 e7 e8 e9 e10 e11 (kI 16 pg) (kI 256 (cpf 240 (fun j => bk (j + 16)) bk)) e14 e15 e16 e17) fX8_151 fp_X8_28 rfl (by exact Nat.le_of_ble_eq_true rfl) dX8_note_46 rfl ?_
      refine g_iconst (v := nI 0) dX8_note_49 (by decide) ?_
      refine g_istore_n (i := 1) (lv' := [(1, .int (nI 0)), (0, .ref 0)]) dX8_note_50 rfl (by decide) rfl ?_
      refine g_lv [1, 0] rfl ?_
      have z := lp_note2 (ac := 15) (pg := pg) (bk := cpf 240 (fun j => bk (j + 16)) bk) (ce := ce) (sa := sa) (ti := ti) (sd := sd) (ts := ts) (pl := pl) (lo := lo) (ri := ri) (la := la) (wk := wk) (tw := tw) (sf := sf) (rl := rl) (rr := rr) (re := re) (rw := rw) (rt := rt) (rs := rs) (e1 := e1) (e2 := e2) (e3 := e3) (e4 := e4) (e5 := e5) (e6 := e6) (e7 := e7) (e8 := e8) (e9 := e9) (e10 := e10) (e11 := e11) (e14 := e14) (e15 := e15) (e16 := e16) (e17 := e17) (by omega) 16 0 (by omega)
      rw [cpy_0] at z
      exact z
    · exact absurd h15 (by decide)

  | succ n ih =>
    intro k hk
    refine g_iload_n (i := 1) (j := 1) dX8_note_11 rfl rfl ?_
    refine g_sipush (v := nI 240) dX8_note_12 (by decide) ?_
    refine n_icmp_ge (tgt := 39) (by omega) (rng_lit 240 rfl) dX8_note_15 (by decide) (fun h15 => ?_) (fun h15 => ?_)
    · exfalso; omega
    · refine g_aload_n (i := 0) (j := 0) dX8_note_18 rfl rfl ?_
      refine g_get fX8_50 rfl rfl dX8_note_19 ?_
      refine g_iload_n (i := 1) (j := 1) dX8_note_22 rfl rfl ?_
      refine g_aload_n (i := 0) (j := 0) dX8_note_23 rfl rfl ?_
      refine g_get fX8_50 rfl rfl dX8_note_24 ?_
      refine g_iload_n (i := 1) (j := 1) dX8_note_27 rfl rfl ?_
      refine g_bipush (v := nI 16) dX8_note_28 (by decide) ?_
      refine n_iadd (a := k) (b := 16) dX8_note_30 ?_
      refine n_iald (x := (k + 16)) rfl (by omega) (rng_lit 256 rfl) dX8_note_31 ?_
      refine n_iast (x := k) (ws' := wM (kM 0 ts pl lo ri la wk tw sf rl rr re rw rt rs 16 sd ce sa ti) e1 e2 e3 e4 e5 e6 e7 e8 e9 e10 e11 (kI 16 pg) (kI 256 (va_up (cpf k (fun j => bk (j + 16)) bk) k ((cpf k (fun j => bk (j + 16)) bk) (k + 16)))) e14 e15 e16 e17) rfl (by omega) (rng_lit 256 rfl) dX8_note_32 rfl ?_
      refine n_inc (x := k) (j := 1) (lv' := [(1, .int (nI (k + 1))), (0, .ref 0)]) dX8_note_33 rfl (by decide) rfl ?_
      refine g_goto (tgt := 11) dX8_note_36 (by decide) ?_
      refine g_lv [1, 0] rfl ?_
      rw [show va_up (cpf k (fun j => bk (j + 16)) bk) k (cpf k (fun j => bk (j + 16)) bk (k + 16)) = cpf (k + 1) (fun j => bk (j + 16)) bk by rw [show cpf k (fun j => bk (j + 16)) bk (k + 16) = (fun j => bk (j + 16)) k from if_neg (by omega)]; exact cpf_s _ _ _]
      exact ih (k + 1) (by omega)

theorem ctX8_note {e1 e2 e3 e4 e5 e6 e7 e8 e9 e10 e11 e14 e15 e16 e17 : va_E} {ts pl lo ri la wk tw sf : Nat} {rl rr re : Int32} {rw rt rs ac : Nat} {sd : Int64} {ce sa ti : Nat} {r : Nat → Nat} {Q : Nat → Nat → Nat} (hac : ac ≤ 16) : Ct mX8_note 0 [.ref 0] (wM (kM 0 ts pl lo ri la wk tw sf rl rr re rw rt rs ac sd ce sa ti) e1 e2 e3 e4 e5 e6 e7 e8 e9 e10 e11 (kI 16 (pgR r)) (kI 256 (bkR Q)) e14 e15 e16 e17) (gE none (wM (kM 0 ts pl lo ri la wk tw sf rl rr re rw rt rs (ctP ac) sd ce sa ti) e1 e2 e3 e4 e5 e6 e7 e8 e9 e10 e11 (kI 16 (pgR r)) (kI 256 (bkR (sNote Q ac r))) e14 e15 e16 e17)) := by
  refine Ct.of (by decide) (by exact Nat.le_of_ble_eq_true rfl) ?_
  show Go mX8_note 0 0 [(0, .ref 0)] [] (wM (kM 0 ts pl lo ri la wk tw sf rl rr re rw rt rs ac sd ce sa ti) e1 e2 e3 e4 e5 e6 e7 e8 e9 e10 e11 (kI 16 (pgR r)) (kI 256 (bkR Q)) e14 e15 e16 e17) (gE none (wM (kM 0 ts pl lo ri la wk tw sf rl rr re rw rt rs (ctP ac) sd ce sa ti) e1 e2 e3 e4 e5 e6 e7 e8 e9 e10 e11 (kI 16 (pgR r)) (kI 256 (bkR (sNote Q ac r))) e14 e15 e16 e17))
  refine g_aload_n (i := 0) (j := 0) dX8_note_0 rfl rfl ?_
  refine g_get fX8_151 rfl rfl dX8_note_1 ?_
  refine g_bipush (v := nI 16) dX8_note_4 (by decide) ?_
  refine n_icmp_ne (tgt := 49) (by omega) (rng_lit 16 rfl) dX8_note_6 (by decide) (fun h6 => ?_) (fun h6 => ?_)
  · have ea : ctP ac = ac + 1 := if_pos (by omega)
    have eb : sNote Q ac r = fun i => if i = ac then r else Q i := if_neg h6
    rw [ea, eb, ← bk_put]
    refine g_iconst (v := nI 0) dX8_note_49 (by decide) ?_
    refine g_istore_n (i := 1) (lv' := [(1, .int (nI 0)), (0, .ref 0)]) dX8_note_50 rfl (by decide) rfl ?_
    refine g_lv [1, 0] rfl ?_
    have z := lp_note2 (bk := bkR Q) (pg := pgR r) (ac := ac) (ce := ce) (sa := sa) (ti := ti) (sd := sd) (ts := ts) (pl := pl) (lo := lo) (ri := ri) (la := la) (wk := wk) (tw := tw) (sf := sf) (rl := rl) (rr := rr) (re := re) (rw := rw) (rt := rt) (rs := rs) (e1 := e1) (e2 := e2) (e3 := e3) (e4 := e4) (e5 := e5) (e6 := e6) (e7 := e7) (e8 := e8) (e9 := e9) (e10 := e10) (e11 := e11) (e14 := e14) (e15 := e15) (e16 := e16) (e17 := e17) (by omega) 16 0 (by omega)
    rw [cpy_0] at z
    exact z
  · subst h6
    have ea : ctP 16 = 16 := rfl
    rw [ea, ← bk_full]
    refine g_iconst (v := nI 0) dX8_note_9 (by decide) ?_
    refine g_istore_n (i := 1) (lv' := [(1, .int (nI 0)), (0, .ref 0)]) dX8_note_10 rfl (by decide) rfl ?_
    refine g_lv [1, 0] rfl ?_
    have z := lp_note1 (ac := 16) (bk := bkR Q) (pg := pgR r) (ce := ce) (sa := sa) (ti := ti) (sd := sd) (ts := ts) (pl := pl) (lo := lo) (ri := ri) (la := la) (wk := wk) (tw := tw) (sf := sf) (rl := rl) (rr := rr) (re := re) (rw := rw) (rt := rt) (rs := rs) (e1 := e1) (e2 := e2) (e3 := e3) (e4 := e4) (e5 := e5) (e6 := e6) (e7 := e7) (e8 := e8) (e9 := e9) (e10 := e10) (e11 := e11) (e14 := e14) (e15 := e15) (e16 := e16) (e17 := e17) 240 0 (by omega)
    rw [cpf_0] at z
    exact z

theorem ctX8_write {e2 e3 e4 e5 e6 e7 e8 e9 e10 e11 e12 e13 e14 e15 e16 e17 : va_E} {ln pl lo ri la wk tw sf : Nat} {rl rr re : Int32} {rw rt rs ac : Nat} {sd : Int64} {ce sa ti : Nat} {le : Nat → Nat} {x : Int32} (hln : ln ≤ 56) : Ct mX8_write 1 [.ref 0, .int x] (wM (kM 0 ln pl lo ri la wk tw sf rl rr re rw rt rs ac sd ce sa ti) (kI 56 le) e2 e3 e4 e5 e6 e7 e8 e9 e10 e11 e12 e13 e14 e15 e16 e17) (gE (some (.int (pWrite ln x))) (if cWrite ln x then wM (kM 0 (ln + 1) pl lo ri la wk tw sf rl rr re rw rt rs ac sd ce sa ti) (kI 56 (va_up le ln (cN x))) e2 e3 e4 e5 e6 e7 e8 e9 e10 e11 e12 e13 e14 e15 e16 e17 else wM (kM 0 ln pl lo ri la wk tw sf rl rr re rw rt rs ac sd ce sa ti) (kI 56 le) e2 e3 e4 e5 e6 e7 e8 e9 e10 e11 e12 e13 e14 e15 e16 e17)) := by
  refine Ct.of (by decide) (by exact Nat.le_of_ble_eq_true rfl) ?_
  show Go mX8_write 1 0 [(0, .ref 0), (1, .int x)] [] (wM (kM 0 ln pl lo ri la wk tw sf rl rr re rw rt rs ac sd ce sa ti) (kI 56 le) e2 e3 e4 e5 e6 e7 e8 e9 e10 e11 e12 e13 e14 e15 e16 e17) (gE (some (.int (pWrite ln x))) (if cWrite ln x then wM (kM 0 (ln + 1) pl lo ri la wk tw sf rl rr re rw rt rs ac sd ce sa ti) (kI 56 (va_up le ln (cN x))) e2 e3 e4 e5 e6 e7 e8 e9 e10 e11 e12 e13 e14 e15 e16 e17 else wM (kM 0 ln pl lo ri la wk tw sf rl rr re rw rt rs ac sd ce sa ti) (kI 56 le) e2 e3 e4 e5 e6 e7 e8 e9 e10 e11 e12 e13 e14 e15 e16 e17))
  refine g_aload_n (i := 0) (j := 0) dX8_write_0 rfl rfl ?_
  refine g_iconst (v := nI 0) dX8_write_1 (by decide) ?_
  refine n_putI (ws' := wM (kM 0 ln pl lo ri la wk tw sf rl rr re rw rt rs ac sd ce sa ti) (kI 56 le) e2 e3 e4 e5 e6 e7 e8 e9 e10 e11 e12 e13 e14 e15 e16 e17) fX8_67 fp_X8_0 rfl (by exact Nat.le_of_ble_eq_true rfl) dX8_write_2 rfl ?_
  refine g_iload_n (i := 1) (j := 1) dX8_write_5 rfl rfl ?_
  refine g_i2l dX8_write_6 rfl ?_
  refine g_lconst (v := lN 0) dX8_write_7 (by decide) ?_
  refine g_ldc2 clX8_79 dX8_write_8 ?_
  refine g_st (st' := [.long (lN 255), .long (lN 0), .long x.toInt64]) rfl ?_
  refine c_S (st1 := [.int (nI (bN (iW x 256)))]) (ctX8_in (P := iW x 256) (in_0 (rng_lit _ rfl) rfl)) kX8_in lX8_73 (by decide) rfl (by exact Nat.le_of_ble_eq_true rfl) dX8_write_11 rfl rfl ?_
  refine b_if_ne (tgt := 20) dX8_write_14 (by decide) (fun h14 => ?_) (fun h14 => ?_)
  · refine g_aload_n (i := 0) (j := 0) dX8_write_20 rfl rfl ?_
    refine g_get fX8_81 rfl rfl dX8_write_21 ?_
    refine g_bipush (v := nI 56) dX8_write_24 (by decide) ?_
    refine n_icmp_ne (tgt := 32) (by omega) (rng_lit 56 rfl) dX8_write_26 (by decide) (fun h26 => ?_) (fun h26 => ?_)
    · obtain ⟨y, hy, rfl⟩ := raw_lt h14
      refine g_aload_n (i := 0) (j := 0) dX8_write_32 rfl rfl ?_
      refine g_get fX8_7 rfl rfl dX8_write_33 ?_
      refine g_aload_n (i := 0) (j := 0) dX8_write_36 rfl rfl ?_
      refine g_get fX8_81 rfl rfl dX8_write_37 ?_
      refine g_iload_n (i := 1) (j := 1) dX8_write_40 rfl rfl ?_
      refine n_iast (x := ln) (ws' := wM (kM 0 ln pl lo ri la wk tw sf rl rr re rw rt rs ac sd ce sa ti) (kI 56 (va_up le ln y)) e2 e3 e4 e5 e6 e7 e8 e9 e10 e11 e12 e13 e14 e15 e16 e17) rfl (by omega) (rng_lit 56 rfl) dX8_write_41 rfl ?_
      refine g_aload_n (i := 0) (j := 0) dX8_write_42 rfl rfl ?_
      refine g_dup dX8_write_43 rfl ?_
      refine g_get fX8_81 rfl rfl dX8_write_44 ?_
      refine g_iconst (v := nI 1) dX8_write_47 (by decide) ?_
      refine n_iadd (a := ln) (b := 1) dX8_write_48 ?_
      refine n_putI (ws' := wM (kM 0 (ln + 1) pl lo ri la wk tw sf rl rr re rw rt rs ac sd ce sa ti) (kI 56 (va_up le ln y)) e2 e3 e4 e5 e6 e7 e8 e9 e10 e11 e12 e13 e14 e15 e16 e17) fX8_81 fp_X8_2 rfl (by exact Nat.le_of_ble_eq_true rfl) dX8_write_49 rfl ?_
      refine g_aload_n (i := 0) (j := 0) dX8_write_52 rfl rfl ?_
      refine g_get fX8_81 rfl rfl dX8_write_53 ?_
      refine g_iret rfl rfl dX8_write_56 ?_
      refine gE_r ?_ ?_
      · unfold pWrite
        rw [if_pos h14, if_pos (by omega)]
      · refine Eq.trans ?_ (if_pos (c := cWrite ln (nI y)) ⟨h14, by omega⟩).symm
        rw [cN_n (by omega)]
    · refine g_bipush (v := (-4)) dX8_write_29 (by decide) ?_
      refine g_iret rfl rfl dX8_write_31 ?_
      refine gE_r ?_ (if_neg (fun z => by have := z.2; omega)).symm
      unfold pWrite
      rw [if_pos h14, if_neg (by omega)]
  · refine g_bipush (v := (-2)) dX8_write_17 (by decide) ?_
    refine g_iret rfl rfl dX8_write_19 ?_
    refine gE_r ?_ (if_neg (fun z => h14 z.1)).symm
    unfold pWrite
    rw [if_neg h14]

theorem ctX8_wipe {e1 e2 e3 e4 e5 e6 e7 e8 e9 e10 e11 e12 e13 e14 e15 e16 e17 : va_E} {ts pl lo ri la wk tw sf : Nat} {rl rr re : Int32} {rw rt rs ac : Nat} {sd : Int64} {ce sa ti : Nat} : Ct mX8_wipe 0 [.ref 0] (wM (kM 0 ts pl lo ri la wk tw sf rl rr re rw rt rs ac sd ce sa ti) e1 e2 e3 e4 e5 e6 e7 e8 e9 e10 e11 e12 e13 e14 e15 e16 e17) (gE (some (.int (nI ts))) (wM (kM 0 0 pl lo ri la wk tw sf rl rr re rw rt rs ac sd ce sa ti) e1 e2 e3 e4 e5 e6 e7 e8 e9 e10 e11 e12 e13 e14 e15 e16 e17)) := by
  refine Ct.of (by decide) (by exact Nat.le_of_ble_eq_true rfl) ?_
  show Go mX8_wipe 0 0 [(0, .ref 0)] [] (wM (kM 0 ts pl lo ri la wk tw sf rl rr re rw rt rs ac sd ce sa ti) e1 e2 e3 e4 e5 e6 e7 e8 e9 e10 e11 e12 e13 e14 e15 e16 e17) (gE (some (.int (nI ts))) (wM (kM 0 0 pl lo ri la wk tw sf rl rr re rw rt rs ac sd ce sa ti) e1 e2 e3 e4 e5 e6 e7 e8 e9 e10 e11 e12 e13 e14 e15 e16 e17))
  refine g_aload_n (i := 0) (j := 0) dX8_wipe_0 rfl rfl ?_
  refine g_iconst (v := nI 0) dX8_wipe_1 (by decide) ?_
  refine n_putI (ws' := wM (kM 0 ts pl lo ri la wk tw sf rl rr re rw rt rs ac sd ce sa ti) e1 e2 e3 e4 e5 e6 e7 e8 e9 e10 e11 e12 e13 e14 e15 e16 e17) fX8_67 fp_X8_0 rfl (by exact Nat.le_of_ble_eq_true rfl) dX8_wipe_2 rfl ?_
  refine g_aload_n (i := 0) (j := 0) dX8_wipe_5 rfl rfl ?_
  refine g_get fX8_81 rfl rfl dX8_wipe_6 ?_
  refine g_istore_n (i := 1) (lv' := [(1, .int (nI ts)), (0, .ref 0)]) dX8_wipe_9 rfl (by decide) rfl ?_
  refine g_aload_n (i := 0) (j := 1) dX8_wipe_10 rfl rfl ?_
  refine g_iconst (v := nI 0) dX8_wipe_11 (by decide) ?_
  refine n_putI (ws' := wM (kM 0 0 pl lo ri la wk tw sf rl rr re rw rt rs ac sd ce sa ti) e1 e2 e3 e4 e5 e6 e7 e8 e9 e10 e11 e12 e13 e14 e15 e16 e17) fX8_81 fp_X8_2 rfl (by exact Nat.le_of_ble_eq_true rfl) dX8_wipe_12 rfl ?_
  refine g_iload_n (i := 1) (j := 0) dX8_wipe_15 rfl rfl ?_
  refine g_iret rfl rfl dX8_wipe_16 ?_
  exact gE_i rfl rfl

theorem ctX8_seed {e1 e2 e3 e4 e5 e6 e7 e8 e9 e10 e11 e12 e13 e14 e15 e16 e17 : va_E} {ts pl lo ri la wk tw sf : Nat} {rl rr re : Int32} {rw rt rs ac : Nat} {sd : Int64} {ce sa ti : Nat} {v : Int64} : Ct mX8_seed 0 [.ref 0, .long v] (wM (kM 0 ts pl lo ri la wk tw sf rl rr re rw rt rs ac sd ce sa ti) e1 e2 e3 e4 e5 e6 e7 e8 e9 e10 e11 e12 e13 e14 e15 e16 e17) (gE (some (.long sd)) (wM (kM 0 ts pl lo ri la wk tw sf rl rr re rw rt rs ac v ce sa ti) e1 e2 e3 e4 e5 e6 e7 e8 e9 e10 e11 e12 e13 e14 e15 e16 e17)) := by
  refine Ct.of (by decide) (by exact Nat.le_of_ble_eq_true rfl) ?_
  show Go mX8_seed 0 0 [(0, .ref 0), (1, .long v)] [] (wM (kM 0 ts pl lo ri la wk tw sf rl rr re rw rt rs ac sd ce sa ti) e1 e2 e3 e4 e5 e6 e7 e8 e9 e10 e11 e12 e13 e14 e15 e16 e17) (gE (some (.long sd)) (wM (kM 0 ts pl lo ri la wk tw sf rl rr re rw rt rs ac v ce sa ti) e1 e2 e3 e4 e5 e6 e7 e8 e9 e10 e11 e12 e13 e14 e15 e16 e17))
  refine g_aload_n (i := 0) (j := 0) dX8_seed_0 rfl rfl ?_
  refine g_iconst (v := nI 0) dX8_seed_1 (by decide) ?_
  refine n_putI (ws' := wM (kM 0 ts pl lo ri la wk tw sf rl rr re rw rt rs ac sd ce sa ti) e1 e2 e3 e4 e5 e6 e7 e8 e9 e10 e11 e12 e13 e14 e15 e16 e17) fX8_67 fp_X8_0 rfl (by exact Nat.le_of_ble_eq_true rfl) dX8_seed_2 rfl ?_
  refine g_aload_n (i := 0) (j := 0) dX8_seed_5 rfl rfl ?_
  refine g_get fX8_240 rfl rfl dX8_seed_6 ?_
  refine g_lstore_n (i := 3) (lv' := [(3, .long sd), (0, .ref 0), (1, .long v)]) dX8_seed_9 rfl (by decide) rfl ?_
  refine g_aload_n (i := 0) (j := 1) dX8_seed_10 rfl rfl ?_
  refine g_lload_n (i := 1) (j := 2) dX8_seed_11 rfl rfl ?_
  refine r_putJ (ws' := wM (kM 0 ts pl lo ri la wk tw sf rl rr re rw rt rs ac v ce sa ti) e1 e2 e3 e4 e5 e6 e7 e8 e9 e10 e11 e12 e13 e14 e15 e16 e17) fX8_240 fp_X8_31 rfl (by exact Nat.le_of_ble_eq_true rfl) dX8_seed_12 rfl ?_
  refine g_lload_n (i := 3) (j := 0) dX8_seed_15 rfl rfl ?_
  refine g_lret rfl dX8_seed_16 ?_
  exact ⟨rfl, rfl⟩

theorem ctX8_about {e1 e7 e8 e9 e10 e11 e13 e14 e15 e16 e17 : va_E} {ts pl lo ri la wk tw sf : Nat} {rl rr re : Int32} {rw rt rs ac : Nat} {sd : Int64} {ce sa ti : Nat} {h so ho pa wa at_ fo r : Nat → Nat} (hg : gOK h so ho pa wa wk tw lo ri la) (hS : mSf sf so) (hT : tOK tw at_ fo ho) (hrk : rOK r) {x : Int32} : Ct mX8_about 1 [.ref 0, .int x] (wM (kM 0 ts pl lo ri la wk tw sf rl rr re rw rt rs ac sd ce sa ti) e1 (kI 10 h) (kI 5 pa) (kI 5 wa) (kI 2 at_) (kI 2 fo) e7 e8 e9 e10 e11 (kI 16 (pgR r)) e13 e14 e15 e16 e17) (gE (some (.int (pAbout wk tw lo ri la ac ts r x))) (wM (kM 0 ts pl lo ri la wk tw sf rl rr re rw rt rs ac sd ce sa ti) e1 (kI 10 h) (kI 5 pa) (kI 5 wa) (kI 2 at_) (kI 2 fo) e7 e8 e9 e10 e11 (kI 16 (pgR r)) e13 e14 e15 e16 e17)) := by
  refine Ct.of (by decide) (by exact Nat.le_of_ble_eq_true rfl) ?_
  show Go mX8_about 1 0 [(0, .ref 0), (1, .int x)] [] (wM (kM 0 ts pl lo ri la wk tw sf rl rr re rw rt rs ac sd ce sa ti) e1 (kI 10 h) (kI 5 pa) (kI 5 wa) (kI 2 at_) (kI 2 fo) e7 e8 e9 e10 e11 (kI 16 (pgR r)) e13 e14 e15 e16 e17) (gE (some (.int (pAbout wk tw lo ri la ac ts r x))) (wM (kM 0 ts pl lo ri la wk tw sf rl rr re rw rt rs ac sd ce sa ti) e1 (kI 10 h) (kI 5 pa) (kI 5 wa) (kI 2 at_) (kI 2 fo) e7 e8 e9 e10 e11 (kI 16 (pgR r)) e13 e14 e15 e16 e17))
  obtain ⟨hH, hso, hho, hpa, hwa, hwk, htw, hlo, hri, hla⟩ := hg
  have hrk0 := hrk
  obtain ⟨hr, hr1, hr6, hr11⟩ := hrk0
  refine g_aload_n (i := 0) (j := 0) dX8_about_0 rfl rfl ?_
  refine g_iconst (v := nI 0) dX8_about_1 (by decide) ?_
  refine n_putI (ws' := wM (kM 0 ts pl lo ri la wk tw sf rl rr re rw rt rs ac sd ce sa ti) e1 (kI 10 h) (kI 5 pa) (kI 5 wa) (kI 2 at_) (kI 2 fo) e7 e8 e9 e10 e11 (kI 16 (pgR r)) e13 e14 e15 e16 e17) fX8_67 fp_X8_0 rfl (by exact Nat.le_of_ble_eq_true rfl) dX8_about_2 rfl ?_
  refine g_iload_n (i := 1) (j := 1) dX8_about_5 rfl rfl ?_
  rcases tsw_14 x with hs | hs | hs | hs | hs | hs | hs | hs | hs | hs | hs | hs | hs | hs | hs
  · refine g_tableOut (tgt := 144) dX8_about_6 (by rcases hs with hs | hs <;> omega) (by decide) ?_
    refine g_bipush (v := (-2)) dX8_about_144 (by decide) ?_
    refine g_iret rfl rfl dX8_about_146 ?_
    refine gE_r ?_ rfl
    unfold pAbout
    rw [if_neg (by unfold iW; omega)]
  · subst hs
    refine g_tableIn (off := 70) (tgt := 76) dX8_about_6 (by decide) (by decide) (by decide) (by decide) ?_
    refine g_aload_n (i := 0) (j := 0) dX8_about_76 rfl rfl ?_
    refine g_get fX8_70 rfl rfl dX8_about_77 ?_
    refine g_iret rfl rfl dX8_about_80 ?_
    refine gE_r ?_ rfl
    unfold pAbout
    rw [if_pos (by decide), cN_n (by decide)]
    rfl
  · subst hs
    refine g_tableIn (off := 75) (tgt := 81) dX8_about_6 (by decide) (by decide) (by decide) (by decide) ?_
    refine g_aload_n (i := 0) (j := 0) dX8_about_81 rfl rfl ?_
    refine g_get fX8_145 rfl rfl dX8_about_82 ?_
    refine g_iret rfl rfl dX8_about_85 ?_
    refine gE_r ?_ rfl
    unfold pAbout
    rw [if_pos (by decide), cN_n (by decide)]
    rfl
  · subst hs
    refine g_tableIn (off := 80) (tgt := 86) dX8_about_6 (by decide) (by decide) (by decide) (by decide) ?_
    refine g_aload_n (i := 0) (j := 0) dX8_about_86 rfl rfl ?_
    refine g_get fX8_47 rfl rfl dX8_about_87 ?_
    refine g_bipush (v := nI 15) dX8_about_90 (by decide) ?_
    refine n_iald (x := 15) rfl (by omega) (rng_lit 16 rfl) dX8_about_92 ?_
    refine g_topi (y := nI (r 0)) (by rw [pg_t]) ?_
    refine g_iret rfl rfl dX8_about_93 ?_
    refine gE_r ?_ rfl
    unfold pAbout
    rw [if_pos (by decide), cN_n (by decide)]
    rfl
  · subst hs
    refine g_tableIn (off := 88) (tgt := 94) dX8_about_6 (by decide) (by decide) (by decide) (by decide) ?_
    refine g_aload_n (i := 0) (j := 0) dX8_about_94 rfl rfl ?_
    refine g_aload_n (i := 0) (j := 0) dX8_about_95 rfl rfl ?_
    refine g_get fX8_47 rfl rfl dX8_about_96 ?_
    refine g_bipush (v := nI 15) dX8_about_99 (by decide) ?_
    refine n_iald (x := 15) rfl (by omega) (rng_lit 16 rfl) dX8_about_101 ?_
    refine g_topi (y := nI (r 0)) (by rw [pg_t]) ?_
    refine g_aload_n (i := 0) (j := 0) dX8_about_102 rfl rfl ?_
    refine g_get fX8_139 rfl rfl dX8_about_103 ?_
    refine c_V (st1 := [.int (nI (sWater la ri (r 0) lo))]) (ctX8_water (s := r 0) (at0 := lo) (by first | omega | exact hpa _ | exact hwa _ | exact hr1 _ (by omega) | exact hr6 _ (by omega) | exact hr11 _ (by omega) | exact hr _ | exact Nat.le_succ_of_le (hr _)) (by first | omega | exact hpa _ | exact hwa _ | exact hr1 _ (by omega) | exact hr6 _ (by omega) | exact hr11 _ (by omega) | exact hr _ | exact Nat.le_succ_of_le (hr _)) (by first | omega | exact hpa _ | exact hwa _ | exact hr1 _ (by omega) | exact hr6 _ (by omega) | exact hr11 _ (by omega) | exact hr _ | exact Nat.le_succ_of_le (hr _)) (by first | omega | exact hpa _ | exact hwa _ | exact hr1 _ (by omega) | exact hr6 _ (by omega) | exact hr11 _ (by omega) | exact hr _ | exact Nat.le_succ_of_le (hr _))) kX8_water lX8_154 (by decide) rfl rfl rfl rfl (by exact Nat.le_of_ble_eq_true rfl) dX8_about_106 rfl rfl ?_
    refine g_iret rfl rfl dX8_about_109 ?_
    refine gE_r ?_ rfl
    unfold pAbout
    rw [if_pos (by decide), cN_n (by decide)]
    rfl
  · subst hs
    refine g_tableIn (off := 104) (tgt := 110) dX8_about_6 (by decide) (by decide) (by decide) (by decide) ?_
    refine g_aload_n (i := 0) (j := 0) dX8_about_110 rfl rfl ?_
    refine g_get fX8_139 rfl rfl dX8_about_111 ?_
    refine g_iret rfl rfl dX8_about_114 ?_
    refine gE_r ?_ rfl
    unfold pAbout
    rw [if_pos (by decide), cN_n (by decide)]
    rfl
  · subst hs
    refine g_tableIn (off := 109) (tgt := 115) dX8_about_6 (by decide) (by decide) (by decide) (by decide) ?_
    refine g_aload_n (i := 0) (j := 0) dX8_about_115 rfl rfl ?_
    refine g_get fX8_16 rfl rfl dX8_about_116 ?_
    refine g_iret rfl rfl dX8_about_119 ?_
    refine gE_r ?_ rfl
    unfold pAbout
    rw [if_pos (by decide), cN_n (by decide)]
    rfl
  · subst hs
    refine g_tableIn (off := 114) (tgt := 120) dX8_about_6 (by decide) (by decide) (by decide) (by decide) ?_
    refine g_aload_n (i := 0) (j := 0) dX8_about_120 rfl rfl ?_
    refine g_get fX8_142 rfl rfl dX8_about_121 ?_
    refine g_iret rfl rfl dX8_about_124 ?_
    refine gE_r ?_ rfl
    unfold pAbout
    rw [if_pos (by decide), cN_n (by decide)]
    rfl
  · subst hs
    refine g_tableIn (off := 119) (tgt := 125) dX8_about_6 (by decide) (by decide) (by decide) (by decide) ?_
    refine g_aload_n (i := 0) (j := 0) dX8_about_125 rfl rfl ?_
    refine g_iload_n (i := 1) (j := 1) dX8_about_126 rfl rfl ?_
    refine g_bipush (v := nI 7) dX8_about_127 (by decide) ?_
    refine n_isub (a := 7) (b := 7) (by omega) dX8_about_129 ?_
    refine c_V (st1 := [.int (nI (sSet (fun w => decide (r (11 + w) = 7 - 7)) wk))]) (ctX8_those (x := 7 - 7) hrk (by omega) (by omega)) kX8_those lX8_157 (by decide) rfl rfl rfl rfl (by exact Nat.le_of_ble_eq_true rfl) dX8_about_130 rfl rfl ?_
    refine g_iret rfl rfl dX8_about_133 ?_
    refine gE_r ?_ rfl
    unfold pAbout
    rw [if_pos (by decide), cN_n (by decide)]
    rfl
  · subst hs
    refine g_tableIn (off := 119) (tgt := 125) dX8_about_6 (by decide) (by decide) (by decide) (by decide) ?_
    refine g_aload_n (i := 0) (j := 0) dX8_about_125 rfl rfl ?_
    refine g_iload_n (i := 1) (j := 1) dX8_about_126 rfl rfl ?_
    refine g_bipush (v := nI 7) dX8_about_127 (by decide) ?_
    refine n_isub (a := 8) (b := 7) (by omega) dX8_about_129 ?_
    refine c_V (st1 := [.int (nI (sSet (fun w => decide (r (11 + w) = 8 - 7)) wk))]) (ctX8_those (x := 8 - 7) hrk (by omega) (by omega)) kX8_those lX8_157 (by decide) rfl rfl rfl rfl (by exact Nat.le_of_ble_eq_true rfl) dX8_about_130 rfl rfl ?_
    refine g_iret rfl rfl dX8_about_133 ?_
    refine gE_r ?_ rfl
    unfold pAbout
    rw [if_pos (by decide), cN_n (by decide)]
    rfl
  · subst hs
    refine g_tableIn (off := 119) (tgt := 125) dX8_about_6 (by decide) (by decide) (by decide) (by decide) ?_
    refine g_aload_n (i := 0) (j := 0) dX8_about_125 rfl rfl ?_
    refine g_iload_n (i := 1) (j := 1) dX8_about_126 rfl rfl ?_
    refine g_bipush (v := nI 7) dX8_about_127 (by decide) ?_
    refine n_isub (a := 9) (b := 7) (by omega) dX8_about_129 ?_
    refine c_V (st1 := [.int (nI (sSet (fun w => decide (r (11 + w) = 9 - 7)) wk))]) (ctX8_those (x := 9 - 7) hrk (by omega) (by omega)) kX8_those lX8_157 (by decide) rfl rfl rfl rfl (by exact Nat.le_of_ble_eq_true rfl) dX8_about_130 rfl rfl ?_
    refine g_iret rfl rfl dX8_about_133 ?_
    refine gE_r ?_ rfl
    unfold pAbout
    rw [if_pos (by decide), cN_n (by decide)]
    rfl
  · subst hs
    refine g_tableIn (off := 119) (tgt := 125) dX8_about_6 (by decide) (by decide) (by decide) (by decide) ?_
    refine g_aload_n (i := 0) (j := 0) dX8_about_125 rfl rfl ?_
    refine g_iload_n (i := 1) (j := 1) dX8_about_126 rfl rfl ?_
    refine g_bipush (v := nI 7) dX8_about_127 (by decide) ?_
    refine n_isub (a := 10) (b := 7) (by omega) dX8_about_129 ?_
    refine c_V (st1 := [.int (nI (sSet (fun w => decide (r (11 + w) = 10 - 7)) wk))]) (ctX8_those (x := 10 - 7) hrk (by omega) (by omega)) kX8_those lX8_157 (by decide) rfl rfl rfl rfl (by exact Nat.le_of_ble_eq_true rfl) dX8_about_130 rfl rfl ?_
    refine g_iret rfl rfl dX8_about_133 ?_
    refine gE_r ?_ rfl
    unfold pAbout
    rw [if_pos (by decide), cN_n (by decide)]
    rfl
  · subst hs
    refine g_tableIn (off := 119) (tgt := 125) dX8_about_6 (by decide) (by decide) (by decide) (by decide) ?_
    refine g_aload_n (i := 0) (j := 0) dX8_about_125 rfl rfl ?_
    refine g_iload_n (i := 1) (j := 1) dX8_about_126 rfl rfl ?_
    refine g_bipush (v := nI 7) dX8_about_127 (by decide) ?_
    refine n_isub (a := 11) (b := 7) (by omega) dX8_about_129 ?_
    refine c_V (st1 := [.int (nI (sSet (fun w => decide (r (11 + w) = 11 - 7)) wk))]) (ctX8_those (x := 11 - 7) hrk (by omega) (by omega)) kX8_those lX8_157 (by decide) rfl rfl rfl rfl (by exact Nat.le_of_ble_eq_true rfl) dX8_about_130 rfl rfl ?_
    refine g_iret rfl rfl dX8_about_133 ?_
    refine gE_r ?_ rfl
    unfold pAbout
    rw [if_pos (by decide), cN_n (by decide)]
    rfl
  · subst hs
    refine g_tableIn (off := 128) (tgt := 134) dX8_about_6 (by decide) (by decide) (by decide) (by decide) ?_
    refine g_aload_n (i := 0) (j := 0) dX8_about_134 rfl rfl ?_
    refine g_get fX8_151 rfl rfl dX8_about_135 ?_
    refine g_iret rfl rfl dX8_about_138 ?_
    refine gE_r ?_ rfl
    unfold pAbout
    rw [if_pos (by decide), cN_n (by decide)]
    rfl
  · subst hs
    refine g_tableIn (off := 133) (tgt := 139) dX8_about_6 (by decide) (by decide) (by decide) (by decide) ?_
    refine g_aload_n (i := 0) (j := 0) dX8_about_139 rfl rfl ?_
    refine g_get fX8_81 rfl rfl dX8_about_140 ?_
    refine g_iret rfl rfl dX8_about_143 ?_
    refine gE_r ?_ rfl
    unfold pAbout
    rw [if_pos (by decide), cN_n (by decide)]
    rfl

theorem ctX8_cell {e1 e7 e8 e9 e10 e11 e13 e14 e15 e16 e17 : va_E} {ts pl lo ri la wk tw sf : Nat} {rl rr re : Int32} {rw rt rs ac : Nat} {sd : Int64} {ce sa ti : Nat} {h so ho pa wa at_ fo r : Nat → Nat} (hg : gOK h so ho pa wa wk tw lo ri la) (hS : mSf sf so) (hT : tOK tw at_ fo ho) (hrk : rOK r) {c0 x : Int32} : Ct mX8_cell 2 [.ref 0, .int c0, .int x] (wM (kM 0 ts pl lo ri la wk tw sf rl rr re rw rt rs ac sd ce sa ti) e1 (kI 10 h) (kI 5 pa) (kI 5 wa) (kI 2 at_) (kI 2 fo) e7 e8 e9 e10 e11 (kI 16 (pgR r)) e13 e14 e15 e16 e17) (gE (some (.int (pCell h so ho wk lo ri la r c0 x))) (wM (kM 0 ts pl lo ri la wk tw sf rl rr re rw rt rs ac sd ce sa ti) e1 (kI 10 h) (kI 5 pa) (kI 5 wa) (kI 2 at_) (kI 2 fo) e7 e8 e9 e10 e11 (kI 16 (pgR r)) e13 e14 e15 e16 e17)) := by
  refine Ct.of (by decide) (by exact Nat.le_of_ble_eq_true rfl) ?_
  show Go mX8_cell 2 0 [(0, .ref 0), (1, .int c0), (2, .int x)] [] (wM (kM 0 ts pl lo ri la wk tw sf rl rr re rw rt rs ac sd ce sa ti) e1 (kI 10 h) (kI 5 pa) (kI 5 wa) (kI 2 at_) (kI 2 fo) e7 e8 e9 e10 e11 (kI 16 (pgR r)) e13 e14 e15 e16 e17) (gE (some (.int (pCell h so ho wk lo ri la r c0 x))) (wM (kM 0 ts pl lo ri la wk tw sf rl rr re rw rt rs ac sd ce sa ti) e1 (kI 10 h) (kI 5 pa) (kI 5 wa) (kI 2 at_) (kI 2 fo) e7 e8 e9 e10 e11 (kI 16 (pgR r)) e13 e14 e15 e16 e17))
  obtain ⟨hH, hso, hho, hpa, hwa, hwk, htw, hlo, hri, hla⟩ := hg
  have hrk0 := hrk
  obtain ⟨hr, hr1, hr6, hr11⟩ := hrk0
  refine g_aload_n (i := 0) (j := 0) dX8_cell_0 rfl rfl ?_
  refine g_iconst (v := nI 0) dX8_cell_1 (by decide) ?_
  refine n_putI (ws' := wM (kM 0 ts pl lo ri la wk tw sf rl rr re rw rt rs ac sd ce sa ti) e1 (kI 10 h) (kI 5 pa) (kI 5 wa) (kI 2 at_) (kI 2 fo) e7 e8 e9 e10 e11 (kI 16 (pgR r)) e13 e14 e15 e16 e17) fX8_67 fp_X8_0 rfl (by exact Nat.le_of_ble_eq_true rfl) dX8_cell_2 rfl ?_
  refine g_iload_n (i := 1) (j := 1) dX8_cell_5 rfl rfl ?_
  refine c_S (st1 := [.int (nI (bN (¬ iW c0 10)))]) (ctX8_noCell (x := c0) ) kX8_noCell lX8_160 (by decide) rfl (by exact Nat.le_of_ble_eq_true rfl) dX8_cell_6 rfl rfl ?_
  refine b_if_eq (tgt := 14) dX8_cell_9 (by decide) (fun h9 => ?_) (fun h9 => ?_)
  · obtain ⟨c, hc, rfl⟩ := raw_lt (Decidable.not_not.mp h9)
    have ec : cN (nI c) = c := cN_n (by omega)
    have ic : iW (nI c) 10 := (iW_n (by omega)).mpr hc
    refine g_aload_n (i := 0) (j := 0) dX8_cell_14 rfl rfl ?_
    refine g_iload_n (i := 1) (j := 1) dX8_cell_15 rfl rfl ?_
    refine c_V (st1 := [.int (rO (tI tw at_ c))]) (ctX8_towerOf (c := c) (by omega) (fun t ht => (hT.2.1 t ht).1) (by first | omega | assumption | exact hpa _ | exact hwa _ | exact hr1 _ (by omega) | exact hr6 _ (by omega) | exact hr11 _ (by omega) | exact hr _ | exact Nat.le_succ_of_le (hr _) | (apply sTo_le; first | omega | exact hr1 _ (by omega)))) kX8_towerOf lX8_164 (by decide) rfl rfl rfl rfl (by exact Nat.le_of_ble_eq_true rfl) dX8_cell_16 rfl rfl ?_
    refine g_istore_n (i := 3) (lv' := [(3, .int (rO (tI tw at_ c))), (0, .ref 0), (1, .int (nI c)), (2, .int x)]) dX8_cell_19 rfl (by decide) rfl ?_
    refine g_iload_n (i := 2) (j := 3) dX8_cell_20 rfl rfl ?_
    rcases tsw_5 x with hs | hs | hs | hs | hs | hs
    · refine g_tableOut (tgt := 112) dX8_cell_21 (by rcases hs with hs | hs <;> omega) (by decide) ?_
      refine g_bipush (v := (-2)) dX8_cell_112 (by decide) ?_
      refine g_iret rfl rfl dX8_cell_114 ?_
      refine gE_r ?_ rfl
      unfold pCell
      rw [if_pos ic, if_neg (by unfold iW; omega)]
    · subst hs
      refine g_tableIn (off := 35) (tgt := 56) dX8_cell_21 (by decide) (by decide) (by decide) (by decide) ?_
      refine g_aload_n (i := 0) (j := 1) dX8_cell_56 rfl rfl ?_
      refine g_get fX8_13 rfl rfl dX8_cell_57 ?_
      refine g_iload_n (i := 1) (j := 2) dX8_cell_60 rfl rfl ?_
      refine n_iald (x := c) rfl (by omega) (rng_lit 10 rfl) dX8_cell_61 ?_
      refine g_iret rfl rfl dX8_cell_62 ?_
      refine gE_r ?_ rfl
      unfold pCell
      rw [if_pos ic, if_pos (by decide), ec, cN_n (by decide)]
      rfl
    · subst hs
      refine g_tableIn (off := 42) (tgt := 63) dX8_cell_21 (by decide) (by decide) (by decide) (by decide) ?_
      refine g_aload_n (i := 0) (j := 1) dX8_cell_63 rfl rfl ?_
      refine g_iload_n (i := 1) (j := 2) dX8_cell_64 rfl rfl ?_
      refine g_aload_n (i := 0) (j := 1) dX8_cell_65 rfl rfl ?_
      refine g_get fX8_47 rfl rfl dX8_cell_66 ?_
      refine g_bipush (v := nI 15) dX8_cell_69 (by decide) ?_
      refine n_iald (x := 15) rfl (by omega) (rng_lit 16 rfl) dX8_cell_71 ?_
      refine g_topi (y := nI (r 0)) (by rw [pg_t]) ?_
      refine g_aload_n (i := 0) (j := 1) dX8_cell_72 rfl rfl ?_
      refine g_get fX8_139 rfl rfl dX8_cell_73 ?_
      refine c_V (st1 := [.int (nI (sDepth h c (sWater la ri (r 0) lo)))]) (ctX8_deepBy (c := c) (s := r 0) (at0 := lo) hH (by omega) (by omega) (by first | omega | assumption | exact hpa _ | exact hwa _ | exact hr1 _ (by omega) | exact hr6 _ (by omega) | exact hr11 _ (by omega) | exact hr _ | exact Nat.le_succ_of_le (hr _) | (apply sTo_le; first | omega | exact hr1 _ (by omega))) (by first | omega | assumption | exact hpa _ | exact hwa _ | exact hr1 _ (by omega) | exact hr6 _ (by omega) | exact hr11 _ (by omega) | exact hr _ | exact Nat.le_succ_of_le (hr _) | (apply sTo_le; first | omega | exact hr1 _ (by omega))) (by first | omega | assumption | exact hpa _ | exact hwa _ | exact hr1 _ (by omega) | exact hr6 _ (by omega) | exact hr11 _ (by omega) | exact hr _ | exact Nat.le_succ_of_le (hr _) | (apply sTo_le; first | omega | exact hr1 _ (by omega)))) kX8_deepBy lX8_167 (by decide) rfl rfl rfl rfl (by exact Nat.le_of_ble_eq_true rfl) dX8_cell_76 rfl rfl ?_
      refine g_iret rfl rfl dX8_cell_79 ?_
      refine gE_r ?_ rfl
      unfold pCell
      rw [if_pos ic, if_pos (by decide), ec, cN_n (by decide)]
      rfl
    · subst hs
      refine g_tableIn (off := 59) (tgt := 80) dX8_cell_21 (by decide) (by decide) (by decide) (by decide) ?_
      refine g_aload_n (i := 0) (j := 1) dX8_cell_80 rfl rfl ?_
      refine g_get fX8_148 rfl rfl dX8_cell_81 ?_
      refine g_iload_n (i := 1) (j := 2) dX8_cell_84 rfl rfl ?_
      refine g_ishr dX8_cell_85 ?_
      refine g_iconst (v := nI 1) dX8_cell_86 (by decide) ?_
      refine g_iand dX8_cell_87 ?_
      refine g_iret rfl rfl dX8_cell_88 ?_
      refine gE_r ?_ rfl
      unfold pCell
      rw [if_pos ic, if_pos (by decide), ec, cN_n (by decide)]
      show _ = nI (so c)
      rw [hS.2 c hc]
      exact shr10 c hc sf hS.1
    · subst hs
      refine g_tableIn (off := 68) (tgt := 89) dX8_cell_21 (by decide) (by decide) (by decide) (by decide) ?_
      rcases ht : tI tw at_ c with _ | t
      · skip
        refine g_iload_n (i := 3) (j := 0) dX8_cell_89 rfl rfl ?_
        refine g_bipush (v := (-9)) dX8_cell_90 (by decide) ?_
        refine g_icmp_ne (tgt := 99) dX8_cell_92 (by decide) (fun h92 => ?_) (fun h92 => ?_)
        · exact absurd rfl h92
        · refine g_iconst (v := nI 0) dX8_cell_95 (by decide) ?_
          refine g_goto (tgt := 105) dX8_cell_96 (by decide) ?_
          refine g_iret rfl rfl dX8_cell_105 ?_
          refine gE_r ?_ rfl
          unfold pCell
          rw [if_pos ic, if_pos (by decide), ec, cN_n (by decide)]
          show _ = nI (ho c)
          rw [tI_none hT ht]
      · have hts := tI_some hT ht
        refine g_iload_n (i := 3) (j := 0) dX8_cell_89 rfl rfl ?_
        refine g_bipush (v := (-9)) dX8_cell_90 (by decide) ?_
        refine g_icmp_ne (tgt := 99) dX8_cell_92 (by decide) (fun h92 => ?_) (fun h92 => ?_)
        · refine g_aload_n (i := 0) (j := 1) dX8_cell_99 rfl rfl ?_
          refine g_get fX8_29 rfl rfl dX8_cell_100 ?_
          refine g_iload_n (i := 3) (j := 0) dX8_cell_103 rfl rfl ?_
          refine n_iald (x := t) rfl (by omega) (rng_lit 2 rfl) dX8_cell_104 ?_
          refine g_iret rfl rfl dX8_cell_105 ?_
          refine gE_r ?_ rfl
          unfold pCell
          rw [if_pos ic, if_pos (by decide), ec, cN_n (by decide)]
          show _ = nI (ho c)
          rw [hts.2.2.2.1]
        · exact absurd h92 (nI_n9 (by omega))
    · subst hs
      refine g_tableIn (off := 85) (tgt := 106) dX8_cell_21 (by decide) (by decide) (by decide) (by decide) ?_
      refine g_aload_n (i := 0) (j := 1) dX8_cell_106 rfl rfl ?_
      refine g_iload_n (i := 1) (j := 2) dX8_cell_107 rfl rfl ?_
      refine c_V (st1 := [.int (nI (sUp r wk c))]) (ctX8_upAt (c := c) hrk (by omega) (by first | omega | assumption | exact hpa _ | exact hwa _ | exact hr1 _ (by omega) | exact hr6 _ (by omega) | exact hr11 _ (by omega) | exact hr _ | exact Nat.le_succ_of_le (hr _) | (apply sTo_le; first | omega | exact hr1 _ (by omega)))) kX8_upAt lX8_171 (by decide) rfl rfl rfl rfl (by exact Nat.le_of_ble_eq_true rfl) dX8_cell_108 rfl rfl ?_
      refine g_iret rfl rfl dX8_cell_111 ?_
      refine gE_r ?_ rfl
      unfold pCell
      rw [if_pos ic, if_pos (by decide), ec, cN_n (by decide)]
      rfl
  · refine g_iconst (v := (-1)) dX8_cell_12 (by decide) ?_
    refine g_iret rfl rfl dX8_cell_13 ?_
    refine gE_r ?_ rfl
    unfold pCell
    rw [if_neg h9]

theorem ctX8_walker {e1 e7 e8 e9 e10 e11 e13 e14 e15 e16 e17 : va_E} {ts pl lo ri la wk tw sf : Nat} {rl rr re : Int32} {rw rt rs ac : Nat} {sd : Int64} {ce sa ti : Nat} {h so ho pa wa at_ fo r : Nat → Nat} (hg : gOK h so ho pa wa wk tw lo ri la) (hS : mSf sf so) (hT : tOK tw at_ fo ho) (hrk : rOK r) {k0 x : Int32} : Ct mX8_walker 2 [.ref 0, .int k0, .int x] (wM (kM 0 ts pl lo ri la wk tw sf rl rr re rw rt rs ac sd ce sa ti) e1 (kI 10 h) (kI 5 pa) (kI 5 wa) (kI 2 at_) (kI 2 fo) e7 e8 e9 e10 e11 (kI 16 (pgR r)) e13 e14 e15 e16 e17) (gE (some (.int (pWalker pa wa wk r k0 x))) (wM (kM 0 ts pl lo ri la wk tw sf rl rr re rw rt rs ac sd ce sa ti) e1 (kI 10 h) (kI 5 pa) (kI 5 wa) (kI 2 at_) (kI 2 fo) e7 e8 e9 e10 e11 (kI 16 (pgR r)) e13 e14 e15 e16 e17)) := by
  refine Ct.of (by decide) (by exact Nat.le_of_ble_eq_true rfl) ?_
  show Go mX8_walker 2 0 [(0, .ref 0), (1, .int k0), (2, .int x)] [] (wM (kM 0 ts pl lo ri la wk tw sf rl rr re rw rt rs ac sd ce sa ti) e1 (kI 10 h) (kI 5 pa) (kI 5 wa) (kI 2 at_) (kI 2 fo) e7 e8 e9 e10 e11 (kI 16 (pgR r)) e13 e14 e15 e16 e17) (gE (some (.int (pWalker pa wa wk r k0 x))) (wM (kM 0 ts pl lo ri la wk tw sf rl rr re rw rt rs ac sd ce sa ti) e1 (kI 10 h) (kI 5 pa) (kI 5 wa) (kI 2 at_) (kI 2 fo) e7 e8 e9 e10 e11 (kI 16 (pgR r)) e13 e14 e15 e16 e17))
  obtain ⟨hH, hso, hho, hpa, hwa, hwk, htw, hlo, hri, hla⟩ := hg
  have hrk0 := hrk
  obtain ⟨hr, hr1, hr6, hr11⟩ := hrk0
  refine g_aload_n (i := 0) (j := 0) dX8_walker_0 rfl rfl ?_
  refine g_iconst (v := nI 0) dX8_walker_1 (by decide) ?_
  refine n_putI (ws' := wM (kM 0 ts pl lo ri la wk tw sf rl rr re rw rt rs ac sd ce sa ti) e1 (kI 10 h) (kI 5 pa) (kI 5 wa) (kI 2 at_) (kI 2 fo) e7 e8 e9 e10 e11 (kI 16 (pgR r)) e13 e14 e15 e16 e17) fX8_67 fp_X8_0 rfl (by exact Nat.le_of_ble_eq_true rfl) dX8_walker_2 rfl ?_
  refine g_aload_n (i := 0) (j := 0) dX8_walker_5 rfl rfl ?_
  refine g_iload_n (i := 1) (j := 1) dX8_walker_6 rfl rfl ?_
  refine c_V (st1 := [.int (nI (bN (¬ iW k0 wk)))]) (ctX8_noOne  (by omega)) kX8_noOne lX8_174 (by decide) rfl rfl rfl rfl (by exact Nat.le_of_ble_eq_true rfl) dX8_walker_7 rfl rfl ?_
  refine b_if_eq (tgt := 15) dX8_walker_10 (by decide) (fun h10 => ?_) (fun h10 => ?_)
  · obtain ⟨k, hk, rfl⟩ := raw_lt (Decidable.not_not.mp h10)
    have ek : cN (nI k) = k := cN_n (by omega)
    have ik : iW (nI k) wk := (iW_n (by omega)).mpr hk
    have q1 := hr1 k (by omega)
    have q6 := hr6 k (by omega)
    have q11 := hr11 k (by omega)
    have q0 := hr 0
    refine g_iload_n (i := 2) (j := 2) dX8_walker_15 rfl rfl ?_
    rcases tsw_5 x with hs | hs | hs | hs | hs | hs
    · refine g_tableOut (tgt := 97) dX8_walker_16 (by rcases hs with hs | hs <;> omega) (by decide) ?_
      refine g_bipush (v := (-2)) dX8_walker_97 (by decide) ?_
      refine g_iret rfl rfl dX8_walker_99 ?_
      refine gE_r ?_ rfl
      unfold pWalker
      rw [if_pos ik, if_neg (by unfold iW; omega)]
    · subst hs
      refine g_tableIn (off := 36) (tgt := 52) dX8_walker_16 (by decide) (by decide) (by decide) (by decide) ?_
      refine g_aload_n (i := 0) (j := 0) dX8_walker_52 rfl rfl ?_
      refine g_get fX8_20 rfl rfl dX8_walker_53 ?_
      refine g_iload_n (i := 1) (j := 1) dX8_walker_56 rfl rfl ?_
      refine n_iald (x := k) rfl (by omega) (rng_lit 5 rfl) dX8_walker_57 ?_
      refine g_iret rfl rfl dX8_walker_58 ?_
      refine gE_r ?_ rfl
      unfold pWalker
      rw [if_pos ik, if_pos (by decide), ek, cN_n (by decide)]
      rfl
    · subst hs
      refine g_tableIn (off := 43) (tgt := 59) dX8_walker_16 (by decide) (by decide) (by decide) (by decide) ?_
      refine g_aload_n (i := 0) (j := 0) dX8_walker_59 rfl rfl ?_
      refine g_get fX8_23 rfl rfl dX8_walker_60 ?_
      refine g_iload_n (i := 1) (j := 1) dX8_walker_63 rfl rfl ?_
      refine n_iald (x := k) rfl (by omega) (rng_lit 5 rfl) dX8_walker_64 ?_
      refine g_iret rfl rfl dX8_walker_65 ?_
      refine gE_r ?_ rfl
      unfold pWalker
      rw [if_pos ik, if_pos (by decide), ek, cN_n (by decide)]
      rfl
    · subst hs
      refine g_tableIn (off := 50) (tgt := 66) dX8_walker_16 (by decide) (by decide) (by decide) (by decide) ?_
      refine g_aload_n (i := 0) (j := 0) dX8_walker_66 rfl rfl ?_
      refine g_get fX8_47 rfl rfl dX8_walker_67 ?_
      refine g_iconst (v := nI 3) dX8_walker_70 (by decide) ?_
      refine g_iload_n (i := 1) (j := 1) dX8_walker_71 rfl rfl ?_
      refine n_imul (a := 3) (b := k) dX8_walker_72 ?_
      refine n_iald (x := (3 * k)) rfl (by omega) (rng_lit 16 rfl) dX8_walker_73 ?_
      refine g_topi (y := nI (r (1 + k))) (by rw [pg_0 (by omega)]) ?_
      refine g_iret rfl rfl dX8_walker_74 ?_
      refine gE_r ?_ rfl
      unfold pWalker
      rw [if_pos ik, if_pos (by decide), ek, cN_n (by decide)]
      rfl
    · subst hs
      refine g_tableIn (off := 59) (tgt := 75) dX8_walker_16 (by decide) (by decide) (by decide) (by decide) ?_
      refine g_aload_n (i := 0) (j := 0) dX8_walker_75 rfl rfl ?_
      refine g_get fX8_47 rfl rfl dX8_walker_76 ?_
      refine g_iconst (v := nI 3) dX8_walker_79 (by decide) ?_
      refine g_iload_n (i := 1) (j := 1) dX8_walker_80 rfl rfl ?_
      refine n_imul (a := 3) (b := k) dX8_walker_81 ?_
      refine g_iconst (v := nI 1) dX8_walker_82 (by decide) ?_
      refine n_iadd (a := (3 * k)) (b := 1) dX8_walker_83 ?_
      refine n_iald (x := ((3 * k) + 1)) rfl (by omega) (rng_lit 16 rfl) dX8_walker_84 ?_
      refine g_topi (y := nI (r (6 + k))) (by rw [pg_1 (by omega)]) ?_
      refine g_iret rfl rfl dX8_walker_85 ?_
      refine gE_r ?_ rfl
      unfold pWalker
      rw [if_pos ik, if_pos (by decide), ek, cN_n (by decide)]
      rfl
    · subst hs
      refine g_tableIn (off := 70) (tgt := 86) dX8_walker_16 (by decide) (by decide) (by decide) (by decide) ?_
      refine g_aload_n (i := 0) (j := 0) dX8_walker_86 rfl rfl ?_
      refine g_get fX8_47 rfl rfl dX8_walker_87 ?_
      refine g_iconst (v := nI 3) dX8_walker_90 (by decide) ?_
      refine g_iload_n (i := 1) (j := 1) dX8_walker_91 rfl rfl ?_
      refine n_imul (a := 3) (b := k) dX8_walker_92 ?_
      refine g_iconst (v := nI 2) dX8_walker_93 (by decide) ?_
      refine n_iadd (a := (3 * k)) (b := 2) dX8_walker_94 ?_
      refine n_iald (x := ((3 * k) + 2)) rfl (by omega) (rng_lit 16 rfl) dX8_walker_95 ?_
      refine g_topi (y := nI (r (11 + k))) (by rw [pg_2 (by omega)]) ?_
      refine g_iret rfl rfl dX8_walker_96 ?_
      refine gE_r ?_ rfl
      unfold pWalker
      rw [if_pos ik, if_pos (by decide), ek, cN_n (by decide)]
      rfl
  · refine g_iconst (v := (-1)) dX8_walker_13 (by decide) ?_
    refine g_iret rfl rfl dX8_walker_14 ?_
    refine gE_r ?_ rfl
    unfold pWalker
    rw [if_neg h10]

theorem ctX8_deep {e1 e7 e8 e9 e10 e11 e13 e14 e15 e16 e17 : va_E} {ts pl lo ri la wk tw sf : Nat} {rl rr re : Int32} {rw rt rs ac : Nat} {sd : Int64} {ce sa ti : Nat} {h so ho pa wa at_ fo r : Nat → Nat} (hg : gOK h so ho pa wa wk tw lo ri la) (hS : mSf sf so) (hT : tOK tw at_ fo ho) (hrk : rOK r) {c0 s0 : Int32} : Ct mX8_deep 2 [.ref 0, .int c0, .int s0] (wM (kM 0 ts pl lo ri la wk tw sf rl rr re rw rt rs ac sd ce sa ti) e1 (kI 10 h) (kI 5 pa) (kI 5 wa) (kI 2 at_) (kI 2 fo) e7 e8 e9 e10 e11 (kI 16 (pgR r)) e13 e14 e15 e16 e17) (gE (some (.int (pDeep h lo ri la c0 s0))) (wM (kM 0 ts pl lo ri la wk tw sf rl rr re rw rt rs ac sd ce sa ti) e1 (kI 10 h) (kI 5 pa) (kI 5 wa) (kI 2 at_) (kI 2 fo) e7 e8 e9 e10 e11 (kI 16 (pgR r)) e13 e14 e15 e16 e17)) := by
  refine Ct.of (by decide) (by exact Nat.le_of_ble_eq_true rfl) ?_
  show Go mX8_deep 2 0 [(0, .ref 0), (1, .int c0), (2, .int s0)] [] (wM (kM 0 ts pl lo ri la wk tw sf rl rr re rw rt rs ac sd ce sa ti) e1 (kI 10 h) (kI 5 pa) (kI 5 wa) (kI 2 at_) (kI 2 fo) e7 e8 e9 e10 e11 (kI 16 (pgR r)) e13 e14 e15 e16 e17) (gE (some (.int (pDeep h lo ri la c0 s0))) (wM (kM 0 ts pl lo ri la wk tw sf rl rr re rw rt rs ac sd ce sa ti) e1 (kI 10 h) (kI 5 pa) (kI 5 wa) (kI 2 at_) (kI 2 fo) e7 e8 e9 e10 e11 (kI 16 (pgR r)) e13 e14 e15 e16 e17))
  obtain ⟨hH, hso, hho, hpa, hwa, hwk, htw, hlo, hri, hla⟩ := hg
  have hrk0 := hrk
  obtain ⟨hr, hr1, hr6, hr11⟩ := hrk0
  refine g_aload_n (i := 0) (j := 0) dX8_deep_0 rfl rfl ?_
  refine g_iconst (v := nI 0) dX8_deep_1 (by decide) ?_
  refine n_putI (ws' := wM (kM 0 ts pl lo ri la wk tw sf rl rr re rw rt rs ac sd ce sa ti) e1 (kI 10 h) (kI 5 pa) (kI 5 wa) (kI 2 at_) (kI 2 fo) e7 e8 e9 e10 e11 (kI 16 (pgR r)) e13 e14 e15 e16 e17) fX8_67 fp_X8_0 rfl (by exact Nat.le_of_ble_eq_true rfl) dX8_deep_2 rfl ?_
  refine g_iload_n (i := 1) (j := 1) dX8_deep_5 rfl rfl ?_
  refine c_S (st1 := [.int (nI (bN (¬ iW c0 10)))]) (ctX8_noCell (x := c0) ) kX8_noCell lX8_160 (by decide) rfl (by exact Nat.le_of_ble_eq_true rfl) dX8_deep_6 rfl rfl ?_
  refine b_if_eq (tgt := 16) dX8_deep_9 (by decide) (fun h9 => ?_) (fun h9 => ?_)
  · obtain ⟨c, hc, rfl⟩ := raw_lt (Decidable.not_not.mp h9)
    have ec : cN (nI c) = c := cN_n (by omega)
    have ic : iW (nI c) 10 := (iW_n (by omega)).mpr hc
    refine g_iload_n (i := 2) (j := 2) dX8_deep_16 rfl rfl ?_
    refine g_i2l dX8_deep_17 rfl ?_
    refine g_lconst (v := lN 0) dX8_deep_18 (by decide) ?_
    refine g_ldc2 clX8_177 dX8_deep_19 ?_
    refine g_st (st' := [.long (lN 40), .long (lN 0), .long s0.toInt64]) rfl ?_
    refine c_S (st1 := [.int (nI (bN (iW s0 41)))]) (ctX8_in (P := iW s0 41) (in_0 (rng_lit _ rfl) rfl)) kX8_in lX8_73 (by decide) rfl (by exact Nat.le_of_ble_eq_true rfl) dX8_deep_22 rfl rfl ?_
    refine b_if_eq (tgt := 41) dX8_deep_25 (by decide) (fun h25 => ?_) (fun h25 => ?_)
    · refine g_bipush (v := (-2)) dX8_deep_41 (by decide) ?_
      refine g_iret rfl rfl dX8_deep_43 ?_
      refine gE_r ?_ rfl
      unfold pDeep
      rw [if_pos ic, if_neg h25]
    · obtain ⟨s, hs, rfl⟩ := raw_lt h25
      refine g_aload_n (i := 0) (j := 0) dX8_deep_28 rfl rfl ?_
      refine g_iload_n (i := 1) (j := 1) dX8_deep_29 rfl rfl ?_
      refine g_iload_n (i := 2) (j := 2) dX8_deep_30 rfl rfl ?_
      refine g_aload_n (i := 0) (j := 0) dX8_deep_31 rfl rfl ?_
      refine g_get fX8_139 rfl rfl dX8_deep_32 ?_
      refine c_V (st1 := [.int (nI (sDepth h c (sWater la ri s lo)))]) (ctX8_deepBy (c := c) (s := s) (at0 := lo) hH (by omega) (by omega) (by first | omega | assumption | exact hpa _ | exact hwa _ | exact hr1 _ (by omega) | exact hr6 _ (by omega) | exact hr11 _ (by omega) | exact hr _ | exact Nat.le_succ_of_le (hr _) | (apply sTo_le; first | omega | exact hr1 _ (by omega))) (by first | omega | assumption | exact hpa _ | exact hwa _ | exact hr1 _ (by omega) | exact hr6 _ (by omega) | exact hr11 _ (by omega) | exact hr _ | exact Nat.le_succ_of_le (hr _) | (apply sTo_le; first | omega | exact hr1 _ (by omega))) (by first | omega | assumption | exact hpa _ | exact hwa _ | exact hr1 _ (by omega) | exact hr6 _ (by omega) | exact hr11 _ (by omega) | exact hr _ | exact Nat.le_succ_of_le (hr _) | (apply sTo_le; first | omega | exact hr1 _ (by omega)))) kX8_deepBy lX8_167 (by decide) rfl rfl rfl rfl (by exact Nat.le_of_ble_eq_true rfl) dX8_deep_35 rfl rfl ?_
      refine g_goto (tgt := 43) dX8_deep_38 (by decide) ?_
      refine g_iret rfl rfl dX8_deep_43 ?_
      refine gE_r ?_ rfl
      unfold pDeep
      rw [if_pos ic, if_pos h25, ec, cN_n (by omega)]
  · refine g_iconst (v := (-1)) dX8_deep_12 (by decide) ?_
    refine g_goto (tgt := 43) dX8_deep_13 (by decide) ?_
    refine g_iret rfl rfl dX8_deep_43 ?_
    refine gE_r ?_ rfl
    unfold pDeep
    rw [if_neg h9]

theorem ctX8_head {e1 e7 e8 e9 e10 e11 e14 e15 e16 e17 : va_E} {ts pl lo ri la wk tw sf : Nat} {rl rr re : Int32} {rw rt rs ac : Nat} {sd : Int64} {ce sa ti : Nat} {h so ho pa wa at_ fo r : Nat → Nat} (hg : gOK h so ho pa wa wk tw lo ri la) (hS : mSf sf so) (hT : tOK tw at_ fo ho) (hrk : rOK r) {Q : Nat → Nat → Nat} (hac : ac ≤ 16) {k0 w0 : Int32} : Ct mX8_head 2 [.ref 0, .int k0, .int w0] (wM (kM 0 ts pl lo ri la wk tw sf rl rr re rw rt rs ac sd ce sa ti) e1 (kI 10 h) (kI 5 pa) (kI 5 wa) (kI 2 at_) (kI 2 fo) e7 e8 e9 e10 e11 (kI 16 (pgR r)) (kI 256 (bkR Q)) e14 e15 e16 e17) (gE (some (.int (pHead wk r k0 w0))) (if cHead wk r k0 w0 then wM (kM 0 ts pl lo ri la wk tw sf rl rr re rw rt rs (ctP ac) sd ce sa ti) e1 (kI 10 h) (kI 5 pa) (kI 5 wa) (kI 2 at_) (kI 2 fo) e7 e8 e9 e10 e11 (kI 16 (pgR (va_up r (6 + cN k0) (cN w0)))) (kI 256 (bkR (sNote Q ac r))) e14 e15 e16 e17 else wM (kM 0 ts pl lo ri la wk tw sf rl rr re rw rt rs ac sd ce sa ti) e1 (kI 10 h) (kI 5 pa) (kI 5 wa) (kI 2 at_) (kI 2 fo) e7 e8 e9 e10 e11 (kI 16 (pgR r)) (kI 256 (bkR Q)) e14 e15 e16 e17)) := by
  refine Ct.of (by decide) (by exact Nat.le_of_ble_eq_true rfl) ?_
  show Go mX8_head 2 0 [(0, .ref 0), (1, .int k0), (2, .int w0)] [] (wM (kM 0 ts pl lo ri la wk tw sf rl rr re rw rt rs ac sd ce sa ti) e1 (kI 10 h) (kI 5 pa) (kI 5 wa) (kI 2 at_) (kI 2 fo) e7 e8 e9 e10 e11 (kI 16 (pgR r)) (kI 256 (bkR Q)) e14 e15 e16 e17) (gE (some (.int (pHead wk r k0 w0))) (if cHead wk r k0 w0 then wM (kM 0 ts pl lo ri la wk tw sf rl rr re rw rt rs (ctP ac) sd ce sa ti) e1 (kI 10 h) (kI 5 pa) (kI 5 wa) (kI 2 at_) (kI 2 fo) e7 e8 e9 e10 e11 (kI 16 (pgR (va_up r (6 + cN k0) (cN w0)))) (kI 256 (bkR (sNote Q ac r))) e14 e15 e16 e17 else wM (kM 0 ts pl lo ri la wk tw sf rl rr re rw rt rs ac sd ce sa ti) e1 (kI 10 h) (kI 5 pa) (kI 5 wa) (kI 2 at_) (kI 2 fo) e7 e8 e9 e10 e11 (kI 16 (pgR r)) (kI 256 (bkR Q)) e14 e15 e16 e17))
  obtain ⟨hH, hso, hho, hpa, hwa, hwk, htw, hlo, hri, hla⟩ := hg
  have hrk0 := hrk
  obtain ⟨hr, hr1, hr6, hr11⟩ := hrk0
  refine g_aload_n (i := 0) (j := 0) dX8_head_0 rfl rfl ?_
  refine g_iconst (v := nI 0) dX8_head_1 (by decide) ?_
  refine n_putI (ws' := wM (kM 0 ts pl lo ri la wk tw sf rl rr re rw rt rs ac sd ce sa ti) e1 (kI 10 h) (kI 5 pa) (kI 5 wa) (kI 2 at_) (kI 2 fo) e7 e8 e9 e10 e11 (kI 16 (pgR r)) (kI 256 (bkR Q)) e14 e15 e16 e17) fX8_67 fp_X8_0 rfl (by exact Nat.le_of_ble_eq_true rfl) dX8_head_2 rfl ?_
  refine g_aload_n (i := 0) (j := 0) dX8_head_5 rfl rfl ?_
  refine g_iload_n (i := 1) (j := 1) dX8_head_6 rfl rfl ?_
  refine c_V (st1 := [.int (nI (bN (¬ iW k0 wk)))]) (ctX8_noOne  (by omega)) kX8_noOne lX8_174 (by decide) rfl rfl rfl rfl (by exact Nat.le_of_ble_eq_true rfl) dX8_head_7 rfl rfl ?_
  refine b_if_eq (tgt := 15) dX8_head_10 (by decide) (fun h10 => ?_) (fun h10 => ?_)
  · obtain ⟨k, hk, rfl⟩ := raw_lt (Decidable.not_not.mp h10)
    have ek : cN (nI k) = k := cN_n (by omega)
    have ik : iW (nI k) wk := (iW_n (by omega)).mpr hk
    have q1 := hr1 k (by omega)
    have q6 := hr6 k (by omega)
    have q11 := hr11 k (by omega)
    have q0 := hr 0
    refine g_iload_n (i := 2) (j := 2) dX8_head_15 rfl rfl ?_
    refine g_i2l dX8_head_16 rfl ?_
    refine g_lconst (v := lN 0) dX8_head_17 (by decide) ?_
    refine g_ldc2 clX8_196 dX8_head_18 ?_
    refine g_st (st' := [.long (lN 2), .long (lN 0), .long w0.toInt64]) rfl ?_
    refine c_S (st1 := [.int (nI (bN (iW w0 3)))]) (ctX8_in (P := iW w0 3) (in_0 (rng_lit _ rfl) rfl)) kX8_in lX8_73 (by decide) rfl (by exact Nat.le_of_ble_eq_true rfl) dX8_head_21 rfl rfl ?_
    refine b_if_ne (tgt := 30) dX8_head_24 (by decide) (fun h24 => ?_) (fun h24 => ?_)
    · obtain ⟨w, hw, rfl⟩ := raw_lt h24
      have ew : cN (nI w) = w := cN_n (by omega)
      refine g_aload_n (i := 0) (j := 0) dX8_head_30 rfl rfl ?_
      refine g_get fX8_47 rfl rfl dX8_head_31 ?_
      refine g_iconst (v := nI 3) dX8_head_34 (by decide) ?_
      refine g_iload_n (i := 1) (j := 1) dX8_head_35 rfl rfl ?_
      refine n_imul (a := 3) (b := k) dX8_head_36 ?_
      refine g_iconst (v := nI 1) dX8_head_37 (by decide) ?_
      refine n_iadd (a := (3 * k)) (b := 1) dX8_head_38 ?_
      refine n_iald (x := ((3 * k) + 1)) rfl (by omega) (rng_lit 16 rfl) dX8_head_39 ?_
      refine g_topi (y := nI (r (6 + k))) (by rw [pg_1 (by omega)]) ?_
      refine g_istore_n (i := 3) (lv' := [(3, .int (nI (r (6 + k)))), (0, .ref 0), (1, .int (nI k)), (2, .int (nI w))]) dX8_head_40 rfl (by decide) rfl ?_
      refine g_aload_n (i := 0) (j := 1) dX8_head_41 rfl rfl ?_
      refine g_get fX8_47 rfl rfl dX8_head_42 ?_
      refine g_iconst (v := nI 3) dX8_head_45 (by decide) ?_
      refine g_iload_n (i := 1) (j := 2) dX8_head_46 rfl rfl ?_
      refine n_imul (a := 3) (b := k) dX8_head_47 ?_
      refine g_iconst (v := nI 2) dX8_head_48 (by decide) ?_
      refine n_iadd (a := (3 * k)) (b := 2) dX8_head_49 ?_
      refine n_iald (x := ((3 * k) + 2)) rfl (by omega) (rng_lit 16 rfl) dX8_head_50 ?_
      refine g_topi (y := nI (r (11 + k))) (by rw [pg_2 (by omega)]) ?_
      refine n_if_ne (tgt := 59) (by omega) dX8_head_51 (by decide) (fun h51 => ?_) (fun h51 => ?_)
      · refine g_bipush (v := (-3)) dX8_head_59 (by decide) ?_
        refine g_iret rfl rfl dX8_head_61 ?_
        refine gE_r ?_ (if_neg (fun z => by have z3 := z.2.2; rw [ek, ew] at z3; omega)).symm
        unfold pHead
        rw [if_pos ik, if_pos h24, ek, ew, if_neg (by omega)]
      · refine g_iload_n (i := 3) (j := 0) dX8_head_54 rfl rfl ?_
        refine g_iload_n (i := 2) (j := 3) dX8_head_55 rfl rfl ?_
        refine n_icmp_ne (tgt := 62) (by omega) (by omega) dX8_head_56 (by decide) (fun h56 => ?_) (fun h56 => ?_)
        · refine g_aload_n (i := 0) (j := 1) dX8_head_62 rfl rfl ?_
          refine c_V (st1 := []) (ctX8_note  (by omega)) kX8_note lX8_198 (by decide) rfl rfl rfl rfl (by exact Nat.le_of_ble_eq_true rfl) dX8_head_63 rfl rfl ?_
          refine g_aload_n (i := 0) (j := 1) dX8_head_66 rfl rfl ?_
          refine g_get fX8_47 rfl rfl dX8_head_67 ?_
          refine g_iconst (v := nI 3) dX8_head_70 (by decide) ?_
          refine g_iload_n (i := 1) (j := 2) dX8_head_71 rfl rfl ?_
          refine n_imul (a := 3) (b := k) dX8_head_72 ?_
          refine g_iconst (v := nI 1) dX8_head_73 (by decide) ?_
          refine n_iadd (a := (3 * k)) (b := 1) dX8_head_74 ?_
          refine g_iload_n (i := 2) (j := 3) dX8_head_75 rfl rfl ?_
          refine n_iast (x := ((3 * k) + 1)) (ws' := wM (kM 0 ts pl lo ri la wk tw sf rl rr re rw rt rs (ctP ac) sd ce sa ti) e1 (kI 10 h) (kI 5 pa) (kI 5 wa) (kI 2 at_) (kI 2 fo) e7 e8 e9 e10 e11 (kI 16 (pgR (va_up r (6 + k) w))) (kI 256 (bkR (sNote Q ac r))) e14 e15 e16 e17) rfl (by omega) (rng_lit 16 rfl) dX8_head_76 (by rw [pu_1 (by omega)]; rfl) ?_
          refine g_iload_n (i := 3) (j := 0) dX8_head_77 rfl rfl ?_
          refine g_iret rfl rfl dX8_head_78 ?_
          refine gE_r ?_ ?_
          · unfold pHead
            rw [if_pos ik, if_pos h24, ek, ew, if_pos ⟨h51, by omega⟩]
          · refine Eq.trans ?_ (if_pos (c := cHead wk r (nI k) (nI w)) ⟨ik, h24, by rw [ek]; exact h51, by rw [ek, ew]; omega⟩).symm
            rw [ek, ew]
        · refine g_bipush (v := (-3)) dX8_head_59 (by decide) ?_
          refine g_iret rfl rfl dX8_head_61 ?_
          refine gE_r ?_ (if_neg (fun z => by have z3 := z.2.2; rw [ek, ew] at z3; omega)).symm
          unfold pHead
          rw [if_pos ik, if_pos h24, ek, ew, if_neg (by omega)]
    · refine g_bipush (v := (-2)) dX8_head_27 (by decide) ?_
      refine g_iret rfl rfl dX8_head_29 ?_
      refine gE_r ?_ (if_neg (fun z => h24 z.2.1)).symm
      unfold pHead
      rw [if_pos ik, if_neg h24]
  · refine g_iconst (v := (-1)) dX8_head_13 (by decide) ?_
    refine g_iret rfl rfl dX8_head_14 ?_
    refine gE_r ?_ (if_neg (fun z => h10 z.1)).symm
    unfold pHead
    rw [if_neg h10]

theorem rOK_up4 {r : Nat → Nat} (h : rOK r) {k : Nat} (hk : k < 5) : rOK (va_up r (11 + k) 4) := by
  obtain ⟨hr, hr1, hr6, hr11⟩ := h
  refine ⟨fun j => ?_, fun j hj => ?_, fun j hj => ?_, fun j hj => ?_⟩ <;> unfold va_up <;> split <;> first | omega | exact hr _ | exact hr1 _ hj | exact hr6 _ hj | exact hr11 _ hj
theorem ctX8_climb {e1 e7 e8 e9 e10 e11 e14 e15 e16 e17 : va_E} {ts pl lo ri la wk tw sf : Nat} {rl rr re : Int32} {rw rt rs ac : Nat} {sd : Int64} {ce sa ti : Nat} {h so ho pa wa at_ fo r : Nat → Nat} (hg : gOK h so ho pa wa wk tw lo ri la) (hS : mSf sf so) (hT : tOK tw at_ fo ho) (hrk : rOK r) {Q : Nat → Nat → Nat} (hac : ac ≤ 16) (hup : ∀ c, c ≤ 9 → sUp r wk c ≤ ho c) {k0 : Int32} : Ct mX8_climb 2 [.ref 0, .int k0] (wM (kM 0 ts pl lo ri la wk tw sf rl rr re rw rt rs ac sd ce sa ti) e1 (kI 10 h) (kI 5 pa) (kI 5 wa) (kI 2 at_) (kI 2 fo) e7 e8 e9 e10 e11 (kI 16 (pgR r)) (kI 256 (bkR Q)) e14 e15 e16 e17) (gE (some (.int (pClimb ho wk r k0))) (if cClimb ho wk r k0 then wM (kM 0 ts pl lo ri la wk tw sf rl rr re rw rt rs (ctP ac) sd ce sa ti) e1 (kI 10 h) (kI 5 pa) (kI 5 wa) (kI 2 at_) (kI 2 fo) e7 e8 e9 e10 e11 (kI 16 (pgR (va_up r (11 + cN k0) 4))) (kI 256 (bkR (sNote Q ac r))) e14 e15 e16 e17 else wM (kM 0 ts pl lo ri la wk tw sf rl rr re rw rt rs ac sd ce sa ti) e1 (kI 10 h) (kI 5 pa) (kI 5 wa) (kI 2 at_) (kI 2 fo) e7 e8 e9 e10 e11 (kI 16 (pgR r)) (kI 256 (bkR Q)) e14 e15 e16 e17)) := by
  refine Ct.of (by decide) (by exact Nat.le_of_ble_eq_true rfl) ?_
  show Go mX8_climb 2 0 [(0, .ref 0), (1, .int k0)] [] (wM (kM 0 ts pl lo ri la wk tw sf rl rr re rw rt rs ac sd ce sa ti) e1 (kI 10 h) (kI 5 pa) (kI 5 wa) (kI 2 at_) (kI 2 fo) e7 e8 e9 e10 e11 (kI 16 (pgR r)) (kI 256 (bkR Q)) e14 e15 e16 e17) (gE (some (.int (pClimb ho wk r k0))) (if cClimb ho wk r k0 then wM (kM 0 ts pl lo ri la wk tw sf rl rr re rw rt rs (ctP ac) sd ce sa ti) e1 (kI 10 h) (kI 5 pa) (kI 5 wa) (kI 2 at_) (kI 2 fo) e7 e8 e9 e10 e11 (kI 16 (pgR (va_up r (11 + cN k0) 4))) (kI 256 (bkR (sNote Q ac r))) e14 e15 e16 e17 else wM (kM 0 ts pl lo ri la wk tw sf rl rr re rw rt rs ac sd ce sa ti) e1 (kI 10 h) (kI 5 pa) (kI 5 wa) (kI 2 at_) (kI 2 fo) e7 e8 e9 e10 e11 (kI 16 (pgR r)) (kI 256 (bkR Q)) e14 e15 e16 e17))
  obtain ⟨hH, hso, hho, hpa, hwa, hwk, htw, hlo, hri, hla⟩ := hg
  have hrk0 := hrk
  obtain ⟨hr, hr1, hr6, hr11⟩ := hrk0
  refine g_aload_n (i := 0) (j := 0) dX8_climb_0 rfl rfl ?_
  refine g_iconst (v := nI 0) dX8_climb_1 (by decide) ?_
  refine n_putI (ws' := wM (kM 0 ts pl lo ri la wk tw sf rl rr re rw rt rs ac sd ce sa ti) e1 (kI 10 h) (kI 5 pa) (kI 5 wa) (kI 2 at_) (kI 2 fo) e7 e8 e9 e10 e11 (kI 16 (pgR r)) (kI 256 (bkR Q)) e14 e15 e16 e17) fX8_67 fp_X8_0 rfl (by exact Nat.le_of_ble_eq_true rfl) dX8_climb_2 rfl ?_
  refine g_aload_n (i := 0) (j := 0) dX8_climb_5 rfl rfl ?_
  refine g_iload_n (i := 1) (j := 1) dX8_climb_6 rfl rfl ?_
  refine c_V (st1 := [.int (nI (bN (¬ iW k0 wk)))]) (ctX8_noOne  (by omega)) kX8_noOne lX8_174 (by decide) rfl rfl rfl rfl (by exact Nat.le_of_ble_eq_true rfl) dX8_climb_7 rfl rfl ?_
  refine b_if_eq (tgt := 15) dX8_climb_10 (by decide) (fun h10 => ?_) (fun h10 => ?_)
  · obtain ⟨k, hk, rfl⟩ := raw_lt (Decidable.not_not.mp h10)
    have ek : cN (nI k) = k := cN_n (by omega)
    have ik : iW (nI k) wk := (iW_n (by omega)).mpr hk
    have q1 := hr1 k (by omega)
    have q6 := hr6 k (by omega)
    have q11 := hr11 k (by omega)
    have q0 := hr 0
    have q3 := hup (r (1 + k)) q1
    have q4 := hho (r (1 + k))
    refine g_aload_n (i := 0) (j := 0) dX8_climb_15 rfl rfl ?_
    refine g_aload_n (i := 0) (j := 0) dX8_climb_16 rfl rfl ?_
    refine g_get fX8_47 rfl rfl dX8_climb_17 ?_
    refine g_iconst (v := nI 3) dX8_climb_20 (by decide) ?_
    refine g_iload_n (i := 1) (j := 1) dX8_climb_21 rfl rfl ?_
    refine n_imul (a := 3) (b := k) dX8_climb_22 ?_
    refine n_iald (x := (3 * k)) rfl (by omega) (rng_lit 16 rfl) dX8_climb_23 ?_
    refine g_topi (y := nI (r (1 + k))) (by rw [pg_0 (by omega)]) ?_
    refine c_V (st1 := [.int (rO (tI tw at_ (r (1 + k))))]) (ctX8_towerOf (c := r (1 + k)) (by omega) (fun t ht => (hT.2.1 t ht).1) (by first | omega | assumption | exact hpa _ | exact hwa _ | exact hr1 _ (by omega) | exact hr6 _ (by omega) | exact hr11 _ (by omega) | exact hr _ | exact Nat.le_succ_of_le (hr _) | (apply sTo_le; first | omega | exact hr1 _ (by omega)))) kX8_towerOf lX8_164 (by decide) rfl rfl rfl rfl (by exact Nat.le_of_ble_eq_true rfl) dX8_climb_24 rfl rfl ?_
    refine g_istore_n (i := 2) (lv' := [(2, .int (rO (tI tw at_ (r (1 + k))))), (0, .ref 0), (1, .int (nI k))]) dX8_climb_27 rfl (by decide) rfl ?_
    rcases ht : tI tw at_ (r (1 + k)) with _ | t
    · skip
      refine g_aload_n (i := 0) (j := 1) dX8_climb_28 rfl rfl ?_
      refine g_get fX8_47 rfl rfl dX8_climb_29 ?_
      refine g_iconst (v := nI 3) dX8_climb_32 (by decide) ?_
      refine g_iload_n (i := 1) (j := 2) dX8_climb_33 rfl rfl ?_
      refine n_imul (a := 3) (b := k) dX8_climb_34 ?_
      refine g_iconst (v := nI 2) dX8_climb_35 (by decide) ?_
      refine n_iadd (a := (3 * k)) (b := 2) dX8_climb_36 ?_
      refine n_iald (x := ((3 * k) + 2)) rfl (by omega) (rng_lit 16 rfl) dX8_climb_37 ?_
      refine g_topi (y := nI (r (11 + k))) (by rw [pg_2 (by omega)]) ?_
      refine n_if_ne (tgt := 47) (by omega) dX8_climb_38 (by decide) (fun h38 => ?_) (fun h38 => ?_)
      · refine g_bipush (v := (-3)) dX8_climb_47 (by decide) ?_
        refine g_iret rfl rfl dX8_climb_49 ?_
        refine gE_r ?_ (if_neg (fun z => by have z2 := z.2; rw [ek] at z2; first | (have z4 := tI_none hT ht; omega) | omega)).symm
        unfold pClimb
        rw [if_pos ik, ek, if_neg (fun z => by first | (have z4 := tI_none hT ht; omega) | omega)]
      · refine g_iload_n (i := 2) (j := 0) dX8_climb_41 rfl rfl ?_
        refine g_bipush (v := (-9)) dX8_climb_42 (by decide) ?_
        refine g_icmp_ne (tgt := 50) dX8_climb_44 (by decide) (fun h44 => ?_) (fun h44 => ?_)
        · exact absurd rfl h44
        · refine g_bipush (v := (-3)) dX8_climb_47 (by decide) ?_
          refine g_iret rfl rfl dX8_climb_49 ?_
          refine gE_r ?_ (if_neg (fun z => by have z2 := z.2; rw [ek] at z2; first | (have z4 := tI_none hT ht; omega) | omega)).symm
          unfold pClimb
          rw [if_pos ik, ek, if_neg (fun z => by first | (have z4 := tI_none hT ht; omega) | omega)]
    · have hts := tI_some hT ht
      have h8t := hts.2.2.1
      refine g_aload_n (i := 0) (j := 1) dX8_climb_28 rfl rfl ?_
      refine g_get fX8_47 rfl rfl dX8_climb_29 ?_
      refine g_iconst (v := nI 3) dX8_climb_32 (by decide) ?_
      refine g_iload_n (i := 1) (j := 2) dX8_climb_33 rfl rfl ?_
      refine n_imul (a := 3) (b := k) dX8_climb_34 ?_
      refine g_iconst (v := nI 2) dX8_climb_35 (by decide) ?_
      refine n_iadd (a := (3 * k)) (b := 2) dX8_climb_36 ?_
      refine n_iald (x := ((3 * k) + 2)) rfl (by omega) (rng_lit 16 rfl) dX8_climb_37 ?_
      refine g_topi (y := nI (r (11 + k))) (by rw [pg_2 (by omega)]) ?_
      refine n_if_ne (tgt := 47) (by omega) dX8_climb_38 (by decide) (fun h38 => ?_) (fun h38 => ?_)
      · refine g_bipush (v := (-3)) dX8_climb_47 (by decide) ?_
        refine g_iret rfl rfl dX8_climb_49 ?_
        refine gE_r ?_ (if_neg (fun z => by have z2 := z.2; rw [ek] at z2; first | (have z4 := tI_none hT ht; omega) | omega)).symm
        unfold pClimb
        rw [if_pos ik, ek, if_neg (fun z => by first | (have z4 := tI_none hT ht; omega) | omega)]
      · refine g_iload_n (i := 2) (j := 0) dX8_climb_41 rfl rfl ?_
        refine g_bipush (v := (-9)) dX8_climb_42 (by decide) ?_
        refine g_icmp_ne (tgt := 50) dX8_climb_44 (by decide) (fun h44 => ?_) (fun h44 => ?_)
        · refine g_aload_n (i := 0) (j := 1) dX8_climb_50 rfl rfl ?_
          refine g_aload_n (i := 0) (j := 1) dX8_climb_51 rfl rfl ?_
          refine g_get fX8_26 rfl rfl dX8_climb_52 ?_
          refine g_iload_n (i := 2) (j := 0) dX8_climb_55 rfl rfl ?_
          refine n_iald (x := t) rfl (by omega) (rng_lit 2 rfl) dX8_climb_56 ?_
          refine g_topi (y := nI (r (1 + k))) (by rw [h8t]) ?_
          refine c_V (st1 := [.int (nI (sUp r wk (r (1 + k))))]) (ctX8_upAt (c := r (1 + k)) hrk (by omega) (by first | omega | assumption | exact hpa _ | exact hwa _ | exact hr1 _ (by omega) | exact hr6 _ (by omega) | exact hr11 _ (by omega) | exact hr _ | exact Nat.le_succ_of_le (hr _) | (apply sTo_le; first | omega | exact hr1 _ (by omega)))) kX8_upAt lX8_171 (by decide) rfl rfl rfl rfl (by exact Nat.le_of_ble_eq_true rfl) dX8_climb_57 rfl rfl ?_
          refine g_aload_n (i := 0) (j := 1) dX8_climb_60 rfl rfl ?_
          refine g_get fX8_29 rfl rfl dX8_climb_61 ?_
          refine g_iload_n (i := 2) (j := 0) dX8_climb_64 rfl rfl ?_
          refine n_iald (x := t) rfl (by omega) (rng_lit 2 rfl) dX8_climb_65 ?_
          rw [hts.2.2.2.1]
          refine n_icmp_ne (tgt := 72) (by omega) (by omega) dX8_climb_66 (by decide) (fun h66 => ?_) (fun h66 => ?_)
          · refine g_aload_n (i := 0) (j := 1) dX8_climb_72 rfl rfl ?_
            refine c_V (st1 := []) (ctX8_note  (by omega)) kX8_note lX8_198 (by decide) rfl rfl rfl rfl (by exact Nat.le_of_ble_eq_true rfl) dX8_climb_73 rfl rfl ?_
            refine g_aload_n (i := 0) (j := 1) dX8_climb_76 rfl rfl ?_
            refine g_get fX8_47 rfl rfl dX8_climb_77 ?_
            refine g_iconst (v := nI 3) dX8_climb_80 (by decide) ?_
            refine g_iload_n (i := 1) (j := 2) dX8_climb_81 rfl rfl ?_
            refine n_imul (a := 3) (b := k) dX8_climb_82 ?_
            refine g_iconst (v := nI 2) dX8_climb_83 (by decide) ?_
            refine n_iadd (a := (3 * k)) (b := 2) dX8_climb_84 ?_
            refine g_iconst (v := nI 4) dX8_climb_85 (by decide) ?_
            refine n_iast (x := ((3 * k) + 2)) (ws' := wM (kM 0 ts pl lo ri la wk tw sf rl rr re rw rt rs (ctP ac) sd ce sa ti) e1 (kI 10 h) (kI 5 pa) (kI 5 wa) (kI 2 at_) (kI 2 fo) e7 e8 e9 e10 e11 (kI 16 (pgR (va_up r (11 + k) 4))) (kI 256 (bkR (sNote Q ac r))) e14 e15 e16 e17) rfl (by omega) (rng_lit 16 rfl) dX8_climb_86 (by rw [pu_2 (by omega)]; rfl) ?_
            refine g_aload_n (i := 0) (j := 1) dX8_climb_87 rfl rfl ?_
            refine g_aload_n (i := 0) (j := 1) dX8_climb_88 rfl rfl ?_
            refine g_get fX8_26 rfl rfl dX8_climb_89 ?_
            refine g_iload_n (i := 2) (j := 0) dX8_climb_92 rfl rfl ?_
            refine n_iald (x := t) rfl (by omega) (rng_lit 2 rfl) dX8_climb_93 ?_
            refine g_topi (y := nI (r (1 + k))) (by rw [h8t]) ?_
            have hrk1 : rOK (va_up r (11 + k) 4) := rOK_up4 hrk (by omega)
            refine c_V (st1 := [.int (nI (sUp (va_up r (11 + k) 4) wk (r (1 + k))))]) (ctX8_upAt (c := r (1 + k)) (by assumption) (by omega) (by first | omega | assumption | exact hpa _ | exact hwa _ | exact hr1 _ (by omega) | exact hr6 _ (by omega) | exact hr11 _ (by omega) | exact hr _ | exact Nat.le_succ_of_le (hr _) | (apply sTo_le; first | omega | exact hr1 _ (by omega)))) kX8_upAt lX8_171 (by decide) rfl rfl rfl rfl (by exact Nat.le_of_ble_eq_true rfl) dX8_climb_94 rfl rfl ?_
            refine g_iret rfl rfl dX8_climb_97 ?_
            refine gE_r ?_ ?_
            · unfold pClimb
              rw [if_pos ik, ek, if_pos (by omega), if_pos (by omega)]
            · refine Eq.trans ?_ (if_pos (c := cClimb ho wk r (nI k)) ⟨ik, by rw [ek]; omega⟩).symm
              rw [ek]
          · refine g_bipush (v := (-4)) dX8_climb_69 (by decide) ?_
            refine g_iret rfl rfl dX8_climb_71 ?_
            refine gE_r ?_ (if_neg (fun z => by have z2 := z.2; rw [ek] at z2; omega)).symm
            unfold pClimb
            rw [if_pos ik, ek, if_pos (by omega), if_neg (by omega)]
        · exact absurd h44 (nI_n9 (by omega))
  · refine g_iconst (v := (-1)) dX8_climb_13 (by decide) ?_
    refine g_iret rfl rfl dX8_climb_14 ?_
    refine gE_r ?_ (if_neg (fun z => h10 z.1)).symm
    unfold pClimb
    rw [if_neg h10]

